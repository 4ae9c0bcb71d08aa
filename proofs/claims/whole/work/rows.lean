section
-- ===== PART A: goes FIRST, ahead of the names: the tables' words, and 'selects' of the private methods out of them =====
/-- a private method of a class that the tables say can be made, by its rows of tables_1 -/
def lw_okq (q : MethodName × Nat) : Prop := (q.1.cls ≠ "java/lang/invoke/MethodHandle" ∧ q.1.cls ≠ "java/lang/invoke/VarHandle") ∧ Cond.instantiable q.1.cls q.2 ∈ tables_1 ∧ Cond.privateMethod q.1 ∈ tables_1 ∧ Cond.instanceMethod q.1 ∈ tables_1
theorem lw_p0 : lw_okq (⟨"MailRoom", "handlerOf", "(I)LMailRoom$Handler;"⟩, 15) := ⟨⟨by decide +kernel, by decide +kernel⟩, List.mem_of_getElem? (i := 5) (by decide +kernel), List.mem_of_getElem? (i := 115) (by decide +kernel), List.mem_of_getElem? (i := 116) (by decide +kernel)⟩
theorem lw_p1 : lw_okq (⟨"MailRoom", "enqueue", "(IJ)I"⟩, 15) := ⟨⟨by decide +kernel, by decide +kernel⟩, List.mem_of_getElem? (i := 5) (by decide +kernel), List.mem_of_getElem? (i := 131) (by decide +kernel), List.mem_of_getElem? (i := 132) (by decide +kernel)⟩
theorem lw_p2 : lw_okq (⟨"MailRoom", "takeFirst", "()V"⟩, 15) := ⟨⟨by decide +kernel, by decide +kernel⟩, List.mem_of_getElem? (i := 5) (by decide +kernel), List.mem_of_getElem? (i := 139) (by decide +kernel), List.mem_of_getElem? (i := 140) (by decide +kernel)⟩
theorem lw_p3 : lw_okq (⟨"MailRoom", "deliver", "(IJ)I"⟩, 15) := ⟨⟨by decide +kernel, by decide +kernel⟩, List.mem_of_getElem? (i := 5) (by decide +kernel), List.mem_of_getElem? (i := 143) (by decide +kernel), List.mem_of_getElem? (i := 144) (by decide +kernel)⟩
theorem lw_p4 : lw_okq (⟨"MailRoom", "begin", "(LMailRoom$Handler;JI)I"⟩, 15) := ⟨⟨by decide +kernel, by decide +kernel⟩, List.mem_of_getElem? (i := 5) (by decide +kernel), List.mem_of_getElem? (i := 147) (by decide +kernel), List.mem_of_getElem? (i := 148) (by decide +kernel)⟩
theorem lw_p5 : lw_okq (⟨"MailRoom", "act", "(LMailRoom$Handler;JI)I"⟩, 15) := ⟨⟨by decide +kernel, by decide +kernel⟩, List.mem_of_getElem? (i := 5) (by decide +kernel), List.mem_of_getElem? (i := 151) (by decide +kernel), List.mem_of_getElem? (i := 152) (by decide +kernel)⟩
theorem lw_p6 : lw_okq (⟨"MailRoom", "keep", "(IJ)I"⟩, 15) := ⟨⟨by decide +kernel, by decide +kernel⟩, List.mem_of_getElem? (i := 5) (by decide +kernel), List.mem_of_getElem? (i := 155) (by decide +kernel), List.mem_of_getElem? (i := 156) (by decide +kernel)⟩
theorem lw_p7 : lw_okq (⟨"MailRoom", "sift", "(LMailRoom$Handler;JI)I"⟩, 15) := ⟨⟨by decide +kernel, by decide +kernel⟩, List.mem_of_getElem? (i := 5) (by decide +kernel), List.mem_of_getElem? (i := 159) (by decide +kernel), List.mem_of_getElem? (i := 160) (by decide +kernel)⟩
theorem lw_p8 : lw_okq (⟨"MailRoom", "limit", "(LMailRoom$Handler;JI)I"⟩, 15) := ⟨⟨by decide +kernel, by decide +kernel⟩, List.mem_of_getElem? (i := 5) (by decide +kernel), List.mem_of_getElem? (i := 163) (by decide +kernel), List.mem_of_getElem? (i := 164) (by decide +kernel)⟩
theorem lw_p9 : lw_okq (⟨"MailRoom", "once", "(LMailRoom$Handler;J)I"⟩, 15) := ⟨⟨by decide +kernel, by decide +kernel⟩, List.mem_of_getElem? (i := 5) (by decide +kernel), List.mem_of_getElem? (i := 167) (by decide +kernel), List.mem_of_getElem? (i := 168) (by decide +kernel)⟩
theorem lw_p10 : lw_okq (⟨"MailRoom", "both", "(LMailRoom$Handler;JI)I"⟩, 15) := ⟨⟨by decide +kernel, by decide +kernel⟩, List.mem_of_getElem? (i := 5) (by decide +kernel), List.mem_of_getElem? (i := 171) (by decide +kernel), List.mem_of_getElem? (i := 172) (by decide +kernel)⟩
theorem lw_p11 : lw_okq (⟨"MailRoom", "share", "(LMailRoom$Handler;J)I"⟩, 15) := ⟨⟨by decide +kernel, by decide +kernel⟩, List.mem_of_getElem? (i := 5) (by decide +kernel), List.mem_of_getElem? (i := 175) (by decide +kernel), List.mem_of_getElem? (i := 176) (by decide +kernel)⟩
theorem lw_p12 : lw_okq (⟨"MailRoom", "keepFailure", "(LMailRoom$Handler;JI)I"⟩, 15) := ⟨⟨by decide +kernel, by decide +kernel⟩, List.mem_of_getElem? (i := 5) (by decide +kernel), List.mem_of_getElem? (i := 179) (by decide +kernel), List.mem_of_getElem? (i := 180) (by decide +kernel)⟩
theorem lw_p13 : lw_okq (⟨"MailRoom", "mean", "(LMailRoom$Handler;JI)I"⟩, 15) := ⟨⟨by decide +kernel, by decide +kernel⟩, List.mem_of_getElem? (i := 5) (by decide +kernel), List.mem_of_getElem? (i := 183) (by decide +kernel), List.mem_of_getElem? (i := 184) (by decide +kernel)⟩
theorem lw_p14 : lw_okq (⟨"MailRoom", "keepAndSend", "(LMailRoom$Handler;J)I"⟩, 15) := ⟨⟨by decide +kernel, by decide +kernel⟩, List.mem_of_getElem? (i := 5) (by decide +kernel), List.mem_of_getElem? (i := 187) (by decide +kernel), List.mem_of_getElem? (i := 188) (by decide +kernel)⟩
theorem lw_p15 : lw_okq (⟨"MailRoom", "noteFailed", "(IJI)V"⟩, 15) := ⟨⟨by decide +kernel, by decide +kernel⟩, List.mem_of_getElem? (i := 5) (by decide +kernel), List.mem_of_getElem? (i := 191) (by decide +kernel), List.mem_of_getElem? (i := 192) (by decide +kernel)⟩
def lw_privs_1 : List (MethodName × Nat) := [(⟨"MailRoom", "handlerOf", "(I)LMailRoom$Handler;"⟩, 15), (⟨"MailRoom", "enqueue", "(IJ)I"⟩, 15), (⟨"MailRoom", "takeFirst", "()V"⟩, 15), (⟨"MailRoom", "deliver", "(IJ)I"⟩, 15), (⟨"MailRoom", "begin", "(LMailRoom$Handler;JI)I"⟩, 15), (⟨"MailRoom", "act", "(LMailRoom$Handler;JI)I"⟩, 15), (⟨"MailRoom", "keep", "(IJ)I"⟩, 15), (⟨"MailRoom", "sift", "(LMailRoom$Handler;JI)I"⟩, 15), (⟨"MailRoom", "limit", "(LMailRoom$Handler;JI)I"⟩, 15), (⟨"MailRoom", "once", "(LMailRoom$Handler;J)I"⟩, 15), (⟨"MailRoom", "both", "(LMailRoom$Handler;JI)I"⟩, 15), (⟨"MailRoom", "share", "(LMailRoom$Handler;J)I"⟩, 15), (⟨"MailRoom", "keepFailure", "(LMailRoom$Handler;JI)I"⟩, 15), (⟨"MailRoom", "mean", "(LMailRoom$Handler;JI)I"⟩, 15), (⟨"MailRoom", "keepAndSend", "(LMailRoom$Handler;J)I"⟩, 15), (⟨"MailRoom", "noteFailed", "(IJI)V"⟩, 15)]
theorem lw_r1 : ∀ q ∈ lw_privs_1, lw_okq q := List.forall_mem_cons.mpr ⟨lw_p0, List.forall_mem_cons.mpr ⟨lw_p1, List.forall_mem_cons.mpr ⟨lw_p2, List.forall_mem_cons.mpr ⟨lw_p3, List.forall_mem_cons.mpr ⟨lw_p4, List.forall_mem_cons.mpr ⟨lw_p5, List.forall_mem_cons.mpr ⟨lw_p6, List.forall_mem_cons.mpr ⟨lw_p7, List.forall_mem_cons.mpr ⟨lw_p8, List.forall_mem_cons.mpr ⟨lw_p9, List.forall_mem_cons.mpr ⟨lw_p10, List.forall_mem_cons.mpr ⟨lw_p11, List.forall_mem_cons.mpr ⟨lw_p12, List.forall_mem_cons.mpr ⟨lw_p13, List.forall_mem_cons.mpr ⟨lw_p14, List.forall_mem_cons.mpr ⟨lw_p15, fun _ h => absurd h List.not_mem_nil⟩⟩⟩⟩⟩⟩⟩⟩⟩⟩⟩⟩⟩⟩⟩⟩
theorem lw_p16 : lw_okq (⟨"MailRoom", "isFailedKept", "(I)Z"⟩, 15) := ⟨⟨by decide +kernel, by decide +kernel⟩, List.mem_of_getElem? (i := 5) (by decide +kernel), List.mem_of_getElem? (i := 211) (by decide +kernel), List.mem_of_getElem? (i := 212) (by decide +kernel)⟩
theorem lw_p17 : lw_okq (⟨"MailRoomModel", "comes", "(IJ)V"⟩, 28) := ⟨⟨by decide +kernel, by decide +kernel⟩, List.mem_of_getElem? (i := 223) (by decide +kernel), List.mem_of_getElem? (i := 342) (by decide +kernel), List.mem_of_getElem? (i := 343) (by decide +kernel)⟩
theorem lw_p18 : lw_okq (⟨"MailRoomModel", "go", "(IJ)V"⟩, 28) := ⟨⟨by decide +kernel, by decide +kernel⟩, List.mem_of_getElem? (i := 223) (by decide +kernel), List.mem_of_getElem? (i := 350) (by decide +kernel), List.mem_of_getElem? (i := 351) (by decide +kernel)⟩
theorem lw_p19 : lw_okq (⟨"MailRoomModel", "call", "(IJ)V"⟩, 28) := ⟨⟨by decide +kernel, by decide +kernel⟩, List.mem_of_getElem? (i := 223) (by decide +kernel), List.mem_of_getElem? (i := 354) (by decide +kernel), List.mem_of_getElem? (i := 355) (by decide +kernel)⟩
theorem lw_p20 : lw_okq (⟨"MailRoomModel", "begins", "(IIJ)V"⟩, 28) := ⟨⟨by decide +kernel, by decide +kernel⟩, List.mem_of_getElem? (i := 223) (by decide +kernel), List.mem_of_getElem? (i := 358) (by decide +kernel), List.mem_of_getElem? (i := 359) (by decide +kernel)⟩
theorem lw_p21 : lw_okq (⟨"MailRoomModel", "keep", "(IJ)V"⟩, 28) := ⟨⟨by decide +kernel, by decide +kernel⟩, List.mem_of_getElem? (i := 223) (by decide +kernel), List.mem_of_getElem? (i := 362) (by decide +kernel), List.mem_of_getElem? (i := 363) (by decide +kernel)⟩
theorem lw_p22 : lw_okq (⟨"MailRoomModel", "ends", "(I)V"⟩, 28) := ⟨⟨by decide +kernel, by decide +kernel⟩, List.mem_of_getElem? (i := 223) (by decide +kernel), List.mem_of_getElem? (i := 366) (by decide +kernel), List.mem_of_getElem? (i := 367) (by decide +kernel)⟩
theorem lw_p23 : lw_okq (⟨"MailRoomModel", "sends", "(IJ)V"⟩, 28) := ⟨⟨by decide +kernel, by decide +kernel⟩, List.mem_of_getElem? (i := 223) (by decide +kernel), List.mem_of_getElem? (i := 370) (by decide +kernel), List.mem_of_getElem? (i := 371) (by decide +kernel)⟩
theorem lw_p24 : lw_okq (⟨"MailRoomModel", "goOn", "(IIJ)V"⟩, 28) := ⟨⟨by decide +kernel, by decide +kernel⟩, List.mem_of_getElem? (i := 223) (by decide +kernel), List.mem_of_getElem? (i := 374) (by decide +kernel), List.mem_of_getElem? (i := 375) (by decide +kernel)⟩
theorem lw_p25 : lw_okq (⟨"MailRoomModel", "shares", "(IIJJ)V"⟩, 28) := ⟨⟨by decide +kernel, by decide +kernel⟩, List.mem_of_getElem? (i := 223) (by decide +kernel), List.mem_of_getElem? (i := 378) (by decide +kernel), List.mem_of_getElem? (i := 379) (by decide +kernel)⟩
theorem lw_p26 : lw_okq (⟨"MailRoomModel", "behind", "(IIJ)V"⟩, 28) := ⟨⟨by decide +kernel, by decide +kernel⟩, List.mem_of_getElem? (i := 223) (by decide +kernel), List.mem_of_getElem? (i := 382) (by decide +kernel), List.mem_of_getElem? (i := 383) (by decide +kernel)⟩
theorem lw_p27 : lw_okq (⟨"MailRoomModel", "falls", "(IJ)V"⟩, 28) := ⟨⟨by decide +kernel, by decide +kernel⟩, List.mem_of_getElem? (i := 223) (by decide +kernel), List.mem_of_getElem? (i := 386) (by decide +kernel), List.mem_of_getElem? (i := 387) (by decide +kernel)⟩
def lw_privs_2 : List (MethodName × Nat) := [(⟨"MailRoom", "isFailedKept", "(I)Z"⟩, 15), (⟨"MailRoomModel", "comes", "(IJ)V"⟩, 28), (⟨"MailRoomModel", "go", "(IJ)V"⟩, 28), (⟨"MailRoomModel", "call", "(IJ)V"⟩, 28), (⟨"MailRoomModel", "begins", "(IIJ)V"⟩, 28), (⟨"MailRoomModel", "keep", "(IJ)V"⟩, 28), (⟨"MailRoomModel", "ends", "(I)V"⟩, 28), (⟨"MailRoomModel", "sends", "(IJ)V"⟩, 28), (⟨"MailRoomModel", "goOn", "(IIJ)V"⟩, 28), (⟨"MailRoomModel", "shares", "(IIJJ)V"⟩, 28), (⟨"MailRoomModel", "behind", "(IIJ)V"⟩, 28), (⟨"MailRoomModel", "falls", "(IJ)V"⟩, 28)]
theorem lw_r2 : ∀ q ∈ lw_privs_2, lw_okq q := List.forall_mem_cons.mpr ⟨lw_p16, List.forall_mem_cons.mpr ⟨lw_p17, List.forall_mem_cons.mpr ⟨lw_p18, List.forall_mem_cons.mpr ⟨lw_p19, List.forall_mem_cons.mpr ⟨lw_p20, List.forall_mem_cons.mpr ⟨lw_p21, List.forall_mem_cons.mpr ⟨lw_p22, List.forall_mem_cons.mpr ⟨lw_p23, List.forall_mem_cons.mpr ⟨lw_p24, List.forall_mem_cons.mpr ⟨lw_p25, List.forall_mem_cons.mpr ⟨lw_p26, List.forall_mem_cons.mpr ⟨lw_p27, fun _ h => absurd h List.not_mem_nil⟩⟩⟩⟩⟩⟩⟩⟩⟩⟩⟩⟩
def lw_privs : List (MethodName × Nat) := lw_privs_1 ++ (lw_privs_2)
def lw_tbl : List Cond := k2_sels lw_privs ++ tables_1
theorem lw_privs_ok : ∀ q ∈ lw_privs, lw_okq q := by
  show ∀ q ∈ lw_privs_1 ++ (lw_privs_2), lw_okq q
  exact List.forall_mem_append.mpr ⟨lw_r1, lw_r2⟩
-- ===== end of PART A; then your names; then what follows =====
end
section
/-! ===== BEGIN words of one list among another's, by their places ===== -/
theorem goodIn_r {big : List Cond} (ws : List Cond) (ps : List Nat) (hp : ws = ps.filterMap (fun i => big[i]?)) (h : ws.all goodWord = true) : GoodIn big ws := by
  intro w hw
  have h1 := List.all_eq_true.mp h w hw
  rw [hp] at hw
  obtain ⟨i, -, hi⟩ := List.mem_filterMap.mp hw
  have hm : w ∈ big := by first | exact List.mem_of_getElem? hi | exact List.getElem?_mem hi
  exact ⟨hm, good_of_word h1⟩
theorem goodIn_app {big a b : List Cond} (ha : GoodIn big a) (hb : GoodIn big b) : GoodIn big (a ++ b) := fun w h => (List.mem_append.mp h).elim (ha w) (hb w)
theorem goodIn_ca {big a b : List Cond} {c : Cond} (ha : GoodIn big (c :: a)) (hb : GoodIn big b) : GoodIn big (c :: (a ++ b)) := fun w h => (List.mem_cons.mp h).elim (fun e => ha w (List.mem_cons.mpr (Or.inl e))) (fun h => (List.mem_append.mp h).elim (fun h => ha w (List.mem_cons.mpr (Or.inr h))) (hb w))
theorem goodIn_sub {big ws : List Cond} (hm : ∀ w ∈ ws, w ∈ big) (h : ws.all goodWord = true) : GoodIn big ws := fun w hw => ⟨hm w hw, good_of_word (List.all_eq_true.mp h w hw)⟩
/-! ===== END ===== -/

/-! ===== BEGIN printed: names, fields, word lists, decode rows ===== -/
def RX0 : String := "MailRoom$Handler"
def TX0 : u_T := fun k => match k with
  | 0 => ("MailRoom$Handler", "kind", "I", true)
  | 1 => ("MailRoom$Handler", "sort", "I", true)
  | 2 => ("MailRoom$Handler", "a", "I", true)
  | 3 => ("MailRoom$Handler", "b", "I", true)
  | 4 => ("MailRoom$Handler", "c", "J", true)
  | 5 => ("MailRoom$Handler", "former", "LMailRoom$Handler;", true)
  | 6 => ("MailRoom$Handler", "other", "LMailRoom$Handler;", true)
  | _ => ("MailRoom$Handler", "begun", "I", false)
def tyX0 : Nat → FieldType := fun k => match k with
  | 0 => .int
  | 1 => .int
  | 2 => .int
  | 3 => .int
  | 4 => .long
  | 5 => .object "MailRoom$Handler"
  | 6 => .object "MailRoom$Handler"
  | _ => .int
abbrev wsX00 : List Cond := u_ws RX0 TX0 8
theorem nmX0 : ∀ a, a < 8 → ∀ b, b < 8 → a ≠ b → (TX0 a).2.1 ≠ (TX0 b).2.1 := by decide +kernel
theorem tyX0_ok : ∀ k, k < 8 → parseFieldDescriptor (TX0 k).2.2.1 = some (tyX0 k) := by decide +kernel
abbrev cX0_init : ByteArray := prog_2_method_1_code
def yX0_init : MethodName := ⟨RX0, "<init>", "(IIIIJLMailRoom$Handler;LMailRoom$Handler;)V"⟩
def RX1 : String := "MailRoom"
def TX1 : u_T := fun k => match k with
  | 0 => ("MailRoom", "boxSums", "[J", true)
  | 1 => ("MailRoom", "boxCounts", "[I", true)
  | 2 => ("MailRoom", "handlers", "[LMailRoom$Handler;", true)
  | 3 => ("MailRoom", "told", "I", false)
  | 4 => ("MailRoom", "queueKinds", "[I", true)
  | 5 => ("MailRoom", "queueValues", "[J", true)
  | 6 => ("MailRoom", "queueFirst", "I", false)
  | 7 => ("MailRoom", "queueSize", "I", false)
  | 8 => ("MailRoom", "taken", "I", false)
  | 9 => ("MailRoom", "failedKinds", "[I", true)
  | 10 => ("MailRoom", "failedNumbers", "[I", true)
  | 11 => ("MailRoom", "failedValues", "[J", true)
  | 12 => ("MailRoom", "failures", "I", false)
  | 13 => ("MailRoom", "begunForLetter", "I", false)
  | _ => ("MailRoom", "begunInCall", "I", false)
def tyX1 : Nat → FieldType := fun k => match k with
  | 0 => .array .long
  | 1 => .array .int
  | 2 => .array (.object "MailRoom$Handler")
  | 3 => .int
  | 4 => .array .int
  | 5 => .array .long
  | 6 => .int
  | 7 => .int
  | 8 => .int
  | 9 => .array .int
  | 10 => .array .int
  | 11 => .array .long
  | 12 => .int
  | 13 => .int
  | _ => .int
abbrev wsX10 : List Cond := u_ws RX1 TX1 15
theorem nmX1 : ∀ a, a < 15 → ∀ b, b < 15 → a ≠ b → (TX1 a).2.1 ≠ (TX1 b).2.1 := by decide +kernel
theorem tyX1_ok : ∀ k, k < 15 → parseFieldDescriptor (TX1 k).2.2.1 = some (tyX1 k) := by decide +kernel
abbrev cX1_init : ByteArray := prog_1_method_1_code
def yX1_init : MethodName := ⟨RX1, "<init>", "()V"⟩
abbrev cX1_handle : ByteArray := prog_1_method_2_code
def yX1_handle : MethodName := ⟨RX1, "handle", "(IIIIJ)I"⟩
abbrev cX1_drop : ByteArray := prog_1_method_3_code
def yX1_drop : MethodName := ⟨RX1, "drop", "(I)I"⟩
abbrev cX1_has : ByteArray := prog_1_method_4_code
def yX1_has : MethodName := ⟨RX1, "has", "(I)I"⟩
abbrev cX1_post : ByteArray := prog_1_method_5_code
def yX1_post : MethodName := ⟨RX1, "post", "(IJ)I"⟩
abbrev cX1_take : ByteArray := prog_1_method_6_code
def yX1_take : MethodName := ⟨RX1, "take", "(I)I"⟩
abbrev cX1_give : ByteArray := prog_1_method_7_code
def yX1_give : MethodName := ⟨RX1, "give", "(IJ)I"⟩
abbrev cX1_sum : ByteArray := prog_1_method_8_code
def yX1_sum : MethodName := ⟨RX1, "sum", "(I)J"⟩
abbrev cX1_counted : ByteArray := prog_1_method_9_code
def yX1_counted : MethodName := ⟨RX1, "counted", "(I)I"⟩
abbrev cX1_failed : ByteArray := prog_1_method_10_code
def yX1_failed : MethodName := ⟨RX1, "failed", "(II)I"⟩
abbrev cX1_value : ByteArray := prog_1_method_11_code
def yX1_value : MethodName := ⟨RX1, "value", "(I)J"⟩
abbrev cX1_count : ByteArray := prog_1_method_12_code
def yX1_count : MethodName := ⟨RX1, "count", "(I)I"⟩
abbrev cX1_isKind : ByteArray := prog_1_method_13_code
def yX1_isKind : MethodName := ⟨RX1, "isKind", "(I)Z"⟩
abbrev cX1_isBox : ByteArray := prog_1_method_14_code
def yX1_isBox : MethodName := ⟨RX1, "isBox", "(I)Z"⟩
abbrev cX1_isFailedKept : ByteArray := prog_1_method_15_code
def yX1_isFailedKept : MethodName := ⟨RX1, "isFailedKept", "(I)Z"⟩
abbrev cX1_namesKnown : ByteArray := prog_1_method_16_code
def yX1_namesKnown : MethodName := ⟨RX1, "namesKnown", "(III)Z"⟩
abbrev cX1_handlerOf : ByteArray := prog_1_method_17_code
def yX1_handlerOf : MethodName := ⟨RX1, "handlerOf", "(I)LMailRoom$Handler;"⟩
abbrev cX1_enqueue : ByteArray := prog_1_method_18_code
def yX1_enqueue : MethodName := ⟨RX1, "enqueue", "(IJ)I"⟩
abbrev cX1_takeFirst : ByteArray := prog_1_method_19_code
def yX1_takeFirst : MethodName := ⟨RX1, "takeFirst", "()V"⟩
abbrev cX1_noteFailed : ByteArray := prog_1_method_20_code
def yX1_noteFailed : MethodName := ⟨RX1, "noteFailed", "(IJI)V"⟩
abbrev cX1_deliver : ByteArray := prog_1_method_21_code
def yX1_deliver : MethodName := ⟨RX1, "deliver", "(IJ)I"⟩
abbrev cX1_begin : ByteArray := prog_1_method_22_code
def yX1_begin : MethodName := ⟨RX1, "begin", "(LMailRoom$Handler;JI)I"⟩
abbrev cX1_act : ByteArray := prog_1_method_23_code
def yX1_act : MethodName := ⟨RX1, "act", "(LMailRoom$Handler;JI)I"⟩
abbrev cX1_keep : ByteArray := prog_1_method_24_code
def yX1_keep : MethodName := ⟨RX1, "keep", "(IJ)I"⟩
abbrev cX1_sift : ByteArray := prog_1_method_25_code
def yX1_sift : MethodName := ⟨RX1, "sift", "(LMailRoom$Handler;JI)I"⟩
abbrev cX1_limit : ByteArray := prog_1_method_26_code
def yX1_limit : MethodName := ⟨RX1, "limit", "(LMailRoom$Handler;JI)I"⟩
abbrev cX1_once : ByteArray := prog_1_method_27_code
def yX1_once : MethodName := ⟨RX1, "once", "(LMailRoom$Handler;J)I"⟩
abbrev cX1_both : ByteArray := prog_1_method_28_code
def yX1_both : MethodName := ⟨RX1, "both", "(LMailRoom$Handler;JI)I"⟩
abbrev cX1_share : ByteArray := prog_1_method_29_code
def yX1_share : MethodName := ⟨RX1, "share", "(LMailRoom$Handler;J)I"⟩
abbrev cX1_keepFailure : ByteArray := prog_1_method_30_code
def yX1_keepFailure : MethodName := ⟨RX1, "keepFailure", "(LMailRoom$Handler;JI)I"⟩
abbrev cX1_mean : ByteArray := prog_1_method_31_code
def yX1_mean : MethodName := ⟨RX1, "mean", "(LMailRoom$Handler;JI)I"⟩
abbrev cX1_keepAndSend : ByteArray := prog_1_method_32_code
def yX1_keepAndSend : MethodName := ⟨RX1, "keepAndSend", "(LMailRoom$Handler;J)I"⟩
def RX2 : String := "MailRoomModel"
def TX2 : u_T := fun k => match k with
  | 0 => ("MailRoomModel", "sums", "[J", true)
  | 1 => ("MailRoomModel", "counts", "[I", true)
  | 2 => ("MailRoomModel", "many", "I", false)
  | 3 => ("MailRoomModel", "sorts", "[I", true)
  | 4 => ("MailRoomModel", "kinds", "[I", true)
  | 5 => ("MailRoomModel", "as", "[I", true)
  | 6 => ("MailRoomModel", "bs", "[I", true)
  | 7 => ("MailRoomModel", "cs", "[J", true)
  | 8 => ("MailRoomModel", "formers", "[I", true)
  | 9 => ("MailRoomModel", "others", "[I", true)
  | 10 => ("MailRoomModel", "lets", "[I", true)
  | 11 => ("MailRoomModel", "stands", "[I", true)
  | 12 => ("MailRoomModel", "size", "I", false)
  | 13 => ("MailRoomModel", "queueKinds", "[I", true)
  | 14 => ("MailRoomModel", "queueValues", "[J", true)
  | 15 => ("MailRoomModel", "taken", "I", false)
  | 16 => ("MailRoomModel", "fell", "I", false)
  | 17 => ("MailRoomModel", "kept", "I", false)
  | 18 => ("MailRoomModel", "keptKinds", "[I", true)
  | 19 => ("MailRoomModel", "keptFailures", "[I", true)
  | 20 => ("MailRoomModel", "keptValues", "[J", true)
  | 21 => ("MailRoomModel", "latest", "I", false)
  | 22 => ("MailRoomModel", "top", "I", false)
  | 23 => ("MailRoomModel", "begun", "I", false)
  | 24 => ("MailRoomModel", "which", "[I", true)
  | 25 => ("MailRoomModel", "stage", "[I", true)
  | 26 => ("MailRoomModel", "value", "[J", true)
  | _ => ("MailRoomModel", "failure", "I", false)
def tyX2 : Nat → FieldType := fun k => match k with
  | 0 => .array .long
  | 1 => .array .int
  | 2 => .int
  | 3 => .array .int
  | 4 => .array .int
  | 5 => .array .int
  | 6 => .array .int
  | 7 => .array .long
  | 8 => .array .int
  | 9 => .array .int
  | 10 => .array .int
  | 11 => .array .int
  | 12 => .int
  | 13 => .array .int
  | 14 => .array .long
  | 15 => .int
  | 16 => .int
  | 17 => .int
  | 18 => .array .int
  | 19 => .array .int
  | 20 => .array .long
  | 21 => .int
  | 22 => .int
  | 23 => .int
  | 24 => .array .int
  | 25 => .array .int
  | 26 => .array .long
  | _ => .int
abbrev wsX20 : List Cond := u_ws RX2 TX2 28
theorem nmX2 : ∀ a, a < 28 → ∀ b, b < 28 → a ≠ b → (TX2 a).2.1 ≠ (TX2 b).2.1 := by decide +kernel
theorem tyX2_ok : ∀ k, k < 28 → parseFieldDescriptor (TX2 k).2.2.1 = some (tyX2 k) := by decide +kernel
abbrev cX2_init : ByteArray := prog_4_method_1_code
def yX2_init : MethodName := ⟨RX2, "<init>", "()V"⟩
abbrev cX2_in : ByteArray := prog_4_method_3_code
def yX2_in : MethodName := ⟨RX2, "in", "(III)Z"⟩
abbrev cX2_isKind : ByteArray := prog_4_method_4_code
def yX2_isKind : MethodName := ⟨RX2, "isKind", "(I)Z"⟩
abbrev cX2_isBox : ByteArray := prog_4_method_5_code
def yX2_isBox : MethodName := ⟨RX2, "isBox", "(I)Z"⟩
abbrev cX2_areKnown : ByteArray := prog_4_method_6_code
def yX2_areKnown : MethodName := ⟨RX2, "areKnown", "(III)Z"⟩
abbrev cX2_handle : ByteArray := prog_4_method_7_code
def yX2_handle : MethodName := ⟨RX2, "handle", "(IIIIJ)I"⟩
abbrev cX2_drop : ByteArray := prog_4_method_8_code
def yX2_drop : MethodName := ⟨RX2, "drop", "(I)I"⟩
abbrev cX2_has : ByteArray := prog_4_method_9_code
def yX2_has : MethodName := ⟨RX2, "has", "(I)I"⟩
abbrev cX2_post : ByteArray := prog_4_method_10_code
def yX2_post : MethodName := ⟨RX2, "post", "(IJ)I"⟩
abbrev cX2_comes : ByteArray := prog_4_method_11_code
def yX2_comes : MethodName := ⟨RX2, "comes", "(IJ)V"⟩
abbrev cX2_keep : ByteArray := prog_4_method_12_code
def yX2_keep : MethodName := ⟨RX2, "keep", "(IJ)V"⟩
abbrev cX2_call : ByteArray := prog_4_method_13_code
def yX2_call : MethodName := ⟨RX2, "call", "(IJ)V"⟩
abbrev cX2_ends : ByteArray := prog_4_method_14_code
def yX2_ends : MethodName := ⟨RX2, "ends", "(I)V"⟩
abbrev cX2_goOn : ByteArray := prog_4_method_15_code
def yX2_goOn : MethodName := ⟨RX2, "goOn", "(IIJ)V"⟩
abbrev cX2_go : ByteArray := prog_4_method_16_code
def yX2_go : MethodName := ⟨RX2, "go", "(IJ)V"⟩
abbrev cX2_behind : ByteArray := prog_4_method_17_code
def yX2_behind : MethodName := ⟨RX2, "behind", "(IIJ)V"⟩
abbrev cX2_begins : ByteArray := prog_4_method_18_code
def yX2_begins : MethodName := ⟨RX2, "begins", "(IIJ)V"⟩
abbrev cX2_sends : ByteArray := prog_4_method_19_code
def yX2_sends : MethodName := ⟨RX2, "sends", "(IJ)V"⟩
abbrev cX2_shares : ByteArray := prog_4_method_20_code
def yX2_shares : MethodName := ⟨RX2, "shares", "(IIJJ)V"⟩
abbrev cX2_take : ByteArray := prog_4_method_21_code
def yX2_take : MethodName := ⟨RX2, "take", "(I)I"⟩
abbrev cX2_falls : ByteArray := prog_4_method_22_code
def yX2_falls : MethodName := ⟨RX2, "falls", "(IJ)V"⟩
abbrev cX2_give : ByteArray := prog_4_method_23_code
def yX2_give : MethodName := ⟨RX2, "give", "(IJ)I"⟩
abbrev cX2_sum : ByteArray := prog_4_method_24_code
def yX2_sum : MethodName := ⟨RX2, "sum", "(I)J"⟩
abbrev cX2_counted : ByteArray := prog_4_method_25_code
def yX2_counted : MethodName := ⟨RX2, "counted", "(I)I"⟩
abbrev cX2_failed : ByteArray := prog_4_method_26_code
def yX2_failed : MethodName := ⟨RX2, "failed", "(II)I"⟩
abbrev cX2_value : ByteArray := prog_4_method_27_code
def yX2_value : MethodName := ⟨RX2, "value", "(I)J"⟩
abbrev cX2_count : ByteArray := prog_4_method_28_code
def yX2_count : MethodName := ⟨RX2, "count", "(I)I"⟩
def RL : String := "MailRoomLaw"
abbrev cL_law : ByteArray := code
def yL_law : MethodName := ⟨RL, "law", "([I)Z"⟩
def wsX0_init : List Cond := .code yX0_init cX0_init 9 none :: ([.methodLink RX0 1 objectInit, .instanceMethod objectInit, .code objectInit ⟨#[0xb1]⟩ 1 none, .fieldLink RX0 7 "MailRoom$Handler" "kind" "I", .fieldLink RX0 13 "MailRoom$Handler" "sort" "I", .fieldLink RX0 16 "MailRoom$Handler" "a" "I", .fieldLink RX0 19 "MailRoom$Handler" "b" "I", .fieldLink RX0 22 "MailRoom$Handler" "c" "J", .fieldLink RX0 26 "MailRoom$Handler" "former" "LMailRoom$Handler;", .fieldLink RX0 30 "MailRoom$Handler" "other" "LMailRoom$Handler;", .fieldLink RX0 33 "MailRoom$Handler" "begun" "I"] ++ wsX00)
def wsX1_init_r1 : List Cond := [Cond.methodLink RX1 1 objectInit, Cond.instanceMethod objectInit, Cond.code objectInit ⟨#[0xb1]⟩ 1 none, Cond.arrayClass .long, Cond.fieldLink RX1 9 "MailRoom" "boxSums" "[J", Cond.arrayClass .int, Cond.fieldLink RX1 13 "MailRoom" "boxCounts" "[I", Cond.classLink RX1 17 RX0, Cond.fieldLink RX1 19 "MailRoom" "handlers" "[LMailRoom$Handler;", Cond.fieldLink RX1 23 "MailRoom" "queueKinds" "[I", Cond.fieldLink RX1 26 "MailRoom" "queueValues" "[J", Cond.fieldLink RX1 29 "MailRoom" "failedKinds" "[I", Cond.fieldLink RX1 32 "MailRoom" "failedNumbers" "[I", Cond.fieldLink RX1 35 "MailRoom" "failedValues" "[J", Cond.instantiable RX0 8, Cond.initialized RX0, Cond.constantLong RX1 41 (-1), Cond.methodLink RX1 38 yX0_init, Cond.instanceMethod yX0_init, Cond.code yX0_init cX0_init 9 none, Cond.methodLink RX0 1 objectInit, Cond.fieldLink RX0 7 "MailRoom$Handler" "kind" "I", Cond.fieldLink RX0 13 "MailRoom$Handler" "sort" "I", Cond.fieldLink RX0 16 "MailRoom$Handler" "a" "I"]
def wsX1_init_r2 : List Cond := [Cond.fieldLink RX0 19 "MailRoom$Handler" "b" "I", Cond.fieldLink RX0 22 "MailRoom$Handler" "c" "J", Cond.fieldLink RX0 26 "MailRoom$Handler" "former" "LMailRoom$Handler;", Cond.fieldLink RX0 30 "MailRoom$Handler" "other" "LMailRoom$Handler;", Cond.fieldLink RX0 33 "MailRoom$Handler" "begun" "I"]
def wsX1_init : List Cond := .code yX1_init cX1_init 1 none :: ((wsX1_init_r1 ++ wsX1_init_r2) ++ wsX10 ++ wsX00)
def wsX1_isKind : List Cond := .code yX1_isKind cX1_isKind 1 (some .boolean) :: ([])
def wsX1_isBox : List Cond := .code yX1_isBox cX1_isBox 1 (some .boolean) :: ([])
def wsX1_namesKnown : List Cond := .code yX1_namesKnown cX1_namesKnown 3 (some .boolean) :: ([.methodLink RX1 75 yX1_isBox, .static yX1_isBox, .initialized RX1, .code yX1_isBox cX1_isBox 1 (some .boolean), .methodLink RX1 43 yX1_isKind, .static yX1_isKind, .code yX1_isKind cX1_isKind 1 (some .boolean)])
def wsX1_handlerOf : List Cond := .code yX1_handlerOf cX1_handlerOf 2 (some (.object "MailRoom$Handler")) :: ([.fieldLink RX1 19 "MailRoom" "handlers" "[LMailRoom$Handler;", .methodLink RX1 43 yX1_isKind, .static yX1_isKind, .initialized RX1, .code yX1_isKind cX1_isKind 1 (some .boolean)] ++ wsX10)
def wsX1_handle_r1 : List Cond := [Cond.fieldLink RX1 51 "MailRoom" "told" "I", Cond.fieldLink RX1 19 "MailRoom" "handlers" "[LMailRoom$Handler;", Cond.classLink RX1 17 RX0, Cond.instantiable RX0 8, Cond.initialized RX0, Cond.methodLink RX1 43 yX1_isKind, Cond.static yX1_isKind, Cond.initialized RX1, Cond.code yX1_isKind cX1_isKind 1 (some .boolean), Cond.methodLink RX1 47 yX1_namesKnown, Cond.static yX1_namesKnown, Cond.code yX1_namesKnown cX1_namesKnown 3 (some .boolean), Cond.methodLink RX1 75 yX1_isBox, Cond.static yX1_isBox, Cond.code yX1_isBox cX1_isBox 1 (some .boolean), Cond.methodLink RX1 55 yX1_handlerOf, Cond.instanceMethod yX1_handlerOf, Cond.selects RX1 yX1_handlerOf yX1_handlerOf, Cond.code yX1_handlerOf cX1_handlerOf 2 (some (.object "MailRoom$Handler")), Cond.methodLink RX1 38 yX0_init, Cond.instanceMethod yX0_init, Cond.code yX0_init cX0_init 9 none, Cond.methodLink RX0 1 objectInit, Cond.instanceMethod objectInit]
def wsX1_handle_r2 : List Cond := [Cond.code objectInit ⟨#[0xb1]⟩ 1 none, Cond.fieldLink RX0 7 "MailRoom$Handler" "kind" "I", Cond.fieldLink RX0 13 "MailRoom$Handler" "sort" "I", Cond.fieldLink RX0 16 "MailRoom$Handler" "a" "I", Cond.fieldLink RX0 19 "MailRoom$Handler" "b" "I", Cond.fieldLink RX0 22 "MailRoom$Handler" "c" "J", Cond.fieldLink RX0 26 "MailRoom$Handler" "former" "LMailRoom$Handler;", Cond.fieldLink RX0 30 "MailRoom$Handler" "other" "LMailRoom$Handler;", Cond.fieldLink RX0 33 "MailRoom$Handler" "begun" "I"]
def wsX1_handle : List Cond := .code yX1_handle cX1_handle 9 (some .int) :: ((wsX1_handle_r1 ++ wsX1_handle_r2) ++ wsX10 ++ wsX00)
def wsX1_drop : List Cond := .code yX1_drop cX1_drop 3 (some .int) :: ([.fieldLink RX1 19 "MailRoom" "handlers" "[LMailRoom$Handler;", .methodLink RX1 43 yX1_isKind, .static yX1_isKind, .initialized RX1, .code yX1_isKind cX1_isKind 1 (some .boolean)] ++ wsX10)
def wsX1_has : List Cond := .code yX1_has cX1_has 2 (some .int) :: ([.fieldLink RX1 19 "MailRoom" "handlers" "[LMailRoom$Handler;", .methodLink RX1 43 yX1_isKind, .static yX1_isKind, .initialized RX1, .code yX1_isKind cX1_isKind 1 (some .boolean)] ++ wsX10)
def wsX1_enqueue : List Cond := .code yX1_enqueue cX1_enqueue 5 (some .int) :: ([.fieldLink RX1 63 "MailRoom" "queueSize" "I", .fieldLink RX1 87 "MailRoom" "queueFirst" "I", .fieldLink RX1 23 "MailRoom" "queueKinds" "[I", .fieldLink RX1 26 "MailRoom" "queueValues" "[J"] ++ wsX10)
def wsX1_post : List Cond := .code yX1_post cX1_post 4 (some .int) :: ([.fieldLink RX1 63 "MailRoom" "queueSize" "I", .methodLink RX1 43 yX1_isKind, .static yX1_isKind, .initialized RX1, .code yX1_isKind cX1_isKind 1 (some .boolean), .methodLink RX1 59 yX1_enqueue, .instanceMethod yX1_enqueue, .selects RX1 yX1_enqueue yX1_enqueue, .code yX1_enqueue cX1_enqueue 5 (some .int), .fieldLink RX1 87 "MailRoom" "queueFirst" "I", .fieldLink RX1 23 "MailRoom" "queueKinds" "[I", .fieldLink RX1 26 "MailRoom" "queueValues" "[J"] ++ wsX10)
def wsX1_keep : List Cond := .code yX1_keep cX1_keep 4 (some .int) :: ([.fieldLink RX1 9 "MailRoom" "boxSums" "[J", .fieldLink RX1 13 "MailRoom" "boxCounts" "[I", .methodLink RX1 75 yX1_isBox, .static yX1_isBox, .initialized RX1, .code yX1_isBox cX1_isBox 1 (some .boolean)] ++ wsX10)
def wsX1_once : List Cond := .code yX1_once cX1_once 5 (some .int) :: ([.fieldLink RX1 107 "MailRoom$Handler" "a" "I", .fieldLink RX1 155 "MailRoom$Handler" "kind" "I", .fieldLink RX1 19 "MailRoom" "handlers" "[LMailRoom$Handler;", .fieldLink RX1 146 "MailRoom$Handler" "former" "LMailRoom$Handler;", .methodLink RX1 110 yX1_keep, .instanceMethod yX1_keep, .selects RX1 yX1_keep yX1_keep, .initialized RX1, .code yX1_keep cX1_keep 4 (some .int), .fieldLink RX1 9 "MailRoom" "boxSums" "[J", .fieldLink RX1 13 "MailRoom" "boxCounts" "[I", .methodLink RX1 75 yX1_isBox, .static yX1_isBox, .code yX1_isBox cX1_isBox 1 (some .boolean), .methodLink RX1 43 yX1_isKind, .static yX1_isKind, .code yX1_isKind cX1_isKind 1 (some .boolean)] ++ wsX00 ++ wsX10)
def wsX1_share : List Cond := .code yX1_share cX1_share 5 (some .int) :: ([.fieldLink RX1 113 "MailRoom$Handler" "c" "J", .fieldLink RX1 107 "MailRoom$Handler" "a" "I", .fieldLink RX1 152 "MailRoom$Handler" "b" "I", .methodLink RX1 110 yX1_keep, .instanceMethod yX1_keep, .selects RX1 yX1_keep yX1_keep, .initialized RX1, .code yX1_keep cX1_keep 4 (some .int), .fieldLink RX1 9 "MailRoom" "boxSums" "[J", .fieldLink RX1 13 "MailRoom" "boxCounts" "[I", .methodLink RX1 75 yX1_isBox, .static yX1_isBox, .code yX1_isBox cX1_isBox 1 (some .boolean)] ++ wsX00 ++ wsX10)
def wsX1_keepAndSend : List Cond := .code yX1_keepAndSend cX1_keepAndSend 5 (some .int) :: ([.fieldLink RX1 107 "MailRoom$Handler" "a" "I", .fieldLink RX1 152 "MailRoom$Handler" "b" "I", .fieldLink RX1 113 "MailRoom$Handler" "c" "J", .methodLink RX1 110 yX1_keep, .instanceMethod yX1_keep, .selects RX1 yX1_keep yX1_keep, .initialized RX1, .code yX1_keep cX1_keep 4 (some .int), .fieldLink RX1 9 "MailRoom" "boxSums" "[J", .fieldLink RX1 13 "MailRoom" "boxCounts" "[I", .methodLink RX1 75 yX1_isBox, .static yX1_isBox, .code yX1_isBox cX1_isBox 1 (some .boolean), .methodLink RX1 59 yX1_enqueue, .instanceMethod yX1_enqueue, .selects RX1 yX1_enqueue yX1_enqueue, .code yX1_enqueue cX1_enqueue 5 (some .int), .fieldLink RX1 63 "MailRoom" "queueSize" "I", .fieldLink RX1 87 "MailRoom" "queueFirst" "I", .fieldLink RX1 23 "MailRoom" "queueKinds" "[I", .fieldLink RX1 26 "MailRoom" "queueValues" "[J"] ++ wsX00 ++ wsX10)
def wsX1_act_r1 : List Cond := [Cond.fieldLink RX1 104 "MailRoom$Handler" "sort" "I", Cond.fieldLink RX1 107 "MailRoom$Handler" "a" "I", Cond.fieldLink RX1 113 "MailRoom$Handler" "c" "J", Cond.fieldLink RX1 117 "MailRoom$Handler" "other" "LMailRoom$Handler;", Cond.methodLink RX1 110 yX1_keep, Cond.instanceMethod yX1_keep, Cond.selects RX1 yX1_keep yX1_keep, Cond.initialized RX1, Cond.code yX1_keep cX1_keep 4 (some .int), Cond.fieldLink RX1 9 "MailRoom" "boxSums" "[J", Cond.fieldLink RX1 13 "MailRoom" "boxCounts" "[I", Cond.methodLink RX1 75 yX1_isBox, Cond.static yX1_isBox, Cond.code yX1_isBox cX1_isBox 1 (some .boolean), Cond.methodLink RX1 59 yX1_enqueue, Cond.instanceMethod yX1_enqueue, Cond.selects RX1 yX1_enqueue yX1_enqueue, Cond.code yX1_enqueue cX1_enqueue 5 (some .int), Cond.fieldLink RX1 63 "MailRoom" "queueSize" "I", Cond.fieldLink RX1 87 "MailRoom" "queueFirst" "I", Cond.fieldLink RX1 23 "MailRoom" "queueKinds" "[I", Cond.fieldLink RX1 26 "MailRoom" "queueValues" "[J", Cond.methodLink RX1 97 yX1_begin, Cond.instanceMethod yX1_begin]
def wsX1_act_r2 : List Cond := [Cond.selects RX1 yX1_begin yX1_begin, Cond.methodLink RX1 55 yX1_handlerOf, Cond.instanceMethod yX1_handlerOf, Cond.selects RX1 yX1_handlerOf yX1_handlerOf, Cond.code yX1_handlerOf cX1_handlerOf 2 (some (.object "MailRoom$Handler")), Cond.fieldLink RX1 19 "MailRoom" "handlers" "[LMailRoom$Handler;", Cond.methodLink RX1 43 yX1_isKind, Cond.static yX1_isKind, Cond.code yX1_isKind cX1_isKind 1 (some .boolean), Cond.methodLink RX1 121 yX1_sift, Cond.instanceMethod yX1_sift, Cond.selects RX1 yX1_sift yX1_sift, Cond.methodLink RX1 124 yX1_limit, Cond.instanceMethod yX1_limit, Cond.selects RX1 yX1_limit yX1_limit, Cond.methodLink RX1 127 yX1_once, Cond.instanceMethod yX1_once, Cond.selects RX1 yX1_once yX1_once, Cond.code yX1_once cX1_once 5 (some .int), Cond.fieldLink RX1 155 "MailRoom$Handler" "kind" "I", Cond.fieldLink RX1 146 "MailRoom$Handler" "former" "LMailRoom$Handler;", Cond.methodLink RX1 131 yX1_both, Cond.instanceMethod yX1_both, Cond.selects RX1 yX1_both yX1_both]
def wsX1_act_r3 : List Cond := [Cond.methodLink RX1 134 yX1_share, Cond.instanceMethod yX1_share, Cond.selects RX1 yX1_share yX1_share, Cond.code yX1_share cX1_share 5 (some .int), Cond.fieldLink RX1 152 "MailRoom$Handler" "b" "I", Cond.methodLink RX1 137 yX1_keepFailure, Cond.instanceMethod yX1_keepFailure, Cond.selects RX1 yX1_keepFailure yX1_keepFailure, Cond.methodLink RX1 140 yX1_mean, Cond.instanceMethod yX1_mean, Cond.selects RX1 yX1_mean yX1_mean, Cond.methodLink RX1 143 yX1_keepAndSend, Cond.instanceMethod yX1_keepAndSend, Cond.selects RX1 yX1_keepAndSend yX1_keepAndSend, Cond.code yX1_keepAndSend cX1_keepAndSend 5 (some .int), Cond.code yX1_begin cX1_begin 5 (some .int), Cond.fieldLink RX1 94 "MailRoom" "begunForLetter" "I", Cond.methodLink RX1 101 yX1_act, Cond.instanceMethod yX1_act, Cond.selects RX1 yX1_act yX1_act, Cond.code yX1_both cX1_both 6 (some .int), Cond.code yX1_keepFailure cX1_keepFailure 6 (some .int), Cond.code yX1_limit cX1_limit 5 (some .int), Cond.fieldLink RX1 149 "MailRoom$Handler" "begun" "I"]
def wsX1_act_r4 : List Cond := [Cond.code yX1_mean cX1_mean 7 (some .int), Cond.code yX1_sift cX1_sift 5 (some .int)]
def wsX1_act : List Cond := .code yX1_act cX1_act 5 (some .int) :: ((wsX1_act_r1 ++ (wsX1_act_r2 ++ (wsX1_act_r3 ++ wsX1_act_r4))) ++ wsX00 ++ wsX10)
def wsX1_begin_r1 : List Cond := [Cond.fieldLink RX1 94 "MailRoom" "begunForLetter" "I", Cond.methodLink RX1 101 yX1_act, Cond.instanceMethod yX1_act, Cond.selects RX1 yX1_act yX1_act, Cond.initialized RX1, Cond.code yX1_act cX1_act 5 (some .int), Cond.fieldLink RX1 104 "MailRoom$Handler" "sort" "I", Cond.fieldLink RX1 107 "MailRoom$Handler" "a" "I", Cond.fieldLink RX1 113 "MailRoom$Handler" "c" "J", Cond.fieldLink RX1 117 "MailRoom$Handler" "other" "LMailRoom$Handler;", Cond.methodLink RX1 110 yX1_keep, Cond.instanceMethod yX1_keep, Cond.selects RX1 yX1_keep yX1_keep, Cond.code yX1_keep cX1_keep 4 (some .int), Cond.fieldLink RX1 9 "MailRoom" "boxSums" "[J", Cond.fieldLink RX1 13 "MailRoom" "boxCounts" "[I", Cond.methodLink RX1 75 yX1_isBox, Cond.static yX1_isBox, Cond.code yX1_isBox cX1_isBox 1 (some .boolean), Cond.methodLink RX1 59 yX1_enqueue, Cond.instanceMethod yX1_enqueue, Cond.selects RX1 yX1_enqueue yX1_enqueue, Cond.code yX1_enqueue cX1_enqueue 5 (some .int), Cond.fieldLink RX1 63 "MailRoom" "queueSize" "I"]
def wsX1_begin_r2 : List Cond := [Cond.fieldLink RX1 87 "MailRoom" "queueFirst" "I", Cond.fieldLink RX1 23 "MailRoom" "queueKinds" "[I", Cond.fieldLink RX1 26 "MailRoom" "queueValues" "[J", Cond.methodLink RX1 97 yX1_begin, Cond.instanceMethod yX1_begin, Cond.selects RX1 yX1_begin yX1_begin, Cond.methodLink RX1 55 yX1_handlerOf, Cond.instanceMethod yX1_handlerOf, Cond.selects RX1 yX1_handlerOf yX1_handlerOf, Cond.code yX1_handlerOf cX1_handlerOf 2 (some (.object "MailRoom$Handler")), Cond.fieldLink RX1 19 "MailRoom" "handlers" "[LMailRoom$Handler;", Cond.methodLink RX1 43 yX1_isKind, Cond.static yX1_isKind, Cond.code yX1_isKind cX1_isKind 1 (some .boolean), Cond.methodLink RX1 121 yX1_sift, Cond.instanceMethod yX1_sift, Cond.selects RX1 yX1_sift yX1_sift, Cond.methodLink RX1 124 yX1_limit, Cond.instanceMethod yX1_limit, Cond.selects RX1 yX1_limit yX1_limit, Cond.methodLink RX1 127 yX1_once, Cond.instanceMethod yX1_once, Cond.selects RX1 yX1_once yX1_once, Cond.code yX1_once cX1_once 5 (some .int)]
def wsX1_begin_r3 : List Cond := [Cond.fieldLink RX1 155 "MailRoom$Handler" "kind" "I", Cond.fieldLink RX1 146 "MailRoom$Handler" "former" "LMailRoom$Handler;", Cond.methodLink RX1 131 yX1_both, Cond.instanceMethod yX1_both, Cond.selects RX1 yX1_both yX1_both, Cond.methodLink RX1 134 yX1_share, Cond.instanceMethod yX1_share, Cond.selects RX1 yX1_share yX1_share, Cond.code yX1_share cX1_share 5 (some .int), Cond.fieldLink RX1 152 "MailRoom$Handler" "b" "I", Cond.methodLink RX1 137 yX1_keepFailure, Cond.instanceMethod yX1_keepFailure, Cond.selects RX1 yX1_keepFailure yX1_keepFailure, Cond.methodLink RX1 140 yX1_mean, Cond.instanceMethod yX1_mean, Cond.selects RX1 yX1_mean yX1_mean, Cond.methodLink RX1 143 yX1_keepAndSend, Cond.instanceMethod yX1_keepAndSend, Cond.selects RX1 yX1_keepAndSend yX1_keepAndSend, Cond.code yX1_keepAndSend cX1_keepAndSend 5 (some .int), Cond.code yX1_both cX1_both 6 (some .int), Cond.code yX1_keepFailure cX1_keepFailure 6 (some .int), Cond.code yX1_limit cX1_limit 5 (some .int), Cond.fieldLink RX1 149 "MailRoom$Handler" "begun" "I"]
def wsX1_begin_r4 : List Cond := [Cond.code yX1_mean cX1_mean 7 (some .int), Cond.code yX1_sift cX1_sift 5 (some .int)]
def wsX1_begin : List Cond := .code yX1_begin cX1_begin 5 (some .int) :: ((wsX1_begin_r1 ++ (wsX1_begin_r2 ++ (wsX1_begin_r3 ++ wsX1_begin_r4))) ++ wsX00 ++ wsX10)
def wsX1_both_r1 : List Cond := [Cond.fieldLink RX1 146 "MailRoom$Handler" "former" "LMailRoom$Handler;", Cond.fieldLink RX1 117 "MailRoom$Handler" "other" "LMailRoom$Handler;", Cond.methodLink RX1 97 yX1_begin, Cond.instanceMethod yX1_begin, Cond.selects RX1 yX1_begin yX1_begin, Cond.initialized RX1, Cond.code yX1_act cX1_act 5 (some .int), Cond.fieldLink RX1 104 "MailRoom$Handler" "sort" "I", Cond.fieldLink RX1 107 "MailRoom$Handler" "a" "I", Cond.fieldLink RX1 113 "MailRoom$Handler" "c" "J", Cond.methodLink RX1 110 yX1_keep, Cond.instanceMethod yX1_keep, Cond.selects RX1 yX1_keep yX1_keep, Cond.code yX1_keep cX1_keep 4 (some .int), Cond.fieldLink RX1 9 "MailRoom" "boxSums" "[J", Cond.fieldLink RX1 13 "MailRoom" "boxCounts" "[I", Cond.methodLink RX1 75 yX1_isBox, Cond.static yX1_isBox, Cond.code yX1_isBox cX1_isBox 1 (some .boolean), Cond.methodLink RX1 59 yX1_enqueue, Cond.instanceMethod yX1_enqueue, Cond.selects RX1 yX1_enqueue yX1_enqueue, Cond.code yX1_enqueue cX1_enqueue 5 (some .int), Cond.fieldLink RX1 63 "MailRoom" "queueSize" "I"]
def wsX1_both_r2 : List Cond := [Cond.fieldLink RX1 87 "MailRoom" "queueFirst" "I", Cond.fieldLink RX1 23 "MailRoom" "queueKinds" "[I", Cond.fieldLink RX1 26 "MailRoom" "queueValues" "[J", Cond.methodLink RX1 55 yX1_handlerOf, Cond.instanceMethod yX1_handlerOf, Cond.selects RX1 yX1_handlerOf yX1_handlerOf, Cond.code yX1_handlerOf cX1_handlerOf 2 (some (.object "MailRoom$Handler")), Cond.fieldLink RX1 19 "MailRoom" "handlers" "[LMailRoom$Handler;", Cond.methodLink RX1 43 yX1_isKind, Cond.static yX1_isKind, Cond.code yX1_isKind cX1_isKind 1 (some .boolean), Cond.methodLink RX1 121 yX1_sift, Cond.instanceMethod yX1_sift, Cond.selects RX1 yX1_sift yX1_sift, Cond.methodLink RX1 124 yX1_limit, Cond.instanceMethod yX1_limit, Cond.selects RX1 yX1_limit yX1_limit, Cond.methodLink RX1 127 yX1_once, Cond.instanceMethod yX1_once, Cond.selects RX1 yX1_once yX1_once, Cond.code yX1_once cX1_once 5 (some .int), Cond.fieldLink RX1 155 "MailRoom$Handler" "kind" "I", Cond.methodLink RX1 131 yX1_both, Cond.instanceMethod yX1_both]
def wsX1_both_r3 : List Cond := [Cond.selects RX1 yX1_both yX1_both, Cond.methodLink RX1 134 yX1_share, Cond.instanceMethod yX1_share, Cond.selects RX1 yX1_share yX1_share, Cond.code yX1_share cX1_share 5 (some .int), Cond.fieldLink RX1 152 "MailRoom$Handler" "b" "I", Cond.methodLink RX1 137 yX1_keepFailure, Cond.instanceMethod yX1_keepFailure, Cond.selects RX1 yX1_keepFailure yX1_keepFailure, Cond.methodLink RX1 140 yX1_mean, Cond.instanceMethod yX1_mean, Cond.selects RX1 yX1_mean yX1_mean, Cond.methodLink RX1 143 yX1_keepAndSend, Cond.instanceMethod yX1_keepAndSend, Cond.selects RX1 yX1_keepAndSend yX1_keepAndSend, Cond.code yX1_keepAndSend cX1_keepAndSend 5 (some .int), Cond.code yX1_begin cX1_begin 5 (some .int), Cond.fieldLink RX1 94 "MailRoom" "begunForLetter" "I", Cond.methodLink RX1 101 yX1_act, Cond.instanceMethod yX1_act, Cond.selects RX1 yX1_act yX1_act, Cond.code yX1_keepFailure cX1_keepFailure 6 (some .int), Cond.code yX1_limit cX1_limit 5 (some .int), Cond.fieldLink RX1 149 "MailRoom$Handler" "begun" "I"]
def wsX1_both_r4 : List Cond := [Cond.code yX1_mean cX1_mean 7 (some .int), Cond.code yX1_sift cX1_sift 5 (some .int)]
def wsX1_both : List Cond := .code yX1_both cX1_both 6 (some .int) :: ((wsX1_both_r1 ++ (wsX1_both_r2 ++ (wsX1_both_r3 ++ wsX1_both_r4))) ++ wsX00 ++ wsX10)
def wsX1_keepFailure_r1 : List Cond := [Cond.fieldLink RX1 146 "MailRoom$Handler" "former" "LMailRoom$Handler;", Cond.fieldLink RX1 107 "MailRoom$Handler" "a" "I", Cond.methodLink RX1 97 yX1_begin, Cond.instanceMethod yX1_begin, Cond.selects RX1 yX1_begin yX1_begin, Cond.initialized RX1, Cond.methodLink RX1 110 yX1_keep, Cond.instanceMethod yX1_keep, Cond.selects RX1 yX1_keep yX1_keep, Cond.code yX1_keep cX1_keep 4 (some .int), Cond.fieldLink RX1 9 "MailRoom" "boxSums" "[J", Cond.fieldLink RX1 13 "MailRoom" "boxCounts" "[I", Cond.methodLink RX1 75 yX1_isBox, Cond.static yX1_isBox, Cond.code yX1_isBox cX1_isBox 1 (some .boolean), Cond.code yX1_act cX1_act 5 (some .int), Cond.fieldLink RX1 104 "MailRoom$Handler" "sort" "I", Cond.fieldLink RX1 113 "MailRoom$Handler" "c" "J", Cond.fieldLink RX1 117 "MailRoom$Handler" "other" "LMailRoom$Handler;", Cond.methodLink RX1 59 yX1_enqueue, Cond.instanceMethod yX1_enqueue, Cond.selects RX1 yX1_enqueue yX1_enqueue, Cond.code yX1_enqueue cX1_enqueue 5 (some .int), Cond.fieldLink RX1 63 "MailRoom" "queueSize" "I"]
def wsX1_keepFailure_r2 : List Cond := [Cond.fieldLink RX1 87 "MailRoom" "queueFirst" "I", Cond.fieldLink RX1 23 "MailRoom" "queueKinds" "[I", Cond.fieldLink RX1 26 "MailRoom" "queueValues" "[J", Cond.methodLink RX1 55 yX1_handlerOf, Cond.instanceMethod yX1_handlerOf, Cond.selects RX1 yX1_handlerOf yX1_handlerOf, Cond.code yX1_handlerOf cX1_handlerOf 2 (some (.object "MailRoom$Handler")), Cond.fieldLink RX1 19 "MailRoom" "handlers" "[LMailRoom$Handler;", Cond.methodLink RX1 43 yX1_isKind, Cond.static yX1_isKind, Cond.code yX1_isKind cX1_isKind 1 (some .boolean), Cond.methodLink RX1 121 yX1_sift, Cond.instanceMethod yX1_sift, Cond.selects RX1 yX1_sift yX1_sift, Cond.methodLink RX1 124 yX1_limit, Cond.instanceMethod yX1_limit, Cond.selects RX1 yX1_limit yX1_limit, Cond.methodLink RX1 127 yX1_once, Cond.instanceMethod yX1_once, Cond.selects RX1 yX1_once yX1_once, Cond.code yX1_once cX1_once 5 (some .int), Cond.fieldLink RX1 155 "MailRoom$Handler" "kind" "I", Cond.methodLink RX1 131 yX1_both, Cond.instanceMethod yX1_both]
def wsX1_keepFailure_r3 : List Cond := [Cond.selects RX1 yX1_both yX1_both, Cond.methodLink RX1 134 yX1_share, Cond.instanceMethod yX1_share, Cond.selects RX1 yX1_share yX1_share, Cond.code yX1_share cX1_share 5 (some .int), Cond.fieldLink RX1 152 "MailRoom$Handler" "b" "I", Cond.methodLink RX1 137 yX1_keepFailure, Cond.instanceMethod yX1_keepFailure, Cond.selects RX1 yX1_keepFailure yX1_keepFailure, Cond.methodLink RX1 140 yX1_mean, Cond.instanceMethod yX1_mean, Cond.selects RX1 yX1_mean yX1_mean, Cond.methodLink RX1 143 yX1_keepAndSend, Cond.instanceMethod yX1_keepAndSend, Cond.selects RX1 yX1_keepAndSend yX1_keepAndSend, Cond.code yX1_keepAndSend cX1_keepAndSend 5 (some .int), Cond.code yX1_begin cX1_begin 5 (some .int), Cond.fieldLink RX1 94 "MailRoom" "begunForLetter" "I", Cond.methodLink RX1 101 yX1_act, Cond.instanceMethod yX1_act, Cond.selects RX1 yX1_act yX1_act, Cond.code yX1_both cX1_both 6 (some .int), Cond.code yX1_limit cX1_limit 5 (some .int), Cond.fieldLink RX1 149 "MailRoom$Handler" "begun" "I"]
def wsX1_keepFailure_r4 : List Cond := [Cond.code yX1_mean cX1_mean 7 (some .int), Cond.code yX1_sift cX1_sift 5 (some .int)]
def wsX1_keepFailure : List Cond := .code yX1_keepFailure cX1_keepFailure 6 (some .int) :: ((wsX1_keepFailure_r1 ++ (wsX1_keepFailure_r2 ++ (wsX1_keepFailure_r3 ++ wsX1_keepFailure_r4))) ++ wsX00 ++ wsX10)
def wsX1_limit_r1 : List Cond := [Cond.fieldLink RX1 149 "MailRoom$Handler" "begun" "I", Cond.fieldLink RX1 152 "MailRoom$Handler" "b" "I", Cond.fieldLink RX1 146 "MailRoom$Handler" "former" "LMailRoom$Handler;", Cond.methodLink RX1 97 yX1_begin, Cond.instanceMethod yX1_begin, Cond.selects RX1 yX1_begin yX1_begin, Cond.initialized RX1, Cond.code yX1_act cX1_act 5 (some .int), Cond.fieldLink RX1 104 "MailRoom$Handler" "sort" "I", Cond.fieldLink RX1 107 "MailRoom$Handler" "a" "I", Cond.fieldLink RX1 113 "MailRoom$Handler" "c" "J", Cond.fieldLink RX1 117 "MailRoom$Handler" "other" "LMailRoom$Handler;", Cond.methodLink RX1 110 yX1_keep, Cond.instanceMethod yX1_keep, Cond.selects RX1 yX1_keep yX1_keep, Cond.code yX1_keep cX1_keep 4 (some .int), Cond.fieldLink RX1 9 "MailRoom" "boxSums" "[J", Cond.fieldLink RX1 13 "MailRoom" "boxCounts" "[I", Cond.methodLink RX1 75 yX1_isBox, Cond.static yX1_isBox, Cond.code yX1_isBox cX1_isBox 1 (some .boolean), Cond.methodLink RX1 59 yX1_enqueue, Cond.instanceMethod yX1_enqueue, Cond.selects RX1 yX1_enqueue yX1_enqueue]
def wsX1_limit_r2 : List Cond := [Cond.code yX1_enqueue cX1_enqueue 5 (some .int), Cond.fieldLink RX1 63 "MailRoom" "queueSize" "I", Cond.fieldLink RX1 87 "MailRoom" "queueFirst" "I", Cond.fieldLink RX1 23 "MailRoom" "queueKinds" "[I", Cond.fieldLink RX1 26 "MailRoom" "queueValues" "[J", Cond.methodLink RX1 55 yX1_handlerOf, Cond.instanceMethod yX1_handlerOf, Cond.selects RX1 yX1_handlerOf yX1_handlerOf, Cond.code yX1_handlerOf cX1_handlerOf 2 (some (.object "MailRoom$Handler")), Cond.fieldLink RX1 19 "MailRoom" "handlers" "[LMailRoom$Handler;", Cond.methodLink RX1 43 yX1_isKind, Cond.static yX1_isKind, Cond.code yX1_isKind cX1_isKind 1 (some .boolean), Cond.methodLink RX1 121 yX1_sift, Cond.instanceMethod yX1_sift, Cond.selects RX1 yX1_sift yX1_sift, Cond.methodLink RX1 124 yX1_limit, Cond.instanceMethod yX1_limit, Cond.selects RX1 yX1_limit yX1_limit, Cond.methodLink RX1 127 yX1_once, Cond.instanceMethod yX1_once, Cond.selects RX1 yX1_once yX1_once, Cond.code yX1_once cX1_once 5 (some .int), Cond.fieldLink RX1 155 "MailRoom$Handler" "kind" "I"]
def wsX1_limit_r3 : List Cond := [Cond.methodLink RX1 131 yX1_both, Cond.instanceMethod yX1_both, Cond.selects RX1 yX1_both yX1_both, Cond.methodLink RX1 134 yX1_share, Cond.instanceMethod yX1_share, Cond.selects RX1 yX1_share yX1_share, Cond.code yX1_share cX1_share 5 (some .int), Cond.methodLink RX1 137 yX1_keepFailure, Cond.instanceMethod yX1_keepFailure, Cond.selects RX1 yX1_keepFailure yX1_keepFailure, Cond.methodLink RX1 140 yX1_mean, Cond.instanceMethod yX1_mean, Cond.selects RX1 yX1_mean yX1_mean, Cond.methodLink RX1 143 yX1_keepAndSend, Cond.instanceMethod yX1_keepAndSend, Cond.selects RX1 yX1_keepAndSend yX1_keepAndSend, Cond.code yX1_keepAndSend cX1_keepAndSend 5 (some .int), Cond.code yX1_begin cX1_begin 5 (some .int), Cond.fieldLink RX1 94 "MailRoom" "begunForLetter" "I", Cond.methodLink RX1 101 yX1_act, Cond.instanceMethod yX1_act, Cond.selects RX1 yX1_act yX1_act, Cond.code yX1_both cX1_both 6 (some .int), Cond.code yX1_keepFailure cX1_keepFailure 6 (some .int)]
def wsX1_limit_r4 : List Cond := [Cond.code yX1_mean cX1_mean 7 (some .int), Cond.code yX1_sift cX1_sift 5 (some .int)]
def wsX1_limit : List Cond := .code yX1_limit cX1_limit 5 (some .int) :: ((wsX1_limit_r1 ++ (wsX1_limit_r2 ++ (wsX1_limit_r3 ++ wsX1_limit_r4))) ++ wsX00 ++ wsX10)
def wsX1_mean_r1 : List Cond := [Cond.fieldLink RX1 107 "MailRoom$Handler" "a" "I", Cond.fieldLink RX1 146 "MailRoom$Handler" "former" "LMailRoom$Handler;", Cond.fieldLink RX1 13 "MailRoom" "boxCounts" "[I", Cond.fieldLink RX1 9 "MailRoom" "boxSums" "[J", Cond.methodLink RX1 110 yX1_keep, Cond.instanceMethod yX1_keep, Cond.selects RX1 yX1_keep yX1_keep, Cond.initialized RX1, Cond.code yX1_keep cX1_keep 4 (some .int), Cond.methodLink RX1 75 yX1_isBox, Cond.static yX1_isBox, Cond.code yX1_isBox cX1_isBox 1 (some .boolean), Cond.methodLink RX1 97 yX1_begin, Cond.instanceMethod yX1_begin, Cond.selects RX1 yX1_begin yX1_begin, Cond.code yX1_act cX1_act 5 (some .int), Cond.fieldLink RX1 104 "MailRoom$Handler" "sort" "I", Cond.fieldLink RX1 113 "MailRoom$Handler" "c" "J", Cond.fieldLink RX1 117 "MailRoom$Handler" "other" "LMailRoom$Handler;", Cond.methodLink RX1 59 yX1_enqueue, Cond.instanceMethod yX1_enqueue, Cond.selects RX1 yX1_enqueue yX1_enqueue, Cond.code yX1_enqueue cX1_enqueue 5 (some .int), Cond.fieldLink RX1 63 "MailRoom" "queueSize" "I"]
def wsX1_mean_r2 : List Cond := [Cond.fieldLink RX1 87 "MailRoom" "queueFirst" "I", Cond.fieldLink RX1 23 "MailRoom" "queueKinds" "[I", Cond.fieldLink RX1 26 "MailRoom" "queueValues" "[J", Cond.methodLink RX1 55 yX1_handlerOf, Cond.instanceMethod yX1_handlerOf, Cond.selects RX1 yX1_handlerOf yX1_handlerOf, Cond.code yX1_handlerOf cX1_handlerOf 2 (some (.object "MailRoom$Handler")), Cond.fieldLink RX1 19 "MailRoom" "handlers" "[LMailRoom$Handler;", Cond.methodLink RX1 43 yX1_isKind, Cond.static yX1_isKind, Cond.code yX1_isKind cX1_isKind 1 (some .boolean), Cond.methodLink RX1 121 yX1_sift, Cond.instanceMethod yX1_sift, Cond.selects RX1 yX1_sift yX1_sift, Cond.methodLink RX1 124 yX1_limit, Cond.instanceMethod yX1_limit, Cond.selects RX1 yX1_limit yX1_limit, Cond.methodLink RX1 127 yX1_once, Cond.instanceMethod yX1_once, Cond.selects RX1 yX1_once yX1_once, Cond.code yX1_once cX1_once 5 (some .int), Cond.fieldLink RX1 155 "MailRoom$Handler" "kind" "I", Cond.methodLink RX1 131 yX1_both, Cond.instanceMethod yX1_both]
def wsX1_mean_r3 : List Cond := [Cond.selects RX1 yX1_both yX1_both, Cond.methodLink RX1 134 yX1_share, Cond.instanceMethod yX1_share, Cond.selects RX1 yX1_share yX1_share, Cond.code yX1_share cX1_share 5 (some .int), Cond.fieldLink RX1 152 "MailRoom$Handler" "b" "I", Cond.methodLink RX1 137 yX1_keepFailure, Cond.instanceMethod yX1_keepFailure, Cond.selects RX1 yX1_keepFailure yX1_keepFailure, Cond.methodLink RX1 140 yX1_mean, Cond.instanceMethod yX1_mean, Cond.selects RX1 yX1_mean yX1_mean, Cond.methodLink RX1 143 yX1_keepAndSend, Cond.instanceMethod yX1_keepAndSend, Cond.selects RX1 yX1_keepAndSend yX1_keepAndSend, Cond.code yX1_keepAndSend cX1_keepAndSend 5 (some .int), Cond.code yX1_begin cX1_begin 5 (some .int), Cond.fieldLink RX1 94 "MailRoom" "begunForLetter" "I", Cond.methodLink RX1 101 yX1_act, Cond.instanceMethod yX1_act, Cond.selects RX1 yX1_act yX1_act, Cond.code yX1_both cX1_both 6 (some .int), Cond.code yX1_keepFailure cX1_keepFailure 6 (some .int), Cond.code yX1_limit cX1_limit 5 (some .int)]
def wsX1_mean_r4 : List Cond := [Cond.fieldLink RX1 149 "MailRoom$Handler" "begun" "I", Cond.code yX1_sift cX1_sift 5 (some .int)]
def wsX1_mean : List Cond := .code yX1_mean cX1_mean 7 (some .int) :: ((wsX1_mean_r1 ++ (wsX1_mean_r2 ++ (wsX1_mean_r3 ++ wsX1_mean_r4))) ++ wsX00 ++ wsX10)
def wsX1_sift_r1 : List Cond := [Cond.fieldLink RX1 113 "MailRoom$Handler" "c" "J", Cond.fieldLink RX1 107 "MailRoom$Handler" "a" "I", Cond.fieldLink RX1 146 "MailRoom$Handler" "former" "LMailRoom$Handler;", Cond.methodLink RX1 97 yX1_begin, Cond.instanceMethod yX1_begin, Cond.selects RX1 yX1_begin yX1_begin, Cond.initialized RX1, Cond.code yX1_act cX1_act 5 (some .int), Cond.fieldLink RX1 104 "MailRoom$Handler" "sort" "I", Cond.fieldLink RX1 117 "MailRoom$Handler" "other" "LMailRoom$Handler;", Cond.methodLink RX1 110 yX1_keep, Cond.instanceMethod yX1_keep, Cond.selects RX1 yX1_keep yX1_keep, Cond.code yX1_keep cX1_keep 4 (some .int), Cond.fieldLink RX1 9 "MailRoom" "boxSums" "[J", Cond.fieldLink RX1 13 "MailRoom" "boxCounts" "[I", Cond.methodLink RX1 75 yX1_isBox, Cond.static yX1_isBox, Cond.code yX1_isBox cX1_isBox 1 (some .boolean), Cond.methodLink RX1 59 yX1_enqueue, Cond.instanceMethod yX1_enqueue, Cond.selects RX1 yX1_enqueue yX1_enqueue, Cond.code yX1_enqueue cX1_enqueue 5 (some .int), Cond.fieldLink RX1 63 "MailRoom" "queueSize" "I"]
def wsX1_sift_r2 : List Cond := [Cond.fieldLink RX1 87 "MailRoom" "queueFirst" "I", Cond.fieldLink RX1 23 "MailRoom" "queueKinds" "[I", Cond.fieldLink RX1 26 "MailRoom" "queueValues" "[J", Cond.methodLink RX1 55 yX1_handlerOf, Cond.instanceMethod yX1_handlerOf, Cond.selects RX1 yX1_handlerOf yX1_handlerOf, Cond.code yX1_handlerOf cX1_handlerOf 2 (some (.object "MailRoom$Handler")), Cond.fieldLink RX1 19 "MailRoom" "handlers" "[LMailRoom$Handler;", Cond.methodLink RX1 43 yX1_isKind, Cond.static yX1_isKind, Cond.code yX1_isKind cX1_isKind 1 (some .boolean), Cond.methodLink RX1 121 yX1_sift, Cond.instanceMethod yX1_sift, Cond.selects RX1 yX1_sift yX1_sift, Cond.methodLink RX1 124 yX1_limit, Cond.instanceMethod yX1_limit, Cond.selects RX1 yX1_limit yX1_limit, Cond.methodLink RX1 127 yX1_once, Cond.instanceMethod yX1_once, Cond.selects RX1 yX1_once yX1_once, Cond.code yX1_once cX1_once 5 (some .int), Cond.fieldLink RX1 155 "MailRoom$Handler" "kind" "I", Cond.methodLink RX1 131 yX1_both, Cond.instanceMethod yX1_both]
def wsX1_sift_r3 : List Cond := [Cond.selects RX1 yX1_both yX1_both, Cond.methodLink RX1 134 yX1_share, Cond.instanceMethod yX1_share, Cond.selects RX1 yX1_share yX1_share, Cond.code yX1_share cX1_share 5 (some .int), Cond.fieldLink RX1 152 "MailRoom$Handler" "b" "I", Cond.methodLink RX1 137 yX1_keepFailure, Cond.instanceMethod yX1_keepFailure, Cond.selects RX1 yX1_keepFailure yX1_keepFailure, Cond.methodLink RX1 140 yX1_mean, Cond.instanceMethod yX1_mean, Cond.selects RX1 yX1_mean yX1_mean, Cond.methodLink RX1 143 yX1_keepAndSend, Cond.instanceMethod yX1_keepAndSend, Cond.selects RX1 yX1_keepAndSend yX1_keepAndSend, Cond.code yX1_keepAndSend cX1_keepAndSend 5 (some .int), Cond.code yX1_begin cX1_begin 5 (some .int), Cond.fieldLink RX1 94 "MailRoom" "begunForLetter" "I", Cond.methodLink RX1 101 yX1_act, Cond.instanceMethod yX1_act, Cond.selects RX1 yX1_act yX1_act, Cond.code yX1_both cX1_both 6 (some .int), Cond.code yX1_keepFailure cX1_keepFailure 6 (some .int), Cond.code yX1_limit cX1_limit 5 (some .int)]
def wsX1_sift_r4 : List Cond := [Cond.fieldLink RX1 149 "MailRoom$Handler" "begun" "I", Cond.code yX1_mean cX1_mean 7 (some .int)]
def wsX1_sift : List Cond := .code yX1_sift cX1_sift 5 (some .int) :: ((wsX1_sift_r1 ++ (wsX1_sift_r2 ++ (wsX1_sift_r3 ++ wsX1_sift_r4))) ++ wsX00 ++ wsX10)
def wsX1_deliver_r1 : List Cond := [Cond.fieldLink RX1 94 "MailRoom" "begunForLetter" "I", Cond.fieldLink RX1 66 "MailRoom" "begunInCall" "I", Cond.methodLink RX1 55 yX1_handlerOf, Cond.instanceMethod yX1_handlerOf, Cond.selects RX1 yX1_handlerOf yX1_handlerOf, Cond.initialized RX1, Cond.code yX1_handlerOf cX1_handlerOf 2 (some (.object "MailRoom$Handler")), Cond.fieldLink RX1 19 "MailRoom" "handlers" "[LMailRoom$Handler;", Cond.methodLink RX1 43 yX1_isKind, Cond.static yX1_isKind, Cond.code yX1_isKind cX1_isKind 1 (some .boolean), Cond.methodLink RX1 97 yX1_begin, Cond.instanceMethod yX1_begin, Cond.selects RX1 yX1_begin yX1_begin, Cond.code yX1_begin cX1_begin 5 (some .int), Cond.methodLink RX1 101 yX1_act, Cond.instanceMethod yX1_act, Cond.selects RX1 yX1_act yX1_act, Cond.code yX1_act cX1_act 5 (some .int), Cond.fieldLink RX1 104 "MailRoom$Handler" "sort" "I", Cond.fieldLink RX1 107 "MailRoom$Handler" "a" "I", Cond.fieldLink RX1 113 "MailRoom$Handler" "c" "J", Cond.fieldLink RX1 117 "MailRoom$Handler" "other" "LMailRoom$Handler;", Cond.methodLink RX1 110 yX1_keep]
def wsX1_deliver_r2 : List Cond := [Cond.instanceMethod yX1_keep, Cond.selects RX1 yX1_keep yX1_keep, Cond.code yX1_keep cX1_keep 4 (some .int), Cond.fieldLink RX1 9 "MailRoom" "boxSums" "[J", Cond.fieldLink RX1 13 "MailRoom" "boxCounts" "[I", Cond.methodLink RX1 75 yX1_isBox, Cond.static yX1_isBox, Cond.code yX1_isBox cX1_isBox 1 (some .boolean), Cond.methodLink RX1 59 yX1_enqueue, Cond.instanceMethod yX1_enqueue, Cond.selects RX1 yX1_enqueue yX1_enqueue, Cond.code yX1_enqueue cX1_enqueue 5 (some .int), Cond.fieldLink RX1 63 "MailRoom" "queueSize" "I", Cond.fieldLink RX1 87 "MailRoom" "queueFirst" "I", Cond.fieldLink RX1 23 "MailRoom" "queueKinds" "[I", Cond.fieldLink RX1 26 "MailRoom" "queueValues" "[J", Cond.methodLink RX1 121 yX1_sift, Cond.instanceMethod yX1_sift, Cond.selects RX1 yX1_sift yX1_sift, Cond.methodLink RX1 124 yX1_limit, Cond.instanceMethod yX1_limit, Cond.selects RX1 yX1_limit yX1_limit, Cond.methodLink RX1 127 yX1_once, Cond.instanceMethod yX1_once]
def wsX1_deliver_r3 : List Cond := [Cond.selects RX1 yX1_once yX1_once, Cond.code yX1_once cX1_once 5 (some .int), Cond.fieldLink RX1 155 "MailRoom$Handler" "kind" "I", Cond.fieldLink RX1 146 "MailRoom$Handler" "former" "LMailRoom$Handler;", Cond.methodLink RX1 131 yX1_both, Cond.instanceMethod yX1_both, Cond.selects RX1 yX1_both yX1_both, Cond.methodLink RX1 134 yX1_share, Cond.instanceMethod yX1_share, Cond.selects RX1 yX1_share yX1_share, Cond.code yX1_share cX1_share 5 (some .int), Cond.fieldLink RX1 152 "MailRoom$Handler" "b" "I", Cond.methodLink RX1 137 yX1_keepFailure, Cond.instanceMethod yX1_keepFailure, Cond.selects RX1 yX1_keepFailure yX1_keepFailure, Cond.methodLink RX1 140 yX1_mean, Cond.instanceMethod yX1_mean, Cond.selects RX1 yX1_mean yX1_mean, Cond.methodLink RX1 143 yX1_keepAndSend, Cond.instanceMethod yX1_keepAndSend, Cond.selects RX1 yX1_keepAndSend yX1_keepAndSend, Cond.code yX1_keepAndSend cX1_keepAndSend 5 (some .int), Cond.code yX1_both cX1_both 6 (some .int), Cond.code yX1_keepFailure cX1_keepFailure 6 (some .int)]
def wsX1_deliver_r4 : List Cond := [Cond.code yX1_limit cX1_limit 5 (some .int), Cond.fieldLink RX1 149 "MailRoom$Handler" "begun" "I", Cond.code yX1_mean cX1_mean 7 (some .int), Cond.code yX1_sift cX1_sift 5 (some .int)]
def wsX1_deliver : List Cond := .code yX1_deliver cX1_deliver 5 (some .int) :: ((wsX1_deliver_r1 ++ (wsX1_deliver_r2 ++ (wsX1_deliver_r3 ++ wsX1_deliver_r4))) ++ wsX10 ++ wsX00)
def wsX1_noteFailed : List Cond := .code yX1_noteFailed cX1_noteFailed 6 none :: ([.fieldLink RX1 84 "MailRoom" "failures" "I", .fieldLink RX1 29 "MailRoom" "failedKinds" "[I", .fieldLink RX1 32 "MailRoom" "failedNumbers" "[I", .fieldLink RX1 35 "MailRoom" "failedValues" "[J"] ++ wsX10)
def wsX1_takeFirst_r1 : List Cond := [Cond.fieldLink RX1 87 "MailRoom" "queueFirst" "I", Cond.fieldLink RX1 23 "MailRoom" "queueKinds" "[I", Cond.fieldLink RX1 26 "MailRoom" "queueValues" "[J", Cond.fieldLink RX1 63 "MailRoom" "queueSize" "I", Cond.fieldLink RX1 81 "MailRoom" "taken" "I", Cond.methodLink RX1 72 yX1_deliver, Cond.instanceMethod yX1_deliver, Cond.selects RX1 yX1_deliver yX1_deliver, Cond.initialized RX1, Cond.code yX1_deliver cX1_deliver 5 (some .int), Cond.fieldLink RX1 94 "MailRoom" "begunForLetter" "I", Cond.fieldLink RX1 66 "MailRoom" "begunInCall" "I", Cond.methodLink RX1 55 yX1_handlerOf, Cond.instanceMethod yX1_handlerOf, Cond.selects RX1 yX1_handlerOf yX1_handlerOf, Cond.code yX1_handlerOf cX1_handlerOf 2 (some (.object "MailRoom$Handler")), Cond.fieldLink RX1 19 "MailRoom" "handlers" "[LMailRoom$Handler;", Cond.methodLink RX1 43 yX1_isKind, Cond.static yX1_isKind, Cond.code yX1_isKind cX1_isKind 1 (some .boolean), Cond.methodLink RX1 97 yX1_begin, Cond.instanceMethod yX1_begin, Cond.selects RX1 yX1_begin yX1_begin, Cond.code yX1_begin cX1_begin 5 (some .int)]
def wsX1_takeFirst_r2 : List Cond := [Cond.methodLink RX1 101 yX1_act, Cond.instanceMethod yX1_act, Cond.selects RX1 yX1_act yX1_act, Cond.code yX1_act cX1_act 5 (some .int), Cond.fieldLink RX1 104 "MailRoom$Handler" "sort" "I", Cond.fieldLink RX1 107 "MailRoom$Handler" "a" "I", Cond.fieldLink RX1 113 "MailRoom$Handler" "c" "J", Cond.fieldLink RX1 117 "MailRoom$Handler" "other" "LMailRoom$Handler;", Cond.methodLink RX1 110 yX1_keep, Cond.instanceMethod yX1_keep, Cond.selects RX1 yX1_keep yX1_keep, Cond.code yX1_keep cX1_keep 4 (some .int), Cond.fieldLink RX1 9 "MailRoom" "boxSums" "[J", Cond.fieldLink RX1 13 "MailRoom" "boxCounts" "[I", Cond.methodLink RX1 75 yX1_isBox, Cond.static yX1_isBox, Cond.code yX1_isBox cX1_isBox 1 (some .boolean), Cond.methodLink RX1 59 yX1_enqueue, Cond.instanceMethod yX1_enqueue, Cond.selects RX1 yX1_enqueue yX1_enqueue, Cond.code yX1_enqueue cX1_enqueue 5 (some .int), Cond.methodLink RX1 121 yX1_sift, Cond.instanceMethod yX1_sift, Cond.selects RX1 yX1_sift yX1_sift]
def wsX1_takeFirst_r3 : List Cond := [Cond.methodLink RX1 124 yX1_limit, Cond.instanceMethod yX1_limit, Cond.selects RX1 yX1_limit yX1_limit, Cond.methodLink RX1 127 yX1_once, Cond.instanceMethod yX1_once, Cond.selects RX1 yX1_once yX1_once, Cond.code yX1_once cX1_once 5 (some .int), Cond.fieldLink RX1 155 "MailRoom$Handler" "kind" "I", Cond.fieldLink RX1 146 "MailRoom$Handler" "former" "LMailRoom$Handler;", Cond.methodLink RX1 131 yX1_both, Cond.instanceMethod yX1_both, Cond.selects RX1 yX1_both yX1_both, Cond.methodLink RX1 134 yX1_share, Cond.instanceMethod yX1_share, Cond.selects RX1 yX1_share yX1_share, Cond.code yX1_share cX1_share 5 (some .int), Cond.fieldLink RX1 152 "MailRoom$Handler" "b" "I", Cond.methodLink RX1 137 yX1_keepFailure, Cond.instanceMethod yX1_keepFailure, Cond.selects RX1 yX1_keepFailure yX1_keepFailure, Cond.methodLink RX1 140 yX1_mean, Cond.instanceMethod yX1_mean, Cond.selects RX1 yX1_mean yX1_mean, Cond.methodLink RX1 143 yX1_keepAndSend]
def wsX1_takeFirst_r4 : List Cond := [Cond.instanceMethod yX1_keepAndSend, Cond.selects RX1 yX1_keepAndSend yX1_keepAndSend, Cond.code yX1_keepAndSend cX1_keepAndSend 5 (some .int), Cond.code yX1_both cX1_both 6 (some .int), Cond.code yX1_keepFailure cX1_keepFailure 6 (some .int), Cond.code yX1_limit cX1_limit 5 (some .int), Cond.fieldLink RX1 149 "MailRoom$Handler" "begun" "I", Cond.code yX1_mean cX1_mean 7 (some .int), Cond.code yX1_sift cX1_sift 5 (some .int), Cond.methodLink RX1 90 yX1_noteFailed, Cond.instanceMethod yX1_noteFailed, Cond.selects RX1 yX1_noteFailed yX1_noteFailed, Cond.code yX1_noteFailed cX1_noteFailed 6 none, Cond.fieldLink RX1 84 "MailRoom" "failures" "I", Cond.fieldLink RX1 29 "MailRoom" "failedKinds" "[I", Cond.fieldLink RX1 32 "MailRoom" "failedNumbers" "[I", Cond.fieldLink RX1 35 "MailRoom" "failedValues" "[J"]
def wsX1_takeFirst : List Cond := .code yX1_takeFirst cX1_takeFirst 6 none :: ((wsX1_takeFirst_r1 ++ (wsX1_takeFirst_r2 ++ (wsX1_takeFirst_r3 ++ wsX1_takeFirst_r4))) ++ wsX10 ++ wsX00)
def wsX1_take_r1 : List Cond := [Cond.fieldLink RX1 66 "MailRoom" "begunInCall" "I", Cond.fieldLink RX1 63 "MailRoom" "queueSize" "I", Cond.methodLink RX1 69 yX1_takeFirst, Cond.instanceMethod yX1_takeFirst, Cond.selects RX1 yX1_takeFirst yX1_takeFirst, Cond.initialized RX1, Cond.code yX1_takeFirst cX1_takeFirst 6 none, Cond.fieldLink RX1 87 "MailRoom" "queueFirst" "I", Cond.fieldLink RX1 23 "MailRoom" "queueKinds" "[I", Cond.fieldLink RX1 26 "MailRoom" "queueValues" "[J", Cond.fieldLink RX1 81 "MailRoom" "taken" "I", Cond.methodLink RX1 72 yX1_deliver, Cond.instanceMethod yX1_deliver, Cond.selects RX1 yX1_deliver yX1_deliver, Cond.code yX1_deliver cX1_deliver 5 (some .int), Cond.fieldLink RX1 94 "MailRoom" "begunForLetter" "I", Cond.methodLink RX1 55 yX1_handlerOf, Cond.instanceMethod yX1_handlerOf, Cond.selects RX1 yX1_handlerOf yX1_handlerOf, Cond.code yX1_handlerOf cX1_handlerOf 2 (some (.object "MailRoom$Handler")), Cond.fieldLink RX1 19 "MailRoom" "handlers" "[LMailRoom$Handler;", Cond.methodLink RX1 43 yX1_isKind, Cond.static yX1_isKind, Cond.code yX1_isKind cX1_isKind 1 (some .boolean)]
def wsX1_take_r2 : List Cond := [Cond.methodLink RX1 97 yX1_begin, Cond.instanceMethod yX1_begin, Cond.selects RX1 yX1_begin yX1_begin, Cond.code yX1_begin cX1_begin 5 (some .int), Cond.methodLink RX1 101 yX1_act, Cond.instanceMethod yX1_act, Cond.selects RX1 yX1_act yX1_act, Cond.code yX1_act cX1_act 5 (some .int), Cond.fieldLink RX1 104 "MailRoom$Handler" "sort" "I", Cond.fieldLink RX1 107 "MailRoom$Handler" "a" "I", Cond.fieldLink RX1 113 "MailRoom$Handler" "c" "J", Cond.fieldLink RX1 117 "MailRoom$Handler" "other" "LMailRoom$Handler;", Cond.methodLink RX1 110 yX1_keep, Cond.instanceMethod yX1_keep, Cond.selects RX1 yX1_keep yX1_keep, Cond.code yX1_keep cX1_keep 4 (some .int), Cond.fieldLink RX1 9 "MailRoom" "boxSums" "[J", Cond.fieldLink RX1 13 "MailRoom" "boxCounts" "[I", Cond.methodLink RX1 75 yX1_isBox, Cond.static yX1_isBox, Cond.code yX1_isBox cX1_isBox 1 (some .boolean), Cond.methodLink RX1 59 yX1_enqueue, Cond.instanceMethod yX1_enqueue, Cond.selects RX1 yX1_enqueue yX1_enqueue]
def wsX1_take_r3 : List Cond := [Cond.code yX1_enqueue cX1_enqueue 5 (some .int), Cond.methodLink RX1 121 yX1_sift, Cond.instanceMethod yX1_sift, Cond.selects RX1 yX1_sift yX1_sift, Cond.methodLink RX1 124 yX1_limit, Cond.instanceMethod yX1_limit, Cond.selects RX1 yX1_limit yX1_limit, Cond.methodLink RX1 127 yX1_once, Cond.instanceMethod yX1_once, Cond.selects RX1 yX1_once yX1_once, Cond.code yX1_once cX1_once 5 (some .int), Cond.fieldLink RX1 155 "MailRoom$Handler" "kind" "I", Cond.fieldLink RX1 146 "MailRoom$Handler" "former" "LMailRoom$Handler;", Cond.methodLink RX1 131 yX1_both, Cond.instanceMethod yX1_both, Cond.selects RX1 yX1_both yX1_both, Cond.methodLink RX1 134 yX1_share, Cond.instanceMethod yX1_share, Cond.selects RX1 yX1_share yX1_share, Cond.code yX1_share cX1_share 5 (some .int), Cond.fieldLink RX1 152 "MailRoom$Handler" "b" "I", Cond.methodLink RX1 137 yX1_keepFailure, Cond.instanceMethod yX1_keepFailure, Cond.selects RX1 yX1_keepFailure yX1_keepFailure]
def wsX1_take_r4 : List Cond := [Cond.methodLink RX1 140 yX1_mean, Cond.instanceMethod yX1_mean, Cond.selects RX1 yX1_mean yX1_mean, Cond.methodLink RX1 143 yX1_keepAndSend, Cond.instanceMethod yX1_keepAndSend, Cond.selects RX1 yX1_keepAndSend yX1_keepAndSend, Cond.code yX1_keepAndSend cX1_keepAndSend 5 (some .int), Cond.code yX1_both cX1_both 6 (some .int), Cond.code yX1_keepFailure cX1_keepFailure 6 (some .int), Cond.code yX1_limit cX1_limit 5 (some .int), Cond.fieldLink RX1 149 "MailRoom$Handler" "begun" "I", Cond.code yX1_mean cX1_mean 7 (some .int), Cond.code yX1_sift cX1_sift 5 (some .int), Cond.methodLink RX1 90 yX1_noteFailed, Cond.instanceMethod yX1_noteFailed, Cond.selects RX1 yX1_noteFailed yX1_noteFailed, Cond.code yX1_noteFailed cX1_noteFailed 6 none, Cond.fieldLink RX1 84 "MailRoom" "failures" "I", Cond.fieldLink RX1 29 "MailRoom" "failedKinds" "[I", Cond.fieldLink RX1 32 "MailRoom" "failedNumbers" "[I", Cond.fieldLink RX1 35 "MailRoom" "failedValues" "[J"]
def wsX1_take : List Cond := .code yX1_take cX1_take 3 (some .int) :: ((wsX1_take_r1 ++ (wsX1_take_r2 ++ (wsX1_take_r3 ++ wsX1_take_r4))) ++ wsX10 ++ wsX00)
def wsX1_give_r1 : List Cond := [Cond.fieldLink RX1 66 "MailRoom" "begunInCall" "I", Cond.methodLink RX1 43 yX1_isKind, Cond.static yX1_isKind, Cond.initialized RX1, Cond.code yX1_isKind cX1_isKind 1 (some .boolean), Cond.methodLink RX1 72 yX1_deliver, Cond.instanceMethod yX1_deliver, Cond.selects RX1 yX1_deliver yX1_deliver, Cond.code yX1_deliver cX1_deliver 5 (some .int), Cond.fieldLink RX1 94 "MailRoom" "begunForLetter" "I", Cond.methodLink RX1 55 yX1_handlerOf, Cond.instanceMethod yX1_handlerOf, Cond.selects RX1 yX1_handlerOf yX1_handlerOf, Cond.code yX1_handlerOf cX1_handlerOf 2 (some (.object "MailRoom$Handler")), Cond.fieldLink RX1 19 "MailRoom" "handlers" "[LMailRoom$Handler;", Cond.methodLink RX1 97 yX1_begin, Cond.instanceMethod yX1_begin, Cond.selects RX1 yX1_begin yX1_begin, Cond.code yX1_begin cX1_begin 5 (some .int), Cond.methodLink RX1 101 yX1_act, Cond.instanceMethod yX1_act, Cond.selects RX1 yX1_act yX1_act, Cond.code yX1_act cX1_act 5 (some .int), Cond.fieldLink RX1 104 "MailRoom$Handler" "sort" "I"]
def wsX1_give_r2 : List Cond := [Cond.fieldLink RX1 107 "MailRoom$Handler" "a" "I", Cond.fieldLink RX1 113 "MailRoom$Handler" "c" "J", Cond.fieldLink RX1 117 "MailRoom$Handler" "other" "LMailRoom$Handler;", Cond.methodLink RX1 110 yX1_keep, Cond.instanceMethod yX1_keep, Cond.selects RX1 yX1_keep yX1_keep, Cond.code yX1_keep cX1_keep 4 (some .int), Cond.fieldLink RX1 9 "MailRoom" "boxSums" "[J", Cond.fieldLink RX1 13 "MailRoom" "boxCounts" "[I", Cond.methodLink RX1 75 yX1_isBox, Cond.static yX1_isBox, Cond.code yX1_isBox cX1_isBox 1 (some .boolean), Cond.methodLink RX1 59 yX1_enqueue, Cond.instanceMethod yX1_enqueue, Cond.selects RX1 yX1_enqueue yX1_enqueue, Cond.code yX1_enqueue cX1_enqueue 5 (some .int), Cond.fieldLink RX1 63 "MailRoom" "queueSize" "I", Cond.fieldLink RX1 87 "MailRoom" "queueFirst" "I", Cond.fieldLink RX1 23 "MailRoom" "queueKinds" "[I", Cond.fieldLink RX1 26 "MailRoom" "queueValues" "[J", Cond.methodLink RX1 121 yX1_sift, Cond.instanceMethod yX1_sift, Cond.selects RX1 yX1_sift yX1_sift, Cond.methodLink RX1 124 yX1_limit]
def wsX1_give_r3 : List Cond := [Cond.instanceMethod yX1_limit, Cond.selects RX1 yX1_limit yX1_limit, Cond.methodLink RX1 127 yX1_once, Cond.instanceMethod yX1_once, Cond.selects RX1 yX1_once yX1_once, Cond.code yX1_once cX1_once 5 (some .int), Cond.fieldLink RX1 155 "MailRoom$Handler" "kind" "I", Cond.fieldLink RX1 146 "MailRoom$Handler" "former" "LMailRoom$Handler;", Cond.methodLink RX1 131 yX1_both, Cond.instanceMethod yX1_both, Cond.selects RX1 yX1_both yX1_both, Cond.methodLink RX1 134 yX1_share, Cond.instanceMethod yX1_share, Cond.selects RX1 yX1_share yX1_share, Cond.code yX1_share cX1_share 5 (some .int), Cond.fieldLink RX1 152 "MailRoom$Handler" "b" "I", Cond.methodLink RX1 137 yX1_keepFailure, Cond.instanceMethod yX1_keepFailure, Cond.selects RX1 yX1_keepFailure yX1_keepFailure, Cond.methodLink RX1 140 yX1_mean, Cond.instanceMethod yX1_mean, Cond.selects RX1 yX1_mean yX1_mean, Cond.methodLink RX1 143 yX1_keepAndSend, Cond.instanceMethod yX1_keepAndSend]
def wsX1_give_r4 : List Cond := [Cond.selects RX1 yX1_keepAndSend yX1_keepAndSend, Cond.code yX1_keepAndSend cX1_keepAndSend 5 (some .int), Cond.code yX1_both cX1_both 6 (some .int), Cond.code yX1_keepFailure cX1_keepFailure 6 (some .int), Cond.code yX1_limit cX1_limit 5 (some .int), Cond.fieldLink RX1 149 "MailRoom$Handler" "begun" "I", Cond.code yX1_mean cX1_mean 7 (some .int), Cond.code yX1_sift cX1_sift 5 (some .int)]
def wsX1_give : List Cond := .code yX1_give cX1_give 5 (some .int) :: ((wsX1_give_r1 ++ (wsX1_give_r2 ++ (wsX1_give_r3 ++ wsX1_give_r4))) ++ wsX10 ++ wsX00)
def wsX1_sum : List Cond := .code yX1_sum cX1_sum 2 (some .long) :: ([.fieldLink RX1 9 "MailRoom" "boxSums" "[J", .methodLink RX1 75 yX1_isBox, .static yX1_isBox, .initialized RX1, .code yX1_isBox cX1_isBox 1 (some .boolean)] ++ wsX10)
def wsX1_counted : List Cond := .code yX1_counted cX1_counted 2 (some .int) :: ([.fieldLink RX1 13 "MailRoom" "boxCounts" "[I", .methodLink RX1 75 yX1_isBox, .static yX1_isBox, .initialized RX1, .code yX1_isBox cX1_isBox 1 (some .boolean)] ++ wsX10)
def wsX1_isFailedKept : List Cond := .code yX1_isFailedKept cX1_isFailedKept 2 (some .boolean) :: ([.fieldLink RX1 84 "MailRoom" "failures" "I"] ++ wsX10)
def wsX1_failed : List Cond := .code yX1_failed cX1_failed 3 (some .int) :: ([.fieldLink RX1 29 "MailRoom" "failedKinds" "[I", .fieldLink RX1 32 "MailRoom" "failedNumbers" "[I", .methodLink RX1 78 yX1_isFailedKept, .instanceMethod yX1_isFailedKept, .selects RX1 yX1_isFailedKept yX1_isFailedKept, .initialized RX1, .code yX1_isFailedKept cX1_isFailedKept 2 (some .boolean), .fieldLink RX1 84 "MailRoom" "failures" "I"] ++ wsX10)
def wsX1_value : List Cond := .code yX1_value cX1_value 2 (some .long) :: ([.fieldLink RX1 35 "MailRoom" "failedValues" "[J", .methodLink RX1 78 yX1_isFailedKept, .instanceMethod yX1_isFailedKept, .selects RX1 yX1_isFailedKept yX1_isFailedKept, .initialized RX1, .code yX1_isFailedKept cX1_isFailedKept 2 (some .boolean), .fieldLink RX1 84 "MailRoom" "failures" "I"] ++ wsX10)
def wsX1_count : List Cond := .code yX1_count cX1_count 2 (some .int) :: ([.fieldLink RX1 63 "MailRoom" "queueSize" "I", .fieldLink RX1 81 "MailRoom" "taken" "I", .fieldLink RX1 51 "MailRoom" "told" "I", .fieldLink RX1 84 "MailRoom" "failures" "I", .fieldLink RX1 66 "MailRoom" "begunInCall" "I"] ++ wsX10)
def wsX2_init_r1 : List Cond := [Cond.methodLink RX2 1 objectInit, Cond.instanceMethod objectInit, Cond.code objectInit ⟨#[0xb1]⟩ 1 none, Cond.arrayClass .long, Cond.fieldLink RX2 7 "MailRoomModel" "sums" "[J", Cond.arrayClass .int, Cond.fieldLink RX2 13 "MailRoomModel" "counts" "[I", Cond.fieldLink RX2 17 "MailRoomModel" "sorts" "[I", Cond.fieldLink RX2 20 "MailRoomModel" "kinds" "[I", Cond.fieldLink RX2 23 "MailRoomModel" "as" "[I", Cond.fieldLink RX2 26 "MailRoomModel" "bs" "[I", Cond.fieldLink RX2 29 "MailRoomModel" "cs" "[J", Cond.fieldLink RX2 32 "MailRoomModel" "formers" "[I", Cond.fieldLink RX2 35 "MailRoomModel" "others" "[I", Cond.fieldLink RX2 38 "MailRoomModel" "lets" "[I", Cond.fieldLink RX2 41 "MailRoomModel" "stands" "[I", Cond.fieldLink RX2 44 "MailRoomModel" "queueKinds" "[I", Cond.fieldLink RX2 47 "MailRoomModel" "queueValues" "[J", Cond.fieldLink RX2 50 "MailRoomModel" "keptKinds" "[I", Cond.fieldLink RX2 53 "MailRoomModel" "keptFailures" "[I", Cond.fieldLink RX2 56 "MailRoomModel" "keptValues" "[J", Cond.fieldLink RX2 59 "MailRoomModel" "which" "[I", Cond.fieldLink RX2 62 "MailRoomModel" "stage" "[I", Cond.fieldLink RX2 65 "MailRoomModel" "value" "[J"]
def wsX2_init_r2 : List Cond := [Cond.fieldLink RX2 68 "MailRoomModel" "many" "I"]
def wsX2_init : List Cond := .code yX2_init cX2_init 2 none :: ((wsX2_init_r1 ++ wsX2_init_r2) ++ wsX20)
def wsX2_in : List Cond := .code yX2_in cX2_in 3 (some .boolean) :: ([])
def wsX2_isKind : List Cond := .code yX2_isKind cX2_isKind 1 (some .boolean) :: ([.methodLink RX2 72 yX2_in, .static yX2_in, .initialized RX2, .code yX2_in cX2_in 3 (some .boolean)])
def wsX2_isBox : List Cond := .code yX2_isBox cX2_isBox 1 (some .boolean) :: ([.methodLink RX2 72 yX2_in, .static yX2_in, .initialized RX2, .code yX2_in cX2_in 3 (some .boolean)])
def wsX2_areKnown : List Cond := .code yX2_areKnown cX2_areKnown 3 (some .boolean) :: ([.methodLink RX2 76 yX2_isBox, .static yX2_isBox, .initialized RX2, .code yX2_isBox cX2_isBox 1 (some .boolean), .methodLink RX2 72 yX2_in, .static yX2_in, .code yX2_in cX2_in 3 (some .boolean), .methodLink RX2 80 yX2_isKind, .static yX2_isKind, .code yX2_isKind cX2_isKind 1 (some .boolean)])
def wsX2_handle : List Cond := .code yX2_handle cX2_handle 8 (some .int) :: ([.fieldLink RX2 68 "MailRoomModel" "many" "I", .fieldLink RX2 17 "MailRoomModel" "sorts" "[I", .fieldLink RX2 20 "MailRoomModel" "kinds" "[I", .fieldLink RX2 23 "MailRoomModel" "as" "[I", .fieldLink RX2 26 "MailRoomModel" "bs" "[I", .fieldLink RX2 29 "MailRoomModel" "cs" "[J", .fieldLink RX2 32 "MailRoomModel" "formers" "[I", .fieldLink RX2 41 "MailRoomModel" "stands" "[I", .fieldLink RX2 35 "MailRoomModel" "others" "[I", .fieldLink RX2 38 "MailRoomModel" "lets" "[I", .methodLink RX2 72 yX2_in, .static yX2_in, .initialized RX2, .code yX2_in cX2_in 3 (some .boolean), .methodLink RX2 80 yX2_isKind, .static yX2_isKind, .code yX2_isKind cX2_isKind 1 (some .boolean), .methodLink RX2 83 yX2_areKnown, .static yX2_areKnown, .code yX2_areKnown cX2_areKnown 3 (some .boolean), .methodLink RX2 76 yX2_isBox, .static yX2_isBox, .code yX2_isBox cX2_isBox 1 (some .boolean)] ++ wsX20)
def wsX2_drop : List Cond := .code yX2_drop cX2_drop 3 (some .int) :: ([.fieldLink RX2 41 "MailRoomModel" "stands" "[I", .methodLink RX2 80 yX2_isKind, .static yX2_isKind, .initialized RX2, .code yX2_isKind cX2_isKind 1 (some .boolean), .methodLink RX2 72 yX2_in, .static yX2_in, .code yX2_in cX2_in 3 (some .boolean)] ++ wsX20)
def wsX2_has : List Cond := .code yX2_has cX2_has 2 (some .int) :: ([.fieldLink RX2 41 "MailRoomModel" "stands" "[I", .methodLink RX2 80 yX2_isKind, .static yX2_isKind, .initialized RX2, .code yX2_isKind cX2_isKind 1 (some .boolean), .methodLink RX2 72 yX2_in, .static yX2_in, .code yX2_in cX2_in 3 (some .boolean)] ++ wsX20)
def wsX2_comes : List Cond := .code yX2_comes cX2_comes 4 none :: ([.fieldLink RX2 44 "MailRoomModel" "queueKinds" "[I", .fieldLink RX2 86 "MailRoomModel" "size" "I", .fieldLink RX2 47 "MailRoomModel" "queueValues" "[J"] ++ wsX20)
def wsX2_post : List Cond := .code yX2_post cX2_post 4 (some .int) :: ([.fieldLink RX2 86 "MailRoomModel" "size" "I", .methodLink RX2 80 yX2_isKind, .static yX2_isKind, .initialized RX2, .code yX2_isKind cX2_isKind 1 (some .boolean), .methodLink RX2 72 yX2_in, .static yX2_in, .code yX2_in cX2_in 3 (some .boolean), .methodLink RX2 89 yX2_comes, .instanceMethod yX2_comes, .selects RX2 yX2_comes yX2_comes, .code yX2_comes cX2_comes 4 none, .fieldLink RX2 44 "MailRoomModel" "queueKinds" "[I", .fieldLink RX2 47 "MailRoomModel" "queueValues" "[J"] ++ wsX20)
def wsX2_keep : List Cond := .code yX2_keep cX2_keep 4 none :: ([.fieldLink RX2 7 "MailRoomModel" "sums" "[J", .fieldLink RX2 13 "MailRoomModel" "counts" "[I"] ++ wsX20)
def wsX2_call : List Cond := .code yX2_call cX2_call 4 none :: ([.fieldLink RX2 93 "MailRoomModel" "failure" "I", .fieldLink RX2 96 "MailRoomModel" "top" "I", .fieldLink RX2 99 "MailRoomModel" "begun" "I", .fieldLink RX2 59 "MailRoomModel" "which" "[I", .fieldLink RX2 62 "MailRoomModel" "stage" "[I", .fieldLink RX2 65 "MailRoomModel" "value" "[J"] ++ wsX20)
def wsX2_ends : List Cond := .code yX2_ends cX2_ends 2 none :: ([.fieldLink RX2 96 "MailRoomModel" "top" "I", .fieldLink RX2 93 "MailRoomModel" "failure" "I"] ++ wsX20)
def wsX2_goOn : List Cond := .code yX2_goOn cX2_goOn 5 none :: ([.fieldLink RX2 62 "MailRoomModel" "stage" "[I", .methodLink RX2 102 yX2_call, .instanceMethod yX2_call, .selects RX2 yX2_call yX2_call, .initialized RX2, .code yX2_call cX2_call 4 none, .fieldLink RX2 93 "MailRoomModel" "failure" "I", .fieldLink RX2 96 "MailRoomModel" "top" "I", .fieldLink RX2 99 "MailRoomModel" "begun" "I", .fieldLink RX2 59 "MailRoomModel" "which" "[I", .fieldLink RX2 65 "MailRoomModel" "value" "[J"] ++ wsX20)
def wsX2_sends : List Cond := .code yX2_sends cX2_sends 4 none :: ([.fieldLink RX2 86 "MailRoomModel" "size" "I", .methodLink RX2 118 yX2_ends, .instanceMethod yX2_ends, .selects RX2 yX2_ends yX2_ends, .initialized RX2, .code yX2_ends cX2_ends 2 none, .fieldLink RX2 96 "MailRoomModel" "top" "I", .fieldLink RX2 93 "MailRoomModel" "failure" "I", .methodLink RX2 89 yX2_comes, .instanceMethod yX2_comes, .selects RX2 yX2_comes yX2_comes, .code yX2_comes cX2_comes 4 none, .fieldLink RX2 44 "MailRoomModel" "queueKinds" "[I", .fieldLink RX2 47 "MailRoomModel" "queueValues" "[J"] ++ wsX20)
def wsX2_shares : List Cond := .code yX2_shares cX2_shares 7 none :: ([.methodLink RX2 118 yX2_ends, .instanceMethod yX2_ends, .selects RX2 yX2_ends yX2_ends, .initialized RX2, .code yX2_ends cX2_ends 2 none, .fieldLink RX2 96 "MailRoomModel" "top" "I", .fieldLink RX2 93 "MailRoomModel" "failure" "I", .methodLink RX2 115 yX2_keep, .instanceMethod yX2_keep, .selects RX2 yX2_keep yX2_keep, .code yX2_keep cX2_keep 4 none, .fieldLink RX2 7 "MailRoomModel" "sums" "[J", .fieldLink RX2 13 "MailRoomModel" "counts" "[I"] ++ wsX20)
def wsX2_begins_r1 : List Cond := [Cond.fieldLink RX2 23 "MailRoomModel" "as" "[I", Cond.fieldLink RX2 29 "MailRoomModel" "cs" "[J", Cond.fieldLink RX2 17 "MailRoomModel" "sorts" "[I", Cond.fieldLink RX2 35 "MailRoomModel" "others" "[I", Cond.fieldLink RX2 41 "MailRoomModel" "stands" "[I", Cond.fieldLink RX2 32 "MailRoomModel" "formers" "[I", Cond.fieldLink RX2 38 "MailRoomModel" "lets" "[I", Cond.fieldLink RX2 26 "MailRoomModel" "bs" "[I", Cond.fieldLink RX2 20 "MailRoomModel" "kinds" "[I", Cond.fieldLink RX2 7 "MailRoomModel" "sums" "[J", Cond.fieldLink RX2 13 "MailRoomModel" "counts" "[I", Cond.methodLink RX2 115 yX2_keep, Cond.instanceMethod yX2_keep, Cond.selects RX2 yX2_keep yX2_keep, Cond.initialized RX2, Cond.code yX2_keep cX2_keep 4 none, Cond.methodLink RX2 118 yX2_ends, Cond.instanceMethod yX2_ends, Cond.selects RX2 yX2_ends yX2_ends, Cond.code yX2_ends cX2_ends 2 none, Cond.fieldLink RX2 96 "MailRoomModel" "top" "I", Cond.fieldLink RX2 93 "MailRoomModel" "failure" "I", Cond.methodLink RX2 125 yX2_sends, Cond.instanceMethod yX2_sends]
def wsX2_begins_r2 : List Cond := [Cond.selects RX2 yX2_sends yX2_sends, Cond.code yX2_sends cX2_sends 4 none, Cond.fieldLink RX2 86 "MailRoomModel" "size" "I", Cond.methodLink RX2 89 yX2_comes, Cond.instanceMethod yX2_comes, Cond.selects RX2 yX2_comes yX2_comes, Cond.code yX2_comes cX2_comes 4 none, Cond.fieldLink RX2 44 "MailRoomModel" "queueKinds" "[I", Cond.fieldLink RX2 47 "MailRoomModel" "queueValues" "[J", Cond.methodLink RX2 122 yX2_goOn, Cond.instanceMethod yX2_goOn, Cond.selects RX2 yX2_goOn yX2_goOn, Cond.code yX2_goOn cX2_goOn 5 none, Cond.fieldLink RX2 62 "MailRoomModel" "stage" "[I", Cond.methodLink RX2 102 yX2_call, Cond.instanceMethod yX2_call, Cond.selects RX2 yX2_call yX2_call, Cond.code yX2_call cX2_call 4 none, Cond.fieldLink RX2 99 "MailRoomModel" "begun" "I", Cond.fieldLink RX2 59 "MailRoomModel" "which" "[I", Cond.fieldLink RX2 65 "MailRoomModel" "value" "[J", Cond.methodLink RX2 128 yX2_shares, Cond.instanceMethod yX2_shares, Cond.selects RX2 yX2_shares yX2_shares]
def wsX2_begins_r3 : List Cond := [Cond.code yX2_shares cX2_shares 7 none, Cond.methodLink RX2 76 yX2_isBox, Cond.static yX2_isBox, Cond.code yX2_isBox cX2_isBox 1 (some .boolean), Cond.methodLink RX2 72 yX2_in, Cond.static yX2_in, Cond.code yX2_in cX2_in 3 (some .boolean)]
def wsX2_begins : List Cond := .code yX2_begins cX2_begins 9 none :: ((wsX2_begins_r1 ++ (wsX2_begins_r2 ++ wsX2_begins_r3)) ++ wsX20)
def wsX2_behind_r1 : List Cond := [Cond.fieldLink RX2 17 "MailRoomModel" "sorts" "[I", Cond.fieldLink RX2 93 "MailRoomModel" "failure" "I", Cond.fieldLink RX2 23 "MailRoomModel" "as" "[I", Cond.fieldLink RX2 62 "MailRoomModel" "stage" "[I", Cond.fieldLink RX2 35 "MailRoomModel" "others" "[I", Cond.fieldLink RX2 96 "MailRoomModel" "top" "I", Cond.methodLink RX2 115 yX2_keep, Cond.instanceMethod yX2_keep, Cond.selects RX2 yX2_keep yX2_keep, Cond.initialized RX2, Cond.code yX2_keep cX2_keep 4 none, Cond.fieldLink RX2 7 "MailRoomModel" "sums" "[J", Cond.fieldLink RX2 13 "MailRoomModel" "counts" "[I", Cond.methodLink RX2 118 yX2_ends, Cond.instanceMethod yX2_ends, Cond.selects RX2 yX2_ends yX2_ends, Cond.code yX2_ends cX2_ends 2 none, Cond.methodLink RX2 122 yX2_goOn, Cond.instanceMethod yX2_goOn, Cond.selects RX2 yX2_goOn yX2_goOn, Cond.code yX2_goOn cX2_goOn 5 none, Cond.methodLink RX2 102 yX2_call, Cond.instanceMethod yX2_call, Cond.selects RX2 yX2_call yX2_call]
def wsX2_behind_r2 : List Cond := [Cond.code yX2_call cX2_call 4 none, Cond.fieldLink RX2 99 "MailRoomModel" "begun" "I", Cond.fieldLink RX2 59 "MailRoomModel" "which" "[I", Cond.fieldLink RX2 65 "MailRoomModel" "value" "[J"]
def wsX2_behind : List Cond := .code yX2_behind cX2_behind 5 none :: ((wsX2_behind_r1 ++ wsX2_behind_r2) ++ wsX20)
def wsX2_go_r1 : List Cond := [Cond.fieldLink RX2 96 "MailRoomModel" "top" "I", Cond.fieldLink RX2 99 "MailRoomModel" "begun" "I", Cond.fieldLink RX2 62 "MailRoomModel" "stage" "[I", Cond.fieldLink RX2 59 "MailRoomModel" "which" "[I", Cond.fieldLink RX2 65 "MailRoomModel" "value" "[J", Cond.fieldLink RX2 112 "MailRoomModel" "latest" "I", Cond.methodLink RX2 102 yX2_call, Cond.instanceMethod yX2_call, Cond.selects RX2 yX2_call yX2_call, Cond.initialized RX2, Cond.code yX2_call cX2_call 4 none, Cond.fieldLink RX2 93 "MailRoomModel" "failure" "I", Cond.methodLink RX2 105 yX2_begins, Cond.instanceMethod yX2_begins, Cond.selects RX2 yX2_begins yX2_begins, Cond.code yX2_begins cX2_begins 9 none, Cond.fieldLink RX2 23 "MailRoomModel" "as" "[I", Cond.fieldLink RX2 29 "MailRoomModel" "cs" "[J", Cond.fieldLink RX2 17 "MailRoomModel" "sorts" "[I", Cond.fieldLink RX2 35 "MailRoomModel" "others" "[I", Cond.fieldLink RX2 41 "MailRoomModel" "stands" "[I", Cond.fieldLink RX2 32 "MailRoomModel" "formers" "[I", Cond.fieldLink RX2 38 "MailRoomModel" "lets" "[I", Cond.fieldLink RX2 26 "MailRoomModel" "bs" "[I"]
def wsX2_go_r2 : List Cond := [Cond.fieldLink RX2 20 "MailRoomModel" "kinds" "[I", Cond.fieldLink RX2 7 "MailRoomModel" "sums" "[J", Cond.fieldLink RX2 13 "MailRoomModel" "counts" "[I", Cond.methodLink RX2 115 yX2_keep, Cond.instanceMethod yX2_keep, Cond.selects RX2 yX2_keep yX2_keep, Cond.code yX2_keep cX2_keep 4 none, Cond.methodLink RX2 118 yX2_ends, Cond.instanceMethod yX2_ends, Cond.selects RX2 yX2_ends yX2_ends, Cond.code yX2_ends cX2_ends 2 none, Cond.methodLink RX2 125 yX2_sends, Cond.instanceMethod yX2_sends, Cond.selects RX2 yX2_sends yX2_sends, Cond.code yX2_sends cX2_sends 4 none, Cond.fieldLink RX2 86 "MailRoomModel" "size" "I", Cond.methodLink RX2 89 yX2_comes, Cond.instanceMethod yX2_comes, Cond.selects RX2 yX2_comes yX2_comes, Cond.code yX2_comes cX2_comes 4 none, Cond.fieldLink RX2 44 "MailRoomModel" "queueKinds" "[I", Cond.fieldLink RX2 47 "MailRoomModel" "queueValues" "[J", Cond.methodLink RX2 122 yX2_goOn, Cond.instanceMethod yX2_goOn]
def wsX2_go_r3 : List Cond := [Cond.selects RX2 yX2_goOn yX2_goOn, Cond.code yX2_goOn cX2_goOn 5 none, Cond.methodLink RX2 128 yX2_shares, Cond.instanceMethod yX2_shares, Cond.selects RX2 yX2_shares yX2_shares, Cond.code yX2_shares cX2_shares 7 none, Cond.methodLink RX2 76 yX2_isBox, Cond.static yX2_isBox, Cond.code yX2_isBox cX2_isBox 1 (some .boolean), Cond.methodLink RX2 72 yX2_in, Cond.static yX2_in, Cond.code yX2_in cX2_in 3 (some .boolean), Cond.methodLink RX2 109 yX2_behind, Cond.instanceMethod yX2_behind, Cond.selects RX2 yX2_behind yX2_behind, Cond.code yX2_behind cX2_behind 5 none]
def wsX2_go : List Cond := .code yX2_go cX2_go 5 none :: ((wsX2_go_r1 ++ (wsX2_go_r2 ++ wsX2_go_r3)) ++ wsX20)
def wsX2_falls : List Cond := .code yX2_falls cX2_falls 4 none :: ([.fieldLink RX2 141 "MailRoomModel" "fell" "I", .fieldLink RX2 144 "MailRoomModel" "kept" "I", .fieldLink RX2 50 "MailRoomModel" "keptKinds" "[I", .fieldLink RX2 53 "MailRoomModel" "keptFailures" "[I", .fieldLink RX2 93 "MailRoomModel" "failure" "I", .fieldLink RX2 56 "MailRoomModel" "keptValues" "[J"] ++ wsX20)
def wsX2_take_r1 : List Cond := [Cond.fieldLink RX2 112 "MailRoomModel" "latest" "I", Cond.fieldLink RX2 86 "MailRoomModel" "size" "I", Cond.fieldLink RX2 44 "MailRoomModel" "queueKinds" "[I", Cond.fieldLink RX2 47 "MailRoomModel" "queueValues" "[J", Cond.fieldLink RX2 132 "MailRoomModel" "taken" "I", Cond.fieldLink RX2 41 "MailRoomModel" "stands" "[I", Cond.fieldLink RX2 93 "MailRoomModel" "failure" "I", Cond.methodLink RX2 72 yX2_in, Cond.static yX2_in, Cond.initialized RX2, Cond.code yX2_in cX2_in 3 (some .boolean), Cond.methodLink RX2 135 yX2_go, Cond.instanceMethod yX2_go, Cond.selects RX2 yX2_go yX2_go, Cond.code yX2_go cX2_go 5 none, Cond.fieldLink RX2 96 "MailRoomModel" "top" "I", Cond.fieldLink RX2 99 "MailRoomModel" "begun" "I", Cond.fieldLink RX2 62 "MailRoomModel" "stage" "[I", Cond.fieldLink RX2 59 "MailRoomModel" "which" "[I", Cond.fieldLink RX2 65 "MailRoomModel" "value" "[J", Cond.methodLink RX2 102 yX2_call, Cond.instanceMethod yX2_call, Cond.selects RX2 yX2_call yX2_call, Cond.code yX2_call cX2_call 4 none]
def wsX2_take_r2 : List Cond := [Cond.methodLink RX2 105 yX2_begins, Cond.instanceMethod yX2_begins, Cond.selects RX2 yX2_begins yX2_begins, Cond.code yX2_begins cX2_begins 9 none, Cond.fieldLink RX2 23 "MailRoomModel" "as" "[I", Cond.fieldLink RX2 29 "MailRoomModel" "cs" "[J", Cond.fieldLink RX2 17 "MailRoomModel" "sorts" "[I", Cond.fieldLink RX2 35 "MailRoomModel" "others" "[I", Cond.fieldLink RX2 32 "MailRoomModel" "formers" "[I", Cond.fieldLink RX2 38 "MailRoomModel" "lets" "[I", Cond.fieldLink RX2 26 "MailRoomModel" "bs" "[I", Cond.fieldLink RX2 20 "MailRoomModel" "kinds" "[I", Cond.fieldLink RX2 7 "MailRoomModel" "sums" "[J", Cond.fieldLink RX2 13 "MailRoomModel" "counts" "[I", Cond.methodLink RX2 115 yX2_keep, Cond.instanceMethod yX2_keep, Cond.selects RX2 yX2_keep yX2_keep, Cond.code yX2_keep cX2_keep 4 none, Cond.methodLink RX2 118 yX2_ends, Cond.instanceMethod yX2_ends, Cond.selects RX2 yX2_ends yX2_ends, Cond.code yX2_ends cX2_ends 2 none, Cond.methodLink RX2 125 yX2_sends, Cond.instanceMethod yX2_sends]
def wsX2_take_r3 : List Cond := [Cond.selects RX2 yX2_sends yX2_sends, Cond.code yX2_sends cX2_sends 4 none, Cond.methodLink RX2 89 yX2_comes, Cond.instanceMethod yX2_comes, Cond.selects RX2 yX2_comes yX2_comes, Cond.code yX2_comes cX2_comes 4 none, Cond.methodLink RX2 122 yX2_goOn, Cond.instanceMethod yX2_goOn, Cond.selects RX2 yX2_goOn yX2_goOn, Cond.code yX2_goOn cX2_goOn 5 none, Cond.methodLink RX2 128 yX2_shares, Cond.instanceMethod yX2_shares, Cond.selects RX2 yX2_shares yX2_shares, Cond.code yX2_shares cX2_shares 7 none, Cond.methodLink RX2 76 yX2_isBox, Cond.static yX2_isBox, Cond.code yX2_isBox cX2_isBox 1 (some .boolean), Cond.methodLink RX2 109 yX2_behind, Cond.instanceMethod yX2_behind, Cond.selects RX2 yX2_behind yX2_behind, Cond.code yX2_behind cX2_behind 5 none, Cond.methodLink RX2 138 yX2_falls, Cond.instanceMethod yX2_falls, Cond.selects RX2 yX2_falls yX2_falls]
def wsX2_take_r4 : List Cond := [Cond.code yX2_falls cX2_falls 4 none, Cond.fieldLink RX2 141 "MailRoomModel" "fell" "I", Cond.fieldLink RX2 144 "MailRoomModel" "kept" "I", Cond.fieldLink RX2 50 "MailRoomModel" "keptKinds" "[I", Cond.fieldLink RX2 53 "MailRoomModel" "keptFailures" "[I", Cond.fieldLink RX2 56 "MailRoomModel" "keptValues" "[J"]
def wsX2_take : List Cond := .code yX2_take cX2_take 7 (some .int) :: ((wsX2_take_r1 ++ (wsX2_take_r2 ++ (wsX2_take_r3 ++ wsX2_take_r4))) ++ wsX20)
def wsX2_give_r1 : List Cond := [Cond.fieldLink RX2 112 "MailRoomModel" "latest" "I", Cond.fieldLink RX2 41 "MailRoomModel" "stands" "[I", Cond.fieldLink RX2 93 "MailRoomModel" "failure" "I", Cond.methodLink RX2 80 yX2_isKind, Cond.static yX2_isKind, Cond.initialized RX2, Cond.code yX2_isKind cX2_isKind 1 (some .boolean), Cond.methodLink RX2 72 yX2_in, Cond.static yX2_in, Cond.code yX2_in cX2_in 3 (some .boolean), Cond.methodLink RX2 135 yX2_go, Cond.instanceMethod yX2_go, Cond.selects RX2 yX2_go yX2_go, Cond.code yX2_go cX2_go 5 none, Cond.fieldLink RX2 96 "MailRoomModel" "top" "I", Cond.fieldLink RX2 99 "MailRoomModel" "begun" "I", Cond.fieldLink RX2 62 "MailRoomModel" "stage" "[I", Cond.fieldLink RX2 59 "MailRoomModel" "which" "[I", Cond.fieldLink RX2 65 "MailRoomModel" "value" "[J", Cond.methodLink RX2 102 yX2_call, Cond.instanceMethod yX2_call, Cond.selects RX2 yX2_call yX2_call, Cond.code yX2_call cX2_call 4 none, Cond.methodLink RX2 105 yX2_begins]
def wsX2_give_r2 : List Cond := [Cond.instanceMethod yX2_begins, Cond.selects RX2 yX2_begins yX2_begins, Cond.code yX2_begins cX2_begins 9 none, Cond.fieldLink RX2 23 "MailRoomModel" "as" "[I", Cond.fieldLink RX2 29 "MailRoomModel" "cs" "[J", Cond.fieldLink RX2 17 "MailRoomModel" "sorts" "[I", Cond.fieldLink RX2 35 "MailRoomModel" "others" "[I", Cond.fieldLink RX2 32 "MailRoomModel" "formers" "[I", Cond.fieldLink RX2 38 "MailRoomModel" "lets" "[I", Cond.fieldLink RX2 26 "MailRoomModel" "bs" "[I", Cond.fieldLink RX2 20 "MailRoomModel" "kinds" "[I", Cond.fieldLink RX2 7 "MailRoomModel" "sums" "[J", Cond.fieldLink RX2 13 "MailRoomModel" "counts" "[I", Cond.methodLink RX2 115 yX2_keep, Cond.instanceMethod yX2_keep, Cond.selects RX2 yX2_keep yX2_keep, Cond.code yX2_keep cX2_keep 4 none, Cond.methodLink RX2 118 yX2_ends, Cond.instanceMethod yX2_ends, Cond.selects RX2 yX2_ends yX2_ends, Cond.code yX2_ends cX2_ends 2 none, Cond.methodLink RX2 125 yX2_sends, Cond.instanceMethod yX2_sends, Cond.selects RX2 yX2_sends yX2_sends]
def wsX2_give_r3 : List Cond := [Cond.code yX2_sends cX2_sends 4 none, Cond.fieldLink RX2 86 "MailRoomModel" "size" "I", Cond.methodLink RX2 89 yX2_comes, Cond.instanceMethod yX2_comes, Cond.selects RX2 yX2_comes yX2_comes, Cond.code yX2_comes cX2_comes 4 none, Cond.fieldLink RX2 44 "MailRoomModel" "queueKinds" "[I", Cond.fieldLink RX2 47 "MailRoomModel" "queueValues" "[J", Cond.methodLink RX2 122 yX2_goOn, Cond.instanceMethod yX2_goOn, Cond.selects RX2 yX2_goOn yX2_goOn, Cond.code yX2_goOn cX2_goOn 5 none, Cond.methodLink RX2 128 yX2_shares, Cond.instanceMethod yX2_shares, Cond.selects RX2 yX2_shares yX2_shares, Cond.code yX2_shares cX2_shares 7 none, Cond.methodLink RX2 76 yX2_isBox, Cond.static yX2_isBox, Cond.code yX2_isBox cX2_isBox 1 (some .boolean), Cond.methodLink RX2 109 yX2_behind, Cond.instanceMethod yX2_behind, Cond.selects RX2 yX2_behind yX2_behind, Cond.code yX2_behind cX2_behind 5 none]
def wsX2_give : List Cond := .code yX2_give cX2_give 4 (some .int) :: ((wsX2_give_r1 ++ (wsX2_give_r2 ++ wsX2_give_r3)) ++ wsX20)
def wsX2_sum : List Cond := .code yX2_sum cX2_sum 2 (some .long) :: ([.fieldLink RX2 7 "MailRoomModel" "sums" "[J", .methodLink RX2 76 yX2_isBox, .static yX2_isBox, .initialized RX2, .code yX2_isBox cX2_isBox 1 (some .boolean), .methodLink RX2 72 yX2_in, .static yX2_in, .code yX2_in cX2_in 3 (some .boolean)] ++ wsX20)
def wsX2_counted : List Cond := .code yX2_counted cX2_counted 2 (some .int) :: ([.fieldLink RX2 13 "MailRoomModel" "counts" "[I", .methodLink RX2 76 yX2_isBox, .static yX2_isBox, .initialized RX2, .code yX2_isBox cX2_isBox 1 (some .boolean), .methodLink RX2 72 yX2_in, .static yX2_in, .code yX2_in cX2_in 3 (some .boolean)] ++ wsX20)
def wsX2_failed : List Cond := .code yX2_failed cX2_failed 3 (some .int) :: ([.fieldLink RX2 144 "MailRoomModel" "kept" "I", .fieldLink RX2 50 "MailRoomModel" "keptKinds" "[I", .fieldLink RX2 53 "MailRoomModel" "keptFailures" "[I", .methodLink RX2 72 yX2_in, .static yX2_in, .initialized RX2, .code yX2_in cX2_in 3 (some .boolean)] ++ wsX20)
def wsX2_value : List Cond := .code yX2_value cX2_value 2 (some .long) :: ([.fieldLink RX2 144 "MailRoomModel" "kept" "I", .fieldLink RX2 56 "MailRoomModel" "keptValues" "[J", .methodLink RX2 72 yX2_in, .static yX2_in, .initialized RX2, .code yX2_in cX2_in 3 (some .boolean)] ++ wsX20)
def wsX2_count : List Cond := .code yX2_count cX2_count 2 (some .int) :: ([.fieldLink RX2 86 "MailRoomModel" "size" "I", .fieldLink RX2 132 "MailRoomModel" "taken" "I", .fieldLink RX2 68 "MailRoomModel" "many" "I", .fieldLink RX2 141 "MailRoomModel" "fell" "I", .fieldLink RX2 112 "MailRoomModel" "latest" "I"] ++ wsX20)
def wsL_law_r1 : List Cond := [Cond.classLink RL 7 RX1, Cond.instantiable RX1 15, Cond.initialized RX1, Cond.classLink RL 10 RX2, Cond.instantiable RX2 28, Cond.initialized RX2, Cond.constantLong RL 13 (4294967295), Cond.methodLink RL 9 yX1_init, Cond.instanceMethod yX1_init, Cond.code yX1_init cX1_init 1 none, Cond.methodLink RX1 1 objectInit, Cond.instanceMethod objectInit, Cond.code objectInit ⟨#[0xb1]⟩ 1 none, Cond.arrayClass .long, Cond.fieldLink RX1 9 "MailRoom" "boxSums" "[J", Cond.arrayClass .int, Cond.fieldLink RX1 13 "MailRoom" "boxCounts" "[I", Cond.classLink RX1 17 RX0, Cond.fieldLink RX1 19 "MailRoom" "handlers" "[LMailRoom$Handler;", Cond.fieldLink RX1 23 "MailRoom" "queueKinds" "[I", Cond.fieldLink RX1 26 "MailRoom" "queueValues" "[J", Cond.fieldLink RX1 29 "MailRoom" "failedKinds" "[I", Cond.fieldLink RX1 32 "MailRoom" "failedNumbers" "[I", Cond.fieldLink RX1 35 "MailRoom" "failedValues" "[J"]
def wsL_law_r2 : List Cond := [Cond.instantiable RX0 8, Cond.initialized RX0, Cond.constantLong RX1 41 (-1), Cond.methodLink RX1 38 yX0_init, Cond.instanceMethod yX0_init, Cond.code yX0_init cX0_init 9 none, Cond.methodLink RX0 1 objectInit, Cond.fieldLink RX0 7 "MailRoom$Handler" "kind" "I", Cond.fieldLink RX0 13 "MailRoom$Handler" "sort" "I", Cond.fieldLink RX0 16 "MailRoom$Handler" "a" "I", Cond.fieldLink RX0 19 "MailRoom$Handler" "b" "I", Cond.fieldLink RX0 22 "MailRoom$Handler" "c" "J", Cond.fieldLink RX0 26 "MailRoom$Handler" "former" "LMailRoom$Handler;", Cond.fieldLink RX0 30 "MailRoom$Handler" "other" "LMailRoom$Handler;", Cond.fieldLink RX0 33 "MailRoom$Handler" "begun" "I", Cond.methodLink RL 12 yX2_init, Cond.instanceMethod yX2_init, Cond.code yX2_init cX2_init 2 none, Cond.methodLink RX2 1 objectInit, Cond.fieldLink RX2 7 "MailRoomModel" "sums" "[J", Cond.fieldLink RX2 13 "MailRoomModel" "counts" "[I", Cond.fieldLink RX2 17 "MailRoomModel" "sorts" "[I", Cond.fieldLink RX2 20 "MailRoomModel" "kinds" "[I", Cond.fieldLink RX2 23 "MailRoomModel" "as" "[I"]
def wsL_law_r3 : List Cond := [Cond.fieldLink RX2 26 "MailRoomModel" "bs" "[I", Cond.fieldLink RX2 29 "MailRoomModel" "cs" "[J", Cond.fieldLink RX2 32 "MailRoomModel" "formers" "[I", Cond.fieldLink RX2 35 "MailRoomModel" "others" "[I", Cond.fieldLink RX2 38 "MailRoomModel" "lets" "[I", Cond.fieldLink RX2 41 "MailRoomModel" "stands" "[I", Cond.fieldLink RX2 44 "MailRoomModel" "queueKinds" "[I", Cond.fieldLink RX2 47 "MailRoomModel" "queueValues" "[J", Cond.fieldLink RX2 50 "MailRoomModel" "keptKinds" "[I", Cond.fieldLink RX2 53 "MailRoomModel" "keptFailures" "[I", Cond.fieldLink RX2 56 "MailRoomModel" "keptValues" "[J", Cond.fieldLink RX2 59 "MailRoomModel" "which" "[I", Cond.fieldLink RX2 62 "MailRoomModel" "stage" "[I", Cond.fieldLink RX2 65 "MailRoomModel" "value" "[J", Cond.fieldLink RX2 68 "MailRoomModel" "many" "I", Cond.methodLink RL 15 yX1_handle, Cond.instanceMethod yX1_handle, Cond.selects RX1 yX1_handle yX1_handle, Cond.code yX1_handle cX1_handle 9 (some .int), Cond.fieldLink RX1 51 "MailRoom" "told" "I", Cond.methodLink RX1 43 yX1_isKind, Cond.static yX1_isKind, Cond.code yX1_isKind cX1_isKind 1 (some .boolean), Cond.methodLink RX1 47 yX1_namesKnown]
def wsL_law_r4 : List Cond := [Cond.static yX1_namesKnown, Cond.code yX1_namesKnown cX1_namesKnown 3 (some .boolean), Cond.methodLink RX1 75 yX1_isBox, Cond.static yX1_isBox, Cond.code yX1_isBox cX1_isBox 1 (some .boolean), Cond.methodLink RX1 55 yX1_handlerOf, Cond.instanceMethod yX1_handlerOf, Cond.selects RX1 yX1_handlerOf yX1_handlerOf, Cond.code yX1_handlerOf cX1_handlerOf 2 (some (.object "MailRoom$Handler")), Cond.methodLink RL 19 yX2_handle, Cond.instanceMethod yX2_handle, Cond.selects RX2 yX2_handle yX2_handle, Cond.code yX2_handle cX2_handle 8 (some .int), Cond.methodLink RX2 72 yX2_in, Cond.static yX2_in, Cond.code yX2_in cX2_in 3 (some .boolean), Cond.methodLink RX2 80 yX2_isKind, Cond.static yX2_isKind, Cond.code yX2_isKind cX2_isKind 1 (some .boolean), Cond.methodLink RX2 83 yX2_areKnown, Cond.static yX2_areKnown, Cond.code yX2_areKnown cX2_areKnown 3 (some .boolean), Cond.methodLink RX2 76 yX2_isBox, Cond.static yX2_isBox]
def wsL_law_r5 : List Cond := [Cond.code yX2_isBox cX2_isBox 1 (some .boolean), Cond.methodLink RL 20 yX1_drop, Cond.instanceMethod yX1_drop, Cond.selects RX1 yX1_drop yX1_drop, Cond.code yX1_drop cX1_drop 3 (some .int), Cond.methodLink RL 24 yX2_drop, Cond.instanceMethod yX2_drop, Cond.selects RX2 yX2_drop yX2_drop, Cond.code yX2_drop cX2_drop 3 (some .int), Cond.methodLink RL 25 yX1_has, Cond.instanceMethod yX1_has, Cond.selects RX1 yX1_has yX1_has, Cond.code yX1_has cX1_has 2 (some .int), Cond.methodLink RL 28 yX2_has, Cond.instanceMethod yX2_has, Cond.selects RX2 yX2_has yX2_has, Cond.code yX2_has cX2_has 2 (some .int), Cond.methodLink RL 29 yX1_post, Cond.instanceMethod yX1_post, Cond.selects RX1 yX1_post yX1_post, Cond.code yX1_post cX1_post 4 (some .int), Cond.fieldLink RX1 63 "MailRoom" "queueSize" "I", Cond.methodLink RX1 59 yX1_enqueue, Cond.instanceMethod yX1_enqueue]
def wsL_law_r6 : List Cond := [Cond.selects RX1 yX1_enqueue yX1_enqueue, Cond.code yX1_enqueue cX1_enqueue 5 (some .int), Cond.fieldLink RX1 87 "MailRoom" "queueFirst" "I", Cond.methodLink RL 33 yX2_post, Cond.instanceMethod yX2_post, Cond.selects RX2 yX2_post yX2_post, Cond.code yX2_post cX2_post 4 (some .int), Cond.fieldLink RX2 86 "MailRoomModel" "size" "I", Cond.methodLink RX2 89 yX2_comes, Cond.instanceMethod yX2_comes, Cond.selects RX2 yX2_comes yX2_comes, Cond.code yX2_comes cX2_comes 4 none, Cond.methodLink RL 34 yX1_take, Cond.instanceMethod yX1_take, Cond.selects RX1 yX1_take yX1_take, Cond.code yX1_take cX1_take 3 (some .int), Cond.fieldLink RX1 66 "MailRoom" "begunInCall" "I", Cond.methodLink RX1 69 yX1_takeFirst, Cond.instanceMethod yX1_takeFirst, Cond.selects RX1 yX1_takeFirst yX1_takeFirst, Cond.code yX1_takeFirst cX1_takeFirst 6 none, Cond.fieldLink RX1 81 "MailRoom" "taken" "I", Cond.methodLink RX1 72 yX1_deliver, Cond.instanceMethod yX1_deliver]
def wsL_law_r7 : List Cond := [Cond.selects RX1 yX1_deliver yX1_deliver, Cond.code yX1_deliver cX1_deliver 5 (some .int), Cond.fieldLink RX1 94 "MailRoom" "begunForLetter" "I", Cond.methodLink RX1 97 yX1_begin, Cond.instanceMethod yX1_begin, Cond.selects RX1 yX1_begin yX1_begin, Cond.code yX1_begin cX1_begin 5 (some .int), Cond.methodLink RX1 101 yX1_act, Cond.instanceMethod yX1_act, Cond.selects RX1 yX1_act yX1_act, Cond.code yX1_act cX1_act 5 (some .int), Cond.fieldLink RX1 104 "MailRoom$Handler" "sort" "I", Cond.fieldLink RX1 107 "MailRoom$Handler" "a" "I", Cond.fieldLink RX1 113 "MailRoom$Handler" "c" "J", Cond.fieldLink RX1 117 "MailRoom$Handler" "other" "LMailRoom$Handler;", Cond.methodLink RX1 110 yX1_keep, Cond.instanceMethod yX1_keep, Cond.selects RX1 yX1_keep yX1_keep, Cond.code yX1_keep cX1_keep 4 (some .int), Cond.methodLink RX1 121 yX1_sift, Cond.instanceMethod yX1_sift, Cond.selects RX1 yX1_sift yX1_sift, Cond.methodLink RX1 124 yX1_limit, Cond.instanceMethod yX1_limit]
def wsL_law_r8 : List Cond := [Cond.selects RX1 yX1_limit yX1_limit, Cond.methodLink RX1 127 yX1_once, Cond.instanceMethod yX1_once, Cond.selects RX1 yX1_once yX1_once, Cond.code yX1_once cX1_once 5 (some .int), Cond.fieldLink RX1 155 "MailRoom$Handler" "kind" "I", Cond.fieldLink RX1 146 "MailRoom$Handler" "former" "LMailRoom$Handler;", Cond.methodLink RX1 131 yX1_both, Cond.instanceMethod yX1_both, Cond.selects RX1 yX1_both yX1_both, Cond.methodLink RX1 134 yX1_share, Cond.instanceMethod yX1_share, Cond.selects RX1 yX1_share yX1_share, Cond.code yX1_share cX1_share 5 (some .int), Cond.fieldLink RX1 152 "MailRoom$Handler" "b" "I", Cond.methodLink RX1 137 yX1_keepFailure, Cond.instanceMethod yX1_keepFailure, Cond.selects RX1 yX1_keepFailure yX1_keepFailure, Cond.methodLink RX1 140 yX1_mean, Cond.instanceMethod yX1_mean, Cond.selects RX1 yX1_mean yX1_mean, Cond.methodLink RX1 143 yX1_keepAndSend, Cond.instanceMethod yX1_keepAndSend, Cond.selects RX1 yX1_keepAndSend yX1_keepAndSend]
def wsL_law_r9 : List Cond := [Cond.code yX1_keepAndSend cX1_keepAndSend 5 (some .int), Cond.code yX1_both cX1_both 6 (some .int), Cond.code yX1_keepFailure cX1_keepFailure 6 (some .int), Cond.code yX1_limit cX1_limit 5 (some .int), Cond.fieldLink RX1 149 "MailRoom$Handler" "begun" "I", Cond.code yX1_mean cX1_mean 7 (some .int), Cond.code yX1_sift cX1_sift 5 (some .int), Cond.methodLink RX1 90 yX1_noteFailed, Cond.instanceMethod yX1_noteFailed, Cond.selects RX1 yX1_noteFailed yX1_noteFailed, Cond.code yX1_noteFailed cX1_noteFailed 6 none, Cond.fieldLink RX1 84 "MailRoom" "failures" "I", Cond.methodLink RL 37 yX2_take, Cond.instanceMethod yX2_take, Cond.selects RX2 yX2_take yX2_take, Cond.code yX2_take cX2_take 7 (some .int), Cond.fieldLink RX2 112 "MailRoomModel" "latest" "I", Cond.fieldLink RX2 132 "MailRoomModel" "taken" "I", Cond.fieldLink RX2 93 "MailRoomModel" "failure" "I", Cond.methodLink RX2 135 yX2_go, Cond.instanceMethod yX2_go, Cond.selects RX2 yX2_go yX2_go, Cond.code yX2_go cX2_go 5 none, Cond.fieldLink RX2 96 "MailRoomModel" "top" "I"]
def wsL_law_r10 : List Cond := [Cond.fieldLink RX2 99 "MailRoomModel" "begun" "I", Cond.methodLink RX2 102 yX2_call, Cond.instanceMethod yX2_call, Cond.selects RX2 yX2_call yX2_call, Cond.code yX2_call cX2_call 4 none, Cond.methodLink RX2 105 yX2_begins, Cond.instanceMethod yX2_begins, Cond.selects RX2 yX2_begins yX2_begins, Cond.code yX2_begins cX2_begins 9 none, Cond.methodLink RX2 115 yX2_keep, Cond.instanceMethod yX2_keep, Cond.selects RX2 yX2_keep yX2_keep, Cond.code yX2_keep cX2_keep 4 none, Cond.methodLink RX2 118 yX2_ends, Cond.instanceMethod yX2_ends, Cond.selects RX2 yX2_ends yX2_ends, Cond.code yX2_ends cX2_ends 2 none, Cond.methodLink RX2 125 yX2_sends, Cond.instanceMethod yX2_sends, Cond.selects RX2 yX2_sends yX2_sends, Cond.code yX2_sends cX2_sends 4 none, Cond.methodLink RX2 122 yX2_goOn, Cond.instanceMethod yX2_goOn, Cond.selects RX2 yX2_goOn yX2_goOn]
def wsL_law_r11 : List Cond := [Cond.code yX2_goOn cX2_goOn 5 none, Cond.methodLink RX2 128 yX2_shares, Cond.instanceMethod yX2_shares, Cond.selects RX2 yX2_shares yX2_shares, Cond.code yX2_shares cX2_shares 7 none, Cond.methodLink RX2 109 yX2_behind, Cond.instanceMethod yX2_behind, Cond.selects RX2 yX2_behind yX2_behind, Cond.code yX2_behind cX2_behind 5 none, Cond.methodLink RX2 138 yX2_falls, Cond.instanceMethod yX2_falls, Cond.selects RX2 yX2_falls yX2_falls, Cond.code yX2_falls cX2_falls 4 none, Cond.fieldLink RX2 141 "MailRoomModel" "fell" "I", Cond.fieldLink RX2 144 "MailRoomModel" "kept" "I", Cond.methodLink RL 38 yX1_give, Cond.instanceMethod yX1_give, Cond.selects RX1 yX1_give yX1_give, Cond.code yX1_give cX1_give 5 (some .int), Cond.methodLink RL 41 yX2_give, Cond.instanceMethod yX2_give, Cond.selects RX2 yX2_give yX2_give, Cond.code yX2_give cX2_give 4 (some .int), Cond.methodLink RL 42 yX1_sum]
def wsL_law_r12 : List Cond := [Cond.instanceMethod yX1_sum, Cond.selects RX1 yX1_sum yX1_sum, Cond.code yX1_sum cX1_sum 2 (some .long), Cond.methodLink RL 46 yX2_sum, Cond.instanceMethod yX2_sum, Cond.selects RX2 yX2_sum yX2_sum, Cond.code yX2_sum cX2_sum 2 (some .long), Cond.methodLink RL 47 yX1_counted, Cond.instanceMethod yX1_counted, Cond.selects RX1 yX1_counted yX1_counted, Cond.code yX1_counted cX1_counted 2 (some .int), Cond.methodLink RL 50 yX2_counted, Cond.instanceMethod yX2_counted, Cond.selects RX2 yX2_counted yX2_counted, Cond.code yX2_counted cX2_counted 2 (some .int), Cond.methodLink RL 51 yX1_failed, Cond.instanceMethod yX1_failed, Cond.selects RX1 yX1_failed yX1_failed, Cond.code yX1_failed cX1_failed 3 (some .int), Cond.methodLink RX1 78 yX1_isFailedKept, Cond.instanceMethod yX1_isFailedKept, Cond.selects RX1 yX1_isFailedKept yX1_isFailedKept, Cond.code yX1_isFailedKept cX1_isFailedKept 2 (some .boolean), Cond.methodLink RL 55 yX2_failed]
def wsL_law_r13 : List Cond := [Cond.instanceMethod yX2_failed, Cond.selects RX2 yX2_failed yX2_failed, Cond.code yX2_failed cX2_failed 3 (some .int), Cond.methodLink RL 56 yX1_value, Cond.instanceMethod yX1_value, Cond.selects RX1 yX1_value yX1_value, Cond.code yX1_value cX1_value 2 (some .long), Cond.methodLink RL 59 yX2_value, Cond.instanceMethod yX2_value, Cond.selects RX2 yX2_value yX2_value, Cond.code yX2_value cX2_value 2 (some .long), Cond.methodLink RL 60 yX1_count, Cond.instanceMethod yX1_count, Cond.selects RX1 yX1_count yX1_count, Cond.code yX1_count cX1_count 2 (some .int), Cond.methodLink RL 63 yX2_count, Cond.instanceMethod yX2_count, Cond.selects RX2 yX2_count yX2_count, Cond.code yX2_count cX2_count 2 (some .int)]
def wsL_law : List Cond := (wsL_law_r1 ++ (wsL_law_r2 ++ (wsL_law_r3 ++ (wsL_law_r4 ++ (wsL_law_r5 ++ (wsL_law_r6 ++ (wsL_law_r7 ++ (wsL_law_r8 ++ (wsL_law_r9 ++ (wsL_law_r10 ++ (wsL_law_r11 ++ (wsL_law_r12 ++ wsL_law_r13)))))))))))) ++ wsX10 ++ wsX20 ++ wsX00 ++ ([] : List Cond)
abbrev vwCl : List vw_C := [(RX0, TX0, 8), (RX1, TX1, 15), (RX2, TX2, 28)]
end
section
theorem dX0_init_0 : decode cX0_init 0 = .ok (.aload_n 0, 1) := by decide +kernel
theorem dX0_init_1 : decode cX0_init 1 = .ok (.invokespecial 1, 3) := by decide +kernel
theorem dX0_init_4 : decode cX0_init 4 = .ok (.aload_n 0, 1) := by decide +kernel
theorem dX0_init_5 : decode cX0_init 5 = .ok (.iload_n 1, 1) := by decide +kernel
theorem dX0_init_6 : decode cX0_init 6 = .ok (.putfield 7, 3) := by decide +kernel
theorem dX0_init_9 : decode cX0_init 9 = .ok (.aload_n 0, 1) := by decide +kernel
theorem dX0_init_10 : decode cX0_init 10 = .ok (.iload_n 2, 1) := by decide +kernel
theorem dX0_init_11 : decode cX0_init 11 = .ok (.putfield 13, 3) := by decide +kernel
theorem dX0_init_14 : decode cX0_init 14 = .ok (.aload_n 0, 1) := by decide +kernel
theorem dX0_init_15 : decode cX0_init 15 = .ok (.iload_n 3, 1) := by decide +kernel
theorem dX0_init_16 : decode cX0_init 16 = .ok (.putfield 16, 3) := by decide +kernel
theorem dX0_init_19 : decode cX0_init 19 = .ok (.aload_n 0, 1) := by decide +kernel
theorem dX0_init_20 : decode cX0_init 20 = .ok (.iload 4, 2) := by decide +kernel
theorem dX0_init_22 : decode cX0_init 22 = .ok (.putfield 19, 3) := by decide +kernel
theorem dX0_init_25 : decode cX0_init 25 = .ok (.aload_n 0, 1) := by decide +kernel
theorem dX0_init_26 : decode cX0_init 26 = .ok (.lload 5, 2) := by decide +kernel
theorem dX0_init_28 : decode cX0_init 28 = .ok (.putfield 22, 3) := by decide +kernel
theorem dX0_init_31 : decode cX0_init 31 = .ok (.aload_n 0, 1) := by decide +kernel
theorem dX0_init_32 : decode cX0_init 32 = .ok (.aload 7, 2) := by decide +kernel
theorem dX0_init_34 : decode cX0_init 34 = .ok (.putfield 26, 3) := by decide +kernel
theorem dX0_init_37 : decode cX0_init 37 = .ok (.aload_n 0, 1) := by decide +kernel
theorem dX0_init_38 : decode cX0_init 38 = .ok (.aload 8, 2) := by decide +kernel
theorem dX0_init_40 : decode cX0_init 40 = .ok (.putfield 30, 3) := by decide +kernel
theorem dX0_init_43 : decode cX0_init 43 = .ok (.aload_n 0, 1) := by decide +kernel
theorem dX0_init_44 : decode cX0_init 44 = .ok (.iconst 0, 1) := by decide +kernel
theorem dX0_init_45 : decode cX0_init 45 = .ok (.putfield 33, 3) := by decide +kernel
theorem dX0_init_48 : decode cX0_init 48 = .ok (.return_, 1) := by decide +kernel
set_option maxRecDepth 20000 in
theorem ggX1_init_X0_init : GoodIn wsX1_init wsX0_init := goodIn_r _ [20, 21, 2, 3, 22, 23, 24, 25, 26, 27, 28, 29, 45, 46, 47, 48, 49, 50, 51, 52] (by decide +kernel) (by decide +kernel)
set_option maxRecDepth 20000 in
theorem gX1_init_X0_init : GoodIn wsX1_init (wsX0_init) := ggX1_init_X0_init
theorem dX1_init_0 : decode cX1_init 0 = .ok (.aload_n 0, 1) := by decide +kernel
theorem dX1_init_1 : decode cX1_init 1 = .ok (.invokespecial 1, 3) := by decide +kernel
theorem dX1_init_4 : decode cX1_init 4 = .ok (.aload_n 0, 1) := by decide +kernel
theorem dX1_init_5 : decode cX1_init 5 = .ok (.bipush 6, 2) := by decide +kernel
theorem dX1_init_7 : decode cX1_init 7 = .ok (.newarray .long, 2) := by decide +kernel
theorem dX1_init_9 : decode cX1_init 9 = .ok (.putfield 9, 3) := by decide +kernel
theorem dX1_init_12 : decode cX1_init 12 = .ok (.aload_n 0, 1) := by decide +kernel
theorem dX1_init_13 : decode cX1_init 13 = .ok (.bipush 6, 2) := by decide +kernel
theorem dX1_init_15 : decode cX1_init 15 = .ok (.newarray .int, 2) := by decide +kernel
theorem dX1_init_17 : decode cX1_init 17 = .ok (.putfield 13, 3) := by decide +kernel
theorem dX1_init_20 : decode cX1_init 20 = .ok (.aload_n 0, 1) := by decide +kernel
theorem dX1_init_21 : decode cX1_init 21 = .ok (.bipush 10, 2) := by decide +kernel
theorem dX1_init_23 : decode cX1_init 23 = .ok (.anewarray 17, 3) := by decide +kernel
theorem dX1_init_26 : decode cX1_init 26 = .ok (.putfield 19, 3) := by decide +kernel
theorem dX1_init_29 : decode cX1_init 29 = .ok (.aload_n 0, 1) := by decide +kernel
theorem dX1_init_30 : decode cX1_init 30 = .ok (.bipush 40, 2) := by decide +kernel
theorem dX1_init_32 : decode cX1_init 32 = .ok (.newarray .int, 2) := by decide +kernel
theorem dX1_init_34 : decode cX1_init 34 = .ok (.putfield 23, 3) := by decide +kernel
theorem dX1_init_37 : decode cX1_init 37 = .ok (.aload_n 0, 1) := by decide +kernel
theorem dX1_init_38 : decode cX1_init 38 = .ok (.bipush 40, 2) := by decide +kernel
theorem dX1_init_40 : decode cX1_init 40 = .ok (.newarray .long, 2) := by decide +kernel
theorem dX1_init_42 : decode cX1_init 42 = .ok (.putfield 26, 3) := by decide +kernel
theorem dX1_init_45 : decode cX1_init 45 = .ok (.aload_n 0, 1) := by decide +kernel
theorem dX1_init_46 : decode cX1_init 46 = .ok (.bipush 30, 2) := by decide +kernel
theorem dX1_init_48 : decode cX1_init 48 = .ok (.newarray .int, 2) := by decide +kernel
theorem dX1_init_50 : decode cX1_init 50 = .ok (.putfield 29, 3) := by decide +kernel
theorem dX1_init_53 : decode cX1_init 53 = .ok (.aload_n 0, 1) := by decide +kernel
theorem dX1_init_54 : decode cX1_init 54 = .ok (.bipush 30, 2) := by decide +kernel
theorem dX1_init_56 : decode cX1_init 56 = .ok (.newarray .int, 2) := by decide +kernel
theorem dX1_init_58 : decode cX1_init 58 = .ok (.putfield 32, 3) := by decide +kernel
theorem dX1_init_61 : decode cX1_init 61 = .ok (.aload_n 0, 1) := by decide +kernel
theorem dX1_init_62 : decode cX1_init 62 = .ok (.bipush 30, 2) := by decide +kernel
theorem dX1_init_64 : decode cX1_init 64 = .ok (.newarray .long, 2) := by decide +kernel
theorem dX1_init_66 : decode cX1_init 66 = .ok (.putfield 35, 3) := by decide +kernel
theorem dX1_init_69 : decode cX1_init 69 = .ok (.aload_n 0, 1) := by decide +kernel
theorem dX1_init_70 : decode cX1_init 70 = .ok (.getfield 19, 3) := by decide +kernel
theorem dX1_init_73 : decode cX1_init 73 = .ok (.iconst 0, 1) := by decide +kernel
theorem dX1_init_74 : decode cX1_init 74 = .ok (.new 17, 3) := by decide +kernel
theorem dX1_init_77 : decode cX1_init 77 = .ok (.dup, 1) := by decide +kernel
theorem dX1_init_78 : decode cX1_init 78 = .ok (.iconst 0, 1) := by decide +kernel
theorem dX1_init_79 : decode cX1_init 79 = .ok (.iconst 0, 1) := by decide +kernel
theorem dX1_init_80 : decode cX1_init 80 = .ok (.iconst 0, 1) := by decide +kernel
theorem dX1_init_81 : decode cX1_init 81 = .ok (.iconst 0, 1) := by decide +kernel
theorem dX1_init_82 : decode cX1_init 82 = .ok (.lconst 0, 1) := by decide +kernel
theorem dX1_init_83 : decode cX1_init 83 = .ok (.aconst_null, 1) := by decide +kernel
theorem dX1_init_84 : decode cX1_init 84 = .ok (.aconst_null, 1) := by decide +kernel
theorem dX1_init_85 : decode cX1_init 85 = .ok (.invokespecial 38, 3) := by decide +kernel
theorem dX1_init_88 : decode cX1_init 88 = .ok (.aastore, 1) := by decide +kernel
theorem dX1_init_89 : decode cX1_init 89 = .ok (.aload_n 0, 1) := by decide +kernel
theorem dX1_init_90 : decode cX1_init 90 = .ok (.getfield 19, 3) := by decide +kernel
theorem dX1_init_93 : decode cX1_init 93 = .ok (.iconst 1, 1) := by decide +kernel
theorem dX1_init_94 : decode cX1_init 94 = .ok (.new 17, 3) := by decide +kernel
theorem dX1_init_97 : decode cX1_init 97 = .ok (.dup, 1) := by decide +kernel
theorem dX1_init_98 : decode cX1_init 98 = .ok (.iconst 1, 1) := by decide +kernel
theorem dX1_init_99 : decode cX1_init 99 = .ok (.bipush 12, 2) := by decide +kernel
theorem dX1_init_101 : decode cX1_init 101 = .ok (.iconst 1, 1) := by decide +kernel
theorem dX1_init_102 : decode cX1_init 102 = .ok (.iconst 0, 1) := by decide +kernel
theorem dX1_init_103 : decode cX1_init 103 = .ok (.ldc2_w 41, 3) := by decide +kernel
theorem dX1_init_106 : decode cX1_init 106 = .ok (.aconst_null, 1) := by decide +kernel
theorem dX1_init_107 : decode cX1_init 107 = .ok (.aconst_null, 1) := by decide +kernel
theorem dX1_init_108 : decode cX1_init 108 = .ok (.invokespecial 38, 3) := by decide +kernel
theorem dX1_init_111 : decode cX1_init 111 = .ok (.aastore, 1) := by decide +kernel
theorem dX1_init_112 : decode cX1_init 112 = .ok (.return_, 1) := by decide +kernel
set_option maxRecDepth 20000 in
theorem ggX1_handle_X1_isKind : GoodIn wsX1_handle wsX1_isKind := goodIn_r _ [9] (by decide +kernel) (by decide +kernel)
set_option maxRecDepth 20000 in
theorem gX1_handle_X1_isKind : GoodIn wsX1_handle (va_wsS RX1 43 yX1_isKind wsX1_isKind) := goodIn_app (goodIn_of _ (by decide +kernel)) ggX1_handle_X1_isKind
set_option maxRecDepth 20000 in
theorem ggX1_handle_X1_namesKnown : GoodIn wsX1_handle wsX1_namesKnown := goodIn_r _ [12, 13, 14, 8, 15, 6, 7, 9] (by decide +kernel) (by decide +kernel)
set_option maxRecDepth 20000 in
theorem gX1_handle_X1_namesKnown : GoodIn wsX1_handle (va_wsS RX1 47 yX1_namesKnown wsX1_namesKnown) := goodIn_app (goodIn_of _ (by decide +kernel)) ggX1_handle_X1_namesKnown
set_option maxRecDepth 20000 in
theorem ggX1_handle_X1_handlerOf : GoodIn wsX1_handle wsX1_handlerOf := goodIn_r _ [19, 2, 6, 7, 8, 9, 34, 35, 36, 37, 38, 39, 40, 41, 42, 43, 44, 45, 46, 47, 48] (by decide +kernel) (by decide +kernel)
set_option maxRecDepth 20000 in
theorem gX1_handle_X1_handlerOf : GoodIn wsX1_handle (wsV RX1 55 RX1 yX1_handlerOf wsX1_handlerOf) := goodIn_app (goodIn_of _ (by decide +kernel)) ggX1_handle_X1_handlerOf
set_option maxRecDepth 20000 in
theorem ggX1_handle_X0_init : GoodIn wsX1_handle wsX0_init := goodIn_r _ [22, 23, 24, 25, 26, 27, 28, 29, 30, 31, 32, 33, 49, 50, 51, 52, 53, 54, 55, 56] (by decide +kernel) (by decide +kernel)
set_option maxRecDepth 20000 in
theorem gX1_handle_X0_init : GoodIn wsX1_handle (wsX0_init) := ggX1_handle_X0_init
theorem dX1_handle_0 : decode cX1_handle 0 = .ok (.iload_n 2, 1) := by decide +kernel
theorem dX1_handle_1 : decode cX1_handle 1 = .ok (.ifCond .lt 9, 3) := by decide +kernel
theorem dX1_handle_4 : decode cX1_handle 4 = .ok (.iload_n 2, 1) := by decide +kernel
theorem dX1_handle_5 : decode cX1_handle 5 = .ok (.bipush 11, 2) := by decide +kernel
theorem dX1_handle_7 : decode cX1_handle 7 = .ok (.if_icmp .le 6, 3) := by decide +kernel
theorem dX1_handle_10 : decode cX1_handle 10 = .ok (.bipush (-3), 2) := by decide +kernel
theorem dX1_handle_12 : decode cX1_handle 12 = .ok (.ireturn, 1) := by decide +kernel
theorem dX1_handle_13 : decode cX1_handle 13 = .ok (.iload_n 1, 1) := by decide +kernel
theorem dX1_handle_14 : decode cX1_handle 14 = .ok (.invokestatic 43, 3) := by decide +kernel
theorem dX1_handle_17 : decode cX1_handle 17 = .ok (.ifCond .eq 13, 3) := by decide +kernel
theorem dX1_handle_20 : decode cX1_handle 20 = .ok (.iload_n 2, 1) := by decide +kernel
theorem dX1_handle_21 : decode cX1_handle 21 = .ok (.iload_n 3, 1) := by decide +kernel
theorem dX1_handle_22 : decode cX1_handle 22 = .ok (.iload 4, 2) := by decide +kernel
theorem dX1_handle_24 : decode cX1_handle 24 = .ok (.invokestatic 47, 3) := by decide +kernel
theorem dX1_handle_27 : decode cX1_handle 27 = .ok (.ifCond .ne 6, 3) := by decide +kernel
theorem dX1_handle_30 : decode cX1_handle 30 = .ok (.bipush (-2), 2) := by decide +kernel
theorem dX1_handle_32 : decode cX1_handle 32 = .ok (.ireturn, 1) := by decide +kernel
theorem dX1_handle_33 : decode cX1_handle 33 = .ok (.iload_n 2, 1) := by decide +kernel
theorem dX1_handle_34 : decode cX1_handle 34 = .ok (.iconst 5, 1) := by decide +kernel
theorem dX1_handle_35 : decode cX1_handle 35 = .ok (.if_icmp .ne 18, 3) := by decide +kernel
theorem dX1_handle_38 : decode cX1_handle 38 = .ok (.iload 4, 2) := by decide +kernel
theorem dX1_handle_40 : decode cX1_handle 40 = .ok (.ifCond .lt 10, 3) := by decide +kernel
theorem dX1_handle_43 : decode cX1_handle 43 = .ok (.iload 4, 2) := by decide +kernel
theorem dX1_handle_45 : decode cX1_handle 45 = .ok (.bipush 100, 2) := by decide +kernel
theorem dX1_handle_47 : decode cX1_handle 47 = .ok (.if_icmp .le 6, 3) := by decide +kernel
theorem dX1_handle_50 : decode cX1_handle 50 = .ok (.bipush (-3), 2) := by decide +kernel
theorem dX1_handle_52 : decode cX1_handle 52 = .ok (.ireturn, 1) := by decide +kernel
theorem dX1_handle_53 : decode cX1_handle 53 = .ok (.aload_n 0, 1) := by decide +kernel
theorem dX1_handle_54 : decode cX1_handle 54 = .ok (.getfield 51, 3) := by decide +kernel
theorem dX1_handle_57 : decode cX1_handle 57 = .ok (.sipush 200, 3) := by decide +kernel
theorem dX1_handle_60 : decode cX1_handle 60 = .ok (.if_icmp .lt 6, 3) := by decide +kernel
theorem dX1_handle_63 : decode cX1_handle 63 = .ok (.bipush (-4), 2) := by decide +kernel
theorem dX1_handle_65 : decode cX1_handle 65 = .ok (.ireturn, 1) := by decide +kernel
theorem dX1_handle_66 : decode cX1_handle 66 = .ok (.aload_n 0, 1) := by decide +kernel
theorem dX1_handle_67 : decode cX1_handle 67 = .ok (.getfield 19, 3) := by decide +kernel
theorem dX1_handle_70 : decode cX1_handle 70 = .ok (.iload_n 1, 1) := by decide +kernel
theorem dX1_handle_71 : decode cX1_handle 71 = .ok (.aaload, 1) := by decide +kernel
theorem dX1_handle_72 : decode cX1_handle 72 = .ok (.astore 7, 2) := by decide +kernel
theorem dX1_handle_74 : decode cX1_handle 74 = .ok (.iload_n 2, 1) := by decide +kernel
theorem dX1_handle_75 : decode cX1_handle 75 = .ok (.iconst 2, 1) := by decide +kernel
theorem dX1_handle_76 : decode cX1_handle 76 = .ok (.if_icmp .eq 9, 3) := by decide +kernel
theorem dX1_handle_79 : decode cX1_handle 79 = .ok (.iload_n 2, 1) := by decide +kernel
theorem dX1_handle_80 : decode cX1_handle 80 = .ok (.bipush 7, 2) := by decide +kernel
theorem dX1_handle_82 : decode cX1_handle 82 = .ok (.if_icmp .ne 11, 3) := by decide +kernel
theorem dX1_handle_85 : decode cX1_handle 85 = .ok (.aload_n 0, 1) := by decide +kernel
theorem dX1_handle_86 : decode cX1_handle 86 = .ok (.iload_n 3, 1) := by decide +kernel
theorem dX1_handle_87 : decode cX1_handle 87 = .ok (.invokevirtual 55, 3) := by decide +kernel
theorem dX1_handle_90 : decode cX1_handle 90 = .ok (.goto 4, 3) := by decide +kernel
theorem dX1_handle_93 : decode cX1_handle 93 = .ok (.aconst_null, 1) := by decide +kernel
theorem dX1_handle_94 : decode cX1_handle 94 = .ok (.astore 8, 2) := by decide +kernel
theorem dX1_handle_96 : decode cX1_handle 96 = .ok (.aload_n 0, 1) := by decide +kernel
theorem dX1_handle_97 : decode cX1_handle 97 = .ok (.getfield 19, 3) := by decide +kernel
theorem dX1_handle_100 : decode cX1_handle 100 = .ok (.iload_n 1, 1) := by decide +kernel
theorem dX1_handle_101 : decode cX1_handle 101 = .ok (.new 17, 3) := by decide +kernel
theorem dX1_handle_104 : decode cX1_handle 104 = .ok (.dup, 1) := by decide +kernel
theorem dX1_handle_105 : decode cX1_handle 105 = .ok (.iload_n 1, 1) := by decide +kernel
theorem dX1_handle_106 : decode cX1_handle 106 = .ok (.iload_n 2, 1) := by decide +kernel
theorem dX1_handle_107 : decode cX1_handle 107 = .ok (.iload_n 3, 1) := by decide +kernel
theorem dX1_handle_108 : decode cX1_handle 108 = .ok (.iload 4, 2) := by decide +kernel
theorem dX1_handle_110 : decode cX1_handle 110 = .ok (.lload 5, 2) := by decide +kernel
theorem dX1_handle_112 : decode cX1_handle 112 = .ok (.aload 7, 2) := by decide +kernel
theorem dX1_handle_114 : decode cX1_handle 114 = .ok (.aload 8, 2) := by decide +kernel
theorem dX1_handle_116 : decode cX1_handle 116 = .ok (.invokespecial 38, 3) := by decide +kernel
theorem dX1_handle_119 : decode cX1_handle 119 = .ok (.aastore, 1) := by decide +kernel
theorem dX1_handle_120 : decode cX1_handle 120 = .ok (.aload_n 0, 1) := by decide +kernel
theorem dX1_handle_121 : decode cX1_handle 121 = .ok (.dup, 1) := by decide +kernel
theorem dX1_handle_122 : decode cX1_handle 122 = .ok (.getfield 51, 3) := by decide +kernel
theorem dX1_handle_125 : decode cX1_handle 125 = .ok (.iconst 1, 1) := by decide +kernel
theorem dX1_handle_126 : decode cX1_handle 126 = .ok (.iadd, 1) := by decide +kernel
theorem dX1_handle_127 : decode cX1_handle 127 = .ok (.putfield 51, 3) := by decide +kernel
theorem dX1_handle_130 : decode cX1_handle 130 = .ok (.aload 7, 2) := by decide +kernel
theorem dX1_handle_132 : decode cX1_handle 132 = .ok (.ifnull 7, 3) := by decide +kernel
theorem dX1_handle_135 : decode cX1_handle 135 = .ok (.iconst 1, 1) := by decide +kernel
theorem dX1_handle_136 : decode cX1_handle 136 = .ok (.goto 4, 3) := by decide +kernel
theorem dX1_handle_139 : decode cX1_handle 139 = .ok (.iconst 0, 1) := by decide +kernel
theorem dX1_handle_140 : decode cX1_handle 140 = .ok (.ireturn, 1) := by decide +kernel
set_option maxRecDepth 20000 in
theorem ggX1_drop_X1_isKind : GoodIn wsX1_drop wsX1_isKind := goodIn_r _ [5] (by decide +kernel) (by decide +kernel)
set_option maxRecDepth 20000 in
theorem gX1_drop_X1_isKind : GoodIn wsX1_drop (va_wsS RX1 43 yX1_isKind wsX1_isKind) := goodIn_app (goodIn_of _ (by decide +kernel)) ggX1_drop_X1_isKind
theorem dX1_drop_0 : decode cX1_drop 0 = .ok (.iload_n 1, 1) := by decide +kernel
theorem dX1_drop_1 : decode cX1_drop 1 = .ok (.invokestatic 43, 3) := by decide +kernel
theorem dX1_drop_4 : decode cX1_drop 4 = .ok (.ifCond .ne 6, 3) := by decide +kernel
theorem dX1_drop_7 : decode cX1_drop 7 = .ok (.bipush (-2), 2) := by decide +kernel
theorem dX1_drop_9 : decode cX1_drop 9 = .ok (.ireturn, 1) := by decide +kernel
theorem dX1_drop_10 : decode cX1_drop 10 = .ok (.aload_n 0, 1) := by decide +kernel
theorem dX1_drop_11 : decode cX1_drop 11 = .ok (.getfield 19, 3) := by decide +kernel
theorem dX1_drop_14 : decode cX1_drop 14 = .ok (.iload_n 1, 1) := by decide +kernel
theorem dX1_drop_15 : decode cX1_drop 15 = .ok (.aaload, 1) := by decide +kernel
theorem dX1_drop_16 : decode cX1_drop 16 = .ok (.ifnull 7, 3) := by decide +kernel
theorem dX1_drop_19 : decode cX1_drop 19 = .ok (.iconst 1, 1) := by decide +kernel
theorem dX1_drop_20 : decode cX1_drop 20 = .ok (.goto 4, 3) := by decide +kernel
theorem dX1_drop_23 : decode cX1_drop 23 = .ok (.iconst 0, 1) := by decide +kernel
theorem dX1_drop_24 : decode cX1_drop 24 = .ok (.istore_n 2, 1) := by decide +kernel
theorem dX1_drop_25 : decode cX1_drop 25 = .ok (.aload_n 0, 1) := by decide +kernel
theorem dX1_drop_26 : decode cX1_drop 26 = .ok (.getfield 19, 3) := by decide +kernel
theorem dX1_drop_29 : decode cX1_drop 29 = .ok (.iload_n 1, 1) := by decide +kernel
theorem dX1_drop_30 : decode cX1_drop 30 = .ok (.aconst_null, 1) := by decide +kernel
theorem dX1_drop_31 : decode cX1_drop 31 = .ok (.aastore, 1) := by decide +kernel
theorem dX1_drop_32 : decode cX1_drop 32 = .ok (.iload_n 2, 1) := by decide +kernel
theorem dX1_drop_33 : decode cX1_drop 33 = .ok (.ireturn, 1) := by decide +kernel
set_option maxRecDepth 20000 in
theorem ggX1_has_X1_isKind : GoodIn wsX1_has wsX1_isKind := goodIn_r _ [5] (by decide +kernel) (by decide +kernel)
set_option maxRecDepth 20000 in
theorem gX1_has_X1_isKind : GoodIn wsX1_has (va_wsS RX1 43 yX1_isKind wsX1_isKind) := goodIn_app (goodIn_of _ (by decide +kernel)) ggX1_has_X1_isKind
theorem dX1_has_0 : decode cX1_has 0 = .ok (.iload_n 1, 1) := by decide +kernel
theorem dX1_has_1 : decode cX1_has 1 = .ok (.invokestatic 43, 3) := by decide +kernel
theorem dX1_has_4 : decode cX1_has 4 = .ok (.ifCond .ne 6, 3) := by decide +kernel
theorem dX1_has_7 : decode cX1_has 7 = .ok (.bipush (-2), 2) := by decide +kernel
theorem dX1_has_9 : decode cX1_has 9 = .ok (.ireturn, 1) := by decide +kernel
theorem dX1_has_10 : decode cX1_has 10 = .ok (.aload_n 0, 1) := by decide +kernel
theorem dX1_has_11 : decode cX1_has 11 = .ok (.getfield 19, 3) := by decide +kernel
theorem dX1_has_14 : decode cX1_has 14 = .ok (.iload_n 1, 1) := by decide +kernel
theorem dX1_has_15 : decode cX1_has 15 = .ok (.aaload, 1) := by decide +kernel
theorem dX1_has_16 : decode cX1_has 16 = .ok (.ifnull 7, 3) := by decide +kernel
theorem dX1_has_19 : decode cX1_has 19 = .ok (.iconst 1, 1) := by decide +kernel
theorem dX1_has_20 : decode cX1_has 20 = .ok (.goto 4, 3) := by decide +kernel
theorem dX1_has_23 : decode cX1_has 23 = .ok (.iconst 0, 1) := by decide +kernel
theorem dX1_has_24 : decode cX1_has 24 = .ok (.ireturn, 1) := by decide +kernel
set_option maxRecDepth 20000 in
theorem ggX1_post_X1_isKind : GoodIn wsX1_post wsX1_isKind := goodIn_r _ [5] (by decide +kernel) (by decide +kernel)
set_option maxRecDepth 20000 in
theorem gX1_post_X1_isKind : GoodIn wsX1_post (va_wsS RX1 43 yX1_isKind wsX1_isKind) := goodIn_app (goodIn_of _ (by decide +kernel)) ggX1_post_X1_isKind
set_option maxRecDepth 20000 in
theorem ggX1_post_X1_enqueue : GoodIn wsX1_post wsX1_enqueue := goodIn_r _ [9, 1, 10, 11, 12, 13, 14, 15, 16, 17, 18, 19, 20, 21, 22, 23, 24, 25, 26, 27] (by decide +kernel) (by decide +kernel)
set_option maxRecDepth 20000 in
theorem gX1_post_X1_enqueue : GoodIn wsX1_post (wsV RX1 59 RX1 yX1_enqueue wsX1_enqueue) := goodIn_app (goodIn_of _ (by decide +kernel)) ggX1_post_X1_enqueue
theorem dX1_post_0 : decode cX1_post 0 = .ok (.iload_n 1, 1) := by decide +kernel
theorem dX1_post_1 : decode cX1_post 1 = .ok (.invokestatic 43, 3) := by decide +kernel
theorem dX1_post_4 : decode cX1_post 4 = .ok (.ifCond .ne 6, 3) := by decide +kernel
theorem dX1_post_7 : decode cX1_post 7 = .ok (.bipush (-2), 2) := by decide +kernel
theorem dX1_post_9 : decode cX1_post 9 = .ok (.ireturn, 1) := by decide +kernel
theorem dX1_post_10 : decode cX1_post 10 = .ok (.aload_n 0, 1) := by decide +kernel
theorem dX1_post_11 : decode cX1_post 11 = .ok (.iload_n 1, 1) := by decide +kernel
theorem dX1_post_12 : decode cX1_post 12 = .ok (.lload_n 2, 1) := by decide +kernel
theorem dX1_post_13 : decode cX1_post 13 = .ok (.invokevirtual 59, 3) := by decide +kernel
theorem dX1_post_16 : decode cX1_post 16 = .ok (.ifCond .ne 10, 3) := by decide +kernel
theorem dX1_post_19 : decode cX1_post 19 = .ok (.aload_n 0, 1) := by decide +kernel
theorem dX1_post_20 : decode cX1_post 20 = .ok (.getfield 63, 3) := by decide +kernel
theorem dX1_post_23 : decode cX1_post 23 = .ok (.goto 5, 3) := by decide +kernel
theorem dX1_post_26 : decode cX1_post 26 = .ok (.bipush (-4), 2) := by decide +kernel
theorem dX1_post_28 : decode cX1_post 28 = .ok (.ireturn, 1) := by decide +kernel
set_option maxRecDepth 20000 in
theorem ggX1_take_X1_takeFirst : GoodIn wsX1_take wsX1_takeFirst := goodIn_r _ [7, 8, 9, 10, 2, 11, 12, 13, 14, 6, 15, 16, 1, 17, 18, 19, 20, 21, 22, 23, 24, 25, 26, 27, 28, 29, 30, 31, 32, 33, 34, 35, 36, 37, 38, 39, 40, 41, 42, 43, 44, 45, 46, 47, 48, 49, 50, 51, 52, 53, 54, 55, 56, 57, 58, 59, 60, 61, 62, 63, 64, 65, 66, 67, 68, 69, 70, 71, 72, 73, 74, 75, 76, 77, 78, 79, 80, 81, 82, 83, 84, 85, 86, 87, 88, 89, 90, 91, 92, 93, 94, 95, 96, 97, 98, 99, 100, 101, 102, 103, 104, 105, 106, 107, 108, 109, 110, 111, 112, 113, 114, 115, 116] (by decide +kernel) (by decide +kernel)
set_option maxRecDepth 20000 in
theorem gX1_take_X1_takeFirst : GoodIn wsX1_take (wsV RX1 69 RX1 yX1_takeFirst wsX1_takeFirst) := goodIn_app (goodIn_of _ (by decide +kernel)) ggX1_take_X1_takeFirst
theorem dX1_take_0 : decode cX1_take 0 = .ok (.iload_n 1, 1) := by decide +kernel
theorem dX1_take_1 : decode cX1_take 1 = .ok (.iconst 1, 1) := by decide +kernel
theorem dX1_take_2 : decode cX1_take 2 = .ok (.if_icmp .lt 9, 3) := by decide +kernel
theorem dX1_take_5 : decode cX1_take 5 = .ok (.iload_n 1, 1) := by decide +kernel
theorem dX1_take_6 : decode cX1_take 6 = .ok (.bipush 6, 2) := by decide +kernel
theorem dX1_take_8 : decode cX1_take 8 = .ok (.if_icmp .le 6, 3) := by decide +kernel
theorem dX1_take_11 : decode cX1_take 11 = .ok (.bipush (-3), 2) := by decide +kernel
theorem dX1_take_13 : decode cX1_take 13 = .ok (.ireturn, 1) := by decide +kernel
theorem dX1_take_14 : decode cX1_take 14 = .ok (.aload_n 0, 1) := by decide +kernel
theorem dX1_take_15 : decode cX1_take 15 = .ok (.iconst 0, 1) := by decide +kernel
theorem dX1_take_16 : decode cX1_take 16 = .ok (.putfield 66, 3) := by decide +kernel
theorem dX1_take_19 : decode cX1_take 19 = .ok (.iconst 0, 1) := by decide +kernel
theorem dX1_take_20 : decode cX1_take 20 = .ok (.istore_n 2, 1) := by decide +kernel
theorem dX1_take_21 : decode cX1_take 21 = .ok (.iload_n 2, 1) := by decide +kernel
theorem dX1_take_22 : decode cX1_take 22 = .ok (.iload_n 1, 1) := by decide +kernel
theorem dX1_take_23 : decode cX1_take 23 = .ok (.if_icmp .ge 20, 3) := by decide +kernel
theorem dX1_take_26 : decode cX1_take 26 = .ok (.aload_n 0, 1) := by decide +kernel
theorem dX1_take_27 : decode cX1_take 27 = .ok (.getfield 63, 3) := by decide +kernel
theorem dX1_take_30 : decode cX1_take 30 = .ok (.ifCond .le 13, 3) := by decide +kernel
theorem dX1_take_33 : decode cX1_take 33 = .ok (.aload_n 0, 1) := by decide +kernel
theorem dX1_take_34 : decode cX1_take 34 = .ok (.invokevirtual 69, 3) := by decide +kernel
theorem dX1_take_37 : decode cX1_take 37 = .ok (.iinc 2 1, 3) := by decide +kernel
theorem dX1_take_40 : decode cX1_take 40 = .ok (.goto (-19), 3) := by decide +kernel
theorem dX1_take_43 : decode cX1_take 43 = .ok (.iload_n 2, 1) := by decide +kernel
theorem dX1_take_44 : decode cX1_take 44 = .ok (.ireturn, 1) := by decide +kernel
set_option maxRecDepth 20000 in
theorem ggX1_give_X1_isKind : GoodIn wsX1_give wsX1_isKind := goodIn_r _ [5] (by decide +kernel) (by decide +kernel)
set_option maxRecDepth 20000 in
theorem gX1_give_X1_isKind : GoodIn wsX1_give (va_wsS RX1 43 yX1_isKind wsX1_isKind) := goodIn_app (goodIn_of _ (by decide +kernel)) ggX1_give_X1_isKind
set_option maxRecDepth 20000 in
theorem ggX1_give_X1_deliver : GoodIn wsX1_give wsX1_deliver := goodIn_r _ [9, 10, 1, 11, 12, 13, 4, 14, 15, 2, 3, 5, 16, 17, 18, 19, 20, 21, 22, 23, 24, 25, 26, 27, 28, 29, 30, 31, 32, 33, 34, 35, 36, 37, 38, 39, 40, 41, 42, 43, 44, 45, 46, 47, 48, 49, 50, 51, 52, 53, 54, 55, 56, 57, 58, 59, 60, 61, 62, 63, 64, 65, 66, 67, 68, 69, 70, 71, 72, 73, 74, 75, 76, 77, 78, 79, 80, 81, 82, 83, 84, 85, 86, 87, 88, 89, 90, 91, 92, 93, 94, 95, 96, 97, 98, 99, 100, 101, 102, 103] (by decide +kernel) (by decide +kernel)
set_option maxRecDepth 20000 in
theorem gX1_give_X1_deliver : GoodIn wsX1_give (wsV RX1 72 RX1 yX1_deliver wsX1_deliver) := goodIn_app (goodIn_of _ (by decide +kernel)) ggX1_give_X1_deliver
theorem dX1_give_0 : decode cX1_give 0 = .ok (.iload_n 1, 1) := by decide +kernel
theorem dX1_give_1 : decode cX1_give 1 = .ok (.invokestatic 43, 3) := by decide +kernel
theorem dX1_give_4 : decode cX1_give 4 = .ok (.ifCond .ne 6, 3) := by decide +kernel
theorem dX1_give_7 : decode cX1_give 7 = .ok (.bipush (-2), 2) := by decide +kernel
theorem dX1_give_9 : decode cX1_give 9 = .ok (.ireturn, 1) := by decide +kernel
theorem dX1_give_10 : decode cX1_give 10 = .ok (.aload_n 0, 1) := by decide +kernel
theorem dX1_give_11 : decode cX1_give 11 = .ok (.iconst 0, 1) := by decide +kernel
theorem dX1_give_12 : decode cX1_give 12 = .ok (.putfield 66, 3) := by decide +kernel
theorem dX1_give_15 : decode cX1_give 15 = .ok (.aload_n 0, 1) := by decide +kernel
theorem dX1_give_16 : decode cX1_give 16 = .ok (.iload_n 1, 1) := by decide +kernel
theorem dX1_give_17 : decode cX1_give 17 = .ok (.lload_n 2, 1) := by decide +kernel
theorem dX1_give_18 : decode cX1_give 18 = .ok (.invokevirtual 72, 3) := by decide +kernel
theorem dX1_give_21 : decode cX1_give 21 = .ok (.istore 4, 2) := by decide +kernel
theorem dX1_give_23 : decode cX1_give 23 = .ok (.iload 4, 2) := by decide +kernel
theorem dX1_give_25 : decode cX1_give 25 = .ok (.ifCond .ne 7, 3) := by decide +kernel
theorem dX1_give_28 : decode cX1_give 28 = .ok (.iconst 1, 1) := by decide +kernel
theorem dX1_give_29 : decode cX1_give 29 = .ok (.goto 8, 3) := by decide +kernel
theorem dX1_give_32 : decode cX1_give 32 = .ok (.bipush (-10), 2) := by decide +kernel
theorem dX1_give_34 : decode cX1_give 34 = .ok (.iload 4, 2) := by decide +kernel
theorem dX1_give_36 : decode cX1_give 36 = .ok (.isub, 1) := by decide +kernel
theorem dX1_give_37 : decode cX1_give 37 = .ok (.ireturn, 1) := by decide +kernel
set_option maxRecDepth 20000 in
theorem ggX1_sum_X1_isBox : GoodIn wsX1_sum wsX1_isBox := goodIn_r _ [5] (by decide +kernel) (by decide +kernel)
set_option maxRecDepth 20000 in
theorem gX1_sum_X1_isBox : GoodIn wsX1_sum (va_wsS RX1 75 yX1_isBox wsX1_isBox) := goodIn_app (goodIn_of _ (by decide +kernel)) ggX1_sum_X1_isBox
theorem dX1_sum_0 : decode cX1_sum 0 = .ok (.iload_n 1, 1) := by decide +kernel
theorem dX1_sum_1 : decode cX1_sum 1 = .ok (.invokestatic 75, 3) := by decide +kernel
theorem dX1_sum_4 : decode cX1_sum 4 = .ok (.ifCond .eq 12, 3) := by decide +kernel
theorem dX1_sum_7 : decode cX1_sum 7 = .ok (.aload_n 0, 1) := by decide +kernel
theorem dX1_sum_8 : decode cX1_sum 8 = .ok (.getfield 9, 3) := by decide +kernel
theorem dX1_sum_11 : decode cX1_sum 11 = .ok (.iload_n 1, 1) := by decide +kernel
theorem dX1_sum_12 : decode cX1_sum 12 = .ok (.laload, 1) := by decide +kernel
theorem dX1_sum_13 : decode cX1_sum 13 = .ok (.goto 4, 3) := by decide +kernel
theorem dX1_sum_16 : decode cX1_sum 16 = .ok (.lconst 0, 1) := by decide +kernel
theorem dX1_sum_17 : decode cX1_sum 17 = .ok (.lreturn, 1) := by decide +kernel
set_option maxRecDepth 20000 in
theorem ggX1_counted_X1_isBox : GoodIn wsX1_counted wsX1_isBox := goodIn_r _ [5] (by decide +kernel) (by decide +kernel)
set_option maxRecDepth 20000 in
theorem gX1_counted_X1_isBox : GoodIn wsX1_counted (va_wsS RX1 75 yX1_isBox wsX1_isBox) := goodIn_app (goodIn_of _ (by decide +kernel)) ggX1_counted_X1_isBox
theorem dX1_counted_0 : decode cX1_counted 0 = .ok (.iload_n 1, 1) := by decide +kernel
theorem dX1_counted_1 : decode cX1_counted 1 = .ok (.invokestatic 75, 3) := by decide +kernel
theorem dX1_counted_4 : decode cX1_counted 4 = .ok (.ifCond .eq 12, 3) := by decide +kernel
theorem dX1_counted_7 : decode cX1_counted 7 = .ok (.aload_n 0, 1) := by decide +kernel
theorem dX1_counted_8 : decode cX1_counted 8 = .ok (.getfield 13, 3) := by decide +kernel
theorem dX1_counted_11 : decode cX1_counted 11 = .ok (.iload_n 1, 1) := by decide +kernel
theorem dX1_counted_12 : decode cX1_counted 12 = .ok (.iaload, 1) := by decide +kernel
theorem dX1_counted_13 : decode cX1_counted 13 = .ok (.goto 5, 3) := by decide +kernel
theorem dX1_counted_16 : decode cX1_counted 16 = .ok (.bipush (-2), 2) := by decide +kernel
theorem dX1_counted_18 : decode cX1_counted 18 = .ok (.ireturn, 1) := by decide +kernel
set_option maxRecDepth 20000 in
theorem ggX1_failed_X1_isFailedKept : GoodIn wsX1_failed wsX1_isFailedKept := goodIn_r _ [7, 8, 9, 10, 11, 12, 13, 14, 15, 16, 17, 18, 19, 20, 21, 22, 23] (by decide +kernel) (by decide +kernel)
set_option maxRecDepth 20000 in
theorem gX1_failed_X1_isFailedKept : GoodIn wsX1_failed (wsV RX1 78 RX1 yX1_isFailedKept wsX1_isFailedKept) := goodIn_app (goodIn_of _ (by decide +kernel)) ggX1_failed_X1_isFailedKept
theorem dX1_failed_0 : decode cX1_failed 0 = .ok (.iload_n 2, 1) := by decide +kernel
theorem dX1_failed_1 : decode cX1_failed 1 = .ok (.ifCond .eq 11, 3) := by decide +kernel
theorem dX1_failed_4 : decode cX1_failed 4 = .ok (.iload_n 2, 1) := by decide +kernel
theorem dX1_failed_5 : decode cX1_failed 5 = .ok (.iconst 1, 1) := by decide +kernel
theorem dX1_failed_6 : decode cX1_failed 6 = .ok (.if_icmp .eq 6, 3) := by decide +kernel
theorem dX1_failed_9 : decode cX1_failed 9 = .ok (.bipush (-3), 2) := by decide +kernel
theorem dX1_failed_11 : decode cX1_failed 11 = .ok (.ireturn, 1) := by decide +kernel
theorem dX1_failed_12 : decode cX1_failed 12 = .ok (.aload_n 0, 1) := by decide +kernel
theorem dX1_failed_13 : decode cX1_failed 13 = .ok (.iload_n 1, 1) := by decide +kernel
theorem dX1_failed_14 : decode cX1_failed 14 = .ok (.invokevirtual 78, 3) := by decide +kernel
theorem dX1_failed_17 : decode cX1_failed 17 = .ok (.ifCond .ne 5, 3) := by decide +kernel
theorem dX1_failed_20 : decode cX1_failed 20 = .ok (.iconst (-1), 1) := by decide +kernel
theorem dX1_failed_21 : decode cX1_failed 21 = .ok (.ireturn, 1) := by decide +kernel
theorem dX1_failed_22 : decode cX1_failed 22 = .ok (.iload_n 2, 1) := by decide +kernel
theorem dX1_failed_23 : decode cX1_failed 23 = .ok (.ifCond .ne 12, 3) := by decide +kernel
theorem dX1_failed_26 : decode cX1_failed 26 = .ok (.aload_n 0, 1) := by decide +kernel
theorem dX1_failed_27 : decode cX1_failed 27 = .ok (.getfield 29, 3) := by decide +kernel
theorem dX1_failed_30 : decode cX1_failed 30 = .ok (.iload_n 1, 1) := by decide +kernel
theorem dX1_failed_31 : decode cX1_failed 31 = .ok (.iaload, 1) := by decide +kernel
theorem dX1_failed_32 : decode cX1_failed 32 = .ok (.goto 9, 3) := by decide +kernel
theorem dX1_failed_35 : decode cX1_failed 35 = .ok (.aload_n 0, 1) := by decide +kernel
theorem dX1_failed_36 : decode cX1_failed 36 = .ok (.getfield 32, 3) := by decide +kernel
theorem dX1_failed_39 : decode cX1_failed 39 = .ok (.iload_n 1, 1) := by decide +kernel
theorem dX1_failed_40 : decode cX1_failed 40 = .ok (.iaload, 1) := by decide +kernel
theorem dX1_failed_41 : decode cX1_failed 41 = .ok (.ireturn, 1) := by decide +kernel
set_option maxRecDepth 20000 in
theorem ggX1_value_X1_isFailedKept : GoodIn wsX1_value wsX1_isFailedKept := goodIn_r _ [6, 7, 8, 9, 10, 11, 12, 13, 14, 15, 16, 17, 18, 19, 20, 21, 22] (by decide +kernel) (by decide +kernel)
set_option maxRecDepth 20000 in
theorem gX1_value_X1_isFailedKept : GoodIn wsX1_value (wsV RX1 78 RX1 yX1_isFailedKept wsX1_isFailedKept) := goodIn_app (goodIn_of _ (by decide +kernel)) ggX1_value_X1_isFailedKept
theorem dX1_value_0 : decode cX1_value 0 = .ok (.aload_n 0, 1) := by decide +kernel
theorem dX1_value_1 : decode cX1_value 1 = .ok (.iload_n 1, 1) := by decide +kernel
theorem dX1_value_2 : decode cX1_value 2 = .ok (.invokevirtual 78, 3) := by decide +kernel
theorem dX1_value_5 : decode cX1_value 5 = .ok (.ifCond .eq 12, 3) := by decide +kernel
theorem dX1_value_8 : decode cX1_value 8 = .ok (.aload_n 0, 1) := by decide +kernel
theorem dX1_value_9 : decode cX1_value 9 = .ok (.getfield 35, 3) := by decide +kernel
theorem dX1_value_12 : decode cX1_value 12 = .ok (.iload_n 1, 1) := by decide +kernel
theorem dX1_value_13 : decode cX1_value 13 = .ok (.laload, 1) := by decide +kernel
theorem dX1_value_14 : decode cX1_value 14 = .ok (.goto 4, 3) := by decide +kernel
theorem dX1_value_17 : decode cX1_value 17 = .ok (.lconst 0, 1) := by decide +kernel
theorem dX1_value_18 : decode cX1_value 18 = .ok (.lreturn, 1) := by decide +kernel
theorem dX1_count_0 : decode cX1_count 0 = .ok (.iload_n 1, 1) := by decide +kernel
theorem dX1_count_1 : decode cX1_count 1 = .ok (.tableswitch 60 0 4 #[35, 40, 45, 50, 55], 35) := by decide +kernel
theorem dX1_count_36 : decode cX1_count 36 = .ok (.aload_n 0, 1) := by decide +kernel
theorem dX1_count_37 : decode cX1_count 37 = .ok (.getfield 63, 3) := by decide +kernel
theorem dX1_count_40 : decode cX1_count 40 = .ok (.ireturn, 1) := by decide +kernel
theorem dX1_count_41 : decode cX1_count 41 = .ok (.aload_n 0, 1) := by decide +kernel
theorem dX1_count_42 : decode cX1_count 42 = .ok (.getfield 81, 3) := by decide +kernel
theorem dX1_count_45 : decode cX1_count 45 = .ok (.ireturn, 1) := by decide +kernel
theorem dX1_count_46 : decode cX1_count 46 = .ok (.aload_n 0, 1) := by decide +kernel
theorem dX1_count_47 : decode cX1_count 47 = .ok (.getfield 51, 3) := by decide +kernel
theorem dX1_count_50 : decode cX1_count 50 = .ok (.ireturn, 1) := by decide +kernel
theorem dX1_count_51 : decode cX1_count 51 = .ok (.aload_n 0, 1) := by decide +kernel
theorem dX1_count_52 : decode cX1_count 52 = .ok (.getfield 84, 3) := by decide +kernel
theorem dX1_count_55 : decode cX1_count 55 = .ok (.ireturn, 1) := by decide +kernel
theorem dX1_count_56 : decode cX1_count 56 = .ok (.aload_n 0, 1) := by decide +kernel
theorem dX1_count_57 : decode cX1_count 57 = .ok (.getfield 66, 3) := by decide +kernel
theorem dX1_count_60 : decode cX1_count 60 = .ok (.ireturn, 1) := by decide +kernel
theorem dX1_count_61 : decode cX1_count 61 = .ok (.bipush (-3), 2) := by decide +kernel
theorem dX1_count_63 : decode cX1_count 63 = .ok (.ireturn, 1) := by decide +kernel
theorem dX1_isKind_0 : decode cX1_isKind 0 = .ok (.iload_n 0, 1) := by decide +kernel
theorem dX1_isKind_1 : decode cX1_isKind 1 = .ok (.ifCond .lt 13, 3) := by decide +kernel
theorem dX1_isKind_4 : decode cX1_isKind 4 = .ok (.iload_n 0, 1) := by decide +kernel
theorem dX1_isKind_5 : decode cX1_isKind 5 = .ok (.bipush 10, 2) := by decide +kernel
theorem dX1_isKind_7 : decode cX1_isKind 7 = .ok (.if_icmp .ge 7, 3) := by decide +kernel
theorem dX1_isKind_10 : decode cX1_isKind 10 = .ok (.iconst 1, 1) := by decide +kernel
theorem dX1_isKind_11 : decode cX1_isKind 11 = .ok (.goto 4, 3) := by decide +kernel
theorem dX1_isKind_14 : decode cX1_isKind 14 = .ok (.iconst 0, 1) := by decide +kernel
theorem dX1_isKind_15 : decode cX1_isKind 15 = .ok (.ireturn, 1) := by decide +kernel
theorem dX1_isBox_0 : decode cX1_isBox 0 = .ok (.iload_n 0, 1) := by decide +kernel
theorem dX1_isBox_1 : decode cX1_isBox 1 = .ok (.ifCond .lt 13, 3) := by decide +kernel
theorem dX1_isBox_4 : decode cX1_isBox 4 = .ok (.iload_n 0, 1) := by decide +kernel
theorem dX1_isBox_5 : decode cX1_isBox 5 = .ok (.bipush 6, 2) := by decide +kernel
theorem dX1_isBox_7 : decode cX1_isBox 7 = .ok (.if_icmp .ge 7, 3) := by decide +kernel
theorem dX1_isBox_10 : decode cX1_isBox 10 = .ok (.iconst 1, 1) := by decide +kernel
theorem dX1_isBox_11 : decode cX1_isBox 11 = .ok (.goto 4, 3) := by decide +kernel
theorem dX1_isBox_14 : decode cX1_isBox 14 = .ok (.iconst 0, 1) := by decide +kernel
theorem dX1_isBox_15 : decode cX1_isBox 15 = .ok (.ireturn, 1) := by decide +kernel
theorem dX1_isFailedKept_0 : decode cX1_isFailedKept 0 = .ok (.iload_n 1, 1) := by decide +kernel
theorem dX1_isFailedKept_1 : decode cX1_isFailedKept 1 = .ok (.ifCond .lt 21, 3) := by decide +kernel
theorem dX1_isFailedKept_4 : decode cX1_isFailedKept 4 = .ok (.iload_n 1, 1) := by decide +kernel
theorem dX1_isFailedKept_5 : decode cX1_isFailedKept 5 = .ok (.bipush 30, 2) := by decide +kernel
theorem dX1_isFailedKept_7 : decode cX1_isFailedKept 7 = .ok (.if_icmp .ge 15, 3) := by decide +kernel
theorem dX1_isFailedKept_10 : decode cX1_isFailedKept 10 = .ok (.iload_n 1, 1) := by decide +kernel
theorem dX1_isFailedKept_11 : decode cX1_isFailedKept 11 = .ok (.aload_n 0, 1) := by decide +kernel
theorem dX1_isFailedKept_12 : decode cX1_isFailedKept 12 = .ok (.getfield 84, 3) := by decide +kernel
theorem dX1_isFailedKept_15 : decode cX1_isFailedKept 15 = .ok (.if_icmp .ge 7, 3) := by decide +kernel
theorem dX1_isFailedKept_18 : decode cX1_isFailedKept 18 = .ok (.iconst 1, 1) := by decide +kernel
theorem dX1_isFailedKept_19 : decode cX1_isFailedKept 19 = .ok (.goto 4, 3) := by decide +kernel
theorem dX1_isFailedKept_22 : decode cX1_isFailedKept 22 = .ok (.iconst 0, 1) := by decide +kernel
theorem dX1_isFailedKept_23 : decode cX1_isFailedKept 23 = .ok (.ireturn, 1) := by decide +kernel
set_option maxRecDepth 20000 in
theorem ggX1_namesKnown_X1_isBox : GoodIn wsX1_namesKnown wsX1_isBox := goodIn_r _ [4] (by decide +kernel) (by decide +kernel)
set_option maxRecDepth 20000 in
theorem gX1_namesKnown_X1_isBox : GoodIn wsX1_namesKnown (va_wsS RX1 75 yX1_isBox wsX1_isBox) := goodIn_app (goodIn_of _ (by decide +kernel)) ggX1_namesKnown_X1_isBox
set_option maxRecDepth 20000 in
theorem ggX1_namesKnown_X1_isKind : GoodIn wsX1_namesKnown wsX1_isKind := goodIn_r _ [7] (by decide +kernel) (by decide +kernel)
set_option maxRecDepth 20000 in
theorem gX1_namesKnown_X1_isKind : GoodIn wsX1_namesKnown (va_wsS RX1 43 yX1_isKind wsX1_isKind) := goodIn_app (goodIn_of _ (by decide +kernel)) ggX1_namesKnown_X1_isKind
theorem dX1_namesKnown_0 : decode cX1_namesKnown 0 = .ok (.iload_n 0, 1) := by decide +kernel
theorem dX1_namesKnown_1 : decode cX1_namesKnown 1 = .ok (.tableswitch 93 0 11 #[63, 88, 88, 88, 93, 93, 63, 88, 68, 93, 63, 63], 63) := by decide +kernel
theorem dX1_namesKnown_64 : decode cX1_namesKnown 64 = .ok (.iload_n 1, 1) := by decide +kernel
theorem dX1_namesKnown_65 : decode cX1_namesKnown 65 = .ok (.invokestatic 75, 3) := by decide +kernel
theorem dX1_namesKnown_68 : decode cX1_namesKnown 68 = .ok (.ireturn, 1) := by decide +kernel
theorem dX1_namesKnown_69 : decode cX1_namesKnown 69 = .ok (.iload_n 1, 1) := by decide +kernel
theorem dX1_namesKnown_70 : decode cX1_namesKnown 70 = .ok (.invokestatic 75, 3) := by decide +kernel
theorem dX1_namesKnown_73 : decode cX1_namesKnown 73 = .ok (.ifCond .eq 14, 3) := by decide +kernel
theorem dX1_namesKnown_76 : decode cX1_namesKnown 76 = .ok (.iload_n 2, 1) := by decide +kernel
theorem dX1_namesKnown_77 : decode cX1_namesKnown 77 = .ok (.invokestatic 75, 3) := by decide +kernel
theorem dX1_namesKnown_80 : decode cX1_namesKnown 80 = .ok (.ifCond .eq 7, 3) := by decide +kernel
theorem dX1_namesKnown_83 : decode cX1_namesKnown 83 = .ok (.iconst 1, 1) := by decide +kernel
theorem dX1_namesKnown_84 : decode cX1_namesKnown 84 = .ok (.goto 4, 3) := by decide +kernel
theorem dX1_namesKnown_87 : decode cX1_namesKnown 87 = .ok (.iconst 0, 1) := by decide +kernel
theorem dX1_namesKnown_88 : decode cX1_namesKnown 88 = .ok (.ireturn, 1) := by decide +kernel
theorem dX1_namesKnown_89 : decode cX1_namesKnown 89 = .ok (.iload_n 1, 1) := by decide +kernel
theorem dX1_namesKnown_90 : decode cX1_namesKnown 90 = .ok (.invokestatic 43, 3) := by decide +kernel
theorem dX1_namesKnown_93 : decode cX1_namesKnown 93 = .ok (.ireturn, 1) := by decide +kernel
theorem dX1_namesKnown_94 : decode cX1_namesKnown 94 = .ok (.iconst 1, 1) := by decide +kernel
theorem dX1_namesKnown_95 : decode cX1_namesKnown 95 = .ok (.ireturn, 1) := by decide +kernel
set_option maxRecDepth 20000 in
theorem ggX1_handlerOf_X1_isKind : GoodIn wsX1_handlerOf wsX1_isKind := goodIn_r _ [5] (by decide +kernel) (by decide +kernel)
set_option maxRecDepth 20000 in
theorem gX1_handlerOf_X1_isKind : GoodIn wsX1_handlerOf (va_wsS RX1 43 yX1_isKind wsX1_isKind) := goodIn_app (goodIn_of _ (by decide +kernel)) ggX1_handlerOf_X1_isKind
theorem dX1_handlerOf_0 : decode cX1_handlerOf 0 = .ok (.iload_n 1, 1) := by decide +kernel
theorem dX1_handlerOf_1 : decode cX1_handlerOf 1 = .ok (.invokestatic 43, 3) := by decide +kernel
theorem dX1_handlerOf_4 : decode cX1_handlerOf 4 = .ok (.ifCond .eq 12, 3) := by decide +kernel
theorem dX1_handlerOf_7 : decode cX1_handlerOf 7 = .ok (.aload_n 0, 1) := by decide +kernel
theorem dX1_handlerOf_8 : decode cX1_handlerOf 8 = .ok (.getfield 19, 3) := by decide +kernel
theorem dX1_handlerOf_11 : decode cX1_handlerOf 11 = .ok (.iload_n 1, 1) := by decide +kernel
theorem dX1_handlerOf_12 : decode cX1_handlerOf 12 = .ok (.aaload, 1) := by decide +kernel
theorem dX1_handlerOf_13 : decode cX1_handlerOf 13 = .ok (.goto 4, 3) := by decide +kernel
theorem dX1_handlerOf_16 : decode cX1_handlerOf 16 = .ok (.aconst_null, 1) := by decide +kernel
theorem dX1_handlerOf_17 : decode cX1_handlerOf 17 = .ok (.areturn, 1) := by decide +kernel
theorem dX1_enqueue_0 : decode cX1_enqueue 0 = .ok (.aload_n 0, 1) := by decide +kernel
theorem dX1_enqueue_1 : decode cX1_enqueue 1 = .ok (.getfield 63, 3) := by decide +kernel
theorem dX1_enqueue_4 : decode cX1_enqueue 4 = .ok (.bipush 40, 2) := by decide +kernel
theorem dX1_enqueue_6 : decode cX1_enqueue 6 = .ok (.if_icmp .lt 5, 3) := by decide +kernel
theorem dX1_enqueue_9 : decode cX1_enqueue 9 = .ok (.iconst 5, 1) := by decide +kernel
theorem dX1_enqueue_10 : decode cX1_enqueue 10 = .ok (.ireturn, 1) := by decide +kernel
theorem dX1_enqueue_11 : decode cX1_enqueue 11 = .ok (.aload_n 0, 1) := by decide +kernel
theorem dX1_enqueue_12 : decode cX1_enqueue 12 = .ok (.getfield 87, 3) := by decide +kernel
theorem dX1_enqueue_15 : decode cX1_enqueue 15 = .ok (.aload_n 0, 1) := by decide +kernel
theorem dX1_enqueue_16 : decode cX1_enqueue 16 = .ok (.getfield 63, 3) := by decide +kernel
theorem dX1_enqueue_19 : decode cX1_enqueue 19 = .ok (.iadd, 1) := by decide +kernel
theorem dX1_enqueue_20 : decode cX1_enqueue 20 = .ok (.bipush 40, 2) := by decide +kernel
theorem dX1_enqueue_22 : decode cX1_enqueue 22 = .ok (.irem, 1) := by decide +kernel
theorem dX1_enqueue_23 : decode cX1_enqueue 23 = .ok (.istore 4, 2) := by decide +kernel
theorem dX1_enqueue_25 : decode cX1_enqueue 25 = .ok (.iload 4, 2) := by decide +kernel
theorem dX1_enqueue_27 : decode cX1_enqueue 27 = .ok (.ifCond .ge 5, 3) := by decide +kernel
theorem dX1_enqueue_30 : decode cX1_enqueue 30 = .ok (.iconst 5, 1) := by decide +kernel
theorem dX1_enqueue_31 : decode cX1_enqueue 31 = .ok (.ireturn, 1) := by decide +kernel
theorem dX1_enqueue_32 : decode cX1_enqueue 32 = .ok (.aload_n 0, 1) := by decide +kernel
theorem dX1_enqueue_33 : decode cX1_enqueue 33 = .ok (.getfield 23, 3) := by decide +kernel
theorem dX1_enqueue_36 : decode cX1_enqueue 36 = .ok (.iload 4, 2) := by decide +kernel
theorem dX1_enqueue_38 : decode cX1_enqueue 38 = .ok (.iload_n 1, 1) := by decide +kernel
theorem dX1_enqueue_39 : decode cX1_enqueue 39 = .ok (.iastore, 1) := by decide +kernel
theorem dX1_enqueue_40 : decode cX1_enqueue 40 = .ok (.aload_n 0, 1) := by decide +kernel
theorem dX1_enqueue_41 : decode cX1_enqueue 41 = .ok (.getfield 26, 3) := by decide +kernel
theorem dX1_enqueue_44 : decode cX1_enqueue 44 = .ok (.iload 4, 2) := by decide +kernel
theorem dX1_enqueue_46 : decode cX1_enqueue 46 = .ok (.lload_n 2, 1) := by decide +kernel
theorem dX1_enqueue_47 : decode cX1_enqueue 47 = .ok (.lastore, 1) := by decide +kernel
theorem dX1_enqueue_48 : decode cX1_enqueue 48 = .ok (.aload_n 0, 1) := by decide +kernel
theorem dX1_enqueue_49 : decode cX1_enqueue 49 = .ok (.dup, 1) := by decide +kernel
theorem dX1_enqueue_50 : decode cX1_enqueue 50 = .ok (.getfield 63, 3) := by decide +kernel
theorem dX1_enqueue_53 : decode cX1_enqueue 53 = .ok (.iconst 1, 1) := by decide +kernel
theorem dX1_enqueue_54 : decode cX1_enqueue 54 = .ok (.iadd, 1) := by decide +kernel
theorem dX1_enqueue_55 : decode cX1_enqueue 55 = .ok (.putfield 63, 3) := by decide +kernel
theorem dX1_enqueue_58 : decode cX1_enqueue 58 = .ok (.iconst 0, 1) := by decide +kernel
theorem dX1_enqueue_59 : decode cX1_enqueue 59 = .ok (.ireturn, 1) := by decide +kernel
set_option maxRecDepth 20000 in
theorem ggX1_takeFirst_X1_deliver : GoodIn wsX1_takeFirst wsX1_deliver := goodIn_r _ [10, 11, 12, 13, 14, 15, 9, 16, 17, 18, 19, 20, 21, 22, 23, 24, 25, 26, 27, 28, 29, 30, 31, 32, 33, 34, 35, 36, 37, 38, 39, 40, 41, 42, 43, 44, 45, 4, 1, 2, 3, 46, 47, 48, 49, 50, 51, 52, 53, 54, 55, 56, 57, 58, 59, 60, 61, 62, 63, 64, 65, 66, 67, 68, 69, 70, 71, 72, 73, 74, 75, 76, 77, 78, 79, 80, 81, 90, 91, 92, 93, 94, 95, 96, 97, 98, 99, 100, 101, 102, 103, 104, 105, 106, 107, 108, 109, 110, 111, 112] (by decide +kernel) (by decide +kernel)
set_option maxRecDepth 20000 in
theorem gX1_takeFirst_X1_deliver : GoodIn wsX1_takeFirst (wsV RX1 72 RX1 yX1_deliver wsX1_deliver) := goodIn_app (goodIn_of _ (by decide +kernel)) ggX1_takeFirst_X1_deliver
set_option maxRecDepth 20000 in
theorem ggX1_takeFirst_X1_noteFailed : GoodIn wsX1_takeFirst wsX1_noteFailed := goodIn_r _ [85, 86, 87, 88, 89, 90, 91, 92, 93, 94, 95, 96, 97, 98, 99, 100, 101, 102, 103, 104] (by decide +kernel) (by decide +kernel)
set_option maxRecDepth 20000 in
theorem gX1_takeFirst_X1_noteFailed : GoodIn wsX1_takeFirst (wsV RX1 90 RX1 yX1_noteFailed wsX1_noteFailed) := goodIn_app (goodIn_of _ (by decide +kernel)) ggX1_takeFirst_X1_noteFailed
theorem dX1_takeFirst_0 : decode cX1_takeFirst 0 = .ok (.aload_n 0, 1) := by decide +kernel
theorem dX1_takeFirst_1 : decode cX1_takeFirst 1 = .ok (.getfield 87, 3) := by decide +kernel
theorem dX1_takeFirst_4 : decode cX1_takeFirst 4 = .ok (.istore_n 1, 1) := by decide +kernel
theorem dX1_takeFirst_5 : decode cX1_takeFirst 5 = .ok (.iload_n 1, 1) := by decide +kernel
theorem dX1_takeFirst_6 : decode cX1_takeFirst 6 = .ok (.ifCond .lt 9, 3) := by decide +kernel
theorem dX1_takeFirst_9 : decode cX1_takeFirst 9 = .ok (.iload_n 1, 1) := by decide +kernel
theorem dX1_takeFirst_10 : decode cX1_takeFirst 10 = .ok (.bipush 40, 2) := by decide +kernel
theorem dX1_takeFirst_12 : decode cX1_takeFirst 12 = .ok (.if_icmp .lt 4, 3) := by decide +kernel
theorem dX1_takeFirst_15 : decode cX1_takeFirst 15 = .ok (.return_, 1) := by decide +kernel
theorem dX1_takeFirst_16 : decode cX1_takeFirst 16 = .ok (.aload_n 0, 1) := by decide +kernel
theorem dX1_takeFirst_17 : decode cX1_takeFirst 17 = .ok (.getfield 23, 3) := by decide +kernel
theorem dX1_takeFirst_20 : decode cX1_takeFirst 20 = .ok (.iload_n 1, 1) := by decide +kernel
theorem dX1_takeFirst_21 : decode cX1_takeFirst 21 = .ok (.iaload, 1) := by decide +kernel
theorem dX1_takeFirst_22 : decode cX1_takeFirst 22 = .ok (.istore_n 2, 1) := by decide +kernel
theorem dX1_takeFirst_23 : decode cX1_takeFirst 23 = .ok (.aload_n 0, 1) := by decide +kernel
theorem dX1_takeFirst_24 : decode cX1_takeFirst 24 = .ok (.getfield 26, 3) := by decide +kernel
theorem dX1_takeFirst_27 : decode cX1_takeFirst 27 = .ok (.iload_n 1, 1) := by decide +kernel
theorem dX1_takeFirst_28 : decode cX1_takeFirst 28 = .ok (.laload, 1) := by decide +kernel
theorem dX1_takeFirst_29 : decode cX1_takeFirst 29 = .ok (.lstore_n 3, 1) := by decide +kernel
theorem dX1_takeFirst_30 : decode cX1_takeFirst 30 = .ok (.aload_n 0, 1) := by decide +kernel
theorem dX1_takeFirst_31 : decode cX1_takeFirst 31 = .ok (.iload_n 1, 1) := by decide +kernel
theorem dX1_takeFirst_32 : decode cX1_takeFirst 32 = .ok (.iconst 1, 1) := by decide +kernel
theorem dX1_takeFirst_33 : decode cX1_takeFirst 33 = .ok (.iadd, 1) := by decide +kernel
theorem dX1_takeFirst_34 : decode cX1_takeFirst 34 = .ok (.bipush 40, 2) := by decide +kernel
theorem dX1_takeFirst_36 : decode cX1_takeFirst 36 = .ok (.irem, 1) := by decide +kernel
theorem dX1_takeFirst_37 : decode cX1_takeFirst 37 = .ok (.putfield 87, 3) := by decide +kernel
theorem dX1_takeFirst_40 : decode cX1_takeFirst 40 = .ok (.aload_n 0, 1) := by decide +kernel
theorem dX1_takeFirst_41 : decode cX1_takeFirst 41 = .ok (.dup, 1) := by decide +kernel
theorem dX1_takeFirst_42 : decode cX1_takeFirst 42 = .ok (.getfield 63, 3) := by decide +kernel
theorem dX1_takeFirst_45 : decode cX1_takeFirst 45 = .ok (.iconst 1, 1) := by decide +kernel
theorem dX1_takeFirst_46 : decode cX1_takeFirst 46 = .ok (.isub, 1) := by decide +kernel
theorem dX1_takeFirst_47 : decode cX1_takeFirst 47 = .ok (.putfield 63, 3) := by decide +kernel
theorem dX1_takeFirst_50 : decode cX1_takeFirst 50 = .ok (.aload_n 0, 1) := by decide +kernel
theorem dX1_takeFirst_51 : decode cX1_takeFirst 51 = .ok (.dup, 1) := by decide +kernel
theorem dX1_takeFirst_52 : decode cX1_takeFirst 52 = .ok (.getfield 81, 3) := by decide +kernel
theorem dX1_takeFirst_55 : decode cX1_takeFirst 55 = .ok (.iconst 1, 1) := by decide +kernel
theorem dX1_takeFirst_56 : decode cX1_takeFirst 56 = .ok (.iadd, 1) := by decide +kernel
theorem dX1_takeFirst_57 : decode cX1_takeFirst 57 = .ok (.putfield 81, 3) := by decide +kernel
theorem dX1_takeFirst_60 : decode cX1_takeFirst 60 = .ok (.aload_n 0, 1) := by decide +kernel
theorem dX1_takeFirst_61 : decode cX1_takeFirst 61 = .ok (.iload_n 2, 1) := by decide +kernel
theorem dX1_takeFirst_62 : decode cX1_takeFirst 62 = .ok (.lload_n 3, 1) := by decide +kernel
theorem dX1_takeFirst_63 : decode cX1_takeFirst 63 = .ok (.invokevirtual 72, 3) := by decide +kernel
theorem dX1_takeFirst_66 : decode cX1_takeFirst 66 = .ok (.istore 5, 2) := by decide +kernel
theorem dX1_takeFirst_68 : decode cX1_takeFirst 68 = .ok (.iload 5, 2) := by decide +kernel
theorem dX1_takeFirst_70 : decode cX1_takeFirst 70 = .ok (.ifCond .eq 11, 3) := by decide +kernel
theorem dX1_takeFirst_73 : decode cX1_takeFirst 73 = .ok (.aload_n 0, 1) := by decide +kernel
theorem dX1_takeFirst_74 : decode cX1_takeFirst 74 = .ok (.iload_n 2, 1) := by decide +kernel
theorem dX1_takeFirst_75 : decode cX1_takeFirst 75 = .ok (.lload_n 3, 1) := by decide +kernel
theorem dX1_takeFirst_76 : decode cX1_takeFirst 76 = .ok (.iload 5, 2) := by decide +kernel
theorem dX1_takeFirst_78 : decode cX1_takeFirst 78 = .ok (.invokevirtual 90, 3) := by decide +kernel
theorem dX1_takeFirst_81 : decode cX1_takeFirst 81 = .ok (.return_, 1) := by decide +kernel
theorem dX1_noteFailed_0 : decode cX1_noteFailed 0 = .ok (.aload_n 0, 1) := by decide +kernel
theorem dX1_noteFailed_1 : decode cX1_noteFailed 1 = .ok (.getfield 84, 3) := by decide +kernel
theorem dX1_noteFailed_4 : decode cX1_noteFailed 4 = .ok (.istore 5, 2) := by decide +kernel
theorem dX1_noteFailed_6 : decode cX1_noteFailed 6 = .ok (.aload_n 0, 1) := by decide +kernel
theorem dX1_noteFailed_7 : decode cX1_noteFailed 7 = .ok (.dup, 1) := by decide +kernel
theorem dX1_noteFailed_8 : decode cX1_noteFailed 8 = .ok (.getfield 84, 3) := by decide +kernel
theorem dX1_noteFailed_11 : decode cX1_noteFailed 11 = .ok (.iconst 1, 1) := by decide +kernel
theorem dX1_noteFailed_12 : decode cX1_noteFailed 12 = .ok (.iadd, 1) := by decide +kernel
theorem dX1_noteFailed_13 : decode cX1_noteFailed 13 = .ok (.putfield 84, 3) := by decide +kernel
theorem dX1_noteFailed_16 : decode cX1_noteFailed 16 = .ok (.iload 5, 2) := by decide +kernel
theorem dX1_noteFailed_18 : decode cX1_noteFailed 18 = .ok (.ifCond .lt 35, 3) := by decide +kernel
theorem dX1_noteFailed_21 : decode cX1_noteFailed 21 = .ok (.iload 5, 2) := by decide +kernel
theorem dX1_noteFailed_23 : decode cX1_noteFailed 23 = .ok (.bipush 30, 2) := by decide +kernel
theorem dX1_noteFailed_25 : decode cX1_noteFailed 25 = .ok (.if_icmp .ge 28, 3) := by decide +kernel
theorem dX1_noteFailed_28 : decode cX1_noteFailed 28 = .ok (.aload_n 0, 1) := by decide +kernel
theorem dX1_noteFailed_29 : decode cX1_noteFailed 29 = .ok (.getfield 29, 3) := by decide +kernel
theorem dX1_noteFailed_32 : decode cX1_noteFailed 32 = .ok (.iload 5, 2) := by decide +kernel
theorem dX1_noteFailed_34 : decode cX1_noteFailed 34 = .ok (.iload_n 1, 1) := by decide +kernel
theorem dX1_noteFailed_35 : decode cX1_noteFailed 35 = .ok (.iastore, 1) := by decide +kernel
theorem dX1_noteFailed_36 : decode cX1_noteFailed 36 = .ok (.aload_n 0, 1) := by decide +kernel
theorem dX1_noteFailed_37 : decode cX1_noteFailed 37 = .ok (.getfield 32, 3) := by decide +kernel
theorem dX1_noteFailed_40 : decode cX1_noteFailed 40 = .ok (.iload 5, 2) := by decide +kernel
theorem dX1_noteFailed_42 : decode cX1_noteFailed 42 = .ok (.iload 4, 2) := by decide +kernel
theorem dX1_noteFailed_44 : decode cX1_noteFailed 44 = .ok (.iastore, 1) := by decide +kernel
theorem dX1_noteFailed_45 : decode cX1_noteFailed 45 = .ok (.aload_n 0, 1) := by decide +kernel
theorem dX1_noteFailed_46 : decode cX1_noteFailed 46 = .ok (.getfield 35, 3) := by decide +kernel
theorem dX1_noteFailed_49 : decode cX1_noteFailed 49 = .ok (.iload 5, 2) := by decide +kernel
theorem dX1_noteFailed_51 : decode cX1_noteFailed 51 = .ok (.lload_n 2, 1) := by decide +kernel
theorem dX1_noteFailed_52 : decode cX1_noteFailed 52 = .ok (.lastore, 1) := by decide +kernel
theorem dX1_noteFailed_53 : decode cX1_noteFailed 53 = .ok (.return_, 1) := by decide +kernel
set_option maxRecDepth 20000 in
theorem ggX1_deliver_X1_handlerOf : GoodIn wsX1_deliver wsX1_handlerOf := goodIn_r _ [7, 8, 9, 10, 6, 11, 77, 78, 79, 80, 81, 82, 83, 84, 85, 86, 87, 88, 89, 90, 91] (by decide +kernel) (by decide +kernel)
set_option maxRecDepth 20000 in
theorem gX1_deliver_X1_handlerOf : GoodIn wsX1_deliver (wsV RX1 55 RX1 yX1_handlerOf wsX1_handlerOf) := goodIn_app (goodIn_of _ (by decide +kernel)) ggX1_deliver_X1_handlerOf
set_option maxRecDepth 20000 in
theorem ggX1_deliver_X1_begin : GoodIn wsX1_deliver wsX1_begin := goodIn_r _ [15, 1, 16, 17, 18, 6, 19, 20, 21, 22, 23, 24, 25, 26, 27, 28, 29, 30, 31, 32, 33, 34, 35, 36, 37, 38, 39, 40, 12, 13, 14, 3, 4, 5, 7, 8, 9, 10, 11, 41, 42, 43, 44, 45, 46, 47, 48, 49, 50, 51, 52, 53, 54, 55, 56, 57, 58, 59, 60, 61, 62, 63, 64, 65, 66, 67, 68, 69, 70, 71, 72, 73, 74, 75, 76, 92, 93, 94, 95, 96, 97, 98, 99, 77, 78, 79, 80, 81, 82, 83, 84, 85, 86, 87, 88, 89, 90, 91] (by decide +kernel) (by decide +kernel)
set_option maxRecDepth 20000 in
theorem gX1_deliver_X1_begin : GoodIn wsX1_deliver (wsV RX1 97 RX1 yX1_begin wsX1_begin) := goodIn_app (goodIn_of _ (by decide +kernel)) ggX1_deliver_X1_begin
theorem dX1_deliver_0 : decode cX1_deliver 0 = .ok (.aload_n 0, 1) := by decide +kernel
theorem dX1_deliver_1 : decode cX1_deliver 1 = .ok (.iconst 0, 1) := by decide +kernel
theorem dX1_deliver_2 : decode cX1_deliver 2 = .ok (.putfield 94, 3) := by decide +kernel
theorem dX1_deliver_5 : decode cX1_deliver 5 = .ok (.aload_n 0, 1) := by decide +kernel
theorem dX1_deliver_6 : decode cX1_deliver 6 = .ok (.aload_n 0, 1) := by decide +kernel
theorem dX1_deliver_7 : decode cX1_deliver 7 = .ok (.iload_n 1, 1) := by decide +kernel
theorem dX1_deliver_8 : decode cX1_deliver 8 = .ok (.invokevirtual 55, 3) := by decide +kernel
theorem dX1_deliver_11 : decode cX1_deliver 11 = .ok (.lload_n 2, 1) := by decide +kernel
theorem dX1_deliver_12 : decode cX1_deliver 12 = .ok (.iconst 1, 1) := by decide +kernel
theorem dX1_deliver_13 : decode cX1_deliver 13 = .ok (.invokevirtual 97, 3) := by decide +kernel
theorem dX1_deliver_16 : decode cX1_deliver 16 = .ok (.istore 4, 2) := by decide +kernel
theorem dX1_deliver_18 : decode cX1_deliver 18 = .ok (.aload_n 0, 1) := by decide +kernel
theorem dX1_deliver_19 : decode cX1_deliver 19 = .ok (.dup, 1) := by decide +kernel
theorem dX1_deliver_20 : decode cX1_deliver 20 = .ok (.getfield 66, 3) := by decide +kernel
theorem dX1_deliver_23 : decode cX1_deliver 23 = .ok (.aload_n 0, 1) := by decide +kernel
theorem dX1_deliver_24 : decode cX1_deliver 24 = .ok (.getfield 94, 3) := by decide +kernel
theorem dX1_deliver_27 : decode cX1_deliver 27 = .ok (.iadd, 1) := by decide +kernel
theorem dX1_deliver_28 : decode cX1_deliver 28 = .ok (.putfield 66, 3) := by decide +kernel
theorem dX1_deliver_31 : decode cX1_deliver 31 = .ok (.iload 4, 2) := by decide +kernel
theorem dX1_deliver_33 : decode cX1_deliver 33 = .ok (.ireturn, 1) := by decide +kernel
set_option maxRecDepth 20000 in
theorem ggX1_begin_X1_act : GoodIn wsX1_begin wsX1_act := goodIn_r _ [6, 7, 8, 9, 10, 11, 12, 13, 5, 14, 15, 16, 17, 18, 19, 20, 21, 22, 23, 24, 25, 26, 27, 28, 29, 30, 31, 32, 33, 34, 35, 36, 37, 38, 39, 40, 41, 42, 43, 44, 45, 46, 47, 48, 49, 50, 51, 52, 53, 54, 55, 56, 57, 58, 59, 60, 61, 62, 63, 64, 65, 66, 67, 68, 0, 1, 2, 3, 4, 69, 70, 71, 72, 73, 74, 75, 76, 77, 78, 79, 80, 81, 82, 83, 84, 85, 86, 87, 88, 89, 90, 91, 92, 93, 94, 95, 96, 97] (by decide +kernel) (by decide +kernel)
set_option maxRecDepth 20000 in
theorem gX1_begin_X1_act : GoodIn wsX1_begin (wsV RX1 101 RX1 yX1_act wsX1_act) := goodIn_app (goodIn_of _ (by decide +kernel)) ggX1_begin_X1_act
theorem dX1_begin_0 : decode cX1_begin 0 = .ok (.iload 4, 2) := by decide +kernel
theorem dX1_begin_2 : decode cX1_begin 2 = .ok (.bipush 8, 2) := by decide +kernel
theorem dX1_begin_4 : decode cX1_begin 4 = .ok (.if_icmp .gt 12, 3) := by decide +kernel
theorem dX1_begin_7 : decode cX1_begin 7 = .ok (.aload_n 0, 1) := by decide +kernel
theorem dX1_begin_8 : decode cX1_begin 8 = .ok (.getfield 94, 3) := by decide +kernel
theorem dX1_begin_11 : decode cX1_begin 11 = .ok (.bipush 16, 2) := by decide +kernel
theorem dX1_begin_13 : decode cX1_begin 13 = .ok (.if_icmp .lt 6, 3) := by decide +kernel
theorem dX1_begin_16 : decode cX1_begin 16 = .ok (.bipush 6, 2) := by decide +kernel
theorem dX1_begin_18 : decode cX1_begin 18 = .ok (.ireturn, 1) := by decide +kernel
theorem dX1_begin_19 : decode cX1_begin 19 = .ok (.aload_n 0, 1) := by decide +kernel
theorem dX1_begin_20 : decode cX1_begin 20 = .ok (.dup, 1) := by decide +kernel
theorem dX1_begin_21 : decode cX1_begin 21 = .ok (.getfield 94, 3) := by decide +kernel
theorem dX1_begin_24 : decode cX1_begin 24 = .ok (.iconst 1, 1) := by decide +kernel
theorem dX1_begin_25 : decode cX1_begin 25 = .ok (.iadd, 1) := by decide +kernel
theorem dX1_begin_26 : decode cX1_begin 26 = .ok (.putfield 94, 3) := by decide +kernel
theorem dX1_begin_29 : decode cX1_begin 29 = .ok (.aload_n 1, 1) := by decide +kernel
theorem dX1_begin_30 : decode cX1_begin 30 = .ok (.ifnonnull 7, 3) := by decide +kernel
theorem dX1_begin_33 : decode cX1_begin 33 = .ok (.iconst 1, 1) := by decide +kernel
theorem dX1_begin_34 : decode cX1_begin 34 = .ok (.goto 11, 3) := by decide +kernel
theorem dX1_begin_37 : decode cX1_begin 37 = .ok (.aload_n 0, 1) := by decide +kernel
theorem dX1_begin_38 : decode cX1_begin 38 = .ok (.aload_n 1, 1) := by decide +kernel
theorem dX1_begin_39 : decode cX1_begin 39 = .ok (.lload_n 2, 1) := by decide +kernel
theorem dX1_begin_40 : decode cX1_begin 40 = .ok (.iload 4, 2) := by decide +kernel
theorem dX1_begin_42 : decode cX1_begin 42 = .ok (.invokevirtual 101, 3) := by decide +kernel
theorem dX1_begin_45 : decode cX1_begin 45 = .ok (.ireturn, 1) := by decide +kernel
set_option maxRecDepth 20000 in
theorem ggX1_act_X1_keep : GoodIn wsX1_act wsX1_keep := goodIn_r _ [9, 10, 11, 12, 13, 8, 14, 83, 84, 85, 86, 87, 88, 89, 90, 91, 92, 93, 94, 95, 96, 97] (by decide +kernel) (by decide +kernel)
set_option maxRecDepth 20000 in
theorem gX1_act_X1_keep : GoodIn wsX1_act (wsV RX1 110 RX1 yX1_keep wsX1_keep) := goodIn_app (goodIn_of _ (by decide +kernel)) ggX1_act_X1_keep
set_option maxRecDepth 20000 in
theorem ggX1_act_X1_enqueue : GoodIn wsX1_act wsX1_enqueue := goodIn_r _ [18, 19, 20, 21, 22, 83, 84, 85, 86, 87, 88, 89, 90, 91, 92, 93, 94, 95, 96, 97] (by decide +kernel) (by decide +kernel)
set_option maxRecDepth 20000 in
theorem gX1_act_X1_enqueue : GoodIn wsX1_act (wsV RX1 59 RX1 yX1_enqueue wsX1_enqueue) := goodIn_app (goodIn_of _ (by decide +kernel)) ggX1_act_X1_enqueue
set_option maxRecDepth 20000 in
theorem ggX1_act_X1_begin : GoodIn wsX1_act wsX1_begin := goodIn_r _ [64, 65, 66, 67, 68, 8, 0, 1, 2, 3, 4, 5, 6, 7, 9, 10, 11, 12, 13, 14, 15, 16, 17, 18, 19, 20, 21, 22, 23, 24, 25, 26, 27, 28, 29, 30, 31, 32, 33, 34, 35, 36, 37, 38, 39, 40, 41, 42, 43, 44, 45, 46, 47, 48, 49, 50, 51, 52, 53, 54, 55, 56, 57, 58, 59, 60, 61, 62, 63, 69, 70, 71, 72, 73, 74, 75, 76, 77, 78, 79, 80, 81, 82, 83, 84, 85, 86, 87, 88, 89, 90, 91, 92, 93, 94, 95, 96, 97] (by decide +kernel) (by decide +kernel)
set_option maxRecDepth 20000 in
theorem gX1_act_X1_begin : GoodIn wsX1_act (wsV RX1 97 RX1 yX1_begin wsX1_begin) := goodIn_app (goodIn_of _ (by decide +kernel)) ggX1_act_X1_begin
set_option maxRecDepth 20000 in
theorem ggX1_act_X1_handlerOf : GoodIn wsX1_act wsX1_handlerOf := goodIn_r _ [29, 30, 31, 32, 8, 33, 83, 84, 85, 86, 87, 88, 89, 90, 91, 92, 93, 94, 95, 96, 97] (by decide +kernel) (by decide +kernel)
set_option maxRecDepth 20000 in
theorem gX1_act_X1_handlerOf : GoodIn wsX1_act (wsV RX1 55 RX1 yX1_handlerOf wsX1_handlerOf) := goodIn_app (goodIn_of _ (by decide +kernel)) ggX1_act_X1_handlerOf
set_option maxRecDepth 20000 in
theorem ggX1_act_X1_sift : GoodIn wsX1_act wsX1_sift := goodIn_r _ [74, 3, 2, 45, 23, 24, 25, 8, 0, 1, 4, 5, 6, 7, 9, 10, 11, 12, 13, 14, 15, 16, 17, 18, 19, 20, 21, 22, 26, 27, 28, 29, 30, 31, 32, 33, 34, 35, 36, 37, 38, 39, 40, 41, 42, 43, 44, 46, 47, 48, 49, 50, 51, 52, 53, 54, 55, 56, 57, 58, 59, 60, 61, 62, 63, 64, 65, 66, 67, 68, 69, 70, 71, 72, 73, 75, 76, 77, 78, 79, 80, 81, 82, 83, 84, 85, 86, 87, 88, 89, 90, 91, 92, 93, 94, 95, 96, 97] (by decide +kernel) (by decide +kernel)
set_option maxRecDepth 20000 in
theorem gX1_act_X1_sift : GoodIn wsX1_act (wsV RX1 121 RX1 yX1_sift wsX1_sift) := goodIn_app (goodIn_of _ (by decide +kernel)) ggX1_act_X1_sift
set_option maxRecDepth 20000 in
theorem ggX1_act_X1_limit : GoodIn wsX1_act wsX1_limit := goodIn_r _ [71, 72, 53, 45, 23, 24, 25, 8, 0, 1, 2, 3, 4, 5, 6, 7, 9, 10, 11, 12, 13, 14, 15, 16, 17, 18, 19, 20, 21, 22, 26, 27, 28, 29, 30, 31, 32, 33, 34, 35, 36, 37, 38, 39, 40, 41, 42, 43, 44, 46, 47, 48, 49, 50, 51, 52, 54, 55, 56, 57, 58, 59, 60, 61, 62, 63, 64, 65, 66, 67, 68, 69, 70, 73, 74, 75, 76, 77, 78, 79, 80, 81, 82, 83, 84, 85, 86, 87, 88, 89, 90, 91, 92, 93, 94, 95, 96, 97] (by decide +kernel) (by decide +kernel)
set_option maxRecDepth 20000 in
theorem gX1_act_X1_limit : GoodIn wsX1_act (wsV RX1 124 RX1 yX1_limit wsX1_limit) := goodIn_app (goodIn_of _ (by decide +kernel)) ggX1_act_X1_limit
set_option maxRecDepth 20000 in
theorem ggX1_act_X1_once : GoodIn wsX1_act wsX1_once := goodIn_r _ [43, 2, 44, 30, 45, 5, 6, 7, 8, 9, 10, 11, 12, 13, 14, 31, 32, 33, 75, 76, 77, 78, 79, 80, 81, 82, 83, 84, 85, 86, 87, 88, 89, 90, 91, 92, 93, 94, 95, 96, 97] (by decide +kernel) (by decide +kernel)
set_option maxRecDepth 20000 in
theorem gX1_act_X1_once : GoodIn wsX1_act (wsV RX1 127 RX1 yX1_once wsX1_once) := goodIn_app (goodIn_of _ (by decide +kernel)) ggX1_act_X1_once
set_option maxRecDepth 20000 in
theorem ggX1_act_X1_both : GoodIn wsX1_act wsX1_both := goodIn_r _ [69, 45, 4, 23, 24, 25, 8, 0, 1, 2, 3, 5, 6, 7, 9, 10, 11, 12, 13, 14, 15, 16, 17, 18, 19, 20, 21, 22, 26, 27, 28, 29, 30, 31, 32, 33, 34, 35, 36, 37, 38, 39, 40, 41, 42, 43, 44, 46, 47, 48, 49, 50, 51, 52, 53, 54, 55, 56, 57, 58, 59, 60, 61, 62, 63, 64, 65, 66, 67, 68, 70, 71, 72, 73, 74, 75, 76, 77, 78, 79, 80, 81, 82, 83, 84, 85, 86, 87, 88, 89, 90, 91, 92, 93, 94, 95, 96, 97] (by decide +kernel) (by decide +kernel)
set_option maxRecDepth 20000 in
theorem gX1_act_X1_both : GoodIn wsX1_act (wsV RX1 131 RX1 yX1_both wsX1_both) := goodIn_app (goodIn_of _ (by decide +kernel)) ggX1_act_X1_both
set_option maxRecDepth 20000 in
theorem ggX1_act_X1_share : GoodIn wsX1_act wsX1_share := goodIn_r _ [52, 3, 2, 53, 5, 6, 7, 8, 9, 10, 11, 12, 13, 14, 75, 76, 77, 78, 79, 80, 81, 82, 83, 84, 85, 86, 87, 88, 89, 90, 91, 92, 93, 94, 95, 96, 97] (by decide +kernel) (by decide +kernel)
set_option maxRecDepth 20000 in
theorem gX1_act_X1_share : GoodIn wsX1_act (wsV RX1 134 RX1 yX1_share wsX1_share) := goodIn_app (goodIn_of _ (by decide +kernel)) ggX1_act_X1_share
set_option maxRecDepth 20000 in
theorem ggX1_act_X1_keepFailure : GoodIn wsX1_act wsX1_keepFailure := goodIn_r _ [70, 45, 2, 23, 24, 25, 8, 5, 6, 7, 9, 10, 11, 12, 13, 14, 0, 1, 3, 4, 15, 16, 17, 18, 19, 20, 21, 22, 26, 27, 28, 29, 30, 31, 32, 33, 34, 35, 36, 37, 38, 39, 40, 41, 42, 43, 44, 46, 47, 48, 49, 50, 51, 52, 53, 54, 55, 56, 57, 58, 59, 60, 61, 62, 63, 64, 65, 66, 67, 68, 69, 71, 72, 73, 74, 75, 76, 77, 78, 79, 80, 81, 82, 83, 84, 85, 86, 87, 88, 89, 90, 91, 92, 93, 94, 95, 96, 97] (by decide +kernel) (by decide +kernel)
set_option maxRecDepth 20000 in
theorem gX1_act_X1_keepFailure : GoodIn wsX1_act (wsV RX1 137 RX1 yX1_keepFailure wsX1_keepFailure) := goodIn_app (goodIn_of _ (by decide +kernel)) ggX1_act_X1_keepFailure
set_option maxRecDepth 20000 in
theorem ggX1_act_X1_mean : GoodIn wsX1_act wsX1_mean := goodIn_r _ [73, 2, 45, 11, 10, 5, 6, 7, 8, 9, 12, 13, 14, 23, 24, 25, 0, 1, 3, 4, 15, 16, 17, 18, 19, 20, 21, 22, 26, 27, 28, 29, 30, 31, 32, 33, 34, 35, 36, 37, 38, 39, 40, 41, 42, 43, 44, 46, 47, 48, 49, 50, 51, 52, 53, 54, 55, 56, 57, 58, 59, 60, 61, 62, 63, 64, 65, 66, 67, 68, 69, 70, 71, 72, 74, 75, 76, 77, 78, 79, 80, 81, 82, 83, 84, 85, 86, 87, 88, 89, 90, 91, 92, 93, 94, 95, 96, 97] (by decide +kernel) (by decide +kernel)
set_option maxRecDepth 20000 in
theorem gX1_act_X1_mean : GoodIn wsX1_act (wsV RX1 140 RX1 yX1_mean wsX1_mean) := goodIn_app (goodIn_of _ (by decide +kernel)) ggX1_act_X1_mean
set_option maxRecDepth 20000 in
theorem ggX1_act_X1_keepAndSend : GoodIn wsX1_act wsX1_keepAndSend := goodIn_r _ [63, 2, 53, 3, 5, 6, 7, 8, 9, 10, 11, 12, 13, 14, 15, 16, 17, 18, 19, 20, 21, 22, 75, 76, 77, 78, 79, 80, 81, 82, 83, 84, 85, 86, 87, 88, 89, 90, 91, 92, 93, 94, 95, 96, 97] (by decide +kernel) (by decide +kernel)
set_option maxRecDepth 20000 in
theorem gX1_act_X1_keepAndSend : GoodIn wsX1_act (wsV RX1 143 RX1 yX1_keepAndSend wsX1_keepAndSend) := goodIn_app (goodIn_of _ (by decide +kernel)) ggX1_act_X1_keepAndSend
theorem dX1_act_0 : decode cX1_act 0 = .ok (.aload_n 1, 1) := by decide +kernel
theorem dX1_act_1 : decode cX1_act 1 = .ok (.getfield 104, 3) := by decide +kernel
theorem dX1_act_4 : decode cX1_act 4 = .ok (.tableswitch 198 0 11 #[64, 74, 89, 108, 131, 140, 149, 156, 165, 172, 180, 189], 64) := by decide +kernel
theorem dX1_act_68 : decode cX1_act 68 = .ok (.aload_n 0, 1) := by decide +kernel
theorem dX1_act_69 : decode cX1_act 69 = .ok (.aload_n 1, 1) := by decide +kernel
theorem dX1_act_70 : decode cX1_act 70 = .ok (.getfield 107, 3) := by decide +kernel
theorem dX1_act_73 : decode cX1_act 73 = .ok (.lload_n 2, 1) := by decide +kernel
theorem dX1_act_74 : decode cX1_act 74 = .ok (.invokevirtual 110, 3) := by decide +kernel
theorem dX1_act_77 : decode cX1_act 77 = .ok (.ireturn, 1) := by decide +kernel
theorem dX1_act_78 : decode cX1_act 78 = .ok (.aload_n 0, 1) := by decide +kernel
theorem dX1_act_79 : decode cX1_act 79 = .ok (.aload_n 1, 1) := by decide +kernel
theorem dX1_act_80 : decode cX1_act 80 = .ok (.getfield 107, 3) := by decide +kernel
theorem dX1_act_83 : decode cX1_act 83 = .ok (.lload_n 2, 1) := by decide +kernel
theorem dX1_act_84 : decode cX1_act 84 = .ok (.aload_n 1, 1) := by decide +kernel
theorem dX1_act_85 : decode cX1_act 85 = .ok (.getfield 113, 3) := by decide +kernel
theorem dX1_act_88 : decode cX1_act 88 = .ok (.ladd, 1) := by decide +kernel
theorem dX1_act_89 : decode cX1_act 89 = .ok (.invokevirtual 59, 3) := by decide +kernel
theorem dX1_act_92 : decode cX1_act 92 = .ok (.ireturn, 1) := by decide +kernel
theorem dX1_act_93 : decode cX1_act 93 = .ok (.aload_n 0, 1) := by decide +kernel
theorem dX1_act_94 : decode cX1_act 94 = .ok (.aload_n 1, 1) := by decide +kernel
theorem dX1_act_95 : decode cX1_act 95 = .ok (.getfield 117, 3) := by decide +kernel
theorem dX1_act_98 : decode cX1_act 98 = .ok (.lload_n 2, 1) := by decide +kernel
theorem dX1_act_99 : decode cX1_act 99 = .ok (.aload_n 1, 1) := by decide +kernel
theorem dX1_act_100 : decode cX1_act 100 = .ok (.getfield 113, 3) := by decide +kernel
theorem dX1_act_103 : decode cX1_act 103 = .ok (.ladd, 1) := by decide +kernel
theorem dX1_act_104 : decode cX1_act 104 = .ok (.iload 4, 2) := by decide +kernel
theorem dX1_act_106 : decode cX1_act 106 = .ok (.iconst 1, 1) := by decide +kernel
theorem dX1_act_107 : decode cX1_act 107 = .ok (.iadd, 1) := by decide +kernel
theorem dX1_act_108 : decode cX1_act 108 = .ok (.invokevirtual 97, 3) := by decide +kernel
theorem dX1_act_111 : decode cX1_act 111 = .ok (.ireturn, 1) := by decide +kernel
theorem dX1_act_112 : decode cX1_act 112 = .ok (.aload_n 0, 1) := by decide +kernel
theorem dX1_act_113 : decode cX1_act 113 = .ok (.aload_n 0, 1) := by decide +kernel
theorem dX1_act_114 : decode cX1_act 114 = .ok (.aload_n 1, 1) := by decide +kernel
theorem dX1_act_115 : decode cX1_act 115 = .ok (.getfield 107, 3) := by decide +kernel
theorem dX1_act_118 : decode cX1_act 118 = .ok (.invokevirtual 55, 3) := by decide +kernel
theorem dX1_act_121 : decode cX1_act 121 = .ok (.lload_n 2, 1) := by decide +kernel
theorem dX1_act_122 : decode cX1_act 122 = .ok (.aload_n 1, 1) := by decide +kernel
theorem dX1_act_123 : decode cX1_act 123 = .ok (.getfield 113, 3) := by decide +kernel
theorem dX1_act_126 : decode cX1_act 126 = .ok (.ladd, 1) := by decide +kernel
theorem dX1_act_127 : decode cX1_act 127 = .ok (.iload 4, 2) := by decide +kernel
theorem dX1_act_129 : decode cX1_act 129 = .ok (.iconst 1, 1) := by decide +kernel
theorem dX1_act_130 : decode cX1_act 130 = .ok (.iadd, 1) := by decide +kernel
theorem dX1_act_131 : decode cX1_act 131 = .ok (.invokevirtual 97, 3) := by decide +kernel
theorem dX1_act_134 : decode cX1_act 134 = .ok (.ireturn, 1) := by decide +kernel
theorem dX1_act_135 : decode cX1_act 135 = .ok (.aload_n 0, 1) := by decide +kernel
theorem dX1_act_136 : decode cX1_act 136 = .ok (.aload_n 1, 1) := by decide +kernel
theorem dX1_act_137 : decode cX1_act 137 = .ok (.lload_n 2, 1) := by decide +kernel
theorem dX1_act_138 : decode cX1_act 138 = .ok (.iload 4, 2) := by decide +kernel
theorem dX1_act_140 : decode cX1_act 140 = .ok (.invokevirtual 121, 3) := by decide +kernel
theorem dX1_act_143 : decode cX1_act 143 = .ok (.ireturn, 1) := by decide +kernel
theorem dX1_act_144 : decode cX1_act 144 = .ok (.aload_n 0, 1) := by decide +kernel
theorem dX1_act_145 : decode cX1_act 145 = .ok (.aload_n 1, 1) := by decide +kernel
theorem dX1_act_146 : decode cX1_act 146 = .ok (.lload_n 2, 1) := by decide +kernel
theorem dX1_act_147 : decode cX1_act 147 = .ok (.iload 4, 2) := by decide +kernel
theorem dX1_act_149 : decode cX1_act 149 = .ok (.invokevirtual 124, 3) := by decide +kernel
theorem dX1_act_152 : decode cX1_act 152 = .ok (.ireturn, 1) := by decide +kernel
theorem dX1_act_153 : decode cX1_act 153 = .ok (.aload_n 0, 1) := by decide +kernel
theorem dX1_act_154 : decode cX1_act 154 = .ok (.aload_n 1, 1) := by decide +kernel
theorem dX1_act_155 : decode cX1_act 155 = .ok (.lload_n 2, 1) := by decide +kernel
theorem dX1_act_156 : decode cX1_act 156 = .ok (.invokevirtual 127, 3) := by decide +kernel
theorem dX1_act_159 : decode cX1_act 159 = .ok (.ireturn, 1) := by decide +kernel
theorem dX1_act_160 : decode cX1_act 160 = .ok (.aload_n 0, 1) := by decide +kernel
theorem dX1_act_161 : decode cX1_act 161 = .ok (.aload_n 1, 1) := by decide +kernel
theorem dX1_act_162 : decode cX1_act 162 = .ok (.lload_n 2, 1) := by decide +kernel
theorem dX1_act_163 : decode cX1_act 163 = .ok (.iload 4, 2) := by decide +kernel
theorem dX1_act_165 : decode cX1_act 165 = .ok (.invokevirtual 131, 3) := by decide +kernel
theorem dX1_act_168 : decode cX1_act 168 = .ok (.ireturn, 1) := by decide +kernel
theorem dX1_act_169 : decode cX1_act 169 = .ok (.aload_n 0, 1) := by decide +kernel
theorem dX1_act_170 : decode cX1_act 170 = .ok (.aload_n 1, 1) := by decide +kernel
theorem dX1_act_171 : decode cX1_act 171 = .ok (.lload_n 2, 1) := by decide +kernel
theorem dX1_act_172 : decode cX1_act 172 = .ok (.invokevirtual 134, 3) := by decide +kernel
theorem dX1_act_175 : decode cX1_act 175 = .ok (.ireturn, 1) := by decide +kernel
theorem dX1_act_176 : decode cX1_act 176 = .ok (.aload_n 0, 1) := by decide +kernel
theorem dX1_act_177 : decode cX1_act 177 = .ok (.lload_n 2, 1) := by decide +kernel
theorem dX1_act_178 : decode cX1_act 178 = .ok (.l2i, 1) := by decide +kernel
theorem dX1_act_179 : decode cX1_act 179 = .ok (.lconst 1, 1) := by decide +kernel
theorem dX1_act_180 : decode cX1_act 180 = .ok (.invokevirtual 110, 3) := by decide +kernel
theorem dX1_act_183 : decode cX1_act 183 = .ok (.ireturn, 1) := by decide +kernel
theorem dX1_act_184 : decode cX1_act 184 = .ok (.aload_n 0, 1) := by decide +kernel
theorem dX1_act_185 : decode cX1_act 185 = .ok (.aload_n 1, 1) := by decide +kernel
theorem dX1_act_186 : decode cX1_act 186 = .ok (.lload_n 2, 1) := by decide +kernel
theorem dX1_act_187 : decode cX1_act 187 = .ok (.iload 4, 2) := by decide +kernel
theorem dX1_act_189 : decode cX1_act 189 = .ok (.invokevirtual 137, 3) := by decide +kernel
theorem dX1_act_192 : decode cX1_act 192 = .ok (.ireturn, 1) := by decide +kernel
theorem dX1_act_193 : decode cX1_act 193 = .ok (.aload_n 0, 1) := by decide +kernel
theorem dX1_act_194 : decode cX1_act 194 = .ok (.aload_n 1, 1) := by decide +kernel
theorem dX1_act_195 : decode cX1_act 195 = .ok (.lload_n 2, 1) := by decide +kernel
theorem dX1_act_196 : decode cX1_act 196 = .ok (.iload 4, 2) := by decide +kernel
theorem dX1_act_198 : decode cX1_act 198 = .ok (.invokevirtual 140, 3) := by decide +kernel
theorem dX1_act_201 : decode cX1_act 201 = .ok (.ireturn, 1) := by decide +kernel
theorem dX1_act_202 : decode cX1_act 202 = .ok (.aload_n 0, 1) := by decide +kernel
theorem dX1_act_203 : decode cX1_act 203 = .ok (.aload_n 1, 1) := by decide +kernel
theorem dX1_act_204 : decode cX1_act 204 = .ok (.lload_n 2, 1) := by decide +kernel
theorem dX1_act_205 : decode cX1_act 205 = .ok (.invokevirtual 143, 3) := by decide +kernel
theorem dX1_act_208 : decode cX1_act 208 = .ok (.ireturn, 1) := by decide +kernel
set_option maxRecDepth 20000 in
theorem ggX1_keep_X1_isBox : GoodIn wsX1_keep wsX1_isBox := goodIn_r _ [6] (by decide +kernel) (by decide +kernel)
set_option maxRecDepth 20000 in
theorem gX1_keep_X1_isBox : GoodIn wsX1_keep (va_wsS RX1 75 yX1_isBox wsX1_isBox) := goodIn_app (goodIn_of _ (by decide +kernel)) ggX1_keep_X1_isBox
theorem dX1_keep_0 : decode cX1_keep 0 = .ok (.iload_n 1, 1) := by decide +kernel
theorem dX1_keep_1 : decode cX1_keep 1 = .ok (.invokestatic 75, 3) := by decide +kernel
theorem dX1_keep_4 : decode cX1_keep 4 = .ok (.ifCond .ne 5, 3) := by decide +kernel
theorem dX1_keep_7 : decode cX1_keep 7 = .ok (.iconst 3, 1) := by decide +kernel
theorem dX1_keep_8 : decode cX1_keep 8 = .ok (.ireturn, 1) := by decide +kernel
theorem dX1_keep_9 : decode cX1_keep 9 = .ok (.aload_n 0, 1) := by decide +kernel
theorem dX1_keep_10 : decode cX1_keep 10 = .ok (.getfield 9, 3) := by decide +kernel
theorem dX1_keep_13 : decode cX1_keep 13 = .ok (.iload_n 1, 1) := by decide +kernel
theorem dX1_keep_14 : decode cX1_keep 14 = .ok (.dup2, 1) := by decide +kernel
theorem dX1_keep_15 : decode cX1_keep 15 = .ok (.laload, 1) := by decide +kernel
theorem dX1_keep_16 : decode cX1_keep 16 = .ok (.lload_n 2, 1) := by decide +kernel
theorem dX1_keep_17 : decode cX1_keep 17 = .ok (.ladd, 1) := by decide +kernel
theorem dX1_keep_18 : decode cX1_keep 18 = .ok (.lastore, 1) := by decide +kernel
theorem dX1_keep_19 : decode cX1_keep 19 = .ok (.aload_n 0, 1) := by decide +kernel
theorem dX1_keep_20 : decode cX1_keep 20 = .ok (.getfield 13, 3) := by decide +kernel
theorem dX1_keep_23 : decode cX1_keep 23 = .ok (.iload_n 1, 1) := by decide +kernel
theorem dX1_keep_24 : decode cX1_keep 24 = .ok (.dup2, 1) := by decide +kernel
theorem dX1_keep_25 : decode cX1_keep 25 = .ok (.iaload, 1) := by decide +kernel
theorem dX1_keep_26 : decode cX1_keep 26 = .ok (.iconst 1, 1) := by decide +kernel
theorem dX1_keep_27 : decode cX1_keep 27 = .ok (.iadd, 1) := by decide +kernel
theorem dX1_keep_28 : decode cX1_keep 28 = .ok (.iastore, 1) := by decide +kernel
theorem dX1_keep_29 : decode cX1_keep 29 = .ok (.iconst 0, 1) := by decide +kernel
theorem dX1_keep_30 : decode cX1_keep 30 = .ok (.ireturn, 1) := by decide +kernel
set_option maxRecDepth 20000 in
theorem ggX1_sift_X1_begin : GoodIn wsX1_sift wsX1_begin := goodIn_r _ [65, 66, 67, 68, 69, 7, 8, 9, 2, 1, 10, 11, 12, 13, 14, 15, 16, 17, 18, 19, 20, 21, 22, 23, 24, 25, 26, 27, 4, 5, 6, 28, 29, 30, 31, 32, 33, 34, 35, 36, 37, 38, 39, 40, 41, 42, 43, 44, 45, 46, 3, 47, 48, 49, 50, 51, 52, 53, 54, 55, 56, 57, 58, 59, 60, 61, 62, 63, 64, 70, 71, 72, 73, 74, 0, 75, 76, 77, 78, 79, 80, 81, 82, 83, 84, 85, 86, 87, 88, 89, 90, 91, 92, 93, 94, 95, 96, 97] (by decide +kernel) (by decide +kernel)
set_option maxRecDepth 20000 in
theorem gX1_sift_X1_begin : GoodIn wsX1_sift (wsV RX1 97 RX1 yX1_begin wsX1_begin) := goodIn_app (goodIn_of _ (by decide +kernel)) ggX1_sift_X1_begin
theorem dX1_sift_0 : decode cX1_sift 0 = .ok (.aload_n 1, 1) := by decide +kernel
theorem dX1_sift_1 : decode cX1_sift 1 = .ok (.getfield 113, 3) := by decide +kernel
theorem dX1_sift_4 : decode cX1_sift 4 = .ok (.lconst 0, 1) := by decide +kernel
theorem dX1_sift_5 : decode cX1_sift 5 = .ok (.lcmp, 1) := by decide +kernel
theorem dX1_sift_6 : decode cX1_sift 6 = .ok (.ifCond .ne 5, 3) := by decide +kernel
theorem dX1_sift_9 : decode cX1_sift 9 = .ok (.iconst 2, 1) := by decide +kernel
theorem dX1_sift_10 : decode cX1_sift 10 = .ok (.ireturn, 1) := by decide +kernel
theorem dX1_sift_11 : decode cX1_sift 11 = .ok (.lload_n 2, 1) := by decide +kernel
theorem dX1_sift_12 : decode cX1_sift 12 = .ok (.aload_n 1, 1) := by decide +kernel
theorem dX1_sift_13 : decode cX1_sift 13 = .ok (.getfield 113, 3) := by decide +kernel
theorem dX1_sift_16 : decode cX1_sift 16 = .ok (.lrem, 1) := by decide +kernel
theorem dX1_sift_17 : decode cX1_sift 17 = .ok (.aload_n 1, 1) := by decide +kernel
theorem dX1_sift_18 : decode cX1_sift 18 = .ok (.getfield 107, 3) := by decide +kernel
theorem dX1_sift_21 : decode cX1_sift 21 = .ok (.i2l, 1) := by decide +kernel
theorem dX1_sift_22 : decode cX1_sift 22 = .ok (.lcmp, 1) := by decide +kernel
theorem dX1_sift_23 : decode cX1_sift 23 = .ok (.ifCond .ne 19, 3) := by decide +kernel
theorem dX1_sift_26 : decode cX1_sift 26 = .ok (.aload_n 0, 1) := by decide +kernel
theorem dX1_sift_27 : decode cX1_sift 27 = .ok (.aload_n 1, 1) := by decide +kernel
theorem dX1_sift_28 : decode cX1_sift 28 = .ok (.getfield 146, 3) := by decide +kernel
theorem dX1_sift_31 : decode cX1_sift 31 = .ok (.lload_n 2, 1) := by decide +kernel
theorem dX1_sift_32 : decode cX1_sift 32 = .ok (.iload 4, 2) := by decide +kernel
theorem dX1_sift_34 : decode cX1_sift 34 = .ok (.iconst 1, 1) := by decide +kernel
theorem dX1_sift_35 : decode cX1_sift 35 = .ok (.iadd, 1) := by decide +kernel
theorem dX1_sift_36 : decode cX1_sift 36 = .ok (.invokevirtual 97, 3) := by decide +kernel
theorem dX1_sift_39 : decode cX1_sift 39 = .ok (.goto 4, 3) := by decide +kernel
theorem dX1_sift_42 : decode cX1_sift 42 = .ok (.iconst 0, 1) := by decide +kernel
theorem dX1_sift_43 : decode cX1_sift 43 = .ok (.ireturn, 1) := by decide +kernel
set_option maxRecDepth 20000 in
theorem ggX1_limit_X1_begin : GoodIn wsX1_limit wsX1_begin := goodIn_r _ [66, 67, 68, 69, 70, 7, 8, 9, 10, 11, 12, 13, 14, 15, 16, 17, 18, 19, 20, 21, 22, 23, 24, 25, 26, 27, 28, 29, 4, 5, 6, 30, 31, 32, 33, 34, 35, 36, 37, 38, 39, 40, 41, 42, 43, 44, 45, 46, 47, 48, 3, 49, 50, 51, 52, 53, 54, 55, 2, 56, 57, 58, 59, 60, 61, 62, 63, 64, 65, 71, 72, 0, 1, 73, 74, 75, 76, 77, 78, 79, 80, 81, 82, 83, 84, 85, 86, 87, 88, 89, 90, 91, 92, 93, 94, 95, 96, 97] (by decide +kernel) (by decide +kernel)
set_option maxRecDepth 20000 in
theorem gX1_limit_X1_begin : GoodIn wsX1_limit (wsV RX1 97 RX1 yX1_begin wsX1_begin) := goodIn_app (goodIn_of _ (by decide +kernel)) ggX1_limit_X1_begin
theorem dX1_limit_0 : decode cX1_limit 0 = .ok (.aload_n 1, 1) := by decide +kernel
theorem dX1_limit_1 : decode cX1_limit 1 = .ok (.getfield 149, 3) := by decide +kernel
theorem dX1_limit_4 : decode cX1_limit 4 = .ok (.aload_n 1, 1) := by decide +kernel
theorem dX1_limit_5 : decode cX1_limit 5 = .ok (.getfield 152, 3) := by decide +kernel
theorem dX1_limit_8 : decode cX1_limit 8 = .ok (.if_icmp .lt 5, 3) := by decide +kernel
theorem dX1_limit_11 : decode cX1_limit 11 = .ok (.iconst 4, 1) := by decide +kernel
theorem dX1_limit_12 : decode cX1_limit 12 = .ok (.ireturn, 1) := by decide +kernel
theorem dX1_limit_13 : decode cX1_limit 13 = .ok (.aload_n 1, 1) := by decide +kernel
theorem dX1_limit_14 : decode cX1_limit 14 = .ok (.dup, 1) := by decide +kernel
theorem dX1_limit_15 : decode cX1_limit 15 = .ok (.getfield 149, 3) := by decide +kernel
theorem dX1_limit_18 : decode cX1_limit 18 = .ok (.iconst 1, 1) := by decide +kernel
theorem dX1_limit_19 : decode cX1_limit 19 = .ok (.iadd, 1) := by decide +kernel
theorem dX1_limit_20 : decode cX1_limit 20 = .ok (.putfield 149, 3) := by decide +kernel
theorem dX1_limit_23 : decode cX1_limit 23 = .ok (.aload_n 0, 1) := by decide +kernel
theorem dX1_limit_24 : decode cX1_limit 24 = .ok (.aload_n 1, 1) := by decide +kernel
theorem dX1_limit_25 : decode cX1_limit 25 = .ok (.getfield 146, 3) := by decide +kernel
theorem dX1_limit_28 : decode cX1_limit 28 = .ok (.lload_n 2, 1) := by decide +kernel
theorem dX1_limit_29 : decode cX1_limit 29 = .ok (.iload 4, 2) := by decide +kernel
theorem dX1_limit_31 : decode cX1_limit 31 = .ok (.iconst 1, 1) := by decide +kernel
theorem dX1_limit_32 : decode cX1_limit 32 = .ok (.iadd, 1) := by decide +kernel
theorem dX1_limit_33 : decode cX1_limit 33 = .ok (.invokevirtual 97, 3) := by decide +kernel
theorem dX1_limit_36 : decode cX1_limit 36 = .ok (.ireturn, 1) := by decide +kernel
set_option maxRecDepth 20000 in
theorem ggX1_once_X1_keep : GoodIn wsX1_once wsX1_keep := goodIn_r _ [9, 10, 11, 12, 13, 8, 14, 26, 27, 28, 29, 30, 31, 32, 33, 34, 35, 36, 37, 38, 39, 40] (by decide +kernel) (by decide +kernel)
set_option maxRecDepth 20000 in
theorem gX1_once_X1_keep : GoodIn wsX1_once (wsV RX1 110 RX1 yX1_keep wsX1_keep) := goodIn_app (goodIn_of _ (by decide +kernel)) ggX1_once_X1_keep
set_option maxRecDepth 20000 in
theorem ggX1_once_X1_isKind : GoodIn wsX1_once wsX1_isKind := goodIn_r _ [17] (by decide +kernel) (by decide +kernel)
set_option maxRecDepth 20000 in
theorem gX1_once_X1_isKind : GoodIn wsX1_once (va_wsS RX1 43 yX1_isKind wsX1_isKind) := goodIn_app (goodIn_of _ (by decide +kernel)) ggX1_once_X1_isKind
theorem dX1_once_0 : decode cX1_once 0 = .ok (.aload_n 0, 1) := by decide +kernel
theorem dX1_once_1 : decode cX1_once 1 = .ok (.aload_n 1, 1) := by decide +kernel
theorem dX1_once_2 : decode cX1_once 2 = .ok (.getfield 107, 3) := by decide +kernel
theorem dX1_once_5 : decode cX1_once 5 = .ok (.lload_n 2, 1) := by decide +kernel
theorem dX1_once_6 : decode cX1_once 6 = .ok (.invokevirtual 110, 3) := by decide +kernel
theorem dX1_once_9 : decode cX1_once 9 = .ok (.istore 4, 2) := by decide +kernel
theorem dX1_once_11 : decode cX1_once 11 = .ok (.iload 4, 2) := by decide +kernel
theorem dX1_once_13 : decode cX1_once 13 = .ok (.ifCond .ne 26, 3) := by decide +kernel
theorem dX1_once_16 : decode cX1_once 16 = .ok (.aload_n 1, 1) := by decide +kernel
theorem dX1_once_17 : decode cX1_once 17 = .ok (.getfield 155, 3) := by decide +kernel
theorem dX1_once_20 : decode cX1_once 20 = .ok (.invokestatic 43, 3) := by decide +kernel
theorem dX1_once_23 : decode cX1_once 23 = .ok (.ifCond .eq 16, 3) := by decide +kernel
theorem dX1_once_26 : decode cX1_once 26 = .ok (.aload_n 0, 1) := by decide +kernel
theorem dX1_once_27 : decode cX1_once 27 = .ok (.getfield 19, 3) := by decide +kernel
theorem dX1_once_30 : decode cX1_once 30 = .ok (.aload_n 1, 1) := by decide +kernel
theorem dX1_once_31 : decode cX1_once 31 = .ok (.getfield 155, 3) := by decide +kernel
theorem dX1_once_34 : decode cX1_once 34 = .ok (.aload_n 1, 1) := by decide +kernel
theorem dX1_once_35 : decode cX1_once 35 = .ok (.getfield 146, 3) := by decide +kernel
theorem dX1_once_38 : decode cX1_once 38 = .ok (.aastore, 1) := by decide +kernel
theorem dX1_once_39 : decode cX1_once 39 = .ok (.iload 4, 2) := by decide +kernel
theorem dX1_once_41 : decode cX1_once 41 = .ok (.ireturn, 1) := by decide +kernel
set_option maxRecDepth 20000 in
theorem ggX1_both_X1_begin : GoodIn wsX1_both wsX1_begin := goodIn_r _ [65, 66, 67, 68, 69, 6, 7, 8, 9, 10, 2, 11, 12, 13, 14, 15, 16, 17, 18, 19, 20, 21, 22, 23, 24, 25, 26, 27, 3, 4, 5, 28, 29, 30, 31, 32, 33, 34, 35, 36, 37, 38, 39, 40, 41, 42, 43, 44, 45, 46, 1, 47, 48, 49, 50, 51, 52, 53, 54, 55, 56, 57, 58, 59, 60, 61, 62, 63, 64, 0, 70, 71, 72, 73, 74, 75, 76, 77, 78, 79, 80, 81, 82, 83, 84, 85, 86, 87, 88, 89, 90, 91, 92, 93, 94, 95, 96, 97] (by decide +kernel) (by decide +kernel)
set_option maxRecDepth 20000 in
theorem gX1_both_X1_begin : GoodIn wsX1_both (wsV RX1 97 RX1 yX1_begin wsX1_begin) := goodIn_app (goodIn_of _ (by decide +kernel)) ggX1_both_X1_begin
theorem dX1_both_0 : decode cX1_both 0 = .ok (.aload_n 0, 1) := by decide +kernel
theorem dX1_both_1 : decode cX1_both 1 = .ok (.aload_n 1, 1) := by decide +kernel
theorem dX1_both_2 : decode cX1_both 2 = .ok (.getfield 146, 3) := by decide +kernel
theorem dX1_both_5 : decode cX1_both 5 = .ok (.lload_n 2, 1) := by decide +kernel
theorem dX1_both_6 : decode cX1_both 6 = .ok (.iload 4, 2) := by decide +kernel
theorem dX1_both_8 : decode cX1_both 8 = .ok (.iconst 1, 1) := by decide +kernel
theorem dX1_both_9 : decode cX1_both 9 = .ok (.iadd, 1) := by decide +kernel
theorem dX1_both_10 : decode cX1_both 10 = .ok (.invokevirtual 97, 3) := by decide +kernel
theorem dX1_both_13 : decode cX1_both 13 = .ok (.istore 5, 2) := by decide +kernel
theorem dX1_both_15 : decode cX1_both 15 = .ok (.iload 5, 2) := by decide +kernel
theorem dX1_both_17 : decode cX1_both 17 = .ok (.ifCond .ne 19, 3) := by decide +kernel
theorem dX1_both_20 : decode cX1_both 20 = .ok (.aload_n 0, 1) := by decide +kernel
theorem dX1_both_21 : decode cX1_both 21 = .ok (.aload_n 1, 1) := by decide +kernel
theorem dX1_both_22 : decode cX1_both 22 = .ok (.getfield 117, 3) := by decide +kernel
theorem dX1_both_25 : decode cX1_both 25 = .ok (.lload_n 2, 1) := by decide +kernel
theorem dX1_both_26 : decode cX1_both 26 = .ok (.iload 4, 2) := by decide +kernel
theorem dX1_both_28 : decode cX1_both 28 = .ok (.iconst 1, 1) := by decide +kernel
theorem dX1_both_29 : decode cX1_both 29 = .ok (.iadd, 1) := by decide +kernel
theorem dX1_both_30 : decode cX1_both 30 = .ok (.invokevirtual 97, 3) := by decide +kernel
theorem dX1_both_33 : decode cX1_both 33 = .ok (.goto 5, 3) := by decide +kernel
theorem dX1_both_36 : decode cX1_both 36 = .ok (.iload 5, 2) := by decide +kernel
theorem dX1_both_38 : decode cX1_both 38 = .ok (.ireturn, 1) := by decide +kernel
set_option maxRecDepth 20000 in
theorem ggX1_share_X1_keep : GoodIn wsX1_share wsX1_keep := goodIn_r _ [8, 9, 10, 11, 12, 7, 13, 22, 23, 24, 25, 26, 27, 28, 29, 30, 31, 32, 33, 34, 35, 36] (by decide +kernel) (by decide +kernel)
set_option maxRecDepth 20000 in
theorem gX1_share_X1_keep : GoodIn wsX1_share (wsV RX1 110 RX1 yX1_keep wsX1_keep) := goodIn_app (goodIn_of _ (by decide +kernel)) ggX1_share_X1_keep
theorem dX1_share_0 : decode cX1_share 0 = .ok (.aload_n 1, 1) := by decide +kernel
theorem dX1_share_1 : decode cX1_share 1 = .ok (.getfield 113, 3) := by decide +kernel
theorem dX1_share_4 : decode cX1_share 4 = .ok (.lconst 0, 1) := by decide +kernel
theorem dX1_share_5 : decode cX1_share 5 = .ok (.lcmp, 1) := by decide +kernel
theorem dX1_share_6 : decode cX1_share 6 = .ok (.ifCond .ne 5, 3) := by decide +kernel
theorem dX1_share_9 : decode cX1_share 9 = .ok (.iconst 2, 1) := by decide +kernel
theorem dX1_share_10 : decode cX1_share 10 = .ok (.ireturn, 1) := by decide +kernel
theorem dX1_share_11 : decode cX1_share 11 = .ok (.aload_n 0, 1) := by decide +kernel
theorem dX1_share_12 : decode cX1_share 12 = .ok (.aload_n 1, 1) := by decide +kernel
theorem dX1_share_13 : decode cX1_share 13 = .ok (.getfield 107, 3) := by decide +kernel
theorem dX1_share_16 : decode cX1_share 16 = .ok (.lload_n 2, 1) := by decide +kernel
theorem dX1_share_17 : decode cX1_share 17 = .ok (.aload_n 1, 1) := by decide +kernel
theorem dX1_share_18 : decode cX1_share 18 = .ok (.getfield 113, 3) := by decide +kernel
theorem dX1_share_21 : decode cX1_share 21 = .ok (.ldiv, 1) := by decide +kernel
theorem dX1_share_22 : decode cX1_share 22 = .ok (.invokevirtual 110, 3) := by decide +kernel
theorem dX1_share_25 : decode cX1_share 25 = .ok (.istore 4, 2) := by decide +kernel
theorem dX1_share_27 : decode cX1_share 27 = .ok (.iload 4, 2) := by decide +kernel
theorem dX1_share_29 : decode cX1_share 29 = .ok (.ifCond .ne 20, 3) := by decide +kernel
theorem dX1_share_32 : decode cX1_share 32 = .ok (.aload_n 0, 1) := by decide +kernel
theorem dX1_share_33 : decode cX1_share 33 = .ok (.aload_n 1, 1) := by decide +kernel
theorem dX1_share_34 : decode cX1_share 34 = .ok (.getfield 152, 3) := by decide +kernel
theorem dX1_share_37 : decode cX1_share 37 = .ok (.lload_n 2, 1) := by decide +kernel
theorem dX1_share_38 : decode cX1_share 38 = .ok (.aload_n 1, 1) := by decide +kernel
theorem dX1_share_39 : decode cX1_share 39 = .ok (.getfield 113, 3) := by decide +kernel
theorem dX1_share_42 : decode cX1_share 42 = .ok (.lrem, 1) := by decide +kernel
theorem dX1_share_43 : decode cX1_share 43 = .ok (.invokevirtual 110, 3) := by decide +kernel
theorem dX1_share_46 : decode cX1_share 46 = .ok (.goto 5, 3) := by decide +kernel
theorem dX1_share_49 : decode cX1_share 49 = .ok (.iload 4, 2) := by decide +kernel
theorem dX1_share_51 : decode cX1_share 51 = .ok (.ireturn, 1) := by decide +kernel
set_option maxRecDepth 20000 in
theorem ggX1_keepFailure_X1_begin : GoodIn wsX1_keepFailure wsX1_begin := goodIn_r _ [65, 66, 67, 68, 69, 6, 16, 17, 2, 18, 19, 7, 8, 9, 10, 11, 12, 13, 14, 15, 20, 21, 22, 23, 24, 25, 26, 27, 3, 4, 5, 28, 29, 30, 31, 32, 33, 34, 35, 36, 37, 38, 39, 40, 41, 42, 43, 44, 45, 46, 1, 47, 48, 49, 50, 51, 52, 53, 54, 55, 56, 57, 58, 59, 60, 61, 62, 63, 64, 70, 0, 71, 72, 73, 74, 75, 76, 77, 78, 79, 80, 81, 82, 83, 84, 85, 86, 87, 88, 89, 90, 91, 92, 93, 94, 95, 96, 97] (by decide +kernel) (by decide +kernel)
set_option maxRecDepth 20000 in
theorem gX1_keepFailure_X1_begin : GoodIn wsX1_keepFailure (wsV RX1 97 RX1 yX1_begin wsX1_begin) := goodIn_app (goodIn_of _ (by decide +kernel)) ggX1_keepFailure_X1_begin
set_option maxRecDepth 20000 in
theorem ggX1_keepFailure_X1_keep : GoodIn wsX1_keepFailure wsX1_keep := goodIn_r _ [10, 11, 12, 13, 14, 6, 15, 83, 84, 85, 86, 87, 88, 89, 90, 91, 92, 93, 94, 95, 96, 97] (by decide +kernel) (by decide +kernel)
set_option maxRecDepth 20000 in
theorem gX1_keepFailure_X1_keep : GoodIn wsX1_keepFailure (wsV RX1 110 RX1 yX1_keep wsX1_keep) := goodIn_app (goodIn_of _ (by decide +kernel)) ggX1_keepFailure_X1_keep
theorem dX1_keepFailure_0 : decode cX1_keepFailure 0 = .ok (.aload_n 0, 1) := by decide +kernel
theorem dX1_keepFailure_1 : decode cX1_keepFailure 1 = .ok (.aload_n 1, 1) := by decide +kernel
theorem dX1_keepFailure_2 : decode cX1_keepFailure 2 = .ok (.getfield 146, 3) := by decide +kernel
theorem dX1_keepFailure_5 : decode cX1_keepFailure 5 = .ok (.lload_n 2, 1) := by decide +kernel
theorem dX1_keepFailure_6 : decode cX1_keepFailure 6 = .ok (.iload 4, 2) := by decide +kernel
theorem dX1_keepFailure_8 : decode cX1_keepFailure 8 = .ok (.iconst 1, 1) := by decide +kernel
theorem dX1_keepFailure_9 : decode cX1_keepFailure 9 = .ok (.iadd, 1) := by decide +kernel
theorem dX1_keepFailure_10 : decode cX1_keepFailure 10 = .ok (.invokevirtual 97, 3) := by decide +kernel
theorem dX1_keepFailure_13 : decode cX1_keepFailure 13 = .ok (.istore 5, 2) := by decide +kernel
theorem dX1_keepFailure_15 : decode cX1_keepFailure 15 = .ok (.iload 5, 2) := by decide +kernel
theorem dX1_keepFailure_17 : decode cX1_keepFailure 17 = .ok (.ifCond .eq 10, 3) := by decide +kernel
theorem dX1_keepFailure_20 : decode cX1_keepFailure 20 = .ok (.iload 5, 2) := by decide +kernel
theorem dX1_keepFailure_22 : decode cX1_keepFailure 22 = .ok (.bipush 6, 2) := by decide +kernel
theorem dX1_keepFailure_24 : decode cX1_keepFailure 24 = .ok (.if_icmp .ne 8, 3) := by decide +kernel
theorem dX1_keepFailure_27 : decode cX1_keepFailure 27 = .ok (.iload 5, 2) := by decide +kernel
theorem dX1_keepFailure_29 : decode cX1_keepFailure 29 = .ok (.goto 14, 3) := by decide +kernel
theorem dX1_keepFailure_32 : decode cX1_keepFailure 32 = .ok (.aload_n 0, 1) := by decide +kernel
theorem dX1_keepFailure_33 : decode cX1_keepFailure 33 = .ok (.aload_n 1, 1) := by decide +kernel
theorem dX1_keepFailure_34 : decode cX1_keepFailure 34 = .ok (.getfield 107, 3) := by decide +kernel
theorem dX1_keepFailure_37 : decode cX1_keepFailure 37 = .ok (.iload 5, 2) := by decide +kernel
theorem dX1_keepFailure_39 : decode cX1_keepFailure 39 = .ok (.i2l, 1) := by decide +kernel
theorem dX1_keepFailure_40 : decode cX1_keepFailure 40 = .ok (.invokevirtual 110, 3) := by decide +kernel
theorem dX1_keepFailure_43 : decode cX1_keepFailure 43 = .ok (.ireturn, 1) := by decide +kernel
set_option maxRecDepth 20000 in
theorem ggX1_mean_X1_keep : GoodIn wsX1_mean wsX1_keep := goodIn_r _ [9, 4, 3, 10, 11, 8, 12, 83, 84, 85, 86, 87, 88, 89, 90, 91, 92, 93, 94, 95, 96, 97] (by decide +kernel) (by decide +kernel)
set_option maxRecDepth 20000 in
theorem gX1_mean_X1_keep : GoodIn wsX1_mean (wsV RX1 110 RX1 yX1_keep wsX1_keep) := goodIn_app (goodIn_of _ (by decide +kernel)) ggX1_mean_X1_keep
set_option maxRecDepth 20000 in
theorem ggX1_mean_X1_isBox : GoodIn wsX1_mean wsX1_isBox := goodIn_r _ [12] (by decide +kernel) (by decide +kernel)
set_option maxRecDepth 20000 in
theorem gX1_mean_X1_isBox : GoodIn wsX1_mean (va_wsS RX1 75 yX1_isBox wsX1_isBox) := goodIn_app (goodIn_of _ (by decide +kernel)) ggX1_mean_X1_isBox
set_option maxRecDepth 20000 in
theorem ggX1_mean_X1_begin : GoodIn wsX1_mean wsX1_begin := goodIn_r _ [65, 66, 67, 68, 69, 8, 16, 17, 1, 18, 19, 5, 6, 7, 9, 4, 3, 10, 11, 12, 20, 21, 22, 23, 24, 25, 26, 27, 13, 14, 15, 28, 29, 30, 31, 32, 33, 34, 35, 36, 37, 38, 39, 40, 41, 42, 43, 44, 45, 46, 2, 47, 48, 49, 50, 51, 52, 53, 54, 55, 56, 57, 58, 59, 60, 61, 62, 63, 64, 70, 71, 72, 73, 0, 74, 75, 76, 77, 78, 79, 80, 81, 82, 83, 84, 85, 86, 87, 88, 89, 90, 91, 92, 93, 94, 95, 96, 97] (by decide +kernel) (by decide +kernel)
set_option maxRecDepth 20000 in
theorem gX1_mean_X1_begin : GoodIn wsX1_mean (wsV RX1 97 RX1 yX1_begin wsX1_begin) := goodIn_app (goodIn_of _ (by decide +kernel)) ggX1_mean_X1_begin
theorem dX1_mean_0 : decode cX1_mean 0 = .ok (.aload_n 1, 1) := by decide +kernel
theorem dX1_mean_1 : decode cX1_mean 1 = .ok (.getfield 107, 3) := by decide +kernel
theorem dX1_mean_4 : decode cX1_mean 4 = .ok (.istore 5, 2) := by decide +kernel
theorem dX1_mean_6 : decode cX1_mean 6 = .ok (.aload_n 0, 1) := by decide +kernel
theorem dX1_mean_7 : decode cX1_mean 7 = .ok (.iload 5, 2) := by decide +kernel
theorem dX1_mean_9 : decode cX1_mean 9 = .ok (.lload_n 2, 1) := by decide +kernel
theorem dX1_mean_10 : decode cX1_mean 10 = .ok (.invokevirtual 110, 3) := by decide +kernel
theorem dX1_mean_13 : decode cX1_mean 13 = .ok (.istore 6, 2) := by decide +kernel
theorem dX1_mean_15 : decode cX1_mean 15 = .ok (.iload 6, 2) := by decide +kernel
theorem dX1_mean_17 : decode cX1_mean 17 = .ok (.ifCond .ne 10, 3) := by decide +kernel
theorem dX1_mean_20 : decode cX1_mean 20 = .ok (.aload_n 1, 1) := by decide +kernel
theorem dX1_mean_21 : decode cX1_mean 21 = .ok (.getfield 146, 3) := by decide +kernel
theorem dX1_mean_24 : decode cX1_mean 24 = .ok (.ifnonnull 6, 3) := by decide +kernel
theorem dX1_mean_27 : decode cX1_mean 27 = .ok (.iload 6, 2) := by decide +kernel
theorem dX1_mean_29 : decode cX1_mean 29 = .ok (.ireturn, 1) := by decide +kernel
theorem dX1_mean_30 : decode cX1_mean 30 = .ok (.iload 5, 2) := by decide +kernel
theorem dX1_mean_32 : decode cX1_mean 32 = .ok (.invokestatic 75, 3) := by decide +kernel
theorem dX1_mean_35 : decode cX1_mean 35 = .ok (.ifCond .eq 13, 3) := by decide +kernel
theorem dX1_mean_38 : decode cX1_mean 38 = .ok (.aload_n 0, 1) := by decide +kernel
theorem dX1_mean_39 : decode cX1_mean 39 = .ok (.getfield 13, 3) := by decide +kernel
theorem dX1_mean_42 : decode cX1_mean 42 = .ok (.iload 5, 2) := by decide +kernel
theorem dX1_mean_44 : decode cX1_mean 44 = .ok (.iaload, 1) := by decide +kernel
theorem dX1_mean_45 : decode cX1_mean 45 = .ok (.ifCond .ne 5, 3) := by decide +kernel
theorem dX1_mean_48 : decode cX1_mean 48 = .ok (.iconst 2, 1) := by decide +kernel
theorem dX1_mean_49 : decode cX1_mean 49 = .ok (.ireturn, 1) := by decide +kernel
theorem dX1_mean_50 : decode cX1_mean 50 = .ok (.aload_n 0, 1) := by decide +kernel
theorem dX1_mean_51 : decode cX1_mean 51 = .ok (.aload_n 1, 1) := by decide +kernel
theorem dX1_mean_52 : decode cX1_mean 52 = .ok (.getfield 146, 3) := by decide +kernel
theorem dX1_mean_55 : decode cX1_mean 55 = .ok (.aload_n 0, 1) := by decide +kernel
theorem dX1_mean_56 : decode cX1_mean 56 = .ok (.getfield 9, 3) := by decide +kernel
theorem dX1_mean_59 : decode cX1_mean 59 = .ok (.iload 5, 2) := by decide +kernel
theorem dX1_mean_61 : decode cX1_mean 61 = .ok (.laload, 1) := by decide +kernel
theorem dX1_mean_62 : decode cX1_mean 62 = .ok (.aload_n 0, 1) := by decide +kernel
theorem dX1_mean_63 : decode cX1_mean 63 = .ok (.getfield 13, 3) := by decide +kernel
theorem dX1_mean_66 : decode cX1_mean 66 = .ok (.iload 5, 2) := by decide +kernel
theorem dX1_mean_68 : decode cX1_mean 68 = .ok (.iaload, 1) := by decide +kernel
theorem dX1_mean_69 : decode cX1_mean 69 = .ok (.i2l, 1) := by decide +kernel
theorem dX1_mean_70 : decode cX1_mean 70 = .ok (.ldiv, 1) := by decide +kernel
theorem dX1_mean_71 : decode cX1_mean 71 = .ok (.iload 4, 2) := by decide +kernel
theorem dX1_mean_73 : decode cX1_mean 73 = .ok (.iconst 1, 1) := by decide +kernel
theorem dX1_mean_74 : decode cX1_mean 74 = .ok (.iadd, 1) := by decide +kernel
theorem dX1_mean_75 : decode cX1_mean 75 = .ok (.invokevirtual 97, 3) := by decide +kernel
theorem dX1_mean_78 : decode cX1_mean 78 = .ok (.ireturn, 1) := by decide +kernel
set_option maxRecDepth 20000 in
theorem ggX1_keepAndSend_X1_keep : GoodIn wsX1_keepAndSend wsX1_keep := goodIn_r _ [8, 9, 10, 11, 12, 7, 13, 30, 31, 32, 33, 34, 35, 36, 37, 38, 39, 40, 41, 42, 43, 44] (by decide +kernel) (by decide +kernel)
set_option maxRecDepth 20000 in
theorem gX1_keepAndSend_X1_keep : GoodIn wsX1_keepAndSend (wsV RX1 110 RX1 yX1_keep wsX1_keep) := goodIn_app (goodIn_of _ (by decide +kernel)) ggX1_keepAndSend_X1_keep
set_option maxRecDepth 20000 in
theorem ggX1_keepAndSend_X1_enqueue : GoodIn wsX1_keepAndSend wsX1_enqueue := goodIn_r _ [17, 18, 19, 20, 21, 30, 31, 32, 33, 34, 35, 36, 37, 38, 39, 40, 41, 42, 43, 44] (by decide +kernel) (by decide +kernel)
set_option maxRecDepth 20000 in
theorem gX1_keepAndSend_X1_enqueue : GoodIn wsX1_keepAndSend (wsV RX1 59 RX1 yX1_enqueue wsX1_enqueue) := goodIn_app (goodIn_of _ (by decide +kernel)) ggX1_keepAndSend_X1_enqueue
theorem dX1_keepAndSend_0 : decode cX1_keepAndSend 0 = .ok (.aload_n 0, 1) := by decide +kernel
theorem dX1_keepAndSend_1 : decode cX1_keepAndSend 1 = .ok (.aload_n 1, 1) := by decide +kernel
theorem dX1_keepAndSend_2 : decode cX1_keepAndSend 2 = .ok (.getfield 107, 3) := by decide +kernel
theorem dX1_keepAndSend_5 : decode cX1_keepAndSend 5 = .ok (.lload_n 2, 1) := by decide +kernel
theorem dX1_keepAndSend_6 : decode cX1_keepAndSend 6 = .ok (.invokevirtual 110, 3) := by decide +kernel
theorem dX1_keepAndSend_9 : decode cX1_keepAndSend 9 = .ok (.istore 4, 2) := by decide +kernel
theorem dX1_keepAndSend_11 : decode cX1_keepAndSend 11 = .ok (.iload 4, 2) := by decide +kernel
theorem dX1_keepAndSend_13 : decode cX1_keepAndSend 13 = .ok (.ifCond .ne 26, 3) := by decide +kernel
theorem dX1_keepAndSend_16 : decode cX1_keepAndSend 16 = .ok (.lload_n 2, 1) := by decide +kernel
theorem dX1_keepAndSend_17 : decode cX1_keepAndSend 17 = .ok (.lconst 1, 1) := by decide +kernel
theorem dX1_keepAndSend_18 : decode cX1_keepAndSend 18 = .ok (.lcmp, 1) := by decide +kernel
theorem dX1_keepAndSend_19 : decode cX1_keepAndSend 19 = .ok (.ifCond .le 20, 3) := by decide +kernel
theorem dX1_keepAndSend_22 : decode cX1_keepAndSend 22 = .ok (.aload_n 0, 1) := by decide +kernel
theorem dX1_keepAndSend_23 : decode cX1_keepAndSend 23 = .ok (.aload_n 1, 1) := by decide +kernel
theorem dX1_keepAndSend_24 : decode cX1_keepAndSend 24 = .ok (.getfield 152, 3) := by decide +kernel
theorem dX1_keepAndSend_27 : decode cX1_keepAndSend 27 = .ok (.lload_n 2, 1) := by decide +kernel
theorem dX1_keepAndSend_28 : decode cX1_keepAndSend 28 = .ok (.aload_n 1, 1) := by decide +kernel
theorem dX1_keepAndSend_29 : decode cX1_keepAndSend 29 = .ok (.getfield 113, 3) := by decide +kernel
theorem dX1_keepAndSend_32 : decode cX1_keepAndSend 32 = .ok (.ladd, 1) := by decide +kernel
theorem dX1_keepAndSend_33 : decode cX1_keepAndSend 33 = .ok (.invokevirtual 59, 3) := by decide +kernel
theorem dX1_keepAndSend_36 : decode cX1_keepAndSend 36 = .ok (.goto 5, 3) := by decide +kernel
theorem dX1_keepAndSend_39 : decode cX1_keepAndSend 39 = .ok (.iload 4, 2) := by decide +kernel
theorem dX1_keepAndSend_41 : decode cX1_keepAndSend 41 = .ok (.ireturn, 1) := by decide +kernel
end
section
theorem dX2_init_0 : decode cX2_init 0 = .ok (.aload_n 0, 1) := by decide +kernel
theorem dX2_init_1 : decode cX2_init 1 = .ok (.invokespecial 1, 3) := by decide +kernel
theorem dX2_init_4 : decode cX2_init 4 = .ok (.aload_n 0, 1) := by decide +kernel
theorem dX2_init_5 : decode cX2_init 5 = .ok (.bipush 6, 2) := by decide +kernel
theorem dX2_init_7 : decode cX2_init 7 = .ok (.newarray .long, 2) := by decide +kernel
theorem dX2_init_9 : decode cX2_init 9 = .ok (.putfield 7, 3) := by decide +kernel
theorem dX2_init_12 : decode cX2_init 12 = .ok (.aload_n 0, 1) := by decide +kernel
theorem dX2_init_13 : decode cX2_init 13 = .ok (.bipush 6, 2) := by decide +kernel
theorem dX2_init_15 : decode cX2_init 15 = .ok (.newarray .int, 2) := by decide +kernel
theorem dX2_init_17 : decode cX2_init 17 = .ok (.putfield 13, 3) := by decide +kernel
theorem dX2_init_20 : decode cX2_init 20 = .ok (.aload_n 0, 1) := by decide +kernel
theorem dX2_init_21 : decode cX2_init 21 = .ok (.sipush 202, 3) := by decide +kernel
theorem dX2_init_24 : decode cX2_init 24 = .ok (.newarray .int, 2) := by decide +kernel
theorem dX2_init_26 : decode cX2_init 26 = .ok (.putfield 17, 3) := by decide +kernel
theorem dX2_init_29 : decode cX2_init 29 = .ok (.aload_n 0, 1) := by decide +kernel
theorem dX2_init_30 : decode cX2_init 30 = .ok (.sipush 202, 3) := by decide +kernel
theorem dX2_init_33 : decode cX2_init 33 = .ok (.newarray .int, 2) := by decide +kernel
theorem dX2_init_35 : decode cX2_init 35 = .ok (.putfield 20, 3) := by decide +kernel
theorem dX2_init_38 : decode cX2_init 38 = .ok (.aload_n 0, 1) := by decide +kernel
theorem dX2_init_39 : decode cX2_init 39 = .ok (.sipush 202, 3) := by decide +kernel
theorem dX2_init_42 : decode cX2_init 42 = .ok (.newarray .int, 2) := by decide +kernel
theorem dX2_init_44 : decode cX2_init 44 = .ok (.putfield 23, 3) := by decide +kernel
theorem dX2_init_47 : decode cX2_init 47 = .ok (.aload_n 0, 1) := by decide +kernel
theorem dX2_init_48 : decode cX2_init 48 = .ok (.sipush 202, 3) := by decide +kernel
theorem dX2_init_51 : decode cX2_init 51 = .ok (.newarray .int, 2) := by decide +kernel
theorem dX2_init_53 : decode cX2_init 53 = .ok (.putfield 26, 3) := by decide +kernel
theorem dX2_init_56 : decode cX2_init 56 = .ok (.aload_n 0, 1) := by decide +kernel
theorem dX2_init_57 : decode cX2_init 57 = .ok (.sipush 202, 3) := by decide +kernel
theorem dX2_init_60 : decode cX2_init 60 = .ok (.newarray .long, 2) := by decide +kernel
theorem dX2_init_62 : decode cX2_init 62 = .ok (.putfield 29, 3) := by decide +kernel
theorem dX2_init_65 : decode cX2_init 65 = .ok (.aload_n 0, 1) := by decide +kernel
theorem dX2_init_66 : decode cX2_init 66 = .ok (.sipush 202, 3) := by decide +kernel
theorem dX2_init_69 : decode cX2_init 69 = .ok (.newarray .int, 2) := by decide +kernel
theorem dX2_init_71 : decode cX2_init 71 = .ok (.putfield 32, 3) := by decide +kernel
theorem dX2_init_74 : decode cX2_init 74 = .ok (.aload_n 0, 1) := by decide +kernel
theorem dX2_init_75 : decode cX2_init 75 = .ok (.sipush 202, 3) := by decide +kernel
theorem dX2_init_78 : decode cX2_init 78 = .ok (.newarray .int, 2) := by decide +kernel
theorem dX2_init_80 : decode cX2_init 80 = .ok (.putfield 35, 3) := by decide +kernel
theorem dX2_init_83 : decode cX2_init 83 = .ok (.aload_n 0, 1) := by decide +kernel
theorem dX2_init_84 : decode cX2_init 84 = .ok (.sipush 202, 3) := by decide +kernel
theorem dX2_init_87 : decode cX2_init 87 = .ok (.newarray .int, 2) := by decide +kernel
theorem dX2_init_89 : decode cX2_init 89 = .ok (.putfield 38, 3) := by decide +kernel
theorem dX2_init_92 : decode cX2_init 92 = .ok (.aload_n 0, 1) := by decide +kernel
theorem dX2_init_93 : decode cX2_init 93 = .ok (.bipush 10, 2) := by decide +kernel
theorem dX2_init_95 : decode cX2_init 95 = .ok (.newarray .int, 2) := by decide +kernel
theorem dX2_init_97 : decode cX2_init 97 = .ok (.putfield 41, 3) := by decide +kernel
theorem dX2_init_100 : decode cX2_init 100 = .ok (.aload_n 0, 1) := by decide +kernel
theorem dX2_init_101 : decode cX2_init 101 = .ok (.bipush 40, 2) := by decide +kernel
theorem dX2_init_103 : decode cX2_init 103 = .ok (.newarray .int, 2) := by decide +kernel
theorem dX2_init_105 : decode cX2_init 105 = .ok (.putfield 44, 3) := by decide +kernel
theorem dX2_init_108 : decode cX2_init 108 = .ok (.aload_n 0, 1) := by decide +kernel
theorem dX2_init_109 : decode cX2_init 109 = .ok (.bipush 40, 2) := by decide +kernel
theorem dX2_init_111 : decode cX2_init 111 = .ok (.newarray .long, 2) := by decide +kernel
theorem dX2_init_113 : decode cX2_init 113 = .ok (.putfield 47, 3) := by decide +kernel
theorem dX2_init_116 : decode cX2_init 116 = .ok (.aload_n 0, 1) := by decide +kernel
theorem dX2_init_117 : decode cX2_init 117 = .ok (.bipush 30, 2) := by decide +kernel
theorem dX2_init_119 : decode cX2_init 119 = .ok (.newarray .int, 2) := by decide +kernel
theorem dX2_init_121 : decode cX2_init 121 = .ok (.putfield 50, 3) := by decide +kernel
theorem dX2_init_124 : decode cX2_init 124 = .ok (.aload_n 0, 1) := by decide +kernel
theorem dX2_init_125 : decode cX2_init 125 = .ok (.bipush 30, 2) := by decide +kernel
theorem dX2_init_127 : decode cX2_init 127 = .ok (.newarray .int, 2) := by decide +kernel
theorem dX2_init_129 : decode cX2_init 129 = .ok (.putfield 53, 3) := by decide +kernel
theorem dX2_init_132 : decode cX2_init 132 = .ok (.aload_n 0, 1) := by decide +kernel
theorem dX2_init_133 : decode cX2_init 133 = .ok (.bipush 30, 2) := by decide +kernel
theorem dX2_init_135 : decode cX2_init 135 = .ok (.newarray .long, 2) := by decide +kernel
theorem dX2_init_137 : decode cX2_init 137 = .ok (.putfield 56, 3) := by decide +kernel
theorem dX2_init_140 : decode cX2_init 140 = .ok (.aload_n 0, 1) := by decide +kernel
theorem dX2_init_141 : decode cX2_init 141 = .ok (.bipush 8, 2) := by decide +kernel
theorem dX2_init_143 : decode cX2_init 143 = .ok (.newarray .int, 2) := by decide +kernel
theorem dX2_init_145 : decode cX2_init 145 = .ok (.putfield 59, 3) := by decide +kernel
theorem dX2_init_148 : decode cX2_init 148 = .ok (.aload_n 0, 1) := by decide +kernel
theorem dX2_init_149 : decode cX2_init 149 = .ok (.bipush 8, 2) := by decide +kernel
theorem dX2_init_151 : decode cX2_init 151 = .ok (.newarray .int, 2) := by decide +kernel
theorem dX2_init_153 : decode cX2_init 153 = .ok (.putfield 62, 3) := by decide +kernel
theorem dX2_init_156 : decode cX2_init 156 = .ok (.aload_n 0, 1) := by decide +kernel
theorem dX2_init_157 : decode cX2_init 157 = .ok (.bipush 8, 2) := by decide +kernel
theorem dX2_init_159 : decode cX2_init 159 = .ok (.newarray .long, 2) := by decide +kernel
theorem dX2_init_161 : decode cX2_init 161 = .ok (.putfield 65, 3) := by decide +kernel
theorem dX2_init_164 : decode cX2_init 164 = .ok (.aload_n 0, 1) := by decide +kernel
theorem dX2_init_165 : decode cX2_init 165 = .ok (.getfield 17, 3) := by decide +kernel
theorem dX2_init_168 : decode cX2_init 168 = .ok (.iconst 0, 1) := by decide +kernel
theorem dX2_init_169 : decode cX2_init 169 = .ok (.iconst 0, 1) := by decide +kernel
theorem dX2_init_170 : decode cX2_init 170 = .ok (.iastore, 1) := by decide +kernel
theorem dX2_init_171 : decode cX2_init 171 = .ok (.aload_n 0, 1) := by decide +kernel
theorem dX2_init_172 : decode cX2_init 172 = .ok (.getfield 17, 3) := by decide +kernel
theorem dX2_init_175 : decode cX2_init 175 = .ok (.iconst 1, 1) := by decide +kernel
theorem dX2_init_176 : decode cX2_init 176 = .ok (.bipush 12, 2) := by decide +kernel
theorem dX2_init_178 : decode cX2_init 178 = .ok (.iastore, 1) := by decide +kernel
theorem dX2_init_179 : decode cX2_init 179 = .ok (.aload_n 0, 1) := by decide +kernel
theorem dX2_init_180 : decode cX2_init 180 = .ok (.getfield 23, 3) := by decide +kernel
theorem dX2_init_183 : decode cX2_init 183 = .ok (.iconst 1, 1) := by decide +kernel
theorem dX2_init_184 : decode cX2_init 184 = .ok (.iconst 1, 1) := by decide +kernel
theorem dX2_init_185 : decode cX2_init 185 = .ok (.iastore, 1) := by decide +kernel
theorem dX2_init_186 : decode cX2_init 186 = .ok (.aload_n 0, 1) := by decide +kernel
theorem dX2_init_187 : decode cX2_init 187 = .ok (.iconst 2, 1) := by decide +kernel
theorem dX2_init_188 : decode cX2_init 188 = .ok (.putfield 68, 3) := by decide +kernel
theorem dX2_init_191 : decode cX2_init 191 = .ok (.iconst 0, 1) := by decide +kernel
theorem dX2_init_192 : decode cX2_init 192 = .ok (.istore_n 1, 1) := by decide +kernel
theorem dX2_init_193 : decode cX2_init 193 = .ok (.iload_n 1, 1) := by decide +kernel
theorem dX2_init_194 : decode cX2_init 194 = .ok (.bipush 10, 2) := by decide +kernel
theorem dX2_init_196 : decode cX2_init 196 = .ok (.if_icmp .ge 25, 3) := by decide +kernel
theorem dX2_init_199 : decode cX2_init 199 = .ok (.aload_n 0, 1) := by decide +kernel
theorem dX2_init_200 : decode cX2_init 200 = .ok (.getfield 41, 3) := by decide +kernel
theorem dX2_init_203 : decode cX2_init 203 = .ok (.iload_n 1, 1) := by decide +kernel
theorem dX2_init_204 : decode cX2_init 204 = .ok (.iload_n 1, 1) := by decide +kernel
theorem dX2_init_205 : decode cX2_init 205 = .ok (.iconst 2, 1) := by decide +kernel
theorem dX2_init_206 : decode cX2_init 206 = .ok (.if_icmp .ge 7, 3) := by decide +kernel
theorem dX2_init_209 : decode cX2_init 209 = .ok (.iload_n 1, 1) := by decide +kernel
theorem dX2_init_210 : decode cX2_init 210 = .ok (.goto 4, 3) := by decide +kernel
theorem dX2_init_213 : decode cX2_init 213 = .ok (.iconst (-1), 1) := by decide +kernel
theorem dX2_init_214 : decode cX2_init 214 = .ok (.iastore, 1) := by decide +kernel
theorem dX2_init_215 : decode cX2_init 215 = .ok (.iinc 1 1, 3) := by decide +kernel
theorem dX2_init_218 : decode cX2_init 218 = .ok (.goto (-25), 3) := by decide +kernel
theorem dX2_init_221 : decode cX2_init 221 = .ok (.return_, 1) := by decide +kernel
theorem dX2_in_0 : decode cX2_in 0 = .ok (.iload_n 0, 1) := by decide +kernel
theorem dX2_in_1 : decode cX2_in 1 = .ok (.iload_n 1, 1) := by decide +kernel
theorem dX2_in_2 : decode cX2_in 2 = .ok (.if_icmp .lt 12, 3) := by decide +kernel
theorem dX2_in_5 : decode cX2_in 5 = .ok (.iload_n 0, 1) := by decide +kernel
theorem dX2_in_6 : decode cX2_in 6 = .ok (.iload_n 2, 1) := by decide +kernel
theorem dX2_in_7 : decode cX2_in 7 = .ok (.if_icmp .gt 7, 3) := by decide +kernel
theorem dX2_in_10 : decode cX2_in 10 = .ok (.iconst 1, 1) := by decide +kernel
theorem dX2_in_11 : decode cX2_in 11 = .ok (.goto 4, 3) := by decide +kernel
theorem dX2_in_14 : decode cX2_in 14 = .ok (.iconst 0, 1) := by decide +kernel
theorem dX2_in_15 : decode cX2_in 15 = .ok (.ireturn, 1) := by decide +kernel
set_option maxRecDepth 20000 in
theorem ggX2_isKind_X2_in : GoodIn wsX2_isKind wsX2_in := goodIn_r _ [4] (by decide +kernel) (by decide +kernel)
set_option maxRecDepth 20000 in
theorem gX2_isKind_X2_in : GoodIn wsX2_isKind (va_wsS RX2 72 yX2_in wsX2_in) := goodIn_app (goodIn_of _ (by decide +kernel)) ggX2_isKind_X2_in
theorem dX2_isKind_0 : decode cX2_isKind 0 = .ok (.iload_n 0, 1) := by decide +kernel
theorem dX2_isKind_1 : decode cX2_isKind 1 = .ok (.iconst 0, 1) := by decide +kernel
theorem dX2_isKind_2 : decode cX2_isKind 2 = .ok (.bipush 9, 2) := by decide +kernel
theorem dX2_isKind_4 : decode cX2_isKind 4 = .ok (.invokestatic 72, 3) := by decide +kernel
theorem dX2_isKind_7 : decode cX2_isKind 7 = .ok (.ireturn, 1) := by decide +kernel
set_option maxRecDepth 20000 in
theorem ggX2_isBox_X2_in : GoodIn wsX2_isBox wsX2_in := goodIn_r _ [4] (by decide +kernel) (by decide +kernel)
set_option maxRecDepth 20000 in
theorem gX2_isBox_X2_in : GoodIn wsX2_isBox (va_wsS RX2 72 yX2_in wsX2_in) := goodIn_app (goodIn_of _ (by decide +kernel)) ggX2_isBox_X2_in
theorem dX2_isBox_0 : decode cX2_isBox 0 = .ok (.iload_n 0, 1) := by decide +kernel
theorem dX2_isBox_1 : decode cX2_isBox 1 = .ok (.iconst 0, 1) := by decide +kernel
theorem dX2_isBox_2 : decode cX2_isBox 2 = .ok (.iconst 5, 1) := by decide +kernel
theorem dX2_isBox_3 : decode cX2_isBox 3 = .ok (.invokestatic 72, 3) := by decide +kernel
theorem dX2_isBox_6 : decode cX2_isBox 6 = .ok (.ireturn, 1) := by decide +kernel
set_option maxRecDepth 20000 in
theorem ggX2_areKnown_X2_isBox : GoodIn wsX2_areKnown wsX2_isBox := goodIn_r _ [4, 5, 6, 3, 7] (by decide +kernel) (by decide +kernel)
set_option maxRecDepth 20000 in
theorem gX2_areKnown_X2_isBox : GoodIn wsX2_areKnown (va_wsS RX2 76 yX2_isBox wsX2_isBox) := goodIn_app (goodIn_of _ (by decide +kernel)) ggX2_areKnown_X2_isBox
set_option maxRecDepth 20000 in
theorem ggX2_areKnown_X2_isKind : GoodIn wsX2_areKnown wsX2_isKind := goodIn_r _ [10, 5, 6, 3, 7] (by decide +kernel) (by decide +kernel)
set_option maxRecDepth 20000 in
theorem gX2_areKnown_X2_isKind : GoodIn wsX2_areKnown (va_wsS RX2 80 yX2_isKind wsX2_isKind) := goodIn_app (goodIn_of _ (by decide +kernel)) ggX2_areKnown_X2_isKind
theorem dX2_areKnown_0 : decode cX2_areKnown 0 = .ok (.iload_n 0, 1) := by decide +kernel
theorem dX2_areKnown_1 : decode cX2_areKnown 1 = .ok (.tableswitch 93 0 11 #[63, 88, 88, 88, 93, 93, 63, 88, 68, 93, 63, 63], 63) := by decide +kernel
theorem dX2_areKnown_64 : decode cX2_areKnown 64 = .ok (.iload_n 1, 1) := by decide +kernel
theorem dX2_areKnown_65 : decode cX2_areKnown 65 = .ok (.invokestatic 76, 3) := by decide +kernel
theorem dX2_areKnown_68 : decode cX2_areKnown 68 = .ok (.ireturn, 1) := by decide +kernel
theorem dX2_areKnown_69 : decode cX2_areKnown 69 = .ok (.iload_n 1, 1) := by decide +kernel
theorem dX2_areKnown_70 : decode cX2_areKnown 70 = .ok (.invokestatic 76, 3) := by decide +kernel
theorem dX2_areKnown_73 : decode cX2_areKnown 73 = .ok (.ifCond .eq 14, 3) := by decide +kernel
theorem dX2_areKnown_76 : decode cX2_areKnown 76 = .ok (.iload_n 2, 1) := by decide +kernel
theorem dX2_areKnown_77 : decode cX2_areKnown 77 = .ok (.invokestatic 76, 3) := by decide +kernel
theorem dX2_areKnown_80 : decode cX2_areKnown 80 = .ok (.ifCond .eq 7, 3) := by decide +kernel
theorem dX2_areKnown_83 : decode cX2_areKnown 83 = .ok (.iconst 1, 1) := by decide +kernel
theorem dX2_areKnown_84 : decode cX2_areKnown 84 = .ok (.goto 4, 3) := by decide +kernel
theorem dX2_areKnown_87 : decode cX2_areKnown 87 = .ok (.iconst 0, 1) := by decide +kernel
theorem dX2_areKnown_88 : decode cX2_areKnown 88 = .ok (.ireturn, 1) := by decide +kernel
theorem dX2_areKnown_89 : decode cX2_areKnown 89 = .ok (.iload_n 1, 1) := by decide +kernel
theorem dX2_areKnown_90 : decode cX2_areKnown 90 = .ok (.invokestatic 80, 3) := by decide +kernel
theorem dX2_areKnown_93 : decode cX2_areKnown 93 = .ok (.ireturn, 1) := by decide +kernel
theorem dX2_areKnown_94 : decode cX2_areKnown 94 = .ok (.iconst 1, 1) := by decide +kernel
theorem dX2_areKnown_95 : decode cX2_areKnown 95 = .ok (.ireturn, 1) := by decide +kernel
set_option maxRecDepth 20000 in
theorem ggX2_handle_X2_in : GoodIn wsX2_handle wsX2_in := goodIn_r _ [14] (by decide +kernel) (by decide +kernel)
set_option maxRecDepth 20000 in
theorem gX2_handle_X2_in : GoodIn wsX2_handle (va_wsS RX2 72 yX2_in wsX2_in) := goodIn_app (goodIn_of _ (by decide +kernel)) ggX2_handle_X2_in
set_option maxRecDepth 20000 in
theorem ggX2_handle_X2_isKind : GoodIn wsX2_handle wsX2_isKind := goodIn_r _ [17, 11, 12, 13, 14] (by decide +kernel) (by decide +kernel)
set_option maxRecDepth 20000 in
theorem gX2_handle_X2_isKind : GoodIn wsX2_handle (va_wsS RX2 80 yX2_isKind wsX2_isKind) := goodIn_app (goodIn_of _ (by decide +kernel)) ggX2_handle_X2_isKind
set_option maxRecDepth 20000 in
theorem ggX2_handle_X2_areKnown : GoodIn wsX2_handle wsX2_areKnown := goodIn_r _ [20, 21, 22, 13, 23, 11, 12, 14, 15, 16, 17] (by decide +kernel) (by decide +kernel)
set_option maxRecDepth 20000 in
theorem gX2_handle_X2_areKnown : GoodIn wsX2_handle (va_wsS RX2 83 yX2_areKnown wsX2_areKnown) := goodIn_app (goodIn_of _ (by decide +kernel)) ggX2_handle_X2_areKnown
theorem dX2_handle_0 : decode cX2_handle 0 = .ok (.iload_n 2, 1) := by decide +kernel
theorem dX2_handle_1 : decode cX2_handle 1 = .ok (.iconst 0, 1) := by decide +kernel
theorem dX2_handle_2 : decode cX2_handle 2 = .ok (.bipush 11, 2) := by decide +kernel
theorem dX2_handle_4 : decode cX2_handle 4 = .ok (.invokestatic 72, 3) := by decide +kernel
theorem dX2_handle_7 : decode cX2_handle 7 = .ok (.ifCond .ne 6, 3) := by decide +kernel
theorem dX2_handle_10 : decode cX2_handle 10 = .ok (.bipush (-3), 2) := by decide +kernel
theorem dX2_handle_12 : decode cX2_handle 12 = .ok (.ireturn, 1) := by decide +kernel
theorem dX2_handle_13 : decode cX2_handle 13 = .ok (.iload_n 1, 1) := by decide +kernel
theorem dX2_handle_14 : decode cX2_handle 14 = .ok (.invokestatic 80, 3) := by decide +kernel
theorem dX2_handle_17 : decode cX2_handle 17 = .ok (.ifCond .eq 13, 3) := by decide +kernel
theorem dX2_handle_20 : decode cX2_handle 20 = .ok (.iload_n 2, 1) := by decide +kernel
theorem dX2_handle_21 : decode cX2_handle 21 = .ok (.iload_n 3, 1) := by decide +kernel
theorem dX2_handle_22 : decode cX2_handle 22 = .ok (.iload 4, 2) := by decide +kernel
theorem dX2_handle_24 : decode cX2_handle 24 = .ok (.invokestatic 83, 3) := by decide +kernel
theorem dX2_handle_27 : decode cX2_handle 27 = .ok (.ifCond .ne 6, 3) := by decide +kernel
theorem dX2_handle_30 : decode cX2_handle 30 = .ok (.bipush (-2), 2) := by decide +kernel
theorem dX2_handle_32 : decode cX2_handle 32 = .ok (.ireturn, 1) := by decide +kernel
theorem dX2_handle_33 : decode cX2_handle 33 = .ok (.iload_n 2, 1) := by decide +kernel
theorem dX2_handle_34 : decode cX2_handle 34 = .ok (.iconst 5, 1) := by decide +kernel
theorem dX2_handle_35 : decode cX2_handle 35 = .ok (.if_icmp .ne 17, 3) := by decide +kernel
theorem dX2_handle_38 : decode cX2_handle 38 = .ok (.iload 4, 2) := by decide +kernel
theorem dX2_handle_40 : decode cX2_handle 40 = .ok (.iconst 0, 1) := by decide +kernel
theorem dX2_handle_41 : decode cX2_handle 41 = .ok (.bipush 100, 2) := by decide +kernel
theorem dX2_handle_43 : decode cX2_handle 43 = .ok (.invokestatic 72, 3) := by decide +kernel
theorem dX2_handle_46 : decode cX2_handle 46 = .ok (.ifCond .ne 6, 3) := by decide +kernel
theorem dX2_handle_49 : decode cX2_handle 49 = .ok (.bipush (-3), 2) := by decide +kernel
theorem dX2_handle_51 : decode cX2_handle 51 = .ok (.ireturn, 1) := by decide +kernel
theorem dX2_handle_52 : decode cX2_handle 52 = .ok (.aload_n 0, 1) := by decide +kernel
theorem dX2_handle_53 : decode cX2_handle 53 = .ok (.getfield 68, 3) := by decide +kernel
theorem dX2_handle_56 : decode cX2_handle 56 = .ok (.sipush 202, 3) := by decide +kernel
theorem dX2_handle_59 : decode cX2_handle 59 = .ok (.if_icmp .ne 6, 3) := by decide +kernel
theorem dX2_handle_62 : decode cX2_handle 62 = .ok (.bipush (-4), 2) := by decide +kernel
theorem dX2_handle_64 : decode cX2_handle 64 = .ok (.ireturn, 1) := by decide +kernel
theorem dX2_handle_65 : decode cX2_handle 65 = .ok (.aload_n 0, 1) := by decide +kernel
theorem dX2_handle_66 : decode cX2_handle 66 = .ok (.getfield 68, 3) := by decide +kernel
theorem dX2_handle_69 : decode cX2_handle 69 = .ok (.istore 7, 2) := by decide +kernel
theorem dX2_handle_71 : decode cX2_handle 71 = .ok (.aload_n 0, 1) := by decide +kernel
theorem dX2_handle_72 : decode cX2_handle 72 = .ok (.getfield 17, 3) := by decide +kernel
theorem dX2_handle_75 : decode cX2_handle 75 = .ok (.iload 7, 2) := by decide +kernel
theorem dX2_handle_77 : decode cX2_handle 77 = .ok (.iload_n 2, 1) := by decide +kernel
theorem dX2_handle_78 : decode cX2_handle 78 = .ok (.iastore, 1) := by decide +kernel
theorem dX2_handle_79 : decode cX2_handle 79 = .ok (.aload_n 0, 1) := by decide +kernel
theorem dX2_handle_80 : decode cX2_handle 80 = .ok (.getfield 20, 3) := by decide +kernel
theorem dX2_handle_83 : decode cX2_handle 83 = .ok (.iload 7, 2) := by decide +kernel
theorem dX2_handle_85 : decode cX2_handle 85 = .ok (.iload_n 1, 1) := by decide +kernel
theorem dX2_handle_86 : decode cX2_handle 86 = .ok (.iastore, 1) := by decide +kernel
theorem dX2_handle_87 : decode cX2_handle 87 = .ok (.aload_n 0, 1) := by decide +kernel
theorem dX2_handle_88 : decode cX2_handle 88 = .ok (.getfield 23, 3) := by decide +kernel
theorem dX2_handle_91 : decode cX2_handle 91 = .ok (.iload 7, 2) := by decide +kernel
theorem dX2_handle_93 : decode cX2_handle 93 = .ok (.iload_n 3, 1) := by decide +kernel
theorem dX2_handle_94 : decode cX2_handle 94 = .ok (.iastore, 1) := by decide +kernel
theorem dX2_handle_95 : decode cX2_handle 95 = .ok (.aload_n 0, 1) := by decide +kernel
theorem dX2_handle_96 : decode cX2_handle 96 = .ok (.getfield 26, 3) := by decide +kernel
theorem dX2_handle_99 : decode cX2_handle 99 = .ok (.iload 7, 2) := by decide +kernel
theorem dX2_handle_101 : decode cX2_handle 101 = .ok (.iload 4, 2) := by decide +kernel
theorem dX2_handle_103 : decode cX2_handle 103 = .ok (.iastore, 1) := by decide +kernel
theorem dX2_handle_104 : decode cX2_handle 104 = .ok (.aload_n 0, 1) := by decide +kernel
theorem dX2_handle_105 : decode cX2_handle 105 = .ok (.getfield 29, 3) := by decide +kernel
theorem dX2_handle_108 : decode cX2_handle 108 = .ok (.iload 7, 2) := by decide +kernel
theorem dX2_handle_110 : decode cX2_handle 110 = .ok (.lload 5, 2) := by decide +kernel
theorem dX2_handle_112 : decode cX2_handle 112 = .ok (.lastore, 1) := by decide +kernel
theorem dX2_handle_113 : decode cX2_handle 113 = .ok (.aload_n 0, 1) := by decide +kernel
theorem dX2_handle_114 : decode cX2_handle 114 = .ok (.getfield 32, 3) := by decide +kernel
theorem dX2_handle_117 : decode cX2_handle 117 = .ok (.iload 7, 2) := by decide +kernel
theorem dX2_handle_119 : decode cX2_handle 119 = .ok (.aload_n 0, 1) := by decide +kernel
theorem dX2_handle_120 : decode cX2_handle 120 = .ok (.getfield 41, 3) := by decide +kernel
theorem dX2_handle_123 : decode cX2_handle 123 = .ok (.iload_n 1, 1) := by decide +kernel
theorem dX2_handle_124 : decode cX2_handle 124 = .ok (.iaload, 1) := by decide +kernel
theorem dX2_handle_125 : decode cX2_handle 125 = .ok (.iastore, 1) := by decide +kernel
theorem dX2_handle_126 : decode cX2_handle 126 = .ok (.aload_n 0, 1) := by decide +kernel
theorem dX2_handle_127 : decode cX2_handle 127 = .ok (.getfield 35, 3) := by decide +kernel
theorem dX2_handle_130 : decode cX2_handle 130 = .ok (.iload 7, 2) := by decide +kernel
theorem dX2_handle_132 : decode cX2_handle 132 = .ok (.iload_n 2, 1) := by decide +kernel
theorem dX2_handle_133 : decode cX2_handle 133 = .ok (.iconst 2, 1) := by decide +kernel
theorem dX2_handle_134 : decode cX2_handle 134 = .ok (.if_icmp .eq 9, 3) := by decide +kernel
theorem dX2_handle_137 : decode cX2_handle 137 = .ok (.iload_n 2, 1) := by decide +kernel
theorem dX2_handle_138 : decode cX2_handle 138 = .ok (.bipush 7, 2) := by decide +kernel
theorem dX2_handle_140 : decode cX2_handle 140 = .ok (.if_icmp .ne 12, 3) := by decide +kernel
theorem dX2_handle_143 : decode cX2_handle 143 = .ok (.aload_n 0, 1) := by decide +kernel
theorem dX2_handle_144 : decode cX2_handle 144 = .ok (.getfield 41, 3) := by decide +kernel
theorem dX2_handle_147 : decode cX2_handle 147 = .ok (.iload_n 3, 1) := by decide +kernel
theorem dX2_handle_148 : decode cX2_handle 148 = .ok (.iaload, 1) := by decide +kernel
theorem dX2_handle_149 : decode cX2_handle 149 = .ok (.goto 4, 3) := by decide +kernel
theorem dX2_handle_152 : decode cX2_handle 152 = .ok (.iconst (-1), 1) := by decide +kernel
theorem dX2_handle_153 : decode cX2_handle 153 = .ok (.iastore, 1) := by decide +kernel
theorem dX2_handle_154 : decode cX2_handle 154 = .ok (.aload_n 0, 1) := by decide +kernel
theorem dX2_handle_155 : decode cX2_handle 155 = .ok (.getfield 38, 3) := by decide +kernel
theorem dX2_handle_158 : decode cX2_handle 158 = .ok (.iload 7, 2) := by decide +kernel
theorem dX2_handle_160 : decode cX2_handle 160 = .ok (.iconst 0, 1) := by decide +kernel
theorem dX2_handle_161 : decode cX2_handle 161 = .ok (.iastore, 1) := by decide +kernel
theorem dX2_handle_162 : decode cX2_handle 162 = .ok (.aload_n 0, 1) := by decide +kernel
theorem dX2_handle_163 : decode cX2_handle 163 = .ok (.getfield 41, 3) := by decide +kernel
theorem dX2_handle_166 : decode cX2_handle 166 = .ok (.iload_n 1, 1) := by decide +kernel
theorem dX2_handle_167 : decode cX2_handle 167 = .ok (.iload 7, 2) := by decide +kernel
theorem dX2_handle_169 : decode cX2_handle 169 = .ok (.iastore, 1) := by decide +kernel
theorem dX2_handle_170 : decode cX2_handle 170 = .ok (.aload_n 0, 1) := by decide +kernel
theorem dX2_handle_171 : decode cX2_handle 171 = .ok (.dup, 1) := by decide +kernel
theorem dX2_handle_172 : decode cX2_handle 172 = .ok (.getfield 68, 3) := by decide +kernel
theorem dX2_handle_175 : decode cX2_handle 175 = .ok (.iconst 1, 1) := by decide +kernel
theorem dX2_handle_176 : decode cX2_handle 176 = .ok (.iadd, 1) := by decide +kernel
theorem dX2_handle_177 : decode cX2_handle 177 = .ok (.putfield 68, 3) := by decide +kernel
theorem dX2_handle_180 : decode cX2_handle 180 = .ok (.aload_n 0, 1) := by decide +kernel
theorem dX2_handle_181 : decode cX2_handle 181 = .ok (.getfield 32, 3) := by decide +kernel
theorem dX2_handle_184 : decode cX2_handle 184 = .ok (.iload 7, 2) := by decide +kernel
theorem dX2_handle_186 : decode cX2_handle 186 = .ok (.iaload, 1) := by decide +kernel
theorem dX2_handle_187 : decode cX2_handle 187 = .ok (.ifCond .lt 7, 3) := by decide +kernel
theorem dX2_handle_190 : decode cX2_handle 190 = .ok (.iconst 1, 1) := by decide +kernel
theorem dX2_handle_191 : decode cX2_handle 191 = .ok (.goto 4, 3) := by decide +kernel
theorem dX2_handle_194 : decode cX2_handle 194 = .ok (.iconst 0, 1) := by decide +kernel
theorem dX2_handle_195 : decode cX2_handle 195 = .ok (.ireturn, 1) := by decide +kernel
set_option maxRecDepth 20000 in
theorem ggX2_drop_X2_isKind : GoodIn wsX2_drop wsX2_isKind := goodIn_r _ [5, 6, 7, 4, 8] (by decide +kernel) (by decide +kernel)
set_option maxRecDepth 20000 in
theorem gX2_drop_X2_isKind : GoodIn wsX2_drop (va_wsS RX2 80 yX2_isKind wsX2_isKind) := goodIn_app (goodIn_of _ (by decide +kernel)) ggX2_drop_X2_isKind
theorem dX2_drop_0 : decode cX2_drop 0 = .ok (.iload_n 1, 1) := by decide +kernel
theorem dX2_drop_1 : decode cX2_drop 1 = .ok (.invokestatic 80, 3) := by decide +kernel
theorem dX2_drop_4 : decode cX2_drop 4 = .ok (.ifCond .ne 6, 3) := by decide +kernel
theorem dX2_drop_7 : decode cX2_drop 7 = .ok (.bipush (-2), 2) := by decide +kernel
theorem dX2_drop_9 : decode cX2_drop 9 = .ok (.ireturn, 1) := by decide +kernel
theorem dX2_drop_10 : decode cX2_drop 10 = .ok (.aload_n 0, 1) := by decide +kernel
theorem dX2_drop_11 : decode cX2_drop 11 = .ok (.getfield 41, 3) := by decide +kernel
theorem dX2_drop_14 : decode cX2_drop 14 = .ok (.iload_n 1, 1) := by decide +kernel
theorem dX2_drop_15 : decode cX2_drop 15 = .ok (.iaload, 1) := by decide +kernel
theorem dX2_drop_16 : decode cX2_drop 16 = .ok (.ifCond .lt 7, 3) := by decide +kernel
theorem dX2_drop_19 : decode cX2_drop 19 = .ok (.iconst 1, 1) := by decide +kernel
theorem dX2_drop_20 : decode cX2_drop 20 = .ok (.goto 4, 3) := by decide +kernel
theorem dX2_drop_23 : decode cX2_drop 23 = .ok (.iconst 0, 1) := by decide +kernel
theorem dX2_drop_24 : decode cX2_drop 24 = .ok (.istore_n 2, 1) := by decide +kernel
theorem dX2_drop_25 : decode cX2_drop 25 = .ok (.aload_n 0, 1) := by decide +kernel
theorem dX2_drop_26 : decode cX2_drop 26 = .ok (.getfield 41, 3) := by decide +kernel
theorem dX2_drop_29 : decode cX2_drop 29 = .ok (.iload_n 1, 1) := by decide +kernel
theorem dX2_drop_30 : decode cX2_drop 30 = .ok (.iconst (-1), 1) := by decide +kernel
theorem dX2_drop_31 : decode cX2_drop 31 = .ok (.iastore, 1) := by decide +kernel
theorem dX2_drop_32 : decode cX2_drop 32 = .ok (.iload_n 2, 1) := by decide +kernel
theorem dX2_drop_33 : decode cX2_drop 33 = .ok (.ireturn, 1) := by decide +kernel
set_option maxRecDepth 20000 in
theorem ggX2_has_X2_isKind : GoodIn wsX2_has wsX2_isKind := goodIn_r _ [5, 6, 7, 4, 8] (by decide +kernel) (by decide +kernel)
set_option maxRecDepth 20000 in
theorem gX2_has_X2_isKind : GoodIn wsX2_has (va_wsS RX2 80 yX2_isKind wsX2_isKind) := goodIn_app (goodIn_of _ (by decide +kernel)) ggX2_has_X2_isKind
theorem dX2_has_0 : decode cX2_has 0 = .ok (.iload_n 1, 1) := by decide +kernel
theorem dX2_has_1 : decode cX2_has 1 = .ok (.invokestatic 80, 3) := by decide +kernel
theorem dX2_has_4 : decode cX2_has 4 = .ok (.ifCond .ne 8, 3) := by decide +kernel
theorem dX2_has_7 : decode cX2_has 7 = .ok (.bipush (-2), 2) := by decide +kernel
theorem dX2_has_9 : decode cX2_has 9 = .ok (.goto 17, 3) := by decide +kernel
theorem dX2_has_12 : decode cX2_has 12 = .ok (.aload_n 0, 1) := by decide +kernel
theorem dX2_has_13 : decode cX2_has 13 = .ok (.getfield 41, 3) := by decide +kernel
theorem dX2_has_16 : decode cX2_has 16 = .ok (.iload_n 1, 1) := by decide +kernel
theorem dX2_has_17 : decode cX2_has 17 = .ok (.iaload, 1) := by decide +kernel
theorem dX2_has_18 : decode cX2_has 18 = .ok (.ifCond .lt 7, 3) := by decide +kernel
theorem dX2_has_21 : decode cX2_has 21 = .ok (.iconst 1, 1) := by decide +kernel
theorem dX2_has_22 : decode cX2_has 22 = .ok (.goto 4, 3) := by decide +kernel
theorem dX2_has_25 : decode cX2_has 25 = .ok (.iconst 0, 1) := by decide +kernel
theorem dX2_has_26 : decode cX2_has 26 = .ok (.ireturn, 1) := by decide +kernel
set_option maxRecDepth 20000 in
theorem ggX2_post_X2_isKind : GoodIn wsX2_post wsX2_isKind := goodIn_r _ [5, 6, 7, 4, 8] (by decide +kernel) (by decide +kernel)
set_option maxRecDepth 20000 in
theorem gX2_post_X2_isKind : GoodIn wsX2_post (va_wsS RX2 80 yX2_isKind wsX2_isKind) := goodIn_app (goodIn_of _ (by decide +kernel)) ggX2_post_X2_isKind
set_option maxRecDepth 20000 in
theorem ggX2_post_X2_comes : GoodIn wsX2_post wsX2_comes := goodIn_r _ [12, 13, 1, 14, 15, 16, 17, 18, 19, 20, 21, 22, 23, 24, 25, 26, 27, 28, 29, 30, 31, 32, 33, 34, 35, 36, 37, 38, 39, 40, 41, 42] (by decide +kernel) (by decide +kernel)
set_option maxRecDepth 20000 in
theorem gX2_post_X2_comes : GoodIn wsX2_post (wsV RX2 89 RX2 yX2_comes wsX2_comes) := goodIn_app (goodIn_of _ (by decide +kernel)) ggX2_post_X2_comes
theorem dX2_post_0 : decode cX2_post 0 = .ok (.iload_n 1, 1) := by decide +kernel
theorem dX2_post_1 : decode cX2_post 1 = .ok (.invokestatic 80, 3) := by decide +kernel
theorem dX2_post_4 : decode cX2_post 4 = .ok (.ifCond .ne 6, 3) := by decide +kernel
theorem dX2_post_7 : decode cX2_post 7 = .ok (.bipush (-2), 2) := by decide +kernel
theorem dX2_post_9 : decode cX2_post 9 = .ok (.ireturn, 1) := by decide +kernel
theorem dX2_post_10 : decode cX2_post 10 = .ok (.aload_n 0, 1) := by decide +kernel
theorem dX2_post_11 : decode cX2_post 11 = .ok (.getfield 86, 3) := by decide +kernel
theorem dX2_post_14 : decode cX2_post 14 = .ok (.bipush 40, 2) := by decide +kernel
theorem dX2_post_16 : decode cX2_post 16 = .ok (.if_icmp .ne 6, 3) := by decide +kernel
theorem dX2_post_19 : decode cX2_post 19 = .ok (.bipush (-4), 2) := by decide +kernel
theorem dX2_post_21 : decode cX2_post 21 = .ok (.ireturn, 1) := by decide +kernel
theorem dX2_post_22 : decode cX2_post 22 = .ok (.aload_n 0, 1) := by decide +kernel
theorem dX2_post_23 : decode cX2_post 23 = .ok (.iload_n 1, 1) := by decide +kernel
theorem dX2_post_24 : decode cX2_post 24 = .ok (.lload_n 2, 1) := by decide +kernel
theorem dX2_post_25 : decode cX2_post 25 = .ok (.invokevirtual 89, 3) := by decide +kernel
theorem dX2_post_28 : decode cX2_post 28 = .ok (.aload_n 0, 1) := by decide +kernel
theorem dX2_post_29 : decode cX2_post 29 = .ok (.getfield 86, 3) := by decide +kernel
theorem dX2_post_32 : decode cX2_post 32 = .ok (.ireturn, 1) := by decide +kernel
theorem dX2_comes_0 : decode cX2_comes 0 = .ok (.aload_n 0, 1) := by decide +kernel
theorem dX2_comes_1 : decode cX2_comes 1 = .ok (.getfield 44, 3) := by decide +kernel
theorem dX2_comes_4 : decode cX2_comes 4 = .ok (.aload_n 0, 1) := by decide +kernel
theorem dX2_comes_5 : decode cX2_comes 5 = .ok (.getfield 86, 3) := by decide +kernel
theorem dX2_comes_8 : decode cX2_comes 8 = .ok (.iload_n 1, 1) := by decide +kernel
theorem dX2_comes_9 : decode cX2_comes 9 = .ok (.iastore, 1) := by decide +kernel
theorem dX2_comes_10 : decode cX2_comes 10 = .ok (.aload_n 0, 1) := by decide +kernel
theorem dX2_comes_11 : decode cX2_comes 11 = .ok (.getfield 47, 3) := by decide +kernel
theorem dX2_comes_14 : decode cX2_comes 14 = .ok (.aload_n 0, 1) := by decide +kernel
theorem dX2_comes_15 : decode cX2_comes 15 = .ok (.getfield 86, 3) := by decide +kernel
theorem dX2_comes_18 : decode cX2_comes 18 = .ok (.lload_n 2, 1) := by decide +kernel
theorem dX2_comes_19 : decode cX2_comes 19 = .ok (.lastore, 1) := by decide +kernel
theorem dX2_comes_20 : decode cX2_comes 20 = .ok (.aload_n 0, 1) := by decide +kernel
theorem dX2_comes_21 : decode cX2_comes 21 = .ok (.dup, 1) := by decide +kernel
theorem dX2_comes_22 : decode cX2_comes 22 = .ok (.getfield 86, 3) := by decide +kernel
theorem dX2_comes_25 : decode cX2_comes 25 = .ok (.iconst 1, 1) := by decide +kernel
theorem dX2_comes_26 : decode cX2_comes 26 = .ok (.iadd, 1) := by decide +kernel
theorem dX2_comes_27 : decode cX2_comes 27 = .ok (.putfield 86, 3) := by decide +kernel
theorem dX2_comes_30 : decode cX2_comes 30 = .ok (.return_, 1) := by decide +kernel
theorem dX2_keep_0 : decode cX2_keep 0 = .ok (.aload_n 0, 1) := by decide +kernel
theorem dX2_keep_1 : decode cX2_keep 1 = .ok (.getfield 7, 3) := by decide +kernel
theorem dX2_keep_4 : decode cX2_keep 4 = .ok (.iload_n 1, 1) := by decide +kernel
theorem dX2_keep_5 : decode cX2_keep 5 = .ok (.dup2, 1) := by decide +kernel
theorem dX2_keep_6 : decode cX2_keep 6 = .ok (.laload, 1) := by decide +kernel
theorem dX2_keep_7 : decode cX2_keep 7 = .ok (.lload_n 2, 1) := by decide +kernel
theorem dX2_keep_8 : decode cX2_keep 8 = .ok (.ladd, 1) := by decide +kernel
theorem dX2_keep_9 : decode cX2_keep 9 = .ok (.lastore, 1) := by decide +kernel
theorem dX2_keep_10 : decode cX2_keep 10 = .ok (.aload_n 0, 1) := by decide +kernel
theorem dX2_keep_11 : decode cX2_keep 11 = .ok (.getfield 13, 3) := by decide +kernel
theorem dX2_keep_14 : decode cX2_keep 14 = .ok (.iload_n 1, 1) := by decide +kernel
theorem dX2_keep_15 : decode cX2_keep 15 = .ok (.dup2, 1) := by decide +kernel
theorem dX2_keep_16 : decode cX2_keep 16 = .ok (.iaload, 1) := by decide +kernel
theorem dX2_keep_17 : decode cX2_keep 17 = .ok (.iconst 1, 1) := by decide +kernel
theorem dX2_keep_18 : decode cX2_keep 18 = .ok (.iadd, 1) := by decide +kernel
theorem dX2_keep_19 : decode cX2_keep 19 = .ok (.iastore, 1) := by decide +kernel
theorem dX2_keep_20 : decode cX2_keep 20 = .ok (.return_, 1) := by decide +kernel
theorem dX2_call_0 : decode cX2_call 0 = .ok (.aload_n 0, 1) := by decide +kernel
theorem dX2_call_1 : decode cX2_call 1 = .ok (.iconst 0, 1) := by decide +kernel
theorem dX2_call_2 : decode cX2_call 2 = .ok (.putfield 93, 3) := by decide +kernel
theorem dX2_call_5 : decode cX2_call 5 = .ok (.aload_n 0, 1) := by decide +kernel
theorem dX2_call_6 : decode cX2_call 6 = .ok (.getfield 96, 3) := by decide +kernel
theorem dX2_call_9 : decode cX2_call 9 = .ok (.bipush 8, 2) := by decide +kernel
theorem dX2_call_11 : decode cX2_call 11 = .ok (.if_icmp .eq 12, 3) := by decide +kernel
theorem dX2_call_14 : decode cX2_call 14 = .ok (.aload_n 0, 1) := by decide +kernel
theorem dX2_call_15 : decode cX2_call 15 = .ok (.getfield 99, 3) := by decide +kernel
theorem dX2_call_18 : decode cX2_call 18 = .ok (.bipush 16, 2) := by decide +kernel
theorem dX2_call_20 : decode cX2_call 20 = .ok (.if_icmp .ne 10, 3) := by decide +kernel
theorem dX2_call_23 : decode cX2_call 23 = .ok (.aload_n 0, 1) := by decide +kernel
theorem dX2_call_24 : decode cX2_call 24 = .ok (.bipush 6, 2) := by decide +kernel
theorem dX2_call_26 : decode cX2_call 26 = .ok (.putfield 93, 3) := by decide +kernel
theorem dX2_call_29 : decode cX2_call 29 = .ok (.return_, 1) := by decide +kernel
theorem dX2_call_30 : decode cX2_call 30 = .ok (.aload_n 0, 1) := by decide +kernel
theorem dX2_call_31 : decode cX2_call 31 = .ok (.dup, 1) := by decide +kernel
theorem dX2_call_32 : decode cX2_call 32 = .ok (.getfield 99, 3) := by decide +kernel
theorem dX2_call_35 : decode cX2_call 35 = .ok (.iconst 1, 1) := by decide +kernel
theorem dX2_call_36 : decode cX2_call 36 = .ok (.iadd, 1) := by decide +kernel
theorem dX2_call_37 : decode cX2_call 37 = .ok (.putfield 99, 3) := by decide +kernel
theorem dX2_call_40 : decode cX2_call 40 = .ok (.iload_n 1, 1) := by decide +kernel
theorem dX2_call_41 : decode cX2_call 41 = .ok (.ifCond .ge 9, 3) := by decide +kernel
theorem dX2_call_44 : decode cX2_call 44 = .ok (.aload_n 0, 1) := by decide +kernel
theorem dX2_call_45 : decode cX2_call 45 = .ok (.iconst 1, 1) := by decide +kernel
theorem dX2_call_46 : decode cX2_call 46 = .ok (.putfield 93, 3) := by decide +kernel
theorem dX2_call_49 : decode cX2_call 49 = .ok (.return_, 1) := by decide +kernel
theorem dX2_call_50 : decode cX2_call 50 = .ok (.aload_n 0, 1) := by decide +kernel
theorem dX2_call_51 : decode cX2_call 51 = .ok (.getfield 59, 3) := by decide +kernel
theorem dX2_call_54 : decode cX2_call 54 = .ok (.aload_n 0, 1) := by decide +kernel
theorem dX2_call_55 : decode cX2_call 55 = .ok (.getfield 96, 3) := by decide +kernel
theorem dX2_call_58 : decode cX2_call 58 = .ok (.iload_n 1, 1) := by decide +kernel
theorem dX2_call_59 : decode cX2_call 59 = .ok (.iastore, 1) := by decide +kernel
theorem dX2_call_60 : decode cX2_call 60 = .ok (.aload_n 0, 1) := by decide +kernel
theorem dX2_call_61 : decode cX2_call 61 = .ok (.getfield 62, 3) := by decide +kernel
theorem dX2_call_64 : decode cX2_call 64 = .ok (.aload_n 0, 1) := by decide +kernel
theorem dX2_call_65 : decode cX2_call 65 = .ok (.getfield 96, 3) := by decide +kernel
theorem dX2_call_68 : decode cX2_call 68 = .ok (.iconst 0, 1) := by decide +kernel
theorem dX2_call_69 : decode cX2_call 69 = .ok (.iastore, 1) := by decide +kernel
theorem dX2_call_70 : decode cX2_call 70 = .ok (.aload_n 0, 1) := by decide +kernel
theorem dX2_call_71 : decode cX2_call 71 = .ok (.getfield 65, 3) := by decide +kernel
theorem dX2_call_74 : decode cX2_call 74 = .ok (.aload_n 0, 1) := by decide +kernel
theorem dX2_call_75 : decode cX2_call 75 = .ok (.getfield 96, 3) := by decide +kernel
theorem dX2_call_78 : decode cX2_call 78 = .ok (.lload_n 2, 1) := by decide +kernel
theorem dX2_call_79 : decode cX2_call 79 = .ok (.lastore, 1) := by decide +kernel
theorem dX2_call_80 : decode cX2_call 80 = .ok (.aload_n 0, 1) := by decide +kernel
theorem dX2_call_81 : decode cX2_call 81 = .ok (.dup, 1) := by decide +kernel
theorem dX2_call_82 : decode cX2_call 82 = .ok (.getfield 96, 3) := by decide +kernel
theorem dX2_call_85 : decode cX2_call 85 = .ok (.iconst 1, 1) := by decide +kernel
theorem dX2_call_86 : decode cX2_call 86 = .ok (.iadd, 1) := by decide +kernel
theorem dX2_call_87 : decode cX2_call 87 = .ok (.putfield 96, 3) := by decide +kernel
theorem dX2_call_90 : decode cX2_call 90 = .ok (.return_, 1) := by decide +kernel
theorem dX2_ends_0 : decode cX2_ends 0 = .ok (.aload_n 0, 1) := by decide +kernel
theorem dX2_ends_1 : decode cX2_ends 1 = .ok (.dup, 1) := by decide +kernel
theorem dX2_ends_2 : decode cX2_ends 2 = .ok (.getfield 96, 3) := by decide +kernel
theorem dX2_ends_5 : decode cX2_ends 5 = .ok (.iconst 1, 1) := by decide +kernel
theorem dX2_ends_6 : decode cX2_ends 6 = .ok (.isub, 1) := by decide +kernel
theorem dX2_ends_7 : decode cX2_ends 7 = .ok (.putfield 96, 3) := by decide +kernel
theorem dX2_ends_10 : decode cX2_ends 10 = .ok (.aload_n 0, 1) := by decide +kernel
theorem dX2_ends_11 : decode cX2_ends 11 = .ok (.iload_n 1, 1) := by decide +kernel
theorem dX2_ends_12 : decode cX2_ends 12 = .ok (.putfield 93, 3) := by decide +kernel
theorem dX2_ends_15 : decode cX2_ends 15 = .ok (.return_, 1) := by decide +kernel
set_option maxRecDepth 20000 in
theorem ggX2_goOn_X2_call : GoodIn wsX2_goOn wsX2_call := goodIn_r _ [6, 7, 8, 9, 10, 1, 11, 12, 13, 14, 15, 16, 17, 18, 19, 20, 21, 22, 23, 24, 25, 26, 27, 28, 29, 30, 31, 32, 33, 34, 35, 36, 37, 38, 39] (by decide +kernel) (by decide +kernel)
set_option maxRecDepth 20000 in
theorem gX2_goOn_X2_call : GoodIn wsX2_goOn (wsV RX2 102 RX2 yX2_call wsX2_call) := goodIn_app (goodIn_of _ (by decide +kernel)) ggX2_goOn_X2_call
theorem dX2_goOn_0 : decode cX2_goOn 0 = .ok (.aload_n 0, 1) := by decide +kernel
theorem dX2_goOn_1 : decode cX2_goOn 1 = .ok (.getfield 62, 3) := by decide +kernel
theorem dX2_goOn_4 : decode cX2_goOn 4 = .ok (.iload_n 1, 1) := by decide +kernel
theorem dX2_goOn_5 : decode cX2_goOn 5 = .ok (.dup2, 1) := by decide +kernel
theorem dX2_goOn_6 : decode cX2_goOn 6 = .ok (.iaload, 1) := by decide +kernel
theorem dX2_goOn_7 : decode cX2_goOn 7 = .ok (.iconst 1, 1) := by decide +kernel
theorem dX2_goOn_8 : decode cX2_goOn 8 = .ok (.iadd, 1) := by decide +kernel
theorem dX2_goOn_9 : decode cX2_goOn 9 = .ok (.iastore, 1) := by decide +kernel
theorem dX2_goOn_10 : decode cX2_goOn 10 = .ok (.aload_n 0, 1) := by decide +kernel
theorem dX2_goOn_11 : decode cX2_goOn 11 = .ok (.iload_n 2, 1) := by decide +kernel
theorem dX2_goOn_12 : decode cX2_goOn 12 = .ok (.lload_n 3, 1) := by decide +kernel
theorem dX2_goOn_13 : decode cX2_goOn 13 = .ok (.invokevirtual 102, 3) := by decide +kernel
theorem dX2_goOn_16 : decode cX2_goOn 16 = .ok (.return_, 1) := by decide +kernel
set_option maxRecDepth 20000 in
theorem ggX2_go_X2_call : GoodIn wsX2_go wsX2_call := goodIn_r _ [11, 12, 1, 2, 4, 3, 5, 65, 66, 67, 68, 69, 70, 71, 72, 73, 74, 75, 76, 77, 78, 79, 80, 81, 82, 83, 84, 85, 86, 87, 88, 89, 90, 91, 92] (by decide +kernel) (by decide +kernel)
set_option maxRecDepth 20000 in
theorem gX2_go_X2_call : GoodIn wsX2_go (wsV RX2 102 RX2 yX2_call wsX2_call) := goodIn_app (goodIn_of _ (by decide +kernel)) ggX2_go_X2_call
set_option maxRecDepth 20000 in
theorem ggX2_go_X2_begins : GoodIn wsX2_go wsX2_begins := goodIn_r _ [16, 17, 18, 19, 20, 21, 22, 23, 24, 25, 26, 27, 28, 29, 30, 10, 31, 32, 33, 34, 35, 1, 12, 36, 37, 38, 39, 40, 41, 42, 43, 44, 45, 46, 47, 48, 49, 50, 3, 7, 8, 9, 11, 2, 4, 5, 51, 52, 53, 54, 55, 56, 57, 58, 59, 60, 65, 66, 67, 68, 69, 70, 71, 72, 73, 74, 75, 76, 77, 78, 79, 80, 81, 82, 83, 84, 85, 86, 87, 88, 89, 90, 91, 92] (by decide +kernel) (by decide +kernel)
set_option maxRecDepth 20000 in
theorem gX2_go_X2_begins : GoodIn wsX2_go (wsV RX2 105 RX2 yX2_begins wsX2_begins) := goodIn_app (goodIn_of _ (by decide +kernel)) ggX2_go_X2_begins
set_option maxRecDepth 20000 in
theorem ggX2_go_X2_behind : GoodIn wsX2_go wsX2_behind := goodIn_r _ [64, 19, 12, 17, 3, 20, 1, 28, 29, 30, 10, 31, 26, 27, 32, 33, 34, 35, 47, 48, 49, 50, 7, 8, 9, 11, 2, 4, 5, 65, 66, 67, 68, 69, 70, 71, 72, 73, 74, 75, 76, 77, 78, 79, 80, 81, 82, 83, 84, 85, 86, 87, 88, 89, 90, 91, 92] (by decide +kernel) (by decide +kernel)
set_option maxRecDepth 20000 in
theorem gX2_go_X2_behind : GoodIn wsX2_go (wsV RX2 109 RX2 yX2_behind wsX2_behind) := goodIn_app (goodIn_of _ (by decide +kernel)) ggX2_go_X2_behind
theorem dX2_go_0 : decode cX2_go 0 = .ok (.aload_n 0, 1) := by decide +kernel
theorem dX2_go_1 : decode cX2_go 1 = .ok (.iconst 0, 1) := by decide +kernel
theorem dX2_go_2 : decode cX2_go 2 = .ok (.putfield 96, 3) := by decide +kernel
theorem dX2_go_5 : decode cX2_go 5 = .ok (.aload_n 0, 1) := by decide +kernel
theorem dX2_go_6 : decode cX2_go 6 = .ok (.iconst 0, 1) := by decide +kernel
theorem dX2_go_7 : decode cX2_go 7 = .ok (.putfield 99, 3) := by decide +kernel
theorem dX2_go_10 : decode cX2_go 10 = .ok (.aload_n 0, 1) := by decide +kernel
theorem dX2_go_11 : decode cX2_go 11 = .ok (.iload_n 1, 1) := by decide +kernel
theorem dX2_go_12 : decode cX2_go 12 = .ok (.lload_n 2, 1) := by decide +kernel
theorem dX2_go_13 : decode cX2_go 13 = .ok (.invokevirtual 102, 3) := by decide +kernel
theorem dX2_go_16 : decode cX2_go 16 = .ok (.aload_n 0, 1) := by decide +kernel
theorem dX2_go_17 : decode cX2_go 17 = .ok (.getfield 96, 3) := by decide +kernel
theorem dX2_go_20 : decode cX2_go 20 = .ok (.ifCond .le 67, 3) := by decide +kernel
theorem dX2_go_23 : decode cX2_go 23 = .ok (.aload_n 0, 1) := by decide +kernel
theorem dX2_go_24 : decode cX2_go 24 = .ok (.getfield 96, 3) := by decide +kernel
theorem dX2_go_27 : decode cX2_go 27 = .ok (.iconst 1, 1) := by decide +kernel
theorem dX2_go_28 : decode cX2_go 28 = .ok (.isub, 1) := by decide +kernel
theorem dX2_go_29 : decode cX2_go 29 = .ok (.istore 4, 2) := by decide +kernel
theorem dX2_go_31 : decode cX2_go 31 = .ok (.aload_n 0, 1) := by decide +kernel
theorem dX2_go_32 : decode cX2_go 32 = .ok (.getfield 62, 3) := by decide +kernel
theorem dX2_go_35 : decode cX2_go 35 = .ok (.iload 4, 2) := by decide +kernel
theorem dX2_go_37 : decode cX2_go 37 = .ok (.iaload, 1) := by decide +kernel
theorem dX2_go_38 : decode cX2_go 38 = .ok (.ifCond .ne 26, 3) := by decide +kernel
theorem dX2_go_41 : decode cX2_go 41 = .ok (.aload_n 0, 1) := by decide +kernel
theorem dX2_go_42 : decode cX2_go 42 = .ok (.iload 4, 2) := by decide +kernel
theorem dX2_go_44 : decode cX2_go 44 = .ok (.aload_n 0, 1) := by decide +kernel
theorem dX2_go_45 : decode cX2_go 45 = .ok (.getfield 59, 3) := by decide +kernel
theorem dX2_go_48 : decode cX2_go 48 = .ok (.iload 4, 2) := by decide +kernel
theorem dX2_go_50 : decode cX2_go 50 = .ok (.iaload, 1) := by decide +kernel
theorem dX2_go_51 : decode cX2_go 51 = .ok (.aload_n 0, 1) := by decide +kernel
theorem dX2_go_52 : decode cX2_go 52 = .ok (.getfield 65, 3) := by decide +kernel
theorem dX2_go_55 : decode cX2_go 55 = .ok (.iload 4, 2) := by decide +kernel
theorem dX2_go_57 : decode cX2_go 57 = .ok (.laload, 1) := by decide +kernel
theorem dX2_go_58 : decode cX2_go 58 = .ok (.invokevirtual 105, 3) := by decide +kernel
theorem dX2_go_61 : decode cX2_go 61 = .ok (.goto 23, 3) := by decide +kernel
theorem dX2_go_64 : decode cX2_go 64 = .ok (.aload_n 0, 1) := by decide +kernel
theorem dX2_go_65 : decode cX2_go 65 = .ok (.iload 4, 2) := by decide +kernel
theorem dX2_go_67 : decode cX2_go 67 = .ok (.aload_n 0, 1) := by decide +kernel
theorem dX2_go_68 : decode cX2_go 68 = .ok (.getfield 59, 3) := by decide +kernel
theorem dX2_go_71 : decode cX2_go 71 = .ok (.iload 4, 2) := by decide +kernel
theorem dX2_go_73 : decode cX2_go 73 = .ok (.iaload, 1) := by decide +kernel
theorem dX2_go_74 : decode cX2_go 74 = .ok (.aload_n 0, 1) := by decide +kernel
theorem dX2_go_75 : decode cX2_go 75 = .ok (.getfield 65, 3) := by decide +kernel
theorem dX2_go_78 : decode cX2_go 78 = .ok (.iload 4, 2) := by decide +kernel
theorem dX2_go_80 : decode cX2_go 80 = .ok (.laload, 1) := by decide +kernel
theorem dX2_go_81 : decode cX2_go 81 = .ok (.invokevirtual 109, 3) := by decide +kernel
theorem dX2_go_84 : decode cX2_go 84 = .ok (.goto (-68), 3) := by decide +kernel
theorem dX2_go_87 : decode cX2_go 87 = .ok (.aload_n 0, 1) := by decide +kernel
theorem dX2_go_88 : decode cX2_go 88 = .ok (.dup, 1) := by decide +kernel
theorem dX2_go_89 : decode cX2_go 89 = .ok (.getfield 112, 3) := by decide +kernel
theorem dX2_go_92 : decode cX2_go 92 = .ok (.aload_n 0, 1) := by decide +kernel
theorem dX2_go_93 : decode cX2_go 93 = .ok (.getfield 99, 3) := by decide +kernel
theorem dX2_go_96 : decode cX2_go 96 = .ok (.iadd, 1) := by decide +kernel
theorem dX2_go_97 : decode cX2_go 97 = .ok (.putfield 112, 3) := by decide +kernel
theorem dX2_go_100 : decode cX2_go 100 = .ok (.return_, 1) := by decide +kernel
set_option maxRecDepth 20000 in
theorem ggX2_behind_X2_keep : GoodIn wsX2_behind wsX2_keep := goodIn_r _ [11, 12, 13, 29, 30, 31, 32, 33, 34, 35, 36, 37, 38, 39, 40, 41, 42, 43, 44, 45, 46, 47, 48, 49, 50, 51, 52, 53, 54, 55, 56] (by decide +kernel) (by decide +kernel)
set_option maxRecDepth 20000 in
theorem gX2_behind_X2_keep : GoodIn wsX2_behind (wsV RX2 115 RX2 yX2_keep wsX2_keep) := goodIn_app (goodIn_of _ (by decide +kernel)) ggX2_behind_X2_keep
set_option maxRecDepth 20000 in
theorem ggX2_behind_X2_ends : GoodIn wsX2_behind wsX2_ends := goodIn_r _ [17, 6, 2, 29, 30, 31, 32, 33, 34, 35, 36, 37, 38, 39, 40, 41, 42, 43, 44, 45, 46, 47, 48, 49, 50, 51, 52, 53, 54, 55, 56] (by decide +kernel) (by decide +kernel)
set_option maxRecDepth 20000 in
theorem gX2_behind_X2_ends : GoodIn wsX2_behind (wsV RX2 118 RX2 yX2_ends wsX2_ends) := goodIn_app (goodIn_of _ (by decide +kernel)) ggX2_behind_X2_ends
set_option maxRecDepth 20000 in
theorem ggX2_behind_X2_goOn : GoodIn wsX2_behind wsX2_goOn := goodIn_r _ [21, 4, 22, 23, 24, 10, 25, 2, 6, 26, 27, 28, 29, 30, 31, 32, 33, 34, 35, 36, 37, 38, 39, 40, 41, 42, 43, 44, 45, 46, 47, 48, 49, 50, 51, 52, 53, 54, 55, 56] (by decide +kernel) (by decide +kernel)
set_option maxRecDepth 20000 in
theorem gX2_behind_X2_goOn : GoodIn wsX2_behind (wsV RX2 122 RX2 yX2_goOn wsX2_goOn) := goodIn_app (goodIn_of _ (by decide +kernel)) ggX2_behind_X2_goOn
theorem dX2_behind_0 : decode cX2_behind 0 = .ok (.aload_n 0, 1) := by decide +kernel
theorem dX2_behind_1 : decode cX2_behind 1 = .ok (.getfield 17, 3) := by decide +kernel
theorem dX2_behind_4 : decode cX2_behind 4 = .ok (.iload_n 2, 1) := by decide +kernel
theorem dX2_behind_5 : decode cX2_behind 5 = .ok (.iaload, 1) := by decide +kernel
theorem dX2_behind_6 : decode cX2_behind 6 = .ok (.bipush 10, 2) := by decide +kernel
theorem dX2_behind_8 : decode cX2_behind 8 = .ok (.if_icmp .ne 42, 3) := by decide +kernel
theorem dX2_behind_11 : decode cX2_behind 11 = .ok (.aload_n 0, 1) := by decide +kernel
theorem dX2_behind_12 : decode cX2_behind 12 = .ok (.getfield 93, 3) := by decide +kernel
theorem dX2_behind_15 : decode cX2_behind 15 = .ok (.ifCond .eq 35, 3) := by decide +kernel
theorem dX2_behind_18 : decode cX2_behind 18 = .ok (.aload_n 0, 1) := by decide +kernel
theorem dX2_behind_19 : decode cX2_behind 19 = .ok (.getfield 93, 3) := by decide +kernel
theorem dX2_behind_22 : decode cX2_behind 22 = .ok (.bipush 6, 2) := by decide +kernel
theorem dX2_behind_24 : decode cX2_behind 24 = .ok (.if_icmp .eq 26, 3) := by decide +kernel
theorem dX2_behind_27 : decode cX2_behind 27 = .ok (.aload_n 0, 1) := by decide +kernel
theorem dX2_behind_28 : decode cX2_behind 28 = .ok (.aload_n 0, 1) := by decide +kernel
theorem dX2_behind_29 : decode cX2_behind 29 = .ok (.getfield 23, 3) := by decide +kernel
theorem dX2_behind_32 : decode cX2_behind 32 = .ok (.iload_n 2, 1) := by decide +kernel
theorem dX2_behind_33 : decode cX2_behind 33 = .ok (.iaload, 1) := by decide +kernel
theorem dX2_behind_34 : decode cX2_behind 34 = .ok (.aload_n 0, 1) := by decide +kernel
theorem dX2_behind_35 : decode cX2_behind 35 = .ok (.getfield 93, 3) := by decide +kernel
theorem dX2_behind_38 : decode cX2_behind 38 = .ok (.i2l, 1) := by decide +kernel
theorem dX2_behind_39 : decode cX2_behind 39 = .ok (.invokevirtual 115, 3) := by decide +kernel
theorem dX2_behind_42 : decode cX2_behind 42 = .ok (.aload_n 0, 1) := by decide +kernel
theorem dX2_behind_43 : decode cX2_behind 43 = .ok (.iconst 0, 1) := by decide +kernel
theorem dX2_behind_44 : decode cX2_behind 44 = .ok (.invokevirtual 118, 3) := by decide +kernel
theorem dX2_behind_47 : decode cX2_behind 47 = .ok (.goto 56, 3) := by decide +kernel
theorem dX2_behind_50 : decode cX2_behind 50 = .ok (.aload_n 0, 1) := by decide +kernel
theorem dX2_behind_51 : decode cX2_behind 51 = .ok (.getfield 17, 3) := by decide +kernel
theorem dX2_behind_54 : decode cX2_behind 54 = .ok (.iload_n 2, 1) := by decide +kernel
theorem dX2_behind_55 : decode cX2_behind 55 = .ok (.iaload, 1) := by decide +kernel
theorem dX2_behind_56 : decode cX2_behind 56 = .ok (.bipush 7, 2) := by decide +kernel
theorem dX2_behind_58 : decode cX2_behind 58 = .ok (.if_icmp .ne 35, 3) := by decide +kernel
theorem dX2_behind_61 : decode cX2_behind 61 = .ok (.aload_n 0, 1) := by decide +kernel
theorem dX2_behind_62 : decode cX2_behind 62 = .ok (.getfield 62, 3) := by decide +kernel
theorem dX2_behind_65 : decode cX2_behind 65 = .ok (.iload_n 1, 1) := by decide +kernel
theorem dX2_behind_66 : decode cX2_behind 66 = .ok (.iaload, 1) := by decide +kernel
theorem dX2_behind_67 : decode cX2_behind 67 = .ok (.iconst 1, 1) := by decide +kernel
theorem dX2_behind_68 : decode cX2_behind 68 = .ok (.if_icmp .ne 25, 3) := by decide +kernel
theorem dX2_behind_71 : decode cX2_behind 71 = .ok (.aload_n 0, 1) := by decide +kernel
theorem dX2_behind_72 : decode cX2_behind 72 = .ok (.getfield 93, 3) := by decide +kernel
theorem dX2_behind_75 : decode cX2_behind 75 = .ok (.ifCond .ne 18, 3) := by decide +kernel
theorem dX2_behind_78 : decode cX2_behind 78 = .ok (.aload_n 0, 1) := by decide +kernel
theorem dX2_behind_79 : decode cX2_behind 79 = .ok (.iload_n 1, 1) := by decide +kernel
theorem dX2_behind_80 : decode cX2_behind 80 = .ok (.aload_n 0, 1) := by decide +kernel
theorem dX2_behind_81 : decode cX2_behind 81 = .ok (.getfield 35, 3) := by decide +kernel
theorem dX2_behind_84 : decode cX2_behind 84 = .ok (.iload_n 2, 1) := by decide +kernel
theorem dX2_behind_85 : decode cX2_behind 85 = .ok (.iaload, 1) := by decide +kernel
theorem dX2_behind_86 : decode cX2_behind 86 = .ok (.lload_n 3, 1) := by decide +kernel
theorem dX2_behind_87 : decode cX2_behind 87 = .ok (.invokevirtual 122, 3) := by decide +kernel
theorem dX2_behind_90 : decode cX2_behind 90 = .ok (.goto 13, 3) := by decide +kernel
theorem dX2_behind_93 : decode cX2_behind 93 = .ok (.aload_n 0, 1) := by decide +kernel
theorem dX2_behind_94 : decode cX2_behind 94 = .ok (.dup, 1) := by decide +kernel
theorem dX2_behind_95 : decode cX2_behind 95 = .ok (.getfield 96, 3) := by decide +kernel
theorem dX2_behind_98 : decode cX2_behind 98 = .ok (.iconst 1, 1) := by decide +kernel
theorem dX2_behind_99 : decode cX2_behind 99 = .ok (.isub, 1) := by decide +kernel
theorem dX2_behind_100 : decode cX2_behind 100 = .ok (.putfield 96, 3) := by decide +kernel
theorem dX2_behind_103 : decode cX2_behind 103 = .ok (.return_, 1) := by decide +kernel
set_option maxRecDepth 20000 in
theorem ggX2_begins_X2_keep : GoodIn wsX2_begins wsX2_keep := goodIn_r _ [16, 10, 11, 56, 57, 58, 59, 60, 61, 62, 63, 64, 65, 66, 67, 68, 69, 70, 71, 72, 73, 74, 75, 76, 77, 78, 79, 80, 81, 82, 83] (by decide +kernel) (by decide +kernel)
set_option maxRecDepth 20000 in
theorem gX2_begins_X2_keep : GoodIn wsX2_begins (wsV RX2 115 RX2 yX2_keep wsX2_keep) := goodIn_app (goodIn_of _ (by decide +kernel)) ggX2_begins_X2_keep
set_option maxRecDepth 20000 in
theorem ggX2_begins_X2_ends : GoodIn wsX2_begins wsX2_ends := goodIn_r _ [20, 21, 22, 56, 57, 58, 59, 60, 61, 62, 63, 64, 65, 66, 67, 68, 69, 70, 71, 72, 73, 74, 75, 76, 77, 78, 79, 80, 81, 82, 83] (by decide +kernel) (by decide +kernel)
set_option maxRecDepth 20000 in
theorem gX2_begins_X2_ends : GoodIn wsX2_begins (wsV RX2 118 RX2 yX2_ends wsX2_ends) := goodIn_app (goodIn_of _ (by decide +kernel)) ggX2_begins_X2_ends
set_option maxRecDepth 20000 in
theorem ggX2_begins_X2_sends : GoodIn wsX2_begins wsX2_sends := goodIn_r _ [26, 27, 17, 18, 19, 15, 20, 21, 22, 28, 29, 30, 31, 32, 33, 56, 57, 58, 59, 60, 61, 62, 63, 64, 65, 66, 67, 68, 69, 70, 71, 72, 73, 74, 75, 76, 77, 78, 79, 80, 81, 82, 83] (by decide +kernel) (by decide +kernel)
set_option maxRecDepth 20000 in
theorem gX2_begins_X2_sends : GoodIn wsX2_begins (wsV RX2 125 RX2 yX2_sends wsX2_sends) := goodIn_app (goodIn_of _ (by decide +kernel)) ggX2_begins_X2_sends
set_option maxRecDepth 20000 in
theorem ggX2_begins_X2_goOn : GoodIn wsX2_begins wsX2_goOn := goodIn_r _ [37, 38, 39, 40, 41, 15, 42, 22, 21, 43, 44, 45, 56, 57, 58, 59, 60, 61, 62, 63, 64, 65, 66, 67, 68, 69, 70, 71, 72, 73, 74, 75, 76, 77, 78, 79, 80, 81, 82, 83] (by decide +kernel) (by decide +kernel)
set_option maxRecDepth 20000 in
theorem gX2_begins_X2_goOn : GoodIn wsX2_begins (wsV RX2 122 RX2 yX2_goOn wsX2_goOn) := goodIn_app (goodIn_of _ (by decide +kernel)) ggX2_begins_X2_goOn
set_option maxRecDepth 20000 in
theorem ggX2_begins_X2_shares : GoodIn wsX2_begins wsX2_shares := goodIn_r _ [49, 17, 18, 19, 15, 20, 21, 22, 12, 13, 14, 16, 10, 11, 56, 57, 58, 59, 60, 61, 62, 63, 64, 65, 66, 67, 68, 69, 70, 71, 72, 73, 74, 75, 76, 77, 78, 79, 80, 81, 82, 83] (by decide +kernel) (by decide +kernel)
set_option maxRecDepth 20000 in
theorem gX2_begins_X2_shares : GoodIn wsX2_begins (wsV RX2 128 RX2 yX2_shares wsX2_shares) := goodIn_app (goodIn_of _ (by decide +kernel)) ggX2_begins_X2_shares
set_option maxRecDepth 20000 in
theorem ggX2_begins_X2_isBox : GoodIn wsX2_begins wsX2_isBox := goodIn_r _ [52, 53, 54, 15, 55] (by decide +kernel) (by decide +kernel)
set_option maxRecDepth 20000 in
theorem gX2_begins_X2_isBox : GoodIn wsX2_begins (va_wsS RX2 76 yX2_isBox wsX2_isBox) := goodIn_app (goodIn_of _ (by decide +kernel)) ggX2_begins_X2_isBox
theorem dX2_begins_0 : decode cX2_begins 0 = .ok (.aload_n 0, 1) := by decide +kernel
theorem dX2_begins_1 : decode cX2_begins 1 = .ok (.getfield 23, 3) := by decide +kernel
theorem dX2_begins_4 : decode cX2_begins 4 = .ok (.iload_n 2, 1) := by decide +kernel
theorem dX2_begins_5 : decode cX2_begins 5 = .ok (.iaload, 1) := by decide +kernel
theorem dX2_begins_6 : decode cX2_begins 6 = .ok (.istore 5, 2) := by decide +kernel
theorem dX2_begins_8 : decode cX2_begins 8 = .ok (.aload_n 0, 1) := by decide +kernel
theorem dX2_begins_9 : decode cX2_begins 9 = .ok (.getfield 29, 3) := by decide +kernel
theorem dX2_begins_12 : decode cX2_begins 12 = .ok (.iload_n 2, 1) := by decide +kernel
theorem dX2_begins_13 : decode cX2_begins 13 = .ok (.laload, 1) := by decide +kernel
theorem dX2_begins_14 : decode cX2_begins 14 = .ok (.lstore 6, 2) := by decide +kernel
theorem dX2_begins_16 : decode cX2_begins 16 = .ok (.aload_n 0, 1) := by decide +kernel
theorem dX2_begins_17 : decode cX2_begins 17 = .ok (.getfield 17, 3) := by decide +kernel
theorem dX2_begins_20 : decode cX2_begins 20 = .ok (.iload_n 2, 1) := by decide +kernel
theorem dX2_begins_21 : decode cX2_begins 21 = .ok (.iaload, 1) := by decide +kernel
theorem dX2_begins_22 : decode cX2_begins 22 = .ok (.tableswitch 402 0 12 #[66, 81, 94, 112, 131, 180, 228, 402, 260, 278, 402, 317, 371], 66) := by decide +kernel
theorem dX2_begins_88 : decode cX2_begins 88 = .ok (.aload_n 0, 1) := by decide +kernel
theorem dX2_begins_89 : decode cX2_begins 89 = .ok (.iload 5, 2) := by decide +kernel
theorem dX2_begins_91 : decode cX2_begins 91 = .ok (.lload_n 3, 1) := by decide +kernel
theorem dX2_begins_92 : decode cX2_begins 92 = .ok (.invokevirtual 115, 3) := by decide +kernel
theorem dX2_begins_95 : decode cX2_begins 95 = .ok (.aload_n 0, 1) := by decide +kernel
theorem dX2_begins_96 : decode cX2_begins 96 = .ok (.iconst 0, 1) := by decide +kernel
theorem dX2_begins_97 : decode cX2_begins 97 = .ok (.invokevirtual 118, 3) := by decide +kernel
theorem dX2_begins_100 : decode cX2_begins 100 = .ok (.goto 336, 3) := by decide +kernel
theorem dX2_begins_103 : decode cX2_begins 103 = .ok (.aload_n 0, 1) := by decide +kernel
theorem dX2_begins_104 : decode cX2_begins 104 = .ok (.iload 5, 2) := by decide +kernel
theorem dX2_begins_106 : decode cX2_begins 106 = .ok (.lload_n 3, 1) := by decide +kernel
theorem dX2_begins_107 : decode cX2_begins 107 = .ok (.lload 6, 2) := by decide +kernel
theorem dX2_begins_109 : decode cX2_begins 109 = .ok (.ladd, 1) := by decide +kernel
theorem dX2_begins_110 : decode cX2_begins 110 = .ok (.invokevirtual 125, 3) := by decide +kernel
theorem dX2_begins_113 : decode cX2_begins 113 = .ok (.goto 323, 3) := by decide +kernel
theorem dX2_begins_116 : decode cX2_begins 116 = .ok (.aload_n 0, 1) := by decide +kernel
theorem dX2_begins_117 : decode cX2_begins 117 = .ok (.iload_n 1, 1) := by decide +kernel
theorem dX2_begins_118 : decode cX2_begins 118 = .ok (.aload_n 0, 1) := by decide +kernel
theorem dX2_begins_119 : decode cX2_begins 119 = .ok (.getfield 35, 3) := by decide +kernel
theorem dX2_begins_122 : decode cX2_begins 122 = .ok (.iload_n 2, 1) := by decide +kernel
theorem dX2_begins_123 : decode cX2_begins 123 = .ok (.iaload, 1) := by decide +kernel
theorem dX2_begins_124 : decode cX2_begins 124 = .ok (.lload_n 3, 1) := by decide +kernel
theorem dX2_begins_125 : decode cX2_begins 125 = .ok (.lload 6, 2) := by decide +kernel
theorem dX2_begins_127 : decode cX2_begins 127 = .ok (.ladd, 1) := by decide +kernel
theorem dX2_begins_128 : decode cX2_begins 128 = .ok (.invokevirtual 122, 3) := by decide +kernel
theorem dX2_begins_131 : decode cX2_begins 131 = .ok (.goto 305, 3) := by decide +kernel
theorem dX2_begins_134 : decode cX2_begins 134 = .ok (.aload_n 0, 1) := by decide +kernel
theorem dX2_begins_135 : decode cX2_begins 135 = .ok (.iload_n 1, 1) := by decide +kernel
theorem dX2_begins_136 : decode cX2_begins 136 = .ok (.aload_n 0, 1) := by decide +kernel
theorem dX2_begins_137 : decode cX2_begins 137 = .ok (.getfield 41, 3) := by decide +kernel
theorem dX2_begins_140 : decode cX2_begins 140 = .ok (.iload 5, 2) := by decide +kernel
theorem dX2_begins_142 : decode cX2_begins 142 = .ok (.iaload, 1) := by decide +kernel
theorem dX2_begins_143 : decode cX2_begins 143 = .ok (.lload_n 3, 1) := by decide +kernel
theorem dX2_begins_144 : decode cX2_begins 144 = .ok (.lload 6, 2) := by decide +kernel
theorem dX2_begins_146 : decode cX2_begins 146 = .ok (.ladd, 1) := by decide +kernel
theorem dX2_begins_147 : decode cX2_begins 147 = .ok (.invokevirtual 122, 3) := by decide +kernel
theorem dX2_begins_150 : decode cX2_begins 150 = .ok (.goto 286, 3) := by decide +kernel
theorem dX2_begins_153 : decode cX2_begins 153 = .ok (.lload 6, 2) := by decide +kernel
theorem dX2_begins_155 : decode cX2_begins 155 = .ok (.lconst 0, 1) := by decide +kernel
theorem dX2_begins_156 : decode cX2_begins 156 = .ok (.lcmp, 1) := by decide +kernel
theorem dX2_begins_157 : decode cX2_begins 157 = .ok (.ifCond .ne 11, 3) := by decide +kernel
theorem dX2_begins_160 : decode cX2_begins 160 = .ok (.aload_n 0, 1) := by decide +kernel
theorem dX2_begins_161 : decode cX2_begins 161 = .ok (.iconst 2, 1) := by decide +kernel
theorem dX2_begins_162 : decode cX2_begins 162 = .ok (.invokevirtual 118, 3) := by decide +kernel
theorem dX2_begins_165 : decode cX2_begins 165 = .ok (.goto 271, 3) := by decide +kernel
theorem dX2_begins_168 : decode cX2_begins 168 = .ok (.lload_n 3, 1) := by decide +kernel
theorem dX2_begins_169 : decode cX2_begins 169 = .ok (.lload 6, 2) := by decide +kernel
theorem dX2_begins_171 : decode cX2_begins 171 = .ok (.lrem, 1) := by decide +kernel
theorem dX2_begins_172 : decode cX2_begins 172 = .ok (.iload 5, 2) := by decide +kernel
theorem dX2_begins_174 : decode cX2_begins 174 = .ok (.i2l, 1) := by decide +kernel
theorem dX2_begins_175 : decode cX2_begins 175 = .ok (.lcmp, 1) := by decide +kernel
theorem dX2_begins_176 : decode cX2_begins 176 = .ok (.ifCond .ne 18, 3) := by decide +kernel
theorem dX2_begins_179 : decode cX2_begins 179 = .ok (.aload_n 0, 1) := by decide +kernel
theorem dX2_begins_180 : decode cX2_begins 180 = .ok (.iload_n 1, 1) := by decide +kernel
theorem dX2_begins_181 : decode cX2_begins 181 = .ok (.aload_n 0, 1) := by decide +kernel
theorem dX2_begins_182 : decode cX2_begins 182 = .ok (.getfield 32, 3) := by decide +kernel
theorem dX2_begins_185 : decode cX2_begins 185 = .ok (.iload_n 2, 1) := by decide +kernel
theorem dX2_begins_186 : decode cX2_begins 186 = .ok (.iaload, 1) := by decide +kernel
theorem dX2_begins_187 : decode cX2_begins 187 = .ok (.lload_n 3, 1) := by decide +kernel
theorem dX2_begins_188 : decode cX2_begins 188 = .ok (.invokevirtual 122, 3) := by decide +kernel
theorem dX2_begins_191 : decode cX2_begins 191 = .ok (.goto 245, 3) := by decide +kernel
theorem dX2_begins_194 : decode cX2_begins 194 = .ok (.aload_n 0, 1) := by decide +kernel
theorem dX2_begins_195 : decode cX2_begins 195 = .ok (.iconst 0, 1) := by decide +kernel
theorem dX2_begins_196 : decode cX2_begins 196 = .ok (.invokevirtual 118, 3) := by decide +kernel
theorem dX2_begins_199 : decode cX2_begins 199 = .ok (.goto 237, 3) := by decide +kernel
theorem dX2_begins_202 : decode cX2_begins 202 = .ok (.aload_n 0, 1) := by decide +kernel
theorem dX2_begins_203 : decode cX2_begins 203 = .ok (.getfield 38, 3) := by decide +kernel
theorem dX2_begins_206 : decode cX2_begins 206 = .ok (.iload_n 2, 1) := by decide +kernel
theorem dX2_begins_207 : decode cX2_begins 207 = .ok (.iaload, 1) := by decide +kernel
theorem dX2_begins_208 : decode cX2_begins 208 = .ok (.aload_n 0, 1) := by decide +kernel
theorem dX2_begins_209 : decode cX2_begins 209 = .ok (.getfield 26, 3) := by decide +kernel
theorem dX2_begins_212 : decode cX2_begins 212 = .ok (.iload_n 2, 1) := by decide +kernel
theorem dX2_begins_213 : decode cX2_begins 213 = .ok (.iaload, 1) := by decide +kernel
theorem dX2_begins_214 : decode cX2_begins 214 = .ok (.if_icmp .ne 11, 3) := by decide +kernel
theorem dX2_begins_217 : decode cX2_begins 217 = .ok (.aload_n 0, 1) := by decide +kernel
theorem dX2_begins_218 : decode cX2_begins 218 = .ok (.iconst 4, 1) := by decide +kernel
theorem dX2_begins_219 : decode cX2_begins 219 = .ok (.invokevirtual 118, 3) := by decide +kernel
theorem dX2_begins_222 : decode cX2_begins 222 = .ok (.goto 214, 3) := by decide +kernel
theorem dX2_begins_225 : decode cX2_begins 225 = .ok (.aload_n 0, 1) := by decide +kernel
theorem dX2_begins_226 : decode cX2_begins 226 = .ok (.getfield 38, 3) := by decide +kernel
theorem dX2_begins_229 : decode cX2_begins 229 = .ok (.iload_n 2, 1) := by decide +kernel
theorem dX2_begins_230 : decode cX2_begins 230 = .ok (.dup2, 1) := by decide +kernel
theorem dX2_begins_231 : decode cX2_begins 231 = .ok (.iaload, 1) := by decide +kernel
theorem dX2_begins_232 : decode cX2_begins 232 = .ok (.iconst 1, 1) := by decide +kernel
theorem dX2_begins_233 : decode cX2_begins 233 = .ok (.iadd, 1) := by decide +kernel
theorem dX2_begins_234 : decode cX2_begins 234 = .ok (.iastore, 1) := by decide +kernel
theorem dX2_begins_235 : decode cX2_begins 235 = .ok (.aload_n 0, 1) := by decide +kernel
theorem dX2_begins_236 : decode cX2_begins 236 = .ok (.iload_n 1, 1) := by decide +kernel
theorem dX2_begins_237 : decode cX2_begins 237 = .ok (.aload_n 0, 1) := by decide +kernel
theorem dX2_begins_238 : decode cX2_begins 238 = .ok (.getfield 32, 3) := by decide +kernel
theorem dX2_begins_241 : decode cX2_begins 241 = .ok (.iload_n 2, 1) := by decide +kernel
theorem dX2_begins_242 : decode cX2_begins 242 = .ok (.iaload, 1) := by decide +kernel
theorem dX2_begins_243 : decode cX2_begins 243 = .ok (.lload_n 3, 1) := by decide +kernel
theorem dX2_begins_244 : decode cX2_begins 244 = .ok (.invokevirtual 122, 3) := by decide +kernel
theorem dX2_begins_247 : decode cX2_begins 247 = .ok (.goto 189, 3) := by decide +kernel
theorem dX2_begins_250 : decode cX2_begins 250 = .ok (.aload_n 0, 1) := by decide +kernel
theorem dX2_begins_251 : decode cX2_begins 251 = .ok (.iload 5, 2) := by decide +kernel
theorem dX2_begins_253 : decode cX2_begins 253 = .ok (.lload_n 3, 1) := by decide +kernel
theorem dX2_begins_254 : decode cX2_begins 254 = .ok (.invokevirtual 115, 3) := by decide +kernel
theorem dX2_begins_257 : decode cX2_begins 257 = .ok (.aload_n 0, 1) := by decide +kernel
theorem dX2_begins_258 : decode cX2_begins 258 = .ok (.getfield 41, 3) := by decide +kernel
theorem dX2_begins_261 : decode cX2_begins 261 = .ok (.aload_n 0, 1) := by decide +kernel
theorem dX2_begins_262 : decode cX2_begins 262 = .ok (.getfield 20, 3) := by decide +kernel
theorem dX2_begins_265 : decode cX2_begins 265 = .ok (.iload_n 2, 1) := by decide +kernel
theorem dX2_begins_266 : decode cX2_begins 266 = .ok (.iaload, 1) := by decide +kernel
theorem dX2_begins_267 : decode cX2_begins 267 = .ok (.aload_n 0, 1) := by decide +kernel
theorem dX2_begins_268 : decode cX2_begins 268 = .ok (.getfield 32, 3) := by decide +kernel
theorem dX2_begins_271 : decode cX2_begins 271 = .ok (.iload_n 2, 1) := by decide +kernel
theorem dX2_begins_272 : decode cX2_begins 272 = .ok (.iaload, 1) := by decide +kernel
theorem dX2_begins_273 : decode cX2_begins 273 = .ok (.iastore, 1) := by decide +kernel
theorem dX2_begins_274 : decode cX2_begins 274 = .ok (.aload_n 0, 1) := by decide +kernel
theorem dX2_begins_275 : decode cX2_begins 275 = .ok (.iconst 0, 1) := by decide +kernel
theorem dX2_begins_276 : decode cX2_begins 276 = .ok (.invokevirtual 118, 3) := by decide +kernel
theorem dX2_begins_279 : decode cX2_begins 279 = .ok (.goto 157, 3) := by decide +kernel
theorem dX2_begins_282 : decode cX2_begins 282 = .ok (.aload_n 0, 1) := by decide +kernel
theorem dX2_begins_283 : decode cX2_begins 283 = .ok (.iload 5, 2) := by decide +kernel
theorem dX2_begins_285 : decode cX2_begins 285 = .ok (.aload_n 0, 1) := by decide +kernel
theorem dX2_begins_286 : decode cX2_begins 286 = .ok (.getfield 26, 3) := by decide +kernel
theorem dX2_begins_289 : decode cX2_begins 289 = .ok (.iload_n 2, 1) := by decide +kernel
theorem dX2_begins_290 : decode cX2_begins 290 = .ok (.iaload, 1) := by decide +kernel
theorem dX2_begins_291 : decode cX2_begins 291 = .ok (.lload_n 3, 1) := by decide +kernel
theorem dX2_begins_292 : decode cX2_begins 292 = .ok (.lload 6, 2) := by decide +kernel
theorem dX2_begins_294 : decode cX2_begins 294 = .ok (.invokevirtual 128, 3) := by decide +kernel
theorem dX2_begins_297 : decode cX2_begins 297 = .ok (.goto 139, 3) := by decide +kernel
theorem dX2_begins_300 : decode cX2_begins 300 = .ok (.lload_n 3, 1) := by decide +kernel
theorem dX2_begins_301 : decode cX2_begins 301 = .ok (.l2i, 1) := by decide +kernel
theorem dX2_begins_302 : decode cX2_begins 302 = .ok (.istore 8, 2) := by decide +kernel
theorem dX2_begins_304 : decode cX2_begins 304 = .ok (.iload 8, 2) := by decide +kernel
theorem dX2_begins_306 : decode cX2_begins 306 = .ok (.invokestatic 76, 3) := by decide +kernel
theorem dX2_begins_309 : decode cX2_begins 309 = .ok (.ifCond .eq 10, 3) := by decide +kernel
theorem dX2_begins_312 : decode cX2_begins 312 = .ok (.aload_n 0, 1) := by decide +kernel
theorem dX2_begins_313 : decode cX2_begins 313 = .ok (.iload 8, 2) := by decide +kernel
theorem dX2_begins_315 : decode cX2_begins 315 = .ok (.lconst 1, 1) := by decide +kernel
theorem dX2_begins_316 : decode cX2_begins 316 = .ok (.invokevirtual 115, 3) := by decide +kernel
theorem dX2_begins_319 : decode cX2_begins 319 = .ok (.aload_n 0, 1) := by decide +kernel
theorem dX2_begins_320 : decode cX2_begins 320 = .ok (.iload 8, 2) := by decide +kernel
theorem dX2_begins_322 : decode cX2_begins 322 = .ok (.invokestatic 76, 3) := by decide +kernel
theorem dX2_begins_325 : decode cX2_begins 325 = .ok (.ifCond .eq 7, 3) := by decide +kernel
theorem dX2_begins_328 : decode cX2_begins 328 = .ok (.iconst 0, 1) := by decide +kernel
theorem dX2_begins_329 : decode cX2_begins 329 = .ok (.goto 4, 3) := by decide +kernel
theorem dX2_begins_332 : decode cX2_begins 332 = .ok (.iconst 3, 1) := by decide +kernel
theorem dX2_begins_333 : decode cX2_begins 333 = .ok (.invokevirtual 118, 3) := by decide +kernel
theorem dX2_begins_336 : decode cX2_begins 336 = .ok (.goto 100, 3) := by decide +kernel
theorem dX2_begins_339 : decode cX2_begins 339 = .ok (.aload_n 0, 1) := by decide +kernel
theorem dX2_begins_340 : decode cX2_begins 340 = .ok (.iload 5, 2) := by decide +kernel
theorem dX2_begins_342 : decode cX2_begins 342 = .ok (.lload_n 3, 1) := by decide +kernel
theorem dX2_begins_343 : decode cX2_begins 343 = .ok (.invokevirtual 115, 3) := by decide +kernel
theorem dX2_begins_346 : decode cX2_begins 346 = .ok (.aload_n 0, 1) := by decide +kernel
theorem dX2_begins_347 : decode cX2_begins 347 = .ok (.getfield 32, 3) := by decide +kernel
theorem dX2_begins_350 : decode cX2_begins 350 = .ok (.iload_n 2, 1) := by decide +kernel
theorem dX2_begins_351 : decode cX2_begins 351 = .ok (.iaload, 1) := by decide +kernel
theorem dX2_begins_352 : decode cX2_begins 352 = .ok (.ifCond .ge 11, 3) := by decide +kernel
theorem dX2_begins_355 : decode cX2_begins 355 = .ok (.aload_n 0, 1) := by decide +kernel
theorem dX2_begins_356 : decode cX2_begins 356 = .ok (.iconst 0, 1) := by decide +kernel
theorem dX2_begins_357 : decode cX2_begins 357 = .ok (.invokevirtual 118, 3) := by decide +kernel
theorem dX2_begins_360 : decode cX2_begins 360 = .ok (.goto 76, 3) := by decide +kernel
theorem dX2_begins_363 : decode cX2_begins 363 = .ok (.aload_n 0, 1) := by decide +kernel
theorem dX2_begins_364 : decode cX2_begins 364 = .ok (.iload_n 1, 1) := by decide +kernel
theorem dX2_begins_365 : decode cX2_begins 365 = .ok (.aload_n 0, 1) := by decide +kernel
theorem dX2_begins_366 : decode cX2_begins 366 = .ok (.getfield 32, 3) := by decide +kernel
theorem dX2_begins_369 : decode cX2_begins 369 = .ok (.iload_n 2, 1) := by decide +kernel
theorem dX2_begins_370 : decode cX2_begins 370 = .ok (.iaload, 1) := by decide +kernel
theorem dX2_begins_371 : decode cX2_begins 371 = .ok (.aload_n 0, 1) := by decide +kernel
theorem dX2_begins_372 : decode cX2_begins 372 = .ok (.getfield 7, 3) := by decide +kernel
theorem dX2_begins_375 : decode cX2_begins 375 = .ok (.iload 5, 2) := by decide +kernel
theorem dX2_begins_377 : decode cX2_begins 377 = .ok (.laload, 1) := by decide +kernel
theorem dX2_begins_378 : decode cX2_begins 378 = .ok (.aload_n 0, 1) := by decide +kernel
theorem dX2_begins_379 : decode cX2_begins 379 = .ok (.getfield 13, 3) := by decide +kernel
theorem dX2_begins_382 : decode cX2_begins 382 = .ok (.iload 5, 2) := by decide +kernel
theorem dX2_begins_384 : decode cX2_begins 384 = .ok (.iaload, 1) := by decide +kernel
theorem dX2_begins_385 : decode cX2_begins 385 = .ok (.i2l, 1) := by decide +kernel
theorem dX2_begins_386 : decode cX2_begins 386 = .ok (.ldiv, 1) := by decide +kernel
theorem dX2_begins_387 : decode cX2_begins 387 = .ok (.invokevirtual 122, 3) := by decide +kernel
theorem dX2_begins_390 : decode cX2_begins 390 = .ok (.goto 46, 3) := by decide +kernel
theorem dX2_begins_393 : decode cX2_begins 393 = .ok (.aload_n 0, 1) := by decide +kernel
theorem dX2_begins_394 : decode cX2_begins 394 = .ok (.iconst 1, 1) := by decide +kernel
theorem dX2_begins_395 : decode cX2_begins 395 = .ok (.lload_n 3, 1) := by decide +kernel
theorem dX2_begins_396 : decode cX2_begins 396 = .ok (.invokevirtual 115, 3) := by decide +kernel
theorem dX2_begins_399 : decode cX2_begins 399 = .ok (.lload_n 3, 1) := by decide +kernel
theorem dX2_begins_400 : decode cX2_begins 400 = .ok (.lconst 1, 1) := by decide +kernel
theorem dX2_begins_401 : decode cX2_begins 401 = .ok (.lcmp, 1) := by decide +kernel
theorem dX2_begins_402 : decode cX2_begins 402 = .ok (.ifCond .le 14, 3) := by decide +kernel
theorem dX2_begins_405 : decode cX2_begins 405 = .ok (.aload_n 0, 1) := by decide +kernel
theorem dX2_begins_406 : decode cX2_begins 406 = .ok (.iconst 0, 1) := by decide +kernel
theorem dX2_begins_407 : decode cX2_begins 407 = .ok (.lload_n 3, 1) := by decide +kernel
theorem dX2_begins_408 : decode cX2_begins 408 = .ok (.lconst 1, 1) := by decide +kernel
theorem dX2_begins_409 : decode cX2_begins 409 = .ok (.lsub, 1) := by decide +kernel
theorem dX2_begins_410 : decode cX2_begins 410 = .ok (.invokevirtual 125, 3) := by decide +kernel
theorem dX2_begins_413 : decode cX2_begins 413 = .ok (.goto 23, 3) := by decide +kernel
theorem dX2_begins_416 : decode cX2_begins 416 = .ok (.aload_n 0, 1) := by decide +kernel
theorem dX2_begins_417 : decode cX2_begins 417 = .ok (.iconst 0, 1) := by decide +kernel
theorem dX2_begins_418 : decode cX2_begins 418 = .ok (.invokevirtual 118, 3) := by decide +kernel
theorem dX2_begins_421 : decode cX2_begins 421 = .ok (.goto 15, 3) := by decide +kernel
theorem dX2_begins_424 : decode cX2_begins 424 = .ok (.aload_n 0, 1) := by decide +kernel
theorem dX2_begins_425 : decode cX2_begins 425 = .ok (.iload_n 1, 1) := by decide +kernel
theorem dX2_begins_426 : decode cX2_begins 426 = .ok (.aload_n 0, 1) := by decide +kernel
theorem dX2_begins_427 : decode cX2_begins 427 = .ok (.getfield 32, 3) := by decide +kernel
theorem dX2_begins_430 : decode cX2_begins 430 = .ok (.iload_n 2, 1) := by decide +kernel
theorem dX2_begins_431 : decode cX2_begins 431 = .ok (.iaload, 1) := by decide +kernel
theorem dX2_begins_432 : decode cX2_begins 432 = .ok (.lload_n 3, 1) := by decide +kernel
theorem dX2_begins_433 : decode cX2_begins 433 = .ok (.invokevirtual 122, 3) := by decide +kernel
theorem dX2_begins_436 : decode cX2_begins 436 = .ok (.return_, 1) := by decide +kernel
set_option maxRecDepth 20000 in
theorem ggX2_sends_X2_ends : GoodIn wsX2_sends wsX2_ends := goodIn_r _ [6, 7, 8, 15, 16, 17, 18, 19, 20, 21, 22, 23, 24, 25, 26, 27, 28, 29, 30, 31, 32, 33, 34, 35, 36, 37, 38, 39, 40, 41, 42] (by decide +kernel) (by decide +kernel)
set_option maxRecDepth 20000 in
theorem gX2_sends_X2_ends : GoodIn wsX2_sends (wsV RX2 118 RX2 yX2_ends wsX2_ends) := goodIn_app (goodIn_of _ (by decide +kernel)) ggX2_sends_X2_ends
set_option maxRecDepth 20000 in
theorem ggX2_sends_X2_comes : GoodIn wsX2_sends wsX2_comes := goodIn_r _ [12, 13, 1, 14, 15, 16, 17, 18, 19, 20, 21, 22, 23, 24, 25, 26, 27, 28, 29, 30, 31, 32, 33, 34, 35, 36, 37, 38, 39, 40, 41, 42] (by decide +kernel) (by decide +kernel)
set_option maxRecDepth 20000 in
theorem gX2_sends_X2_comes : GoodIn wsX2_sends (wsV RX2 89 RX2 yX2_comes wsX2_comes) := goodIn_app (goodIn_of _ (by decide +kernel)) ggX2_sends_X2_comes
theorem dX2_sends_0 : decode cX2_sends 0 = .ok (.aload_n 0, 1) := by decide +kernel
theorem dX2_sends_1 : decode cX2_sends 1 = .ok (.getfield 86, 3) := by decide +kernel
theorem dX2_sends_4 : decode cX2_sends 4 = .ok (.bipush 40, 2) := by decide +kernel
theorem dX2_sends_6 : decode cX2_sends 6 = .ok (.if_icmp .ne 11, 3) := by decide +kernel
theorem dX2_sends_9 : decode cX2_sends 9 = .ok (.aload_n 0, 1) := by decide +kernel
theorem dX2_sends_10 : decode cX2_sends 10 = .ok (.iconst 5, 1) := by decide +kernel
theorem dX2_sends_11 : decode cX2_sends 11 = .ok (.invokevirtual 118, 3) := by decide +kernel
theorem dX2_sends_14 : decode cX2_sends 14 = .ok (.goto 14, 3) := by decide +kernel
theorem dX2_sends_17 : decode cX2_sends 17 = .ok (.aload_n 0, 1) := by decide +kernel
theorem dX2_sends_18 : decode cX2_sends 18 = .ok (.iload_n 1, 1) := by decide +kernel
theorem dX2_sends_19 : decode cX2_sends 19 = .ok (.lload_n 2, 1) := by decide +kernel
theorem dX2_sends_20 : decode cX2_sends 20 = .ok (.invokevirtual 89, 3) := by decide +kernel
theorem dX2_sends_23 : decode cX2_sends 23 = .ok (.aload_n 0, 1) := by decide +kernel
theorem dX2_sends_24 : decode cX2_sends 24 = .ok (.iconst 0, 1) := by decide +kernel
theorem dX2_sends_25 : decode cX2_sends 25 = .ok (.invokevirtual 118, 3) := by decide +kernel
theorem dX2_sends_28 : decode cX2_sends 28 = .ok (.return_, 1) := by decide +kernel
set_option maxRecDepth 20000 in
theorem ggX2_shares_X2_ends : GoodIn wsX2_shares wsX2_ends := goodIn_r _ [5, 6, 7, 14, 15, 16, 17, 18, 19, 20, 21, 22, 23, 24, 25, 26, 27, 28, 29, 30, 31, 32, 33, 34, 35, 36, 37, 38, 39, 40, 41] (by decide +kernel) (by decide +kernel)
set_option maxRecDepth 20000 in
theorem gX2_shares_X2_ends : GoodIn wsX2_shares (wsV RX2 118 RX2 yX2_ends wsX2_ends) := goodIn_app (goodIn_of _ (by decide +kernel)) ggX2_shares_X2_ends
set_option maxRecDepth 20000 in
theorem ggX2_shares_X2_keep : GoodIn wsX2_shares wsX2_keep := goodIn_r _ [11, 12, 13, 14, 15, 16, 17, 18, 19, 20, 21, 22, 23, 24, 25, 26, 27, 28, 29, 30, 31, 32, 33, 34, 35, 36, 37, 38, 39, 40, 41] (by decide +kernel) (by decide +kernel)
set_option maxRecDepth 20000 in
theorem gX2_shares_X2_keep : GoodIn wsX2_shares (wsV RX2 115 RX2 yX2_keep wsX2_keep) := goodIn_app (goodIn_of _ (by decide +kernel)) ggX2_shares_X2_keep
theorem dX2_shares_0 : decode cX2_shares 0 = .ok (.lload 5, 2) := by decide +kernel
theorem dX2_shares_2 : decode cX2_shares 2 = .ok (.lconst 0, 1) := by decide +kernel
theorem dX2_shares_3 : decode cX2_shares 3 = .ok (.lcmp, 1) := by decide +kernel
theorem dX2_shares_4 : decode cX2_shares 4 = .ok (.ifCond .ne 11, 3) := by decide +kernel
theorem dX2_shares_7 : decode cX2_shares 7 = .ok (.aload_n 0, 1) := by decide +kernel
theorem dX2_shares_8 : decode cX2_shares 8 = .ok (.iconst 2, 1) := by decide +kernel
theorem dX2_shares_9 : decode cX2_shares 9 = .ok (.invokevirtual 118, 3) := by decide +kernel
theorem dX2_shares_12 : decode cX2_shares 12 = .ok (.goto 26, 3) := by decide +kernel
theorem dX2_shares_15 : decode cX2_shares 15 = .ok (.aload_n 0, 1) := by decide +kernel
theorem dX2_shares_16 : decode cX2_shares 16 = .ok (.iload_n 1, 1) := by decide +kernel
theorem dX2_shares_17 : decode cX2_shares 17 = .ok (.lload_n 3, 1) := by decide +kernel
theorem dX2_shares_18 : decode cX2_shares 18 = .ok (.lload 5, 2) := by decide +kernel
theorem dX2_shares_20 : decode cX2_shares 20 = .ok (.ldiv, 1) := by decide +kernel
theorem dX2_shares_21 : decode cX2_shares 21 = .ok (.invokevirtual 115, 3) := by decide +kernel
theorem dX2_shares_24 : decode cX2_shares 24 = .ok (.aload_n 0, 1) := by decide +kernel
theorem dX2_shares_25 : decode cX2_shares 25 = .ok (.iload_n 2, 1) := by decide +kernel
theorem dX2_shares_26 : decode cX2_shares 26 = .ok (.lload_n 3, 1) := by decide +kernel
theorem dX2_shares_27 : decode cX2_shares 27 = .ok (.lload 5, 2) := by decide +kernel
theorem dX2_shares_29 : decode cX2_shares 29 = .ok (.lrem, 1) := by decide +kernel
theorem dX2_shares_30 : decode cX2_shares 30 = .ok (.invokevirtual 115, 3) := by decide +kernel
theorem dX2_shares_33 : decode cX2_shares 33 = .ok (.aload_n 0, 1) := by decide +kernel
theorem dX2_shares_34 : decode cX2_shares 34 = .ok (.iconst 0, 1) := by decide +kernel
theorem dX2_shares_35 : decode cX2_shares 35 = .ok (.invokevirtual 118, 3) := by decide +kernel
theorem dX2_shares_38 : decode cX2_shares 38 = .ok (.return_, 1) := by decide +kernel
set_option maxRecDepth 20000 in
theorem ggX2_take_X2_in : GoodIn wsX2_take wsX2_in := goodIn_r _ [11] (by decide +kernel) (by decide +kernel)
set_option maxRecDepth 20000 in
theorem gX2_take_X2_in : GoodIn wsX2_take (va_wsS RX2 72 yX2_in wsX2_in) := goodIn_app (goodIn_of _ (by decide +kernel)) ggX2_take_X2_in
set_option maxRecDepth 20000 in
theorem ggX2_take_X2_go : GoodIn wsX2_take wsX2_go := goodIn_r _ [15, 16, 17, 18, 19, 20, 1, 21, 22, 23, 10, 24, 7, 25, 26, 27, 28, 29, 30, 31, 32, 6, 33, 34, 35, 36, 37, 38, 39, 40, 41, 42, 43, 44, 45, 46, 47, 48, 49, 50, 2, 51, 52, 53, 54, 3, 4, 55, 56, 57, 58, 59, 60, 61, 62, 63, 64, 65, 8, 9, 11, 66, 67, 68, 69, 79, 80, 81, 82, 83, 84, 85, 86, 87, 88, 89, 90, 91, 92, 93, 94, 95, 96, 97, 98, 99, 100, 101, 102, 103, 104, 105, 106] (by decide +kernel) (by decide +kernel)
set_option maxRecDepth 20000 in
theorem gX2_take_X2_go : GoodIn wsX2_take (wsV RX2 135 RX2 yX2_go wsX2_go) := goodIn_app (goodIn_of _ (by decide +kernel)) ggX2_take_X2_go
set_option maxRecDepth 20000 in
theorem ggX2_take_X2_falls : GoodIn wsX2_take wsX2_falls := goodIn_r _ [73, 74, 75, 76, 77, 7, 78, 79, 80, 81, 82, 83, 84, 85, 86, 87, 88, 89, 90, 91, 92, 93, 94, 95, 96, 97, 98, 99, 100, 101, 102, 103, 104, 105, 106] (by decide +kernel) (by decide +kernel)
set_option maxRecDepth 20000 in
theorem gX2_take_X2_falls : GoodIn wsX2_take (wsV RX2 138 RX2 yX2_falls wsX2_falls) := goodIn_app (goodIn_of _ (by decide +kernel)) ggX2_take_X2_falls
theorem dX2_take_0 : decode cX2_take 0 = .ok (.iload_n 1, 1) := by decide +kernel
theorem dX2_take_1 : decode cX2_take 1 = .ok (.iconst 1, 1) := by decide +kernel
theorem dX2_take_2 : decode cX2_take 2 = .ok (.bipush 6, 2) := by decide +kernel
theorem dX2_take_4 : decode cX2_take 4 = .ok (.invokestatic 72, 3) := by decide +kernel
theorem dX2_take_7 : decode cX2_take 7 = .ok (.ifCond .ne 6, 3) := by decide +kernel
theorem dX2_take_10 : decode cX2_take 10 = .ok (.bipush (-3), 2) := by decide +kernel
theorem dX2_take_12 : decode cX2_take 12 = .ok (.ireturn, 1) := by decide +kernel
theorem dX2_take_13 : decode cX2_take 13 = .ok (.aload_n 0, 1) := by decide +kernel
theorem dX2_take_14 : decode cX2_take 14 = .ok (.iconst 0, 1) := by decide +kernel
theorem dX2_take_15 : decode cX2_take 15 = .ok (.putfield 112, 3) := by decide +kernel
theorem dX2_take_18 : decode cX2_take 18 = .ok (.iconst 0, 1) := by decide +kernel
theorem dX2_take_19 : decode cX2_take 19 = .ok (.istore_n 2, 1) := by decide +kernel
theorem dX2_take_20 : decode cX2_take 20 = .ok (.iload_n 2, 1) := by decide +kernel
theorem dX2_take_21 : decode cX2_take 21 = .ok (.iload_n 1, 1) := by decide +kernel
theorem dX2_take_22 : decode cX2_take 22 = .ok (.if_icmp .ge 127, 3) := by decide +kernel
theorem dX2_take_25 : decode cX2_take 25 = .ok (.aload_n 0, 1) := by decide +kernel
theorem dX2_take_26 : decode cX2_take 26 = .ok (.getfield 86, 3) := by decide +kernel
theorem dX2_take_29 : decode cX2_take 29 = .ok (.ifCond .le 120, 3) := by decide +kernel
theorem dX2_take_32 : decode cX2_take 32 = .ok (.aload_n 0, 1) := by decide +kernel
theorem dX2_take_33 : decode cX2_take 33 = .ok (.getfield 44, 3) := by decide +kernel
theorem dX2_take_36 : decode cX2_take 36 = .ok (.iconst 0, 1) := by decide +kernel
theorem dX2_take_37 : decode cX2_take 37 = .ok (.iaload, 1) := by decide +kernel
theorem dX2_take_38 : decode cX2_take 38 = .ok (.istore_n 3, 1) := by decide +kernel
theorem dX2_take_39 : decode cX2_take 39 = .ok (.aload_n 0, 1) := by decide +kernel
theorem dX2_take_40 : decode cX2_take 40 = .ok (.getfield 47, 3) := by decide +kernel
theorem dX2_take_43 : decode cX2_take 43 = .ok (.iconst 0, 1) := by decide +kernel
theorem dX2_take_44 : decode cX2_take 44 = .ok (.laload, 1) := by decide +kernel
theorem dX2_take_45 : decode cX2_take 45 = .ok (.lstore 4, 2) := by decide +kernel
theorem dX2_take_47 : decode cX2_take 47 = .ok (.aload_n 0, 1) := by decide +kernel
theorem dX2_take_48 : decode cX2_take 48 = .ok (.dup, 1) := by decide +kernel
theorem dX2_take_49 : decode cX2_take 49 = .ok (.getfield 86, 3) := by decide +kernel
theorem dX2_take_52 : decode cX2_take 52 = .ok (.iconst 1, 1) := by decide +kernel
theorem dX2_take_53 : decode cX2_take 53 = .ok (.isub, 1) := by decide +kernel
theorem dX2_take_54 : decode cX2_take 54 = .ok (.putfield 86, 3) := by decide +kernel
theorem dX2_take_57 : decode cX2_take 57 = .ok (.iconst 0, 1) := by decide +kernel
theorem dX2_take_58 : decode cX2_take 58 = .ok (.istore 6, 2) := by decide +kernel
theorem dX2_take_60 : decode cX2_take 60 = .ok (.iload 6, 2) := by decide +kernel
theorem dX2_take_62 : decode cX2_take 62 = .ok (.aload_n 0, 1) := by decide +kernel
theorem dX2_take_63 : decode cX2_take 63 = .ok (.getfield 86, 3) := by decide +kernel
theorem dX2_take_66 : decode cX2_take 66 = .ok (.if_icmp .ge 41, 3) := by decide +kernel
theorem dX2_take_69 : decode cX2_take 69 = .ok (.aload_n 0, 1) := by decide +kernel
theorem dX2_take_70 : decode cX2_take 70 = .ok (.getfield 44, 3) := by decide +kernel
theorem dX2_take_73 : decode cX2_take 73 = .ok (.iload 6, 2) := by decide +kernel
theorem dX2_take_75 : decode cX2_take 75 = .ok (.aload_n 0, 1) := by decide +kernel
theorem dX2_take_76 : decode cX2_take 76 = .ok (.getfield 44, 3) := by decide +kernel
theorem dX2_take_79 : decode cX2_take 79 = .ok (.iload 6, 2) := by decide +kernel
theorem dX2_take_81 : decode cX2_take 81 = .ok (.iconst 1, 1) := by decide +kernel
theorem dX2_take_82 : decode cX2_take 82 = .ok (.iadd, 1) := by decide +kernel
theorem dX2_take_83 : decode cX2_take 83 = .ok (.iaload, 1) := by decide +kernel
theorem dX2_take_84 : decode cX2_take 84 = .ok (.iastore, 1) := by decide +kernel
theorem dX2_take_85 : decode cX2_take 85 = .ok (.aload_n 0, 1) := by decide +kernel
theorem dX2_take_86 : decode cX2_take 86 = .ok (.getfield 47, 3) := by decide +kernel
theorem dX2_take_89 : decode cX2_take 89 = .ok (.iload 6, 2) := by decide +kernel
theorem dX2_take_91 : decode cX2_take 91 = .ok (.aload_n 0, 1) := by decide +kernel
theorem dX2_take_92 : decode cX2_take 92 = .ok (.getfield 47, 3) := by decide +kernel
theorem dX2_take_95 : decode cX2_take 95 = .ok (.iload 6, 2) := by decide +kernel
theorem dX2_take_97 : decode cX2_take 97 = .ok (.iconst 1, 1) := by decide +kernel
theorem dX2_take_98 : decode cX2_take 98 = .ok (.iadd, 1) := by decide +kernel
theorem dX2_take_99 : decode cX2_take 99 = .ok (.laload, 1) := by decide +kernel
theorem dX2_take_100 : decode cX2_take 100 = .ok (.lastore, 1) := by decide +kernel
theorem dX2_take_101 : decode cX2_take 101 = .ok (.iinc 6 1, 3) := by decide +kernel
theorem dX2_take_104 : decode cX2_take 104 = .ok (.goto (-44), 3) := by decide +kernel
theorem dX2_take_107 : decode cX2_take 107 = .ok (.iinc 2 1, 3) := by decide +kernel
theorem dX2_take_110 : decode cX2_take 110 = .ok (.aload_n 0, 1) := by decide +kernel
theorem dX2_take_111 : decode cX2_take 111 = .ok (.dup, 1) := by decide +kernel
theorem dX2_take_112 : decode cX2_take 112 = .ok (.getfield 132, 3) := by decide +kernel
theorem dX2_take_115 : decode cX2_take 115 = .ok (.iconst 1, 1) := by decide +kernel
theorem dX2_take_116 : decode cX2_take 116 = .ok (.iadd, 1) := by decide +kernel
theorem dX2_take_117 : decode cX2_take 117 = .ok (.putfield 132, 3) := by decide +kernel
theorem dX2_take_120 : decode cX2_take 120 = .ok (.aload_n 0, 1) := by decide +kernel
theorem dX2_take_121 : decode cX2_take 121 = .ok (.aload_n 0, 1) := by decide +kernel
theorem dX2_take_122 : decode cX2_take 122 = .ok (.getfield 41, 3) := by decide +kernel
theorem dX2_take_125 : decode cX2_take 125 = .ok (.iload_n 3, 1) := by decide +kernel
theorem dX2_take_126 : decode cX2_take 126 = .ok (.iaload, 1) := by decide +kernel
theorem dX2_take_127 : decode cX2_take 127 = .ok (.lload 4, 2) := by decide +kernel
theorem dX2_take_129 : decode cX2_take 129 = .ok (.invokevirtual 135, 3) := by decide +kernel
theorem dX2_take_132 : decode cX2_take 132 = .ok (.aload_n 0, 1) := by decide +kernel
theorem dX2_take_133 : decode cX2_take 133 = .ok (.getfield 93, 3) := by decide +kernel
theorem dX2_take_136 : decode cX2_take 136 = .ok (.ifCond .eq 10, 3) := by decide +kernel
theorem dX2_take_139 : decode cX2_take 139 = .ok (.aload_n 0, 1) := by decide +kernel
theorem dX2_take_140 : decode cX2_take 140 = .ok (.iload_n 3, 1) := by decide +kernel
theorem dX2_take_141 : decode cX2_take 141 = .ok (.lload 4, 2) := by decide +kernel
theorem dX2_take_143 : decode cX2_take 143 = .ok (.invokevirtual 138, 3) := by decide +kernel
theorem dX2_take_146 : decode cX2_take 146 = .ok (.goto (-126), 3) := by decide +kernel
theorem dX2_take_149 : decode cX2_take 149 = .ok (.iload_n 2, 1) := by decide +kernel
theorem dX2_take_150 : decode cX2_take 150 = .ok (.ireturn, 1) := by decide +kernel
theorem dX2_falls_0 : decode cX2_falls 0 = .ok (.aload_n 0, 1) := by decide +kernel
theorem dX2_falls_1 : decode cX2_falls 1 = .ok (.dup, 1) := by decide +kernel
theorem dX2_falls_2 : decode cX2_falls 2 = .ok (.getfield 141, 3) := by decide +kernel
theorem dX2_falls_5 : decode cX2_falls 5 = .ok (.iconst 1, 1) := by decide +kernel
theorem dX2_falls_6 : decode cX2_falls 6 = .ok (.iadd, 1) := by decide +kernel
theorem dX2_falls_7 : decode cX2_falls 7 = .ok (.putfield 141, 3) := by decide +kernel
theorem dX2_falls_10 : decode cX2_falls 10 = .ok (.aload_n 0, 1) := by decide +kernel
theorem dX2_falls_11 : decode cX2_falls 11 = .ok (.getfield 144, 3) := by decide +kernel
theorem dX2_falls_14 : decode cX2_falls 14 = .ok (.bipush 30, 2) := by decide +kernel
theorem dX2_falls_16 : decode cX2_falls 16 = .ok (.if_icmp .ge 46, 3) := by decide +kernel
theorem dX2_falls_19 : decode cX2_falls 19 = .ok (.aload_n 0, 1) := by decide +kernel
theorem dX2_falls_20 : decode cX2_falls 20 = .ok (.getfield 50, 3) := by decide +kernel
theorem dX2_falls_23 : decode cX2_falls 23 = .ok (.aload_n 0, 1) := by decide +kernel
theorem dX2_falls_24 : decode cX2_falls 24 = .ok (.getfield 144, 3) := by decide +kernel
theorem dX2_falls_27 : decode cX2_falls 27 = .ok (.iload_n 1, 1) := by decide +kernel
theorem dX2_falls_28 : decode cX2_falls 28 = .ok (.iastore, 1) := by decide +kernel
theorem dX2_falls_29 : decode cX2_falls 29 = .ok (.aload_n 0, 1) := by decide +kernel
theorem dX2_falls_30 : decode cX2_falls 30 = .ok (.getfield 53, 3) := by decide +kernel
theorem dX2_falls_33 : decode cX2_falls 33 = .ok (.aload_n 0, 1) := by decide +kernel
theorem dX2_falls_34 : decode cX2_falls 34 = .ok (.getfield 144, 3) := by decide +kernel
theorem dX2_falls_37 : decode cX2_falls 37 = .ok (.aload_n 0, 1) := by decide +kernel
theorem dX2_falls_38 : decode cX2_falls 38 = .ok (.getfield 93, 3) := by decide +kernel
theorem dX2_falls_41 : decode cX2_falls 41 = .ok (.iastore, 1) := by decide +kernel
theorem dX2_falls_42 : decode cX2_falls 42 = .ok (.aload_n 0, 1) := by decide +kernel
theorem dX2_falls_43 : decode cX2_falls 43 = .ok (.getfield 56, 3) := by decide +kernel
theorem dX2_falls_46 : decode cX2_falls 46 = .ok (.aload_n 0, 1) := by decide +kernel
theorem dX2_falls_47 : decode cX2_falls 47 = .ok (.getfield 144, 3) := by decide +kernel
theorem dX2_falls_50 : decode cX2_falls 50 = .ok (.lload_n 2, 1) := by decide +kernel
theorem dX2_falls_51 : decode cX2_falls 51 = .ok (.lastore, 1) := by decide +kernel
theorem dX2_falls_52 : decode cX2_falls 52 = .ok (.aload_n 0, 1) := by decide +kernel
theorem dX2_falls_53 : decode cX2_falls 53 = .ok (.dup, 1) := by decide +kernel
theorem dX2_falls_54 : decode cX2_falls 54 = .ok (.getfield 144, 3) := by decide +kernel
theorem dX2_falls_57 : decode cX2_falls 57 = .ok (.iconst 1, 1) := by decide +kernel
theorem dX2_falls_58 : decode cX2_falls 58 = .ok (.iadd, 1) := by decide +kernel
theorem dX2_falls_59 : decode cX2_falls 59 = .ok (.putfield 144, 3) := by decide +kernel
theorem dX2_falls_62 : decode cX2_falls 62 = .ok (.return_, 1) := by decide +kernel
set_option maxRecDepth 20000 in
theorem ggX2_give_X2_isKind : GoodIn wsX2_give wsX2_isKind := goodIn_r _ [7, 8, 9, 6, 10] (by decide +kernel) (by decide +kernel)
set_option maxRecDepth 20000 in
theorem gX2_give_X2_isKind : GoodIn wsX2_give (va_wsS RX2 80 yX2_isKind wsX2_isKind) := goodIn_app (goodIn_of _ (by decide +kernel)) ggX2_give_X2_isKind
set_option maxRecDepth 20000 in
theorem ggX2_give_X2_go : GoodIn wsX2_give wsX2_go := goodIn_r _ [14, 15, 16, 17, 18, 19, 1, 20, 21, 22, 6, 23, 3, 24, 25, 26, 27, 28, 29, 30, 31, 2, 32, 33, 34, 35, 36, 37, 38, 39, 40, 41, 42, 43, 44, 45, 46, 47, 48, 49, 50, 51, 52, 53, 54, 55, 56, 57, 58, 59, 60, 61, 62, 63, 64, 65, 66, 67, 8, 9, 10, 68, 69, 70, 71, 72, 73, 74, 75, 76, 77, 78, 79, 80, 81, 82, 83, 84, 85, 86, 87, 88, 89, 90, 91, 92, 93, 94, 95, 96, 97, 98, 99] (by decide +kernel) (by decide +kernel)
set_option maxRecDepth 20000 in
theorem gX2_give_X2_go : GoodIn wsX2_give (wsV RX2 135 RX2 yX2_go wsX2_go) := goodIn_app (goodIn_of _ (by decide +kernel)) ggX2_give_X2_go
theorem dX2_give_0 : decode cX2_give 0 = .ok (.iload_n 1, 1) := by decide +kernel
theorem dX2_give_1 : decode cX2_give 1 = .ok (.invokestatic 80, 3) := by decide +kernel
theorem dX2_give_4 : decode cX2_give 4 = .ok (.ifCond .ne 6, 3) := by decide +kernel
theorem dX2_give_7 : decode cX2_give 7 = .ok (.bipush (-2), 2) := by decide +kernel
theorem dX2_give_9 : decode cX2_give 9 = .ok (.ireturn, 1) := by decide +kernel
theorem dX2_give_10 : decode cX2_give 10 = .ok (.aload_n 0, 1) := by decide +kernel
theorem dX2_give_11 : decode cX2_give 11 = .ok (.iconst 0, 1) := by decide +kernel
theorem dX2_give_12 : decode cX2_give 12 = .ok (.putfield 112, 3) := by decide +kernel
theorem dX2_give_15 : decode cX2_give 15 = .ok (.aload_n 0, 1) := by decide +kernel
theorem dX2_give_16 : decode cX2_give 16 = .ok (.aload_n 0, 1) := by decide +kernel
theorem dX2_give_17 : decode cX2_give 17 = .ok (.getfield 41, 3) := by decide +kernel
theorem dX2_give_20 : decode cX2_give 20 = .ok (.iload_n 1, 1) := by decide +kernel
theorem dX2_give_21 : decode cX2_give 21 = .ok (.iaload, 1) := by decide +kernel
theorem dX2_give_22 : decode cX2_give 22 = .ok (.lload_n 2, 1) := by decide +kernel
theorem dX2_give_23 : decode cX2_give 23 = .ok (.invokevirtual 135, 3) := by decide +kernel
theorem dX2_give_26 : decode cX2_give 26 = .ok (.aload_n 0, 1) := by decide +kernel
theorem dX2_give_27 : decode cX2_give 27 = .ok (.getfield 93, 3) := by decide +kernel
theorem dX2_give_30 : decode cX2_give 30 = .ok (.ifCond .eq 13, 3) := by decide +kernel
theorem dX2_give_33 : decode cX2_give 33 = .ok (.bipush (-10), 2) := by decide +kernel
theorem dX2_give_35 : decode cX2_give 35 = .ok (.aload_n 0, 1) := by decide +kernel
theorem dX2_give_36 : decode cX2_give 36 = .ok (.getfield 93, 3) := by decide +kernel
theorem dX2_give_39 : decode cX2_give 39 = .ok (.isub, 1) := by decide +kernel
theorem dX2_give_40 : decode cX2_give 40 = .ok (.goto 4, 3) := by decide +kernel
theorem dX2_give_43 : decode cX2_give 43 = .ok (.iconst 1, 1) := by decide +kernel
theorem dX2_give_44 : decode cX2_give 44 = .ok (.ireturn, 1) := by decide +kernel
set_option maxRecDepth 20000 in
theorem ggX2_sum_X2_isBox : GoodIn wsX2_sum wsX2_isBox := goodIn_r _ [5, 6, 7, 4, 8] (by decide +kernel) (by decide +kernel)
set_option maxRecDepth 20000 in
theorem gX2_sum_X2_isBox : GoodIn wsX2_sum (va_wsS RX2 76 yX2_isBox wsX2_isBox) := goodIn_app (goodIn_of _ (by decide +kernel)) ggX2_sum_X2_isBox
theorem dX2_sum_0 : decode cX2_sum 0 = .ok (.iload_n 1, 1) := by decide +kernel
theorem dX2_sum_1 : decode cX2_sum 1 = .ok (.invokestatic 76, 3) := by decide +kernel
theorem dX2_sum_4 : decode cX2_sum 4 = .ok (.ifCond .eq 12, 3) := by decide +kernel
theorem dX2_sum_7 : decode cX2_sum 7 = .ok (.aload_n 0, 1) := by decide +kernel
theorem dX2_sum_8 : decode cX2_sum 8 = .ok (.getfield 7, 3) := by decide +kernel
theorem dX2_sum_11 : decode cX2_sum 11 = .ok (.iload_n 1, 1) := by decide +kernel
theorem dX2_sum_12 : decode cX2_sum 12 = .ok (.laload, 1) := by decide +kernel
theorem dX2_sum_13 : decode cX2_sum 13 = .ok (.goto 4, 3) := by decide +kernel
theorem dX2_sum_16 : decode cX2_sum 16 = .ok (.lconst 0, 1) := by decide +kernel
theorem dX2_sum_17 : decode cX2_sum 17 = .ok (.lreturn, 1) := by decide +kernel
set_option maxRecDepth 20000 in
theorem ggX2_counted_X2_isBox : GoodIn wsX2_counted wsX2_isBox := goodIn_r _ [5, 6, 7, 4, 8] (by decide +kernel) (by decide +kernel)
set_option maxRecDepth 20000 in
theorem gX2_counted_X2_isBox : GoodIn wsX2_counted (va_wsS RX2 76 yX2_isBox wsX2_isBox) := goodIn_app (goodIn_of _ (by decide +kernel)) ggX2_counted_X2_isBox
theorem dX2_counted_0 : decode cX2_counted 0 = .ok (.iload_n 1, 1) := by decide +kernel
theorem dX2_counted_1 : decode cX2_counted 1 = .ok (.invokestatic 76, 3) := by decide +kernel
theorem dX2_counted_4 : decode cX2_counted 4 = .ok (.ifCond .eq 12, 3) := by decide +kernel
theorem dX2_counted_7 : decode cX2_counted 7 = .ok (.aload_n 0, 1) := by decide +kernel
theorem dX2_counted_8 : decode cX2_counted 8 = .ok (.getfield 13, 3) := by decide +kernel
theorem dX2_counted_11 : decode cX2_counted 11 = .ok (.iload_n 1, 1) := by decide +kernel
theorem dX2_counted_12 : decode cX2_counted 12 = .ok (.iaload, 1) := by decide +kernel
theorem dX2_counted_13 : decode cX2_counted 13 = .ok (.goto 5, 3) := by decide +kernel
theorem dX2_counted_16 : decode cX2_counted 16 = .ok (.bipush (-2), 2) := by decide +kernel
theorem dX2_counted_18 : decode cX2_counted 18 = .ok (.ireturn, 1) := by decide +kernel
set_option maxRecDepth 20000 in
theorem ggX2_failed_X2_in : GoodIn wsX2_failed wsX2_in := goodIn_r _ [7] (by decide +kernel) (by decide +kernel)
set_option maxRecDepth 20000 in
theorem gX2_failed_X2_in : GoodIn wsX2_failed (va_wsS RX2 72 yX2_in wsX2_in) := goodIn_app (goodIn_of _ (by decide +kernel)) ggX2_failed_X2_in
theorem dX2_failed_0 : decode cX2_failed 0 = .ok (.iload_n 2, 1) := by decide +kernel
theorem dX2_failed_1 : decode cX2_failed 1 = .ok (.iconst 0, 1) := by decide +kernel
theorem dX2_failed_2 : decode cX2_failed 2 = .ok (.iconst 1, 1) := by decide +kernel
theorem dX2_failed_3 : decode cX2_failed 3 = .ok (.invokestatic 72, 3) := by decide +kernel
theorem dX2_failed_6 : decode cX2_failed 6 = .ok (.ifCond .ne 6, 3) := by decide +kernel
theorem dX2_failed_9 : decode cX2_failed 9 = .ok (.bipush (-3), 2) := by decide +kernel
theorem dX2_failed_11 : decode cX2_failed 11 = .ok (.ireturn, 1) := by decide +kernel
theorem dX2_failed_12 : decode cX2_failed 12 = .ok (.iload_n 1, 1) := by decide +kernel
theorem dX2_failed_13 : decode cX2_failed 13 = .ok (.iconst 0, 1) := by decide +kernel
theorem dX2_failed_14 : decode cX2_failed 14 = .ok (.aload_n 0, 1) := by decide +kernel
theorem dX2_failed_15 : decode cX2_failed 15 = .ok (.getfield 144, 3) := by decide +kernel
theorem dX2_failed_18 : decode cX2_failed 18 = .ok (.iconst 1, 1) := by decide +kernel
theorem dX2_failed_19 : decode cX2_failed 19 = .ok (.isub, 1) := by decide +kernel
theorem dX2_failed_20 : decode cX2_failed 20 = .ok (.invokestatic 72, 3) := by decide +kernel
theorem dX2_failed_23 : decode cX2_failed 23 = .ok (.ifCond .ne 5, 3) := by decide +kernel
theorem dX2_failed_26 : decode cX2_failed 26 = .ok (.iconst (-1), 1) := by decide +kernel
theorem dX2_failed_27 : decode cX2_failed 27 = .ok (.ireturn, 1) := by decide +kernel
theorem dX2_failed_28 : decode cX2_failed 28 = .ok (.iload_n 2, 1) := by decide +kernel
theorem dX2_failed_29 : decode cX2_failed 29 = .ok (.ifCond .ne 12, 3) := by decide +kernel
theorem dX2_failed_32 : decode cX2_failed 32 = .ok (.aload_n 0, 1) := by decide +kernel
theorem dX2_failed_33 : decode cX2_failed 33 = .ok (.getfield 50, 3) := by decide +kernel
theorem dX2_failed_36 : decode cX2_failed 36 = .ok (.iload_n 1, 1) := by decide +kernel
theorem dX2_failed_37 : decode cX2_failed 37 = .ok (.iaload, 1) := by decide +kernel
theorem dX2_failed_38 : decode cX2_failed 38 = .ok (.goto 9, 3) := by decide +kernel
theorem dX2_failed_41 : decode cX2_failed 41 = .ok (.aload_n 0, 1) := by decide +kernel
theorem dX2_failed_42 : decode cX2_failed 42 = .ok (.getfield 53, 3) := by decide +kernel
theorem dX2_failed_45 : decode cX2_failed 45 = .ok (.iload_n 1, 1) := by decide +kernel
theorem dX2_failed_46 : decode cX2_failed 46 = .ok (.iaload, 1) := by decide +kernel
theorem dX2_failed_47 : decode cX2_failed 47 = .ok (.ireturn, 1) := by decide +kernel
set_option maxRecDepth 20000 in
theorem ggX2_value_X2_in : GoodIn wsX2_value wsX2_in := goodIn_r _ [6] (by decide +kernel) (by decide +kernel)
set_option maxRecDepth 20000 in
theorem gX2_value_X2_in : GoodIn wsX2_value (va_wsS RX2 72 yX2_in wsX2_in) := goodIn_app (goodIn_of _ (by decide +kernel)) ggX2_value_X2_in
theorem dX2_value_0 : decode cX2_value 0 = .ok (.iload_n 1, 1) := by decide +kernel
theorem dX2_value_1 : decode cX2_value 1 = .ok (.iconst 0, 1) := by decide +kernel
theorem dX2_value_2 : decode cX2_value 2 = .ok (.aload_n 0, 1) := by decide +kernel
theorem dX2_value_3 : decode cX2_value 3 = .ok (.getfield 144, 3) := by decide +kernel
theorem dX2_value_6 : decode cX2_value 6 = .ok (.iconst 1, 1) := by decide +kernel
theorem dX2_value_7 : decode cX2_value 7 = .ok (.isub, 1) := by decide +kernel
theorem dX2_value_8 : decode cX2_value 8 = .ok (.invokestatic 72, 3) := by decide +kernel
theorem dX2_value_11 : decode cX2_value 11 = .ok (.ifCond .eq 12, 3) := by decide +kernel
theorem dX2_value_14 : decode cX2_value 14 = .ok (.aload_n 0, 1) := by decide +kernel
theorem dX2_value_15 : decode cX2_value 15 = .ok (.getfield 56, 3) := by decide +kernel
theorem dX2_value_18 : decode cX2_value 18 = .ok (.iload_n 1, 1) := by decide +kernel
theorem dX2_value_19 : decode cX2_value 19 = .ok (.laload, 1) := by decide +kernel
theorem dX2_value_20 : decode cX2_value 20 = .ok (.goto 4, 3) := by decide +kernel
theorem dX2_value_23 : decode cX2_value 23 = .ok (.lconst 0, 1) := by decide +kernel
theorem dX2_value_24 : decode cX2_value 24 = .ok (.lreturn, 1) := by decide +kernel
theorem dX2_count_0 : decode cX2_count 0 = .ok (.iload_n 1, 1) := by decide +kernel
theorem dX2_count_1 : decode cX2_count 1 = .ok (.tableswitch 62 0 4 #[35, 40, 45, 52, 57], 35) := by decide +kernel
theorem dX2_count_36 : decode cX2_count 36 = .ok (.aload_n 0, 1) := by decide +kernel
theorem dX2_count_37 : decode cX2_count 37 = .ok (.getfield 86, 3) := by decide +kernel
theorem dX2_count_40 : decode cX2_count 40 = .ok (.ireturn, 1) := by decide +kernel
theorem dX2_count_41 : decode cX2_count 41 = .ok (.aload_n 0, 1) := by decide +kernel
theorem dX2_count_42 : decode cX2_count 42 = .ok (.getfield 132, 3) := by decide +kernel
theorem dX2_count_45 : decode cX2_count 45 = .ok (.ireturn, 1) := by decide +kernel
theorem dX2_count_46 : decode cX2_count 46 = .ok (.aload_n 0, 1) := by decide +kernel
theorem dX2_count_47 : decode cX2_count 47 = .ok (.getfield 68, 3) := by decide +kernel
theorem dX2_count_50 : decode cX2_count 50 = .ok (.iconst 2, 1) := by decide +kernel
theorem dX2_count_51 : decode cX2_count 51 = .ok (.isub, 1) := by decide +kernel
theorem dX2_count_52 : decode cX2_count 52 = .ok (.ireturn, 1) := by decide +kernel
theorem dX2_count_53 : decode cX2_count 53 = .ok (.aload_n 0, 1) := by decide +kernel
theorem dX2_count_54 : decode cX2_count 54 = .ok (.getfield 141, 3) := by decide +kernel
theorem dX2_count_57 : decode cX2_count 57 = .ok (.ireturn, 1) := by decide +kernel
theorem dX2_count_58 : decode cX2_count 58 = .ok (.aload_n 0, 1) := by decide +kernel
theorem dX2_count_59 : decode cX2_count 59 = .ok (.getfield 112, 3) := by decide +kernel
theorem dX2_count_62 : decode cX2_count 62 = .ok (.ireturn, 1) := by decide +kernel
theorem dX2_count_63 : decode cX2_count 63 = .ok (.bipush (-3), 2) := by decide +kernel
theorem dX2_count_65 : decode cX2_count 65 = .ok (.ireturn, 1) := by decide +kernel
end
section
/-! OWN ROWS: contracts over a whole world, their starts, ends and calls -/
def zP (D : va_G) (tys : List (ClassId × FieldType)) (av : List Value) (w : va_W) (sz : Nat) : Array Value → State → Prop :=
  va_Pc av (fun U => U.heap.size = sz ∧ va_P D vwCl w U.heap ∧ va_K D vwCl tys U ∧ va_D (fun _ => True) w)
def zB {S : Type} (D : va_G) (tys : List (ClassId × FieldType)) (wf : S → va_W) (A : Nat → Prop) : S → State → Prop :=
  fun u t => va_P D vwCl (wf u) t.heap ∧ va_K D vwCl tys t ∧ va_D A (wf u)
theorem z_blind {D : va_G} {tys : List (ClassId × FieldType)} {av : List Value} {w : va_W} {sz : Nat} : FrameBlind (zP D tys av w sz) := fun a U g mk q => by
  obtain ⟨q0, q1, qP, qK, qD⟩ := q
  exact ⟨q0, q1, qP, va_K.moved (u := U) (U := U.calling g mk a) (Vm.Alike.refl U.vm) qK, qD⟩
def cI {S : Type} (l : Launch) (y : MethodName) (ws : List Cond) (rm : Room) (mc ms : Nat) (D : va_G) (tys : List (ClassId × FieldType)) (wf : S → va_W) (σ : S) (av : List Value) (F : Int32 × S) : Prop :=
  ∀ sz : Nat, Met l y ws rm (zP D tys av (wf σ) sz) (va_Qi (fun r u => r = F.1 ∧ u = F.2) (zB D tys wf (va_A (wf σ) sz)) (va_A (wf σ) sz)) mc ms (va_A (wf σ) sz)
def cL {S : Type} (l : Launch) (y : MethodName) (ws : List Cond) (rm : Room) (mc ms : Nat) (D : va_G) (tys : List (ClassId × FieldType)) (wf : S → va_W) (σ : S) (av : List Value) (F : Int64 × S) : Prop :=
  ∀ sz : Nat, Met l y ws rm (zP D tys av (wf σ) sz) (va_Ql (fun r u => r = F.1 ∧ u = F.2) (zB D tys wf (va_A (wf σ) sz)) (va_A (wf σ) sz)) mc ms (va_A (wf σ) sz)
def cV {S : Type} (l : Launch) (y : MethodName) (ws : List Cond) (rm : Room) (mc ms : Nat) (D : va_G) (tys : List (ClassId × FieldType)) (wf : S → va_W) (σ : S) (av : List Value) (F : S) : Prop :=
  ∀ sz : Nat, Met l y ws rm (zP D tys av (wf σ) sz) (va_Qv (fun u => u = F) (zB D tys wf (va_A (wf σ) sz)) (va_A (wf σ) sz)) mc ms (va_A (wf σ) sz)
def cQ {S : Type} (ad : Nat → Nat) (l : Launch) (y : MethodName) (ws : List Cond) (rm : Room) (mc ms : Nat) (D : va_G) (tys : List (ClassId × FieldType)) (wf : S → va_W) (σ : S) (av : List Value) (F : Option Nat × S) : Prop :=
  ∀ sz : Nat, Met l y ws rm (zP D tys av (wf σ) sz) (va_Qq (fun r u => r = F.1.map ad ∧ u = F.2) (zB D tys wf (va_A (wf σ) sz)) (va_A (wf σ) sz)) mc ms (va_A (wf σ) sz)
def cS (l : Launch) (y : MethodName) (ws : List Cond) (rm : Room) (av : List Value) (r : Int32) : Prop :=
  Met l y ws rm (va_Pc av (fun _ => True)) (vp_Si (fun x => x = r)) 0 0 (fun _ => False)
/-- what a walk has at its start -/
def zX (p : Program) (s : State) (m : MethodId) (args : Array Value) (meth : Method) (c : Code) (cc : ByteArray) (maxL : Nat) (ret : Option FieldType) (ws : List Cond) (y : MethodName) : Prop :=
  p.tables.exec = Jvm.exec ∧ c.code = cc ∧ meth.sig.returnType = ret ∧ c.maxLocals = maxL ∧ (∀ x ∈ ws, x.before args s = true) ∧ s.vm.findClass y.cls = some m.cls ∧ meth.locks = false ∧ meth.name = y.name
theorem z_start {l : Launch} {y : MethodName} {ws ws' : List Cond} {rm : Room} {cc : ByteArray} {maxL : Nat} {ret : Option FieldType} {D : va_G} {tys : List (ClassId × FieldType)} {w : va_W} {av : List Value} {mc ms : Nat} {Qc : (Nat → Prop) → Array Value → State → Outcome → State → Prop} (sz : Nat)
    (hy : plainName y.cls = true) (hw : ws = Cond.code y cc maxL ret :: ws') (hn : (lg_sl av).length ≤ maxL)
    (body : ∀ (p : Program) (e : Env) (s : State) (m : MethodId) (below : List Frame) (meth : Method) (c : Code) (A : Nat → Prop), zX p s m av.toArray meth c cc maxL ret ws y → (∀ q : Nat, s.heap.size ≤ q → A q) → va_K D vwCl tys s → va_P D vwCl w s.heap → va_D A w → va_S A s.heap s.heap [] →
      ∀ ls : Array Slot, lv_has ls maxL (lv_args 0 av) → W p l e rm s m av.toArray below meth c s.heap [] 0 0 (MQ below (Qc A) av.toArray s mc ms A) (F0 m 0 ls [])) :
    Met l y ws rm (zP D tys av w sz) (Qc (va_A w sz)) mc ms (va_A w sz) := by
  refine Met.ofW (cc := cc) (maxL := maxL) (ret := ret) hy hw ?_
  intro p e s m args below meth c s₁ B hml hv
  obtain ⟨rfl, hsz, hP, hK, hD0⟩ := hv
  subst hsz
  have hl := lv_entry av (n := maxL) hn
  rw [lg_entry_eq]
  exact body p e s m below meth c (va_A w s.heap.size) ⟨B.exec, B.bytes, B.returns, hml, atoms_spec (ws := ws) B.pre, findClass_of_methodNamed B.named, B.notSynchronized, (name_of_methodNamed B.named B.method).1⟩ (fun q h => Or.inr h) hK hP (hD0.self (sz := s.heap.size)) va_S.rf _ hl
theorem z_startS {l : Launch} {y : MethodName} {ws ws' : List Cond} {rm : Room} {cc : ByteArray} {maxL : Nat} {ret : Option FieldType} {av : List Value} {r : Int32}
    (hy : plainName y.cls = true) (hw : ws = Cond.code y cc maxL ret :: ws') (hn : (lg_sl av).length ≤ maxL)
    (body : ∀ (p : Program) (e : Env) (s : State) (m : MethodId) (below : List Frame) (meth : Method) (c : Code), zX p s m av.toArray meth c cc maxL ret ws y →
      ∀ ls : Array Slot, lv_has ls maxL (lv_args 0 av) → W p l e rm s m av.toArray below meth c s.heap [] 0 0 (MQ below (vp_Si (fun x => x = r)) av.toArray s 0 0 (fun _ => False)) (F0 m 0 ls [])) :
    cS l y ws rm av r := by
  refine Met.ofW (cc := cc) (maxL := maxL) (ret := ret) hy hw ?_
  intro p e s m args below meth c s₁ B hml hv
  obtain ⟨rfl, -⟩ := hv
  have hl := lv_entry av (n := maxL) hn
  rw [lg_entry_eq]
  exact body p e s m below meth c ⟨B.exec, B.bytes, B.returns, hml, atoms_spec (ws := ws) B.pre, findClass_of_methodNamed B.named, B.notSynchronized, (name_of_methodNamed B.named B.method).1⟩ _ hl
section ZR
variable {p : Program} {l : Launch} {e : Env} {R : Room} {s : State} {m : MethodId} {args : Array Value} {below : List Frame} {meth : Method} {c : Code} {H : Heap} {locs : List Loc} {cells slots : Nat} {Q : State → Prop}
variable {cc : ByteArray} {pc : Nat} {ls : Array Slot} {rest : List Value} {D : va_G} {A : Nat → Prop} {tys : List (ClassId × FieldType)} {S : Type} {wf : S → va_W}
theorem z_retS {v r : Int32} {ty : FieldType} (hx : p.tables.exec = Jvm.exec) (hb : c.code = cc) (hr : meth.sig.returnType = some ty) (hlocks : meth.locks = false) (hn : narrow ty (.int v) = .int v) (e1 : v = r) (hdg : decode cc pc = .ok (.ireturn, 1)) :
    W p l e R s m args below meth c s.heap [] 0 0 (MQ below (vp_Si (fun x => x = r)) args s 0 0 (fun _ => False)) (F0 m pc ls [.int v]) :=
  W.zret hx hb hr hn (fun t ht hW => ⟨v, rfl, e1, ht⟩) (fun q h => by cases h) hdg hlocks
theorem z_reti {v : Int32} {σ : S} {F : Int32 × S} {ty : FieldType} (hx : p.tables.exec = Jvm.exec) (hb : c.code = cc) (hr : meth.sig.returnType = some ty) (hlocks : meth.locks = false) (hn : narrow ty (.int v) = .int v) (hK : va_K D vwCl tys s) (hP : va_P D vwCl (wf σ) H) (hD : va_D A (wf σ)) (hS : va_S A s.heap H locs) (hF : F = (v, σ)) (hdg : decode cc pc = .ok (.ireturn, 1)) :
    W p l e R s m args below meth c H locs cells slots (MQ below (va_Qi (fun r u => r = F.1 ∧ u = F.2) (zB D tys wf A) A) args s cells slots A) (F0 m pc ls [.int v]) := by
  subst hF
  exact W.zret hx hb hr hn (fun t ht hW => ⟨⟨v, σ, rfl, ⟨rfl, rfl⟩, by rw [ht]; exact hP, va_K.moved hW.alike hK, hD⟩, hS.F ht⟩) hS.2.2 hdg hlocks
theorem z_retl {v : Int64} {σ : S} {F : Int64 × S} (hx : p.tables.exec = Jvm.exec) (hb : c.code = cc) (hr : meth.sig.returnType = some .long) (hlocks : meth.locks = false) (hK : va_K D vwCl tys s) (hP : va_P D vwCl (wf σ) H) (hD : va_D A (wf σ)) (hS : va_S A s.heap H locs) (hF : F = (v, σ)) (hdg : decode cc pc = .ok (.lreturn, 1)) :
    W p l e R s m args below meth c H locs cells slots (MQ below (va_Ql (fun r u => r = F.1 ∧ u = F.2) (zB D tys wf A) A) args s cells slots A) (F0 m pc ls [.long v]) := by
  subst hF
  exact W.lret hx hb hr (fun t ht hW => ⟨⟨v, σ, rfl, ⟨rfl, rfl⟩, by rw [ht]; exact hP, va_K.moved hW.alike hK, hD⟩, hS.F ht⟩) hS.2.2 hdg hlocks
theorem z_retv {σ F : S} (hx : p.tables.exec = Jvm.exec) (hb : c.code = cc) (hr : meth.sig.returnType = none) (hlocks : meth.locks = false) (hK : va_K D vwCl tys s) (hP : va_P D vwCl (wf σ) H) (hD : va_D A (wf σ)) (hS : va_S A s.heap H locs) (hF : F = σ) (hdg : decode cc pc = .ok (.return_, 1)) :
    W p l e R s m args below meth c H locs cells slots (MQ below (va_Qv (fun u => u = F) (zB D tys wf A) A) args s cells slots A) (F0 m pc ls []) := by
  subst hF
  exact W.vret hx hb hr (fun t ht hW => ⟨⟨F, rfl, rfl, by rw [ht]; exact hP, va_K.moved hW.alike hK, hD⟩, hS.F ht⟩) hS.2.2 hdg hlocks
theorem z_retq {ad : Nat → Nat} {r : Option Nat} {σ : S} {F : Option Nat × S} {C : String} (hx : p.tables.exec = Jvm.exec) (hb : c.code = cc) (hr : meth.sig.returnType = some (.object C)) (hlocks : meth.locks = false) (hK : va_K D vwCl tys s) (hP : va_P D vwCl (wf σ) H) (hD : va_D A (wf σ)) (hS : va_S A s.heap H locs) (hF : F = (r, σ)) (hdg : decode cc pc = .ok (.areturn, 1)) :
    W p l e R s m args below meth c H locs cells slots (MQ below (va_Qq (fun r u => r = F.1.map ad ∧ u = F.2) (zB D tys wf A) A) args s cells slots A) (F0 m pc ls [va_re ad r]) := by
  subst hF
  exact W.aret hx hb hr (Or.inl ⟨C, rfl⟩) (va_rf_or (r.map ad)) (fun t ht hW => ⟨⟨r.map ad, σ, rfl, ⟨rfl, rfl⟩, by rw [ht]; exact hP, va_K.moved hW.alike hK, hD⟩, hS.F ht⟩) hS.2.2 hdg hlocks
/-! calls -/
variable {y : MethodName} {ws Ts : List Cond} {rm : Room} {bytes : ByteArray} {nL maxL index n mc ms b : Nat} {ret : Option FieldType} {C own : String} {As st0 : List Value} {σ : S} {A0 : Nat → Prop} {H0 : Heap}
theorem z_fc (hD : va_D A0 (wf σ)) (hS : va_S A0 H0 H locs) (hA : ∀ q, H0.size ≤ q → A0 q) : ∀ q, va_A (wf σ) H.size q → A0 q := by
  rintro q (⟨k, e, h⟩ | h)
  · exact hD.2 k _ h
  · exact hA q (Nat.le_trans hS.1 h)
theorem z_pre (hr : ∃ cell : Cell, H[b]? = some cell ∧ cell.vm.isStatics = false ∧ s.vm.findClass C = some cell.cls) (hK : va_K D vwCl tys s) (hP : va_P D vwCl (wf σ) H) (hD : va_D A0 (wf σ)) : PreV s H C b (zP D tys (.ref b :: As) (wf σ) H.size) As :=
  ⟨z_blind, hr, fun U hU hW => ⟨rfl, by rw [hU], by rw [hU]; exact hP, va_K.moved hW.alike hK, hD.weaken (fun _ _ _ _ => trivial)⟩⟩
theorem z_calli {F : Int32 × S} (X : CallFix p m c cc nL s args Ts own) (hM : cI l y ws rm mc ms D tys wf σ (.ref b :: As) F) (cw : CallW R s args own C index y bytes maxL ret ws rm mc ms n)
    (hr : ∃ cell : Cell, H[b]? = some cell ∧ cell.vm.isStatics = false ∧ s.vm.findClass C = some cell.cls) (hK : va_K D vwCl tys s) (hP : va_P D vwCl (wf σ) H) (hD : va_D A0 (wf σ)) (hS : va_S A0 H0 H locs) (hA : ∀ q, H0.size ≤ q → A0 q)
    (hn : As.length = n) (hsz : ls.size = nL) (hst : st0 = As.reverse ++ .ref b :: rest) (hW : (rest.map fun v => v.category).sum ≤ 8) (hdg : decode cc pc = .ok (.invokevirtual index, 3)) (hf : cells + mc ≤ R.cells ∧ slots + ms ≤ R.slots)
    (kk : ∀ (H1 : Heap) (locs1 : List Loc), va_P D vwCl (wf F.2) H1 → va_D A0 (wf F.2) → va_S A0 H0 H1 locs1 → W p l e R s m args below meth c H1 locs1 (cells + mc) (slots + ms) Q (F0 m (pc + 3) ls (.int F.1 :: rest))) :
    W p l e R s m args below meth c H locs cells slots Q (F0 m pc ls st0) := by
  have hFc := z_fc hD hS hA
  refine va_calli (va_runV (As := As) (rest := rest) X (hM H.size) cw (z_pre hr hK hP hD) rfl hn hsz hst (lv_room hW) hdg hf) hS (fun q _ h => hFc q h) hFc (fun r u t H1 locs1 ht hvm hw hB hz1 hk1 hS1 => ?_)
  obtain ⟨rfl, rfl⟩ := hw
  obtain ⟨hP1, hK1, hD1⟩ := hB
  rw [ht] at hP1
  exact kk H1 locs1 hP1 (hD1.weaken (fun k q _ h => hFc _ h)) hS1
theorem z_calll {F : Int64 × S} (X : CallFix p m c cc nL s args Ts own) (hM : cL l y ws rm mc ms D tys wf σ (.ref b :: As) F) (cw : CallW R s args own C index y bytes maxL ret ws rm mc ms n)
    (hr : ∃ cell : Cell, H[b]? = some cell ∧ cell.vm.isStatics = false ∧ s.vm.findClass C = some cell.cls) (hK : va_K D vwCl tys s) (hP : va_P D vwCl (wf σ) H) (hD : va_D A0 (wf σ)) (hS : va_S A0 H0 H locs) (hA : ∀ q, H0.size ≤ q → A0 q)
    (hn : As.length = n) (hsz : ls.size = nL) (hst : st0 = As.reverse ++ .ref b :: rest) (hW : (rest.map fun v => v.category).sum ≤ 8) (hdg : decode cc pc = .ok (.invokevirtual index, 3)) (hf : cells + mc ≤ R.cells ∧ slots + ms ≤ R.slots)
    (kk : ∀ (H1 : Heap) (locs1 : List Loc), va_P D vwCl (wf F.2) H1 → va_D A0 (wf F.2) → va_S A0 H0 H1 locs1 → W p l e R s m args below meth c H1 locs1 (cells + mc) (slots + ms) Q (F0 m (pc + 3) ls (.long F.1 :: rest))) :
    W p l e R s m args below meth c H locs cells slots Q (F0 m pc ls st0) := by
  have hFc := z_fc hD hS hA
  refine va_calll (va_runV (As := As) (rest := rest) X (hM H.size) cw (z_pre hr hK hP hD) rfl hn hsz hst (lv_room hW) hdg hf) hS (fun q _ h => hFc q h) hFc (fun r u t H1 locs1 ht hvm hw hB hz1 hk1 hS1 => ?_)
  obtain ⟨rfl, rfl⟩ := hw
  obtain ⟨hP1, hK1, hD1⟩ := hB
  rw [ht] at hP1
  exact kk H1 locs1 hP1 (hD1.weaken (fun k q _ h => hFc _ h)) hS1
theorem z_callv {F : S} (X : CallFix p m c cc nL s args Ts own) (hM : cV l y ws rm mc ms D tys wf σ (.ref b :: As) F) (cw : CallW R s args own C index y bytes maxL ret ws rm mc ms n)
    (hr : ∃ cell : Cell, H[b]? = some cell ∧ cell.vm.isStatics = false ∧ s.vm.findClass C = some cell.cls) (hK : va_K D vwCl tys s) (hP : va_P D vwCl (wf σ) H) (hD : va_D A0 (wf σ)) (hS : va_S A0 H0 H locs) (hA : ∀ q, H0.size ≤ q → A0 q)
    (hn : As.length = n) (hsz : ls.size = nL) (hst : st0 = As.reverse ++ .ref b :: rest) (hW : (rest.map fun v => v.category).sum ≤ 8) (hdg : decode cc pc = .ok (.invokevirtual index, 3)) (hf : cells + mc ≤ R.cells ∧ slots + ms ≤ R.slots)
    (kk : ∀ (H1 : Heap) (locs1 : List Loc), va_P D vwCl (wf F) H1 → va_D A0 (wf F) → va_S A0 H0 H1 locs1 → W p l e R s m args below meth c H1 locs1 (cells + mc) (slots + ms) Q (F0 m (pc + 3) ls rest)) :
    W p l e R s m args below meth c H locs cells slots Q (F0 m pc ls st0) := by
  have hFc := z_fc hD hS hA
  refine va_callv (va_runV (As := As) (rest := rest) X (hM H.size) cw (z_pre hr hK hP hD) rfl hn hsz hst (lv_room hW) hdg hf) hS (fun q _ h => hFc q h) hFc (fun u t H1 locs1 ht hvm hw hB hz1 hk1 hS1 => ?_)
  subst hw
  obtain ⟨hP1, hK1, hD1⟩ := hB
  rw [ht] at hP1
  exact kk H1 locs1 hP1 (hD1.weaken (fun k q _ h => hFc _ h)) hS1
theorem z_callq {ad : Nat → Nat} {F : Option Nat × S} (X : CallFix p m c cc nL s args Ts own) (hM : cQ ad l y ws rm mc ms D tys wf σ (.ref b :: As) F) (cw : CallW R s args own C index y bytes maxL ret ws rm mc ms n)
    (hr : ∃ cell : Cell, H[b]? = some cell ∧ cell.vm.isStatics = false ∧ s.vm.findClass C = some cell.cls) (hK : va_K D vwCl tys s) (hP : va_P D vwCl (wf σ) H) (hD : va_D A0 (wf σ)) (hS : va_S A0 H0 H locs) (hA : ∀ q, H0.size ≤ q → A0 q)
    (hn : As.length = n) (hsz : ls.size = nL) (hst : st0 = As.reverse ++ .ref b :: rest) (hW : (rest.map fun v => v.category).sum ≤ 8) (hdg : decode cc pc = .ok (.invokevirtual index, 3)) (hf : cells + mc ≤ R.cells ∧ slots + ms ≤ R.slots)
    (kk : ∀ (H1 : Heap) (locs1 : List Loc), va_P D vwCl (wf F.2) H1 → va_D A0 (wf F.2) → va_S A0 H0 H1 locs1 → W p l e R s m args below meth c H1 locs1 (cells + mc) (slots + ms) Q (F0 m (pc + 3) ls (va_re ad F.1 :: rest))) :
    W p l e R s m args below meth c H locs cells slots Q (F0 m pc ls st0) := by
  have hFc := z_fc hD hS hA
  refine va_callq (va_runV (As := As) (rest := rest) X (hM H.size) cw (z_pre hr hK hP hD) rfl hn hsz hst (lv_room hW) hdg hf) hS (fun q _ h => hFc q h) hFc (fun r u t H1 locs1 ht hvm hw hB hz1 hk1 hS1 => ?_)
  obtain ⟨rfl, rfl⟩ := hw
  obtain ⟨hP1, hK1, hD1⟩ := hB
  rw [ht] at hP1
  exact kk H1 locs1 hP1 (hD1.weaken (fun k q _ h => hFc _ h)) hS1
theorem z_calls {r : Int32} (X : CallFix p m c cc nL s args Ts own) (hM : cS l y ws rm As r) (cw : CallB R s args own index y bytes maxL ret ws rm 0 0 n ∧ (Cond.static y).before args s = true)
    (hn : As.length = n) (hsz : ls.size = nL) (hst : st0 = As.reverse ++ rest) (hW : (rest.map fun v => v.category).sum ≤ 8) (hdg : decode cc pc = .ok (.invokestatic index, 3)) (hf : cells + 0 ≤ R.cells ∧ slots + 0 ≤ R.slots)
    (kk : W p l e R s m args below meth c H locs cells slots Q (F0 m (pc + 3) ls (.int r :: rest))) :
    W p l e R s m args below meth c H locs cells slots Q (F0 m pc ls st0) := by
  refine vp_callSi (W.runS (As := As) (rest := rest) X hM cw ⟨fun a U g mk q => ⟨q.1, trivial⟩, fun U hU hW => ⟨rfl, trivial⟩⟩ rfl hn hsz hst (lv_room hW) hdg hf) (fun x hx => ?_)
  subst hx
  exact kk
/-! references to handlers: none, or some number of a handler -/
variable {ad : Nat → Nat} {r : Option Nat}
theorem z_null (ad : Nat → Nat) (hx : p.tables.exec = Jvm.exec) (hb : c.code = cc) (hdg : decode cc pc = .ok (.aconst_null, 1)) (k : W p l e R s m args below meth c H locs cells slots Q (F0 m (pc + 1) ls (va_re ad none :: rest))) : W p l e R s m args below meth c H locs cells slots Q (F0 m pc ls rest) :=
  lv_null hx hb hdg k
theorem z_aload_n (hx : p.tables.exec = Jvm.exec) (hb : c.code = cc) {k : Fin 4} {i : Nat} (hdg : decode cc pc = .ok (.aload_n k, 1)) (hi : (k : Nat) = i) (hl : ls[i]? = some (.val (va_re ad r)))
    (kk : W p l e R s m args below meth c H locs cells slots Q (F0 m (pc + 1) ls (va_re ad r :: rest))) : W p l e R s m args below meth c H locs cells slots Q (F0 m pc ls rest) := by
  cases r with
  | none => exact lv_aload_nN hx hb hdg hi hl kk
  | some j => exact lv_aload_n hx hb hdg hi hl kk
theorem z_aload (hx : p.tables.exec = Jvm.exec) (hb : c.code = cc) {i : Nat} (hdg : decode cc pc = .ok (.aload i, 2)) (hl : ls[i]? = some (.val (va_re ad r)))
    (kk : W p l e R s m args below meth c H locs cells slots Q (F0 m (pc + 2) ls (va_re ad r :: rest))) : W p l e R s m args below meth c H locs cells slots Q (F0 m pc ls rest) := by
  cases r with
  | none => exact lv_aloadN hx hb hdg hl kk
  | some j => exact lv_aload hx hb hdg hl kk
theorem z_astore (hx : p.tables.exec = Jvm.exec) (hb : c.code = cc) {i nL : Nat} {lv lv' : List (Nat × Value)} (hdg : decode cc pc = .ok (.astore i, 2)) (h : lv_has ls nL lv) (hn : i < nL) (hl : (i, va_re ad r) :: lv.filter (fun q => !(q.1 == i) && !(q.1 + 1 == i && q.2.category == 2)) = lv')
    (kk : ∀ ls' : Array Slot, lv_has ls' nL lv' → W p l e R s m args below meth c H locs cells slots Q (F0 m (pc + 2) ls' rest)) : W p l e R s m args below meth c H locs cells slots Q (F0 m pc ls (va_re ad r :: rest)) := by
  cases r with
  | none => exact lv_astoreN hx hb hdg h hn hl kk
  | some j => exact lv_astore hx hb hdg h hn hl kk
theorem z_ifnull (hx : p.tables.exec = Jvm.exec) (hb : c.code = cc) {off : Int} {tgt : Nat} (hdg : decode cc pc = .ok (.ifnull off, 3)) (ht : (pc : Int) + off = (tgt : Int)) (kt : r = none → W p l e R s m args below meth c H locs cells slots Q (F0 m tgt ls rest)) (kf : ¬ r = none → W p l e R s m args below meth c H locs cells slots Q (F0 m (pc + 3) ls rest)) : W p l e R s m args below meth c H locs cells slots Q (F0 m pc ls (va_re ad r :: rest)) := by
  cases r with
  | none => exact lv_ifnullN hx hb hdg ht (kt rfl)
  | some j => exact lv_ifnull hx hb hdg (kf (fun h => by cases h))
theorem z_ifnonnull (hx : p.tables.exec = Jvm.exec) (hb : c.code = cc) {off : Int} {tgt : Nat} (hdg : decode cc pc = .ok (.ifnonnull off, 3)) (ht : (pc : Int) + off = (tgt : Int)) (kt : ¬ r = none → W p l e R s m args below meth c H locs cells slots Q (F0 m tgt ls rest)) (kf : r = none → W p l e R s m args below meth c H locs cells slots Q (F0 m (pc + 3) ls rest)) : W p l e R s m args below meth c H locs cells slots Q (F0 m pc ls (va_re ad r :: rest)) := by
  cases r with
  | none => exact lv_ifnonnullN hx hb hdg (kf rfl)
  | some j => exact lv_ifnonnull hx hb hdg ht (kt (fun h => by cases h))
end ZR
end
section
/-! the state of a MailRoom: boxes, handlers by number, the queue, the failed; and its cells -/
abbrev HR : Type := Int32 × Int32 × Int32 × Int32 × Int64 × Option Nat × Option Nat × Int32
noncomputable def h_kind (h : HR) : Int32 := h.1
noncomputable def h_sort (h : HR) : Int32 := h.2.1
noncomputable def h_a (h : HR) : Int32 := h.2.2.1
noncomputable def h_b (h : HR) : Int32 := h.2.2.2.1
noncomputable def h_c (h : HR) : Int64 := h.2.2.2.2.1
noncomputable def h_former (h : HR) : Option Nat := h.2.2.2.2.2.1
noncomputable def h_other (h : HR) : Option Nat := h.2.2.2.2.2.2.1
noncomputable def h_begun (h : HR) : Int32 := h.2.2.2.2.2.2.2
noncomputable def hs_begun (h : HR) (v : Int32) : HR := (h.1, h.2.1, h.2.2.1, h.2.2.2.1, h.2.2.2.2.1, h.2.2.2.2.2.1, h.2.2.2.2.2.2.1, v)
noncomputable def hFs (ad : Nat → Nat) (h : HR) : List Value := [.int (h_kind h), .int (h_sort h), .int (h_a h), .int (h_b h), .long (h_c h), va_re ad (h_former h), va_re ad (h_other h), .int (h_begun h)]
noncomputable def xPl (ad : Nat → Nat) (n : Nat) (tab : Nat → HR) : va_W := (List.range n).map (fun i => (ad i, .inr (0, hFs ad (tab i))))
abbrev SX : Type := (Nat → Int64) × (Nat → Int32) × (Nat → Option Nat) × Int32 × (Nat → Int32) × (Nat → Int64) × Int32 × Int32 × Int32 × (Nat → Int32) × (Nat → Int32) × (Nat → Int64) × Int32 × Int32 × Int32 × Nat × (Nat → HR)
noncomputable def x_bs (σ : SX) : Nat → Int64 := σ.1
noncomputable def x_bc (σ : SX) : Nat → Int32 := σ.2.1
noncomputable def x_hd (σ : SX) : Nat → Option Nat := σ.2.2.1
noncomputable def x_told (σ : SX) : Int32 := σ.2.2.2.1
noncomputable def x_qk (σ : SX) : Nat → Int32 := σ.2.2.2.2.1
noncomputable def x_qv (σ : SX) : Nat → Int64 := σ.2.2.2.2.2.1
noncomputable def x_qf (σ : SX) : Int32 := σ.2.2.2.2.2.2.1
noncomputable def x_qs (σ : SX) : Int32 := σ.2.2.2.2.2.2.2.1
noncomputable def x_tk (σ : SX) : Int32 := σ.2.2.2.2.2.2.2.2.1
noncomputable def x_fk (σ : SX) : Nat → Int32 := σ.2.2.2.2.2.2.2.2.2.1
noncomputable def x_fn (σ : SX) : Nat → Int32 := σ.2.2.2.2.2.2.2.2.2.2.1
noncomputable def x_fv (σ : SX) : Nat → Int64 := σ.2.2.2.2.2.2.2.2.2.2.2.1
noncomputable def x_fl (σ : SX) : Int32 := σ.2.2.2.2.2.2.2.2.2.2.2.2.1
noncomputable def x_bl (σ : SX) : Int32 := σ.2.2.2.2.2.2.2.2.2.2.2.2.2.1
noncomputable def x_bic (σ : SX) : Int32 := σ.2.2.2.2.2.2.2.2.2.2.2.2.2.2.1
noncomputable def x_n (σ : SX) : Nat := σ.2.2.2.2.2.2.2.2.2.2.2.2.2.2.2.1
noncomputable def x_tab (σ : SX) : Nat → HR := σ.2.2.2.2.2.2.2.2.2.2.2.2.2.2.2.2
noncomputable def xs_bs (σ : SX) (v : Nat → Int64) : SX := (v, σ.2)
noncomputable def xs_bc (σ : SX) (v : Nat → Int32) : SX := (σ.1, v, σ.2.2)
noncomputable def xs_hd (σ : SX) (v : Nat → Option Nat) : SX := (σ.1, σ.2.1, v, σ.2.2.2)
noncomputable def xs_told (σ : SX) (v : Int32) : SX := (σ.1, σ.2.1, σ.2.2.1, v, σ.2.2.2.2)
noncomputable def xs_qk (σ : SX) (v : Nat → Int32) : SX := (σ.1, σ.2.1, σ.2.2.1, σ.2.2.2.1, v, σ.2.2.2.2.2)
noncomputable def xs_qv (σ : SX) (v : Nat → Int64) : SX := (σ.1, σ.2.1, σ.2.2.1, σ.2.2.2.1, σ.2.2.2.2.1, v, σ.2.2.2.2.2.2)
noncomputable def xs_qf (σ : SX) (v : Int32) : SX := (σ.1, σ.2.1, σ.2.2.1, σ.2.2.2.1, σ.2.2.2.2.1, σ.2.2.2.2.2.1, v, σ.2.2.2.2.2.2.2)
noncomputable def xs_qs (σ : SX) (v : Int32) : SX := (σ.1, σ.2.1, σ.2.2.1, σ.2.2.2.1, σ.2.2.2.2.1, σ.2.2.2.2.2.1, σ.2.2.2.2.2.2.1, v, σ.2.2.2.2.2.2.2.2)
noncomputable def xs_tk (σ : SX) (v : Int32) : SX := (σ.1, σ.2.1, σ.2.2.1, σ.2.2.2.1, σ.2.2.2.2.1, σ.2.2.2.2.2.1, σ.2.2.2.2.2.2.1, σ.2.2.2.2.2.2.2.1, v, σ.2.2.2.2.2.2.2.2.2)
noncomputable def xs_fk (σ : SX) (v : Nat → Int32) : SX := (σ.1, σ.2.1, σ.2.2.1, σ.2.2.2.1, σ.2.2.2.2.1, σ.2.2.2.2.2.1, σ.2.2.2.2.2.2.1, σ.2.2.2.2.2.2.2.1, σ.2.2.2.2.2.2.2.2.1, v, σ.2.2.2.2.2.2.2.2.2.2)
noncomputable def xs_fn (σ : SX) (v : Nat → Int32) : SX := (σ.1, σ.2.1, σ.2.2.1, σ.2.2.2.1, σ.2.2.2.2.1, σ.2.2.2.2.2.1, σ.2.2.2.2.2.2.1, σ.2.2.2.2.2.2.2.1, σ.2.2.2.2.2.2.2.2.1, σ.2.2.2.2.2.2.2.2.2.1, v, σ.2.2.2.2.2.2.2.2.2.2.2)
noncomputable def xs_fv (σ : SX) (v : Nat → Int64) : SX := (σ.1, σ.2.1, σ.2.2.1, σ.2.2.2.1, σ.2.2.2.2.1, σ.2.2.2.2.2.1, σ.2.2.2.2.2.2.1, σ.2.2.2.2.2.2.2.1, σ.2.2.2.2.2.2.2.2.1, σ.2.2.2.2.2.2.2.2.2.1, σ.2.2.2.2.2.2.2.2.2.2.1, v, σ.2.2.2.2.2.2.2.2.2.2.2.2)
noncomputable def xs_fl (σ : SX) (v : Int32) : SX := (σ.1, σ.2.1, σ.2.2.1, σ.2.2.2.1, σ.2.2.2.2.1, σ.2.2.2.2.2.1, σ.2.2.2.2.2.2.1, σ.2.2.2.2.2.2.2.1, σ.2.2.2.2.2.2.2.2.1, σ.2.2.2.2.2.2.2.2.2.1, σ.2.2.2.2.2.2.2.2.2.2.1, σ.2.2.2.2.2.2.2.2.2.2.2.1, v, σ.2.2.2.2.2.2.2.2.2.2.2.2.2)
noncomputable def xs_bl (σ : SX) (v : Int32) : SX := (σ.1, σ.2.1, σ.2.2.1, σ.2.2.2.1, σ.2.2.2.2.1, σ.2.2.2.2.2.1, σ.2.2.2.2.2.2.1, σ.2.2.2.2.2.2.2.1, σ.2.2.2.2.2.2.2.2.1, σ.2.2.2.2.2.2.2.2.2.1, σ.2.2.2.2.2.2.2.2.2.2.1, σ.2.2.2.2.2.2.2.2.2.2.2.1, σ.2.2.2.2.2.2.2.2.2.2.2.2.1, v, σ.2.2.2.2.2.2.2.2.2.2.2.2.2.2)
noncomputable def xs_bic (σ : SX) (v : Int32) : SX := (σ.1, σ.2.1, σ.2.2.1, σ.2.2.2.1, σ.2.2.2.2.1, σ.2.2.2.2.2.1, σ.2.2.2.2.2.2.1, σ.2.2.2.2.2.2.2.1, σ.2.2.2.2.2.2.2.2.1, σ.2.2.2.2.2.2.2.2.2.1, σ.2.2.2.2.2.2.2.2.2.2.1, σ.2.2.2.2.2.2.2.2.2.2.2.1, σ.2.2.2.2.2.2.2.2.2.2.2.2.1, σ.2.2.2.2.2.2.2.2.2.2.2.2.2.1, v, σ.2.2.2.2.2.2.2.2.2.2.2.2.2.2.2)
noncomputable def xs_n (σ : SX) (v : Nat) : SX := (σ.1, σ.2.1, σ.2.2.1, σ.2.2.2.1, σ.2.2.2.2.1, σ.2.2.2.2.2.1, σ.2.2.2.2.2.2.1, σ.2.2.2.2.2.2.2.1, σ.2.2.2.2.2.2.2.2.1, σ.2.2.2.2.2.2.2.2.2.1, σ.2.2.2.2.2.2.2.2.2.2.1, σ.2.2.2.2.2.2.2.2.2.2.2.1, σ.2.2.2.2.2.2.2.2.2.2.2.2.1, σ.2.2.2.2.2.2.2.2.2.2.2.2.2.1, σ.2.2.2.2.2.2.2.2.2.2.2.2.2.2.1, v, σ.2.2.2.2.2.2.2.2.2.2.2.2.2.2.2.2)
noncomputable def xs_tab (σ : SX) (v : Nat → HR) : SX := (σ.1, σ.2.1, σ.2.2.1, σ.2.2.2.1, σ.2.2.2.2.1, σ.2.2.2.2.2.1, σ.2.2.2.2.2.2.1, σ.2.2.2.2.2.2.2.1, σ.2.2.2.2.2.2.2.2.1, σ.2.2.2.2.2.2.2.2.2.1, σ.2.2.2.2.2.2.2.2.2.2.1, σ.2.2.2.2.2.2.2.2.2.2.2.1, σ.2.2.2.2.2.2.2.2.2.2.2.2.1, σ.2.2.2.2.2.2.2.2.2.2.2.2.2.1, σ.2.2.2.2.2.2.2.2.2.2.2.2.2.2.1, σ.2.2.2.2.2.2.2.2.2.2.2.2.2.2.2.1, v)
theorem xw_bs (σ : SX) (v : Nat → Int64) : x_bs (xs_bs σ v) = v := rfl
theorem xr_bs_bc (σ : SX) (v : Nat → Int32) : x_bs (xs_bc σ v) = x_bs σ := rfl
theorem xr_bs_hd (σ : SX) (v : Nat → Option Nat) : x_bs (xs_hd σ v) = x_bs σ := rfl
theorem xr_bs_told (σ : SX) (v : Int32) : x_bs (xs_told σ v) = x_bs σ := rfl
theorem xr_bs_qk (σ : SX) (v : Nat → Int32) : x_bs (xs_qk σ v) = x_bs σ := rfl
theorem xr_bs_qv (σ : SX) (v : Nat → Int64) : x_bs (xs_qv σ v) = x_bs σ := rfl
theorem xr_bs_qf (σ : SX) (v : Int32) : x_bs (xs_qf σ v) = x_bs σ := rfl
theorem xr_bs_qs (σ : SX) (v : Int32) : x_bs (xs_qs σ v) = x_bs σ := rfl
theorem xr_bs_tk (σ : SX) (v : Int32) : x_bs (xs_tk σ v) = x_bs σ := rfl
theorem xr_bs_fk (σ : SX) (v : Nat → Int32) : x_bs (xs_fk σ v) = x_bs σ := rfl
theorem xr_bs_fn (σ : SX) (v : Nat → Int32) : x_bs (xs_fn σ v) = x_bs σ := rfl
theorem xr_bs_fv (σ : SX) (v : Nat → Int64) : x_bs (xs_fv σ v) = x_bs σ := rfl
theorem xr_bs_fl (σ : SX) (v : Int32) : x_bs (xs_fl σ v) = x_bs σ := rfl
theorem xr_bs_bl (σ : SX) (v : Int32) : x_bs (xs_bl σ v) = x_bs σ := rfl
theorem xr_bs_bic (σ : SX) (v : Int32) : x_bs (xs_bic σ v) = x_bs σ := rfl
theorem xr_bs_n (σ : SX) (v : Nat) : x_bs (xs_n σ v) = x_bs σ := rfl
theorem xr_bs_tab (σ : SX) (v : Nat → HR) : x_bs (xs_tab σ v) = x_bs σ := rfl
theorem xw_bc (σ : SX) (v : Nat → Int32) : x_bc (xs_bc σ v) = v := rfl
theorem xr_bc_bs (σ : SX) (v : Nat → Int64) : x_bc (xs_bs σ v) = x_bc σ := rfl
theorem xr_bc_hd (σ : SX) (v : Nat → Option Nat) : x_bc (xs_hd σ v) = x_bc σ := rfl
theorem xr_bc_told (σ : SX) (v : Int32) : x_bc (xs_told σ v) = x_bc σ := rfl
theorem xr_bc_qk (σ : SX) (v : Nat → Int32) : x_bc (xs_qk σ v) = x_bc σ := rfl
theorem xr_bc_qv (σ : SX) (v : Nat → Int64) : x_bc (xs_qv σ v) = x_bc σ := rfl
theorem xr_bc_qf (σ : SX) (v : Int32) : x_bc (xs_qf σ v) = x_bc σ := rfl
theorem xr_bc_qs (σ : SX) (v : Int32) : x_bc (xs_qs σ v) = x_bc σ := rfl
theorem xr_bc_tk (σ : SX) (v : Int32) : x_bc (xs_tk σ v) = x_bc σ := rfl
theorem xr_bc_fk (σ : SX) (v : Nat → Int32) : x_bc (xs_fk σ v) = x_bc σ := rfl
theorem xr_bc_fn (σ : SX) (v : Nat → Int32) : x_bc (xs_fn σ v) = x_bc σ := rfl
theorem xr_bc_fv (σ : SX) (v : Nat → Int64) : x_bc (xs_fv σ v) = x_bc σ := rfl
theorem xr_bc_fl (σ : SX) (v : Int32) : x_bc (xs_fl σ v) = x_bc σ := rfl
theorem xr_bc_bl (σ : SX) (v : Int32) : x_bc (xs_bl σ v) = x_bc σ := rfl
theorem xr_bc_bic (σ : SX) (v : Int32) : x_bc (xs_bic σ v) = x_bc σ := rfl
theorem xr_bc_n (σ : SX) (v : Nat) : x_bc (xs_n σ v) = x_bc σ := rfl
theorem xr_bc_tab (σ : SX) (v : Nat → HR) : x_bc (xs_tab σ v) = x_bc σ := rfl
theorem xw_hd (σ : SX) (v : Nat → Option Nat) : x_hd (xs_hd σ v) = v := rfl
theorem xr_hd_bs (σ : SX) (v : Nat → Int64) : x_hd (xs_bs σ v) = x_hd σ := rfl
theorem xr_hd_bc (σ : SX) (v : Nat → Int32) : x_hd (xs_bc σ v) = x_hd σ := rfl
theorem xr_hd_told (σ : SX) (v : Int32) : x_hd (xs_told σ v) = x_hd σ := rfl
theorem xr_hd_qk (σ : SX) (v : Nat → Int32) : x_hd (xs_qk σ v) = x_hd σ := rfl
theorem xr_hd_qv (σ : SX) (v : Nat → Int64) : x_hd (xs_qv σ v) = x_hd σ := rfl
theorem xr_hd_qf (σ : SX) (v : Int32) : x_hd (xs_qf σ v) = x_hd σ := rfl
theorem xr_hd_qs (σ : SX) (v : Int32) : x_hd (xs_qs σ v) = x_hd σ := rfl
theorem xr_hd_tk (σ : SX) (v : Int32) : x_hd (xs_tk σ v) = x_hd σ := rfl
theorem xr_hd_fk (σ : SX) (v : Nat → Int32) : x_hd (xs_fk σ v) = x_hd σ := rfl
theorem xr_hd_fn (σ : SX) (v : Nat → Int32) : x_hd (xs_fn σ v) = x_hd σ := rfl
theorem xr_hd_fv (σ : SX) (v : Nat → Int64) : x_hd (xs_fv σ v) = x_hd σ := rfl
theorem xr_hd_fl (σ : SX) (v : Int32) : x_hd (xs_fl σ v) = x_hd σ := rfl
theorem xr_hd_bl (σ : SX) (v : Int32) : x_hd (xs_bl σ v) = x_hd σ := rfl
theorem xr_hd_bic (σ : SX) (v : Int32) : x_hd (xs_bic σ v) = x_hd σ := rfl
theorem xr_hd_n (σ : SX) (v : Nat) : x_hd (xs_n σ v) = x_hd σ := rfl
theorem xr_hd_tab (σ : SX) (v : Nat → HR) : x_hd (xs_tab σ v) = x_hd σ := rfl
theorem xw_told (σ : SX) (v : Int32) : x_told (xs_told σ v) = v := rfl
theorem xr_told_bs (σ : SX) (v : Nat → Int64) : x_told (xs_bs σ v) = x_told σ := rfl
theorem xr_told_bc (σ : SX) (v : Nat → Int32) : x_told (xs_bc σ v) = x_told σ := rfl
theorem xr_told_hd (σ : SX) (v : Nat → Option Nat) : x_told (xs_hd σ v) = x_told σ := rfl
theorem xr_told_qk (σ : SX) (v : Nat → Int32) : x_told (xs_qk σ v) = x_told σ := rfl
theorem xr_told_qv (σ : SX) (v : Nat → Int64) : x_told (xs_qv σ v) = x_told σ := rfl
theorem xr_told_qf (σ : SX) (v : Int32) : x_told (xs_qf σ v) = x_told σ := rfl
theorem xr_told_qs (σ : SX) (v : Int32) : x_told (xs_qs σ v) = x_told σ := rfl
theorem xr_told_tk (σ : SX) (v : Int32) : x_told (xs_tk σ v) = x_told σ := rfl
theorem xr_told_fk (σ : SX) (v : Nat → Int32) : x_told (xs_fk σ v) = x_told σ := rfl
theorem xr_told_fn (σ : SX) (v : Nat → Int32) : x_told (xs_fn σ v) = x_told σ := rfl
theorem xr_told_fv (σ : SX) (v : Nat → Int64) : x_told (xs_fv σ v) = x_told σ := rfl
theorem xr_told_fl (σ : SX) (v : Int32) : x_told (xs_fl σ v) = x_told σ := rfl
theorem xr_told_bl (σ : SX) (v : Int32) : x_told (xs_bl σ v) = x_told σ := rfl
theorem xr_told_bic (σ : SX) (v : Int32) : x_told (xs_bic σ v) = x_told σ := rfl
theorem xr_told_n (σ : SX) (v : Nat) : x_told (xs_n σ v) = x_told σ := rfl
theorem xr_told_tab (σ : SX) (v : Nat → HR) : x_told (xs_tab σ v) = x_told σ := rfl
theorem xw_qk (σ : SX) (v : Nat → Int32) : x_qk (xs_qk σ v) = v := rfl
theorem xr_qk_bs (σ : SX) (v : Nat → Int64) : x_qk (xs_bs σ v) = x_qk σ := rfl
theorem xr_qk_bc (σ : SX) (v : Nat → Int32) : x_qk (xs_bc σ v) = x_qk σ := rfl
theorem xr_qk_hd (σ : SX) (v : Nat → Option Nat) : x_qk (xs_hd σ v) = x_qk σ := rfl
theorem xr_qk_told (σ : SX) (v : Int32) : x_qk (xs_told σ v) = x_qk σ := rfl
theorem xr_qk_qv (σ : SX) (v : Nat → Int64) : x_qk (xs_qv σ v) = x_qk σ := rfl
theorem xr_qk_qf (σ : SX) (v : Int32) : x_qk (xs_qf σ v) = x_qk σ := rfl
theorem xr_qk_qs (σ : SX) (v : Int32) : x_qk (xs_qs σ v) = x_qk σ := rfl
theorem xr_qk_tk (σ : SX) (v : Int32) : x_qk (xs_tk σ v) = x_qk σ := rfl
theorem xr_qk_fk (σ : SX) (v : Nat → Int32) : x_qk (xs_fk σ v) = x_qk σ := rfl
theorem xr_qk_fn (σ : SX) (v : Nat → Int32) : x_qk (xs_fn σ v) = x_qk σ := rfl
theorem xr_qk_fv (σ : SX) (v : Nat → Int64) : x_qk (xs_fv σ v) = x_qk σ := rfl
theorem xr_qk_fl (σ : SX) (v : Int32) : x_qk (xs_fl σ v) = x_qk σ := rfl
theorem xr_qk_bl (σ : SX) (v : Int32) : x_qk (xs_bl σ v) = x_qk σ := rfl
theorem xr_qk_bic (σ : SX) (v : Int32) : x_qk (xs_bic σ v) = x_qk σ := rfl
theorem xr_qk_n (σ : SX) (v : Nat) : x_qk (xs_n σ v) = x_qk σ := rfl
theorem xr_qk_tab (σ : SX) (v : Nat → HR) : x_qk (xs_tab σ v) = x_qk σ := rfl
theorem xw_qv (σ : SX) (v : Nat → Int64) : x_qv (xs_qv σ v) = v := rfl
theorem xr_qv_bs (σ : SX) (v : Nat → Int64) : x_qv (xs_bs σ v) = x_qv σ := rfl
theorem xr_qv_bc (σ : SX) (v : Nat → Int32) : x_qv (xs_bc σ v) = x_qv σ := rfl
theorem xr_qv_hd (σ : SX) (v : Nat → Option Nat) : x_qv (xs_hd σ v) = x_qv σ := rfl
theorem xr_qv_told (σ : SX) (v : Int32) : x_qv (xs_told σ v) = x_qv σ := rfl
theorem xr_qv_qk (σ : SX) (v : Nat → Int32) : x_qv (xs_qk σ v) = x_qv σ := rfl
theorem xr_qv_qf (σ : SX) (v : Int32) : x_qv (xs_qf σ v) = x_qv σ := rfl
theorem xr_qv_qs (σ : SX) (v : Int32) : x_qv (xs_qs σ v) = x_qv σ := rfl
theorem xr_qv_tk (σ : SX) (v : Int32) : x_qv (xs_tk σ v) = x_qv σ := rfl
theorem xr_qv_fk (σ : SX) (v : Nat → Int32) : x_qv (xs_fk σ v) = x_qv σ := rfl
theorem xr_qv_fn (σ : SX) (v : Nat → Int32) : x_qv (xs_fn σ v) = x_qv σ := rfl
theorem xr_qv_fv (σ : SX) (v : Nat → Int64) : x_qv (xs_fv σ v) = x_qv σ := rfl
theorem xr_qv_fl (σ : SX) (v : Int32) : x_qv (xs_fl σ v) = x_qv σ := rfl
theorem xr_qv_bl (σ : SX) (v : Int32) : x_qv (xs_bl σ v) = x_qv σ := rfl
theorem xr_qv_bic (σ : SX) (v : Int32) : x_qv (xs_bic σ v) = x_qv σ := rfl
theorem xr_qv_n (σ : SX) (v : Nat) : x_qv (xs_n σ v) = x_qv σ := rfl
theorem xr_qv_tab (σ : SX) (v : Nat → HR) : x_qv (xs_tab σ v) = x_qv σ := rfl
theorem xw_qf (σ : SX) (v : Int32) : x_qf (xs_qf σ v) = v := rfl
theorem xr_qf_bs (σ : SX) (v : Nat → Int64) : x_qf (xs_bs σ v) = x_qf σ := rfl
theorem xr_qf_bc (σ : SX) (v : Nat → Int32) : x_qf (xs_bc σ v) = x_qf σ := rfl
theorem xr_qf_hd (σ : SX) (v : Nat → Option Nat) : x_qf (xs_hd σ v) = x_qf σ := rfl
theorem xr_qf_told (σ : SX) (v : Int32) : x_qf (xs_told σ v) = x_qf σ := rfl
theorem xr_qf_qk (σ : SX) (v : Nat → Int32) : x_qf (xs_qk σ v) = x_qf σ := rfl
theorem xr_qf_qv (σ : SX) (v : Nat → Int64) : x_qf (xs_qv σ v) = x_qf σ := rfl
theorem xr_qf_qs (σ : SX) (v : Int32) : x_qf (xs_qs σ v) = x_qf σ := rfl
theorem xr_qf_tk (σ : SX) (v : Int32) : x_qf (xs_tk σ v) = x_qf σ := rfl
theorem xr_qf_fk (σ : SX) (v : Nat → Int32) : x_qf (xs_fk σ v) = x_qf σ := rfl
theorem xr_qf_fn (σ : SX) (v : Nat → Int32) : x_qf (xs_fn σ v) = x_qf σ := rfl
theorem xr_qf_fv (σ : SX) (v : Nat → Int64) : x_qf (xs_fv σ v) = x_qf σ := rfl
theorem xr_qf_fl (σ : SX) (v : Int32) : x_qf (xs_fl σ v) = x_qf σ := rfl
theorem xr_qf_bl (σ : SX) (v : Int32) : x_qf (xs_bl σ v) = x_qf σ := rfl
theorem xr_qf_bic (σ : SX) (v : Int32) : x_qf (xs_bic σ v) = x_qf σ := rfl
theorem xr_qf_n (σ : SX) (v : Nat) : x_qf (xs_n σ v) = x_qf σ := rfl
theorem xr_qf_tab (σ : SX) (v : Nat → HR) : x_qf (xs_tab σ v) = x_qf σ := rfl
theorem xw_qs (σ : SX) (v : Int32) : x_qs (xs_qs σ v) = v := rfl
theorem xr_qs_bs (σ : SX) (v : Nat → Int64) : x_qs (xs_bs σ v) = x_qs σ := rfl
theorem xr_qs_bc (σ : SX) (v : Nat → Int32) : x_qs (xs_bc σ v) = x_qs σ := rfl
theorem xr_qs_hd (σ : SX) (v : Nat → Option Nat) : x_qs (xs_hd σ v) = x_qs σ := rfl
theorem xr_qs_told (σ : SX) (v : Int32) : x_qs (xs_told σ v) = x_qs σ := rfl
theorem xr_qs_qk (σ : SX) (v : Nat → Int32) : x_qs (xs_qk σ v) = x_qs σ := rfl
theorem xr_qs_qv (σ : SX) (v : Nat → Int64) : x_qs (xs_qv σ v) = x_qs σ := rfl
theorem xr_qs_qf (σ : SX) (v : Int32) : x_qs (xs_qf σ v) = x_qs σ := rfl
theorem xr_qs_tk (σ : SX) (v : Int32) : x_qs (xs_tk σ v) = x_qs σ := rfl
theorem xr_qs_fk (σ : SX) (v : Nat → Int32) : x_qs (xs_fk σ v) = x_qs σ := rfl
theorem xr_qs_fn (σ : SX) (v : Nat → Int32) : x_qs (xs_fn σ v) = x_qs σ := rfl
theorem xr_qs_fv (σ : SX) (v : Nat → Int64) : x_qs (xs_fv σ v) = x_qs σ := rfl
theorem xr_qs_fl (σ : SX) (v : Int32) : x_qs (xs_fl σ v) = x_qs σ := rfl
theorem xr_qs_bl (σ : SX) (v : Int32) : x_qs (xs_bl σ v) = x_qs σ := rfl
theorem xr_qs_bic (σ : SX) (v : Int32) : x_qs (xs_bic σ v) = x_qs σ := rfl
theorem xr_qs_n (σ : SX) (v : Nat) : x_qs (xs_n σ v) = x_qs σ := rfl
theorem xr_qs_tab (σ : SX) (v : Nat → HR) : x_qs (xs_tab σ v) = x_qs σ := rfl
theorem xw_tk (σ : SX) (v : Int32) : x_tk (xs_tk σ v) = v := rfl
theorem xr_tk_bs (σ : SX) (v : Nat → Int64) : x_tk (xs_bs σ v) = x_tk σ := rfl
theorem xr_tk_bc (σ : SX) (v : Nat → Int32) : x_tk (xs_bc σ v) = x_tk σ := rfl
theorem xr_tk_hd (σ : SX) (v : Nat → Option Nat) : x_tk (xs_hd σ v) = x_tk σ := rfl
theorem xr_tk_told (σ : SX) (v : Int32) : x_tk (xs_told σ v) = x_tk σ := rfl
theorem xr_tk_qk (σ : SX) (v : Nat → Int32) : x_tk (xs_qk σ v) = x_tk σ := rfl
theorem xr_tk_qv (σ : SX) (v : Nat → Int64) : x_tk (xs_qv σ v) = x_tk σ := rfl
theorem xr_tk_qf (σ : SX) (v : Int32) : x_tk (xs_qf σ v) = x_tk σ := rfl
theorem xr_tk_qs (σ : SX) (v : Int32) : x_tk (xs_qs σ v) = x_tk σ := rfl
theorem xr_tk_fk (σ : SX) (v : Nat → Int32) : x_tk (xs_fk σ v) = x_tk σ := rfl
theorem xr_tk_fn (σ : SX) (v : Nat → Int32) : x_tk (xs_fn σ v) = x_tk σ := rfl
theorem xr_tk_fv (σ : SX) (v : Nat → Int64) : x_tk (xs_fv σ v) = x_tk σ := rfl
theorem xr_tk_fl (σ : SX) (v : Int32) : x_tk (xs_fl σ v) = x_tk σ := rfl
theorem xr_tk_bl (σ : SX) (v : Int32) : x_tk (xs_bl σ v) = x_tk σ := rfl
theorem xr_tk_bic (σ : SX) (v : Int32) : x_tk (xs_bic σ v) = x_tk σ := rfl
theorem xr_tk_n (σ : SX) (v : Nat) : x_tk (xs_n σ v) = x_tk σ := rfl
theorem xr_tk_tab (σ : SX) (v : Nat → HR) : x_tk (xs_tab σ v) = x_tk σ := rfl
theorem xw_fk (σ : SX) (v : Nat → Int32) : x_fk (xs_fk σ v) = v := rfl
theorem xr_fk_bs (σ : SX) (v : Nat → Int64) : x_fk (xs_bs σ v) = x_fk σ := rfl
theorem xr_fk_bc (σ : SX) (v : Nat → Int32) : x_fk (xs_bc σ v) = x_fk σ := rfl
theorem xr_fk_hd (σ : SX) (v : Nat → Option Nat) : x_fk (xs_hd σ v) = x_fk σ := rfl
theorem xr_fk_told (σ : SX) (v : Int32) : x_fk (xs_told σ v) = x_fk σ := rfl
theorem xr_fk_qk (σ : SX) (v : Nat → Int32) : x_fk (xs_qk σ v) = x_fk σ := rfl
theorem xr_fk_qv (σ : SX) (v : Nat → Int64) : x_fk (xs_qv σ v) = x_fk σ := rfl
theorem xr_fk_qf (σ : SX) (v : Int32) : x_fk (xs_qf σ v) = x_fk σ := rfl
theorem xr_fk_qs (σ : SX) (v : Int32) : x_fk (xs_qs σ v) = x_fk σ := rfl
theorem xr_fk_tk (σ : SX) (v : Int32) : x_fk (xs_tk σ v) = x_fk σ := rfl
theorem xr_fk_fn (σ : SX) (v : Nat → Int32) : x_fk (xs_fn σ v) = x_fk σ := rfl
theorem xr_fk_fv (σ : SX) (v : Nat → Int64) : x_fk (xs_fv σ v) = x_fk σ := rfl
theorem xr_fk_fl (σ : SX) (v : Int32) : x_fk (xs_fl σ v) = x_fk σ := rfl
theorem xr_fk_bl (σ : SX) (v : Int32) : x_fk (xs_bl σ v) = x_fk σ := rfl
theorem xr_fk_bic (σ : SX) (v : Int32) : x_fk (xs_bic σ v) = x_fk σ := rfl
theorem xr_fk_n (σ : SX) (v : Nat) : x_fk (xs_n σ v) = x_fk σ := rfl
theorem xr_fk_tab (σ : SX) (v : Nat → HR) : x_fk (xs_tab σ v) = x_fk σ := rfl
theorem xw_fn (σ : SX) (v : Nat → Int32) : x_fn (xs_fn σ v) = v := rfl
theorem xr_fn_bs (σ : SX) (v : Nat → Int64) : x_fn (xs_bs σ v) = x_fn σ := rfl
theorem xr_fn_bc (σ : SX) (v : Nat → Int32) : x_fn (xs_bc σ v) = x_fn σ := rfl
theorem xr_fn_hd (σ : SX) (v : Nat → Option Nat) : x_fn (xs_hd σ v) = x_fn σ := rfl
theorem xr_fn_told (σ : SX) (v : Int32) : x_fn (xs_told σ v) = x_fn σ := rfl
theorem xr_fn_qk (σ : SX) (v : Nat → Int32) : x_fn (xs_qk σ v) = x_fn σ := rfl
theorem xr_fn_qv (σ : SX) (v : Nat → Int64) : x_fn (xs_qv σ v) = x_fn σ := rfl
theorem xr_fn_qf (σ : SX) (v : Int32) : x_fn (xs_qf σ v) = x_fn σ := rfl
theorem xr_fn_qs (σ : SX) (v : Int32) : x_fn (xs_qs σ v) = x_fn σ := rfl
theorem xr_fn_tk (σ : SX) (v : Int32) : x_fn (xs_tk σ v) = x_fn σ := rfl
theorem xr_fn_fk (σ : SX) (v : Nat → Int32) : x_fn (xs_fk σ v) = x_fn σ := rfl
theorem xr_fn_fv (σ : SX) (v : Nat → Int64) : x_fn (xs_fv σ v) = x_fn σ := rfl
theorem xr_fn_fl (σ : SX) (v : Int32) : x_fn (xs_fl σ v) = x_fn σ := rfl
theorem xr_fn_bl (σ : SX) (v : Int32) : x_fn (xs_bl σ v) = x_fn σ := rfl
theorem xr_fn_bic (σ : SX) (v : Int32) : x_fn (xs_bic σ v) = x_fn σ := rfl
theorem xr_fn_n (σ : SX) (v : Nat) : x_fn (xs_n σ v) = x_fn σ := rfl
theorem xr_fn_tab (σ : SX) (v : Nat → HR) : x_fn (xs_tab σ v) = x_fn σ := rfl
theorem xw_fv (σ : SX) (v : Nat → Int64) : x_fv (xs_fv σ v) = v := rfl
theorem xr_fv_bs (σ : SX) (v : Nat → Int64) : x_fv (xs_bs σ v) = x_fv σ := rfl
theorem xr_fv_bc (σ : SX) (v : Nat → Int32) : x_fv (xs_bc σ v) = x_fv σ := rfl
theorem xr_fv_hd (σ : SX) (v : Nat → Option Nat) : x_fv (xs_hd σ v) = x_fv σ := rfl
theorem xr_fv_told (σ : SX) (v : Int32) : x_fv (xs_told σ v) = x_fv σ := rfl
theorem xr_fv_qk (σ : SX) (v : Nat → Int32) : x_fv (xs_qk σ v) = x_fv σ := rfl
theorem xr_fv_qv (σ : SX) (v : Nat → Int64) : x_fv (xs_qv σ v) = x_fv σ := rfl
theorem xr_fv_qf (σ : SX) (v : Int32) : x_fv (xs_qf σ v) = x_fv σ := rfl
theorem xr_fv_qs (σ : SX) (v : Int32) : x_fv (xs_qs σ v) = x_fv σ := rfl
theorem xr_fv_tk (σ : SX) (v : Int32) : x_fv (xs_tk σ v) = x_fv σ := rfl
theorem xr_fv_fk (σ : SX) (v : Nat → Int32) : x_fv (xs_fk σ v) = x_fv σ := rfl
theorem xr_fv_fn (σ : SX) (v : Nat → Int32) : x_fv (xs_fn σ v) = x_fv σ := rfl
theorem xr_fv_fl (σ : SX) (v : Int32) : x_fv (xs_fl σ v) = x_fv σ := rfl
theorem xr_fv_bl (σ : SX) (v : Int32) : x_fv (xs_bl σ v) = x_fv σ := rfl
theorem xr_fv_bic (σ : SX) (v : Int32) : x_fv (xs_bic σ v) = x_fv σ := rfl
theorem xr_fv_n (σ : SX) (v : Nat) : x_fv (xs_n σ v) = x_fv σ := rfl
theorem xr_fv_tab (σ : SX) (v : Nat → HR) : x_fv (xs_tab σ v) = x_fv σ := rfl
theorem xw_fl (σ : SX) (v : Int32) : x_fl (xs_fl σ v) = v := rfl
theorem xr_fl_bs (σ : SX) (v : Nat → Int64) : x_fl (xs_bs σ v) = x_fl σ := rfl
theorem xr_fl_bc (σ : SX) (v : Nat → Int32) : x_fl (xs_bc σ v) = x_fl σ := rfl
theorem xr_fl_hd (σ : SX) (v : Nat → Option Nat) : x_fl (xs_hd σ v) = x_fl σ := rfl
theorem xr_fl_told (σ : SX) (v : Int32) : x_fl (xs_told σ v) = x_fl σ := rfl
theorem xr_fl_qk (σ : SX) (v : Nat → Int32) : x_fl (xs_qk σ v) = x_fl σ := rfl
theorem xr_fl_qv (σ : SX) (v : Nat → Int64) : x_fl (xs_qv σ v) = x_fl σ := rfl
theorem xr_fl_qf (σ : SX) (v : Int32) : x_fl (xs_qf σ v) = x_fl σ := rfl
theorem xr_fl_qs (σ : SX) (v : Int32) : x_fl (xs_qs σ v) = x_fl σ := rfl
theorem xr_fl_tk (σ : SX) (v : Int32) : x_fl (xs_tk σ v) = x_fl σ := rfl
theorem xr_fl_fk (σ : SX) (v : Nat → Int32) : x_fl (xs_fk σ v) = x_fl σ := rfl
theorem xr_fl_fn (σ : SX) (v : Nat → Int32) : x_fl (xs_fn σ v) = x_fl σ := rfl
theorem xr_fl_fv (σ : SX) (v : Nat → Int64) : x_fl (xs_fv σ v) = x_fl σ := rfl
theorem xr_fl_bl (σ : SX) (v : Int32) : x_fl (xs_bl σ v) = x_fl σ := rfl
theorem xr_fl_bic (σ : SX) (v : Int32) : x_fl (xs_bic σ v) = x_fl σ := rfl
theorem xr_fl_n (σ : SX) (v : Nat) : x_fl (xs_n σ v) = x_fl σ := rfl
theorem xr_fl_tab (σ : SX) (v : Nat → HR) : x_fl (xs_tab σ v) = x_fl σ := rfl
theorem xw_bl (σ : SX) (v : Int32) : x_bl (xs_bl σ v) = v := rfl
theorem xr_bl_bs (σ : SX) (v : Nat → Int64) : x_bl (xs_bs σ v) = x_bl σ := rfl
theorem xr_bl_bc (σ : SX) (v : Nat → Int32) : x_bl (xs_bc σ v) = x_bl σ := rfl
theorem xr_bl_hd (σ : SX) (v : Nat → Option Nat) : x_bl (xs_hd σ v) = x_bl σ := rfl
theorem xr_bl_told (σ : SX) (v : Int32) : x_bl (xs_told σ v) = x_bl σ := rfl
theorem xr_bl_qk (σ : SX) (v : Nat → Int32) : x_bl (xs_qk σ v) = x_bl σ := rfl
theorem xr_bl_qv (σ : SX) (v : Nat → Int64) : x_bl (xs_qv σ v) = x_bl σ := rfl
theorem xr_bl_qf (σ : SX) (v : Int32) : x_bl (xs_qf σ v) = x_bl σ := rfl
theorem xr_bl_qs (σ : SX) (v : Int32) : x_bl (xs_qs σ v) = x_bl σ := rfl
theorem xr_bl_tk (σ : SX) (v : Int32) : x_bl (xs_tk σ v) = x_bl σ := rfl
theorem xr_bl_fk (σ : SX) (v : Nat → Int32) : x_bl (xs_fk σ v) = x_bl σ := rfl
theorem xr_bl_fn (σ : SX) (v : Nat → Int32) : x_bl (xs_fn σ v) = x_bl σ := rfl
theorem xr_bl_fv (σ : SX) (v : Nat → Int64) : x_bl (xs_fv σ v) = x_bl σ := rfl
theorem xr_bl_fl (σ : SX) (v : Int32) : x_bl (xs_fl σ v) = x_bl σ := rfl
theorem xr_bl_bic (σ : SX) (v : Int32) : x_bl (xs_bic σ v) = x_bl σ := rfl
theorem xr_bl_n (σ : SX) (v : Nat) : x_bl (xs_n σ v) = x_bl σ := rfl
theorem xr_bl_tab (σ : SX) (v : Nat → HR) : x_bl (xs_tab σ v) = x_bl σ := rfl
theorem xw_bic (σ : SX) (v : Int32) : x_bic (xs_bic σ v) = v := rfl
theorem xr_bic_bs (σ : SX) (v : Nat → Int64) : x_bic (xs_bs σ v) = x_bic σ := rfl
theorem xr_bic_bc (σ : SX) (v : Nat → Int32) : x_bic (xs_bc σ v) = x_bic σ := rfl
theorem xr_bic_hd (σ : SX) (v : Nat → Option Nat) : x_bic (xs_hd σ v) = x_bic σ := rfl
theorem xr_bic_told (σ : SX) (v : Int32) : x_bic (xs_told σ v) = x_bic σ := rfl
theorem xr_bic_qk (σ : SX) (v : Nat → Int32) : x_bic (xs_qk σ v) = x_bic σ := rfl
theorem xr_bic_qv (σ : SX) (v : Nat → Int64) : x_bic (xs_qv σ v) = x_bic σ := rfl
theorem xr_bic_qf (σ : SX) (v : Int32) : x_bic (xs_qf σ v) = x_bic σ := rfl
theorem xr_bic_qs (σ : SX) (v : Int32) : x_bic (xs_qs σ v) = x_bic σ := rfl
theorem xr_bic_tk (σ : SX) (v : Int32) : x_bic (xs_tk σ v) = x_bic σ := rfl
theorem xr_bic_fk (σ : SX) (v : Nat → Int32) : x_bic (xs_fk σ v) = x_bic σ := rfl
theorem xr_bic_fn (σ : SX) (v : Nat → Int32) : x_bic (xs_fn σ v) = x_bic σ := rfl
theorem xr_bic_fv (σ : SX) (v : Nat → Int64) : x_bic (xs_fv σ v) = x_bic σ := rfl
theorem xr_bic_fl (σ : SX) (v : Int32) : x_bic (xs_fl σ v) = x_bic σ := rfl
theorem xr_bic_bl (σ : SX) (v : Int32) : x_bic (xs_bl σ v) = x_bic σ := rfl
theorem xr_bic_n (σ : SX) (v : Nat) : x_bic (xs_n σ v) = x_bic σ := rfl
theorem xr_bic_tab (σ : SX) (v : Nat → HR) : x_bic (xs_tab σ v) = x_bic σ := rfl
theorem xw_n (σ : SX) (v : Nat) : x_n (xs_n σ v) = v := rfl
theorem xr_n_bs (σ : SX) (v : Nat → Int64) : x_n (xs_bs σ v) = x_n σ := rfl
theorem xr_n_bc (σ : SX) (v : Nat → Int32) : x_n (xs_bc σ v) = x_n σ := rfl
theorem xr_n_hd (σ : SX) (v : Nat → Option Nat) : x_n (xs_hd σ v) = x_n σ := rfl
theorem xr_n_told (σ : SX) (v : Int32) : x_n (xs_told σ v) = x_n σ := rfl
theorem xr_n_qk (σ : SX) (v : Nat → Int32) : x_n (xs_qk σ v) = x_n σ := rfl
theorem xr_n_qv (σ : SX) (v : Nat → Int64) : x_n (xs_qv σ v) = x_n σ := rfl
theorem xr_n_qf (σ : SX) (v : Int32) : x_n (xs_qf σ v) = x_n σ := rfl
theorem xr_n_qs (σ : SX) (v : Int32) : x_n (xs_qs σ v) = x_n σ := rfl
theorem xr_n_tk (σ : SX) (v : Int32) : x_n (xs_tk σ v) = x_n σ := rfl
theorem xr_n_fk (σ : SX) (v : Nat → Int32) : x_n (xs_fk σ v) = x_n σ := rfl
theorem xr_n_fn (σ : SX) (v : Nat → Int32) : x_n (xs_fn σ v) = x_n σ := rfl
theorem xr_n_fv (σ : SX) (v : Nat → Int64) : x_n (xs_fv σ v) = x_n σ := rfl
theorem xr_n_fl (σ : SX) (v : Int32) : x_n (xs_fl σ v) = x_n σ := rfl
theorem xr_n_bl (σ : SX) (v : Int32) : x_n (xs_bl σ v) = x_n σ := rfl
theorem xr_n_bic (σ : SX) (v : Int32) : x_n (xs_bic σ v) = x_n σ := rfl
theorem xr_n_tab (σ : SX) (v : Nat → HR) : x_n (xs_tab σ v) = x_n σ := rfl
theorem xw_tab (σ : SX) (v : Nat → HR) : x_tab (xs_tab σ v) = v := rfl
theorem xr_tab_bs (σ : SX) (v : Nat → Int64) : x_tab (xs_bs σ v) = x_tab σ := rfl
theorem xr_tab_bc (σ : SX) (v : Nat → Int32) : x_tab (xs_bc σ v) = x_tab σ := rfl
theorem xr_tab_hd (σ : SX) (v : Nat → Option Nat) : x_tab (xs_hd σ v) = x_tab σ := rfl
theorem xr_tab_told (σ : SX) (v : Int32) : x_tab (xs_told σ v) = x_tab σ := rfl
theorem xr_tab_qk (σ : SX) (v : Nat → Int32) : x_tab (xs_qk σ v) = x_tab σ := rfl
theorem xr_tab_qv (σ : SX) (v : Nat → Int64) : x_tab (xs_qv σ v) = x_tab σ := rfl
theorem xr_tab_qf (σ : SX) (v : Int32) : x_tab (xs_qf σ v) = x_tab σ := rfl
theorem xr_tab_qs (σ : SX) (v : Int32) : x_tab (xs_qs σ v) = x_tab σ := rfl
theorem xr_tab_tk (σ : SX) (v : Int32) : x_tab (xs_tk σ v) = x_tab σ := rfl
theorem xr_tab_fk (σ : SX) (v : Nat → Int32) : x_tab (xs_fk σ v) = x_tab σ := rfl
theorem xr_tab_fn (σ : SX) (v : Nat → Int32) : x_tab (xs_fn σ v) = x_tab σ := rfl
theorem xr_tab_fv (σ : SX) (v : Nat → Int64) : x_tab (xs_fv σ v) = x_tab σ := rfl
theorem xr_tab_fl (σ : SX) (v : Int32) : x_tab (xs_fl σ v) = x_tab σ := rfl
theorem xr_tab_bl (σ : SX) (v : Int32) : x_tab (xs_bl σ v) = x_tab σ := rfl
theorem xr_tab_bic (σ : SX) (v : Int32) : x_tab (xs_bic σ v) = x_tab σ := rfl
theorem xr_tab_n (σ : SX) (v : Nat) : x_tab (xs_n σ v) = x_tab σ := rfl
noncomputable def xFs (O : Nat → Nat) (σ : SX) : List Value := [.ref (O 1), .ref (O 2), .ref (O 3), .int (x_told σ), .ref (O 4), .ref (O 5), .int (x_qf σ), .int (x_qs σ), .int (x_tk σ), .ref (O 6), .ref (O 7), .ref (O 8), .int (x_fl σ), .int (x_bl σ), .int (x_bic σ)]
noncomputable def xT (K : Nat → ClassId) : List (ClassId × FieldType) := [(K 1, .long), (K 2, .int), (K 3, .object "MailRoom$Handler"), (K 4, .int), (K 5, .long), (K 6, .int), (K 7, .int), (K 8, .long)]
noncomputable def xW (O : Nat → Nat) (K : Nat → ClassId) (ad : Nat → Nat) (σ : SX) : va_W := [(O 0, .inr (1, xFs O σ)), (O 1, .inl (K 1, 6, .inr (.inl (x_bs σ)))), (O 2, .inl (K 2, 6, .inl (x_bc σ))), (O 3, .inl (K 3, 10, .inr (.inr (.inr (.inr (fun k => (x_hd σ k).map ad)))))), (O 4, .inl (K 4, 40, .inl (x_qk σ))), (O 5, .inl (K 5, 40, .inr (.inl (x_qv σ)))), (O 6, .inl (K 6, 30, .inl (x_fk σ))), (O 7, .inl (K 7, 30, .inl (x_fn σ))), (O 8, .inl (K 8, 30, .inr (.inl (x_fv σ))))] ++ xPl ad (x_n σ) (x_tab σ)
theorem xPl_at {ad : Nat → Nat} {n : Nat} {tab : Nat → HR} {j : Nat} (hj : j < n) : (xPl ad n tab)[j]? = some (ad j, .inr (0, hFs ad (tab j))) := by
  simp [xPl, hj]
theorem xW_at {O : Nat → Nat} {K : Nat → ClassId} {ad : Nat → Nat} {σ : SX} {j : Nat} (hj : j < x_n σ) : (xW O K ad σ)[9 + j]? = some (ad j, .inr (0, hFs ad (x_tab σ j))) := by
  unfold xW
  rw [List.getElem?_append_right (by simp)]
  simpa using xPl_at (tab := x_tab σ) hj
theorem xPl_set {ad : Nat → Nat} {n : Nat} {tab : Nat → HR} {j : Nat} {h : HR} : (xPl ad n tab).set j (ad j, .inr (0, hFs ad h)) = xPl ad n (va_up tab j h) := by
  apply List.ext_getElem?
  intro i
  rw [List.getElem?_set]
  by_cases hij : j = i
  · subst hij
    by_cases hj : j < n
    · simp [xPl, hj, va_up]
    · simp [xPl, hj]
  · rw [if_neg hij]
    by_cases hi : i < n
    · simp [xPl, hi, va_up, Ne.symm hij]
    · simp [xPl, hi]
theorem xW_setH {O : Nat → Nat} {K : Nat → ClassId} {ad : Nat → Nat} {σ : SX} {j : Nat} {h : HR} : (xW O K ad σ).set (9 + j) (ad j, .inr (0, hFs ad h)) = xW O K ad (xs_tab σ (va_up (x_tab σ) j h)) := by
  show _ = _ ++ xPl ad (x_n σ) (va_up (x_tab σ) j h)
  unfold xW
  rw [List.set_append_right _ _ (by simp), ← xPl_set]
  have e : ∀ k : Nat, 9 + j - 9 = j := fun _ => by omega
  simp only [List.length_cons, List.length_nil]
  rw [show 9 + j - (0 + 1 + 1 + 1 + 1 + 1 + 1 + 1 + 1 + 1) = j by omega]
  rfl
theorem xW_setA {O : Nat → Nat} {K : Nat → ClassId} {ad : Nat → Nat} {σ : SX} {i : Nat} {r : Option Nat} : (xW O K ad σ).set 3 (O 3, .inl (K 3, 10, .inr (.inr (.inr (.inr (va_up (fun k => (x_hd σ k).map ad) i (r.map ad))))))) = xW O K ad (xs_hd σ (va_up (x_hd σ) i r)) := by
  have e : va_up (fun k => (x_hd σ k).map ad) i (r.map ad) = fun k => (va_up (x_hd σ) i r k).map ad := by
    funext k
    by_cases h : k = i
    · simp [va_up, h]
    · simp [va_up, h]
  rw [e]
  rfl
theorem tx0 : ∀ k, (TX0 k).1 = "MailRoom$Handler" := fun k => by
  unfold TX0
  split <;> rfl
section XR
variable {p : Program} {l : Launch} {e : Env} {R : Room} {s : State} {m : MethodId} {args : Array Value} {below : List Frame} {meth : Method} {c : Code} {H : Heap} {locs : List Loc} {cells slots : Nat} {Q : State → Prop}
variable {cc : ByteArray} {pc : Nat} {ls : Array Slot} {rest : List Value} {D : va_G} {A : Nat → Prop} {tys : List (ClassId × FieldType)} {H0 : Heap}
variable {O : Nat → Nat} {K : Nat → ClassId} {ad : Nat → Nat} {σ : SX} {j index : Nat} {Ts : List Cond} {v : Value} {x i : Int32} {r : Option Nat}
theorem x_getH (hx : p.tables.exec = Jvm.exec) (hb : c.code = cc) (hts : ∀ w ∈ Ts, w.before args s = true) (hin : ∀ w ∈ wsX00, w ∈ Ts) (hown : s.vm.findClass RX1 = some m.cls) (hK : va_K D vwCl tys s) (hP : va_P D vwCl (xW O K ad σ) H) {T : Nat → HR} (hT : x_tab σ = T) (hj : j < x_n σ) (k : Nat) (hk : k < 8) (hlink : (Cond.fieldLink RX1 index "MailRoom$Handler" (TX0 k).2.1 (TX0 k).2.2.1).before args s = true) (hv : (hFs ad (T j))[k]? = some v) (hdg : decode cc pc = .ok (.getfield index, 3))
    (kk : W p l e R s m args below meth c H locs cells slots Q (F0 m (pc + 3) ls (v :: rest))) : W p l e R s m args below meth c H locs cells slots Q (F0 m pc ls (.ref (ad j) :: rest)) := by
  subst hT
  exact va_get (ci := 0) (C := RX0) (T := TX0) (N := 8) hx hb hts hin hown hK hP (9 + j) (xW_at hj) rfl k hk hlink (fun y h => by rw [← tx0 k]; exact h) hv hdg kk
theorem x_putH (hx : p.tables.exec = Jvm.exec) (hb : c.code = cc) (hts : ∀ w ∈ Ts, w.before args s = true) (hin : ∀ w ∈ wsX00, w ∈ Ts) (hown : s.vm.findClass RX1 = some m.cls) (hK : va_K D vwCl tys s) (hP : va_P D vwCl (xW O K ad σ) H) (hD : va_D A (xW O K ad σ)) (hS : va_S A H0 H locs) (hj : j < x_n σ) (hlink : (Cond.fieldLink RX1 index "MailRoom$Handler" "begun" "I").before args s = true) (hdg : decode cc pc = .ok (.putfield index, 3))
    (kk : ∀ (H1 : Heap) (locs1 : List Loc), va_P D vwCl (xW O K ad (xs_tab σ (va_up (x_tab σ) j (hs_begun (x_tab σ j) x)))) H1 → va_D A (xW O K ad (xs_tab σ (va_up (x_tab σ) j (hs_begun (x_tab σ j) x)))) → va_S A H0 H1 locs1 → W p l e R s m args below meth c H1 locs1 cells slots Q (F0 m (pc + 3) ls rest)) : W p l e R s m args below meth c H locs cells slots Q (F0 m pc ls (.int x :: .ref (ad j) :: rest)) := by
  refine va_put (ci := 0) (C := RX0) (T := TX0) (N := 8) (ty := .int) hx hb hts hin tyX0 tyX0_ok nmX0 hown hK hP hD hS (9 + j) (xW_at hj) rfl 7 (by decide) hlink (fun _ h => h) rfl rfl rfl rfl (Nat.le_of_ble_eq_true rfl) hdg (fun H1 locs1 hP1 hD1 hS1 => ?_)
  have e : (xW O K ad σ).set (9 + j) (ad j, .inr (0, (hFs ad (x_tab σ j)).set 7 (.int x))) = xW O K ad (xs_tab σ (va_up (x_tab σ) j (hs_begun (x_tab σ j) x))) := xW_setH (h := hs_begun (x_tab σ j) x)
  rw [e] at hP1 hD1
  exact kk H1 locs1 hP1 hD1 hS1
theorem x_aldH (hx : p.tables.exec = Jvm.exec) (hb : c.code = cc) (hK : va_K D vwCl (xT K) s) (hP : va_P D vwCl (xW O K ad σ) H) (hin : vp_in i 10) (hdg : decode cc pc = .ok (.aaload, 1))
    (kk : W p l e R s m args below meth c H locs cells slots Q (F0 m (pc + 1) ls (va_re ad (x_hd σ i.toNatClampNeg) :: rest))) : W p l e R s m args below meth c H locs cells slots Q (F0 m pc ls (.int i :: .ref (O 3) :: rest)) :=
  va_aldq (f := fun k => (x_hd σ k).map ad) (C := "MailRoom$Handler") hx hb hK hP 3 2 rfl rfl hin hdg kk
theorem x_astH (hx : p.tables.exec = Jvm.exec) (hb : c.code = cc) (hK : va_K D vwCl (xT K) s) (hP : va_P D vwCl (xW O K ad σ) H) (hD : va_D A (xW O K ad σ)) (hS : va_S A H0 H locs) (hr : ∀ j, r = some j → j < x_n σ) (hin : vp_in i 10) (hdg : decode cc pc = .ok (.aastore, 1))
    (kk : ∀ (H1 : Heap) (locs1 : List Loc), va_P D vwCl (xW O K ad (xs_hd σ (va_up (x_hd σ) i.toNatClampNeg r))) H1 → va_D A (xW O K ad (xs_hd σ (va_up (x_hd σ) i.toNatClampNeg r))) → va_S A H0 H1 locs1 → W p l e R s m args below meth c H1 locs1 cells slots Q (F0 m (pc + 1) ls rest)) : W p l e R s m args below meth c H locs cells slots Q (F0 m pc ls (va_re ad r :: .int i :: .ref (O 3) :: rest)) := by
  cases r with
  | none =>
    refine va_astqN (f := fun k => (x_hd σ k).map ad) (C := "MailRoom$Handler") hx hb hK hP hD hS 3 2 rfl rfl hin hdg (fun H1 locs1 hP1 hD1 hS1 => ?_)
    have e := xW_setA (O := O) (K := K) (ad := ad) (σ := σ) (i := i.toNatClampNeg) (r := none)
    rw [← e] at kk
    exact kk H1 locs1 hP1 hD1 hS1
  | some j =>
    refine va_astq (f := fun k => (x_hd σ k).map ad) (r := (RX0, TX0, 8)) hx hb hK hP hD hS 3 2 (9 + j) 0 rfl rfl (xW_at (hr j rfl)) rfl hin hdg (fun H1 locs1 hP1 hD1 hS1 => ?_)
    have e := xW_setA (O := O) (K := K) (ad := ad) (σ := σ) (i := i.toNatClampNeg) (r := some j)
    rw [← e] at kk
    exact kk H1 locs1 hP1 hD1 hS1
end XR
theorem z_out {x : Int32} (hi : Nat) (hh : hi < 1000) (h : ∀ k, k ≤ hi → ¬ x = nI k) : x.toInt < 0 ∨ (hi : Int) < x.toInt := by
  rcases Decidable.em (x.toInt < 0) with h0 | h0
  · exact Or.inl h0
  · rcases Decidable.em ((hi : Int) < x.toInt) with h1 | h1
    · exact Or.inr h1
    · exact absurd (Int32.toInt_inj.mp (by rw [nI_toInt (by omega)]; omega)) (h x.toInt.toNat (by omega))
theorem z_in {x : Int32} {M : Int32} {n : Nat} (hM : M = nI n) (hn : n < 2 ^ 31) (h0 : ¬ x < 0) (h1 : ¬ M ≤ x) : vp_in x n := by
  subst hM
  rcases pk_ix x hn with h | h | ⟨j, hj, rfl⟩
  · exact absurd h h0
  · exact absurd h h1
  · exact vp_in_nI hj hn
theorem z_eta {α β : Type} (x : α × β) : x = (x.1, x.2) := rfl
theorem z_ltE {a b j : Nat} (h : a = b) (hj : j < b) : j < a := by rw [h]; exact hj
section XROWS
variable {p : Program} {l : Launch} {e : Env} {R : Room} {s : State} {m : MethodId} {args : Array Value} {below : List Frame} {meth : Method} {c : Code} {H : Heap} {locs : List Loc} {cells slots : Nat} {Q : State → Prop}
variable {cc : ByteArray} {pc : Nat} {ls : Array Slot} {rest : List Value} {D : va_G} {A : Nat → Prop} {H0 : Heap} {O : Nat → Nat} {K : Nat → ClassId} {ad : Nat → Nat} {σ : SX} {index : Nat} {Ts : List Cond} {i x : Int32}
theorem x_ga_1 (hx : p.tables.exec = Jvm.exec) (hb : c.code = cc) (hts : ∀ w ∈ Ts, w.before args s = true) (hin : ∀ w ∈ wsX10, w ∈ Ts) (hown : s.vm.findClass RX1 = some m.cls) (hK : va_K D vwCl (xT K) s) (hP : va_P D vwCl (xW O K ad σ) H) (hlink : (Cond.fieldLink RX1 index "MailRoom" "boxSums" "[J").before args s = true) (hdg : decode cc pc = .ok (.getfield index, 3)) (kk : W p l e R s m args below meth c H locs cells slots Q (F0 m (pc + 3) ls (.ref (O 1) :: rest))) : W p l e R s m args below meth c H locs cells slots Q (F0 m pc ls (.ref (O 0) :: rest)) :=
  va_get (ci := 1) (C := RX1) (T := TX1) (N := 15) hx hb hts hin hown hK hP 0 rfl rfl 0 (by decide) hlink (fun _ h9 => h9) rfl hdg kk
theorem x_ga_2 (hx : p.tables.exec = Jvm.exec) (hb : c.code = cc) (hts : ∀ w ∈ Ts, w.before args s = true) (hin : ∀ w ∈ wsX10, w ∈ Ts) (hown : s.vm.findClass RX1 = some m.cls) (hK : va_K D vwCl (xT K) s) (hP : va_P D vwCl (xW O K ad σ) H) (hlink : (Cond.fieldLink RX1 index "MailRoom" "boxCounts" "[I").before args s = true) (hdg : decode cc pc = .ok (.getfield index, 3)) (kk : W p l e R s m args below meth c H locs cells slots Q (F0 m (pc + 3) ls (.ref (O 2) :: rest))) : W p l e R s m args below meth c H locs cells slots Q (F0 m pc ls (.ref (O 0) :: rest)) :=
  va_get (ci := 1) (C := RX1) (T := TX1) (N := 15) hx hb hts hin hown hK hP 0 rfl rfl 1 (by decide) hlink (fun _ h9 => h9) rfl hdg kk
theorem x_ga_3 (hx : p.tables.exec = Jvm.exec) (hb : c.code = cc) (hts : ∀ w ∈ Ts, w.before args s = true) (hin : ∀ w ∈ wsX10, w ∈ Ts) (hown : s.vm.findClass RX1 = some m.cls) (hK : va_K D vwCl (xT K) s) (hP : va_P D vwCl (xW O K ad σ) H) (hlink : (Cond.fieldLink RX1 index "MailRoom" "handlers" "[LMailRoom$Handler;").before args s = true) (hdg : decode cc pc = .ok (.getfield index, 3)) (kk : W p l e R s m args below meth c H locs cells slots Q (F0 m (pc + 3) ls (.ref (O 3) :: rest))) : W p l e R s m args below meth c H locs cells slots Q (F0 m pc ls (.ref (O 0) :: rest)) :=
  va_get (ci := 1) (C := RX1) (T := TX1) (N := 15) hx hb hts hin hown hK hP 0 rfl rfl 2 (by decide) hlink (fun _ h9 => h9) rfl hdg kk
theorem x_gi_told (hx : p.tables.exec = Jvm.exec) (hb : c.code = cc) (hts : ∀ w ∈ Ts, w.before args s = true) (hin : ∀ w ∈ wsX10, w ∈ Ts) (hown : s.vm.findClass RX1 = some m.cls) (hK : va_K D vwCl (xT K) s) (hP : va_P D vwCl (xW O K ad σ) H) {v : Int32} (hv : x_told σ = v) (hlink : (Cond.fieldLink RX1 index "MailRoom" "told" "I").before args s = true) (hdg : decode cc pc = .ok (.getfield index, 3)) (kk : W p l e R s m args below meth c H locs cells slots Q (F0 m (pc + 3) ls (.int v :: rest))) : W p l e R s m args below meth c H locs cells slots Q (F0 m pc ls (.ref (O 0) :: rest)) := by
  subst hv
  exact va_get (ci := 1) (C := RX1) (T := TX1) (N := 15) hx hb hts hin hown hK hP 0 rfl rfl 3 (by decide) hlink (fun _ h9 => h9) rfl hdg kk
theorem x_pi_told (hx : p.tables.exec = Jvm.exec) (hb : c.code = cc) (hts : ∀ w ∈ Ts, w.before args s = true) (hin : ∀ w ∈ wsX10, w ∈ Ts) (hown : s.vm.findClass RX1 = some m.cls) (hK : va_K D vwCl (xT K) s) (hP : va_P D vwCl (xW O K ad σ) H) (hD : va_D A (xW O K ad σ)) (hS : va_S A H0 H locs) (hlink : (Cond.fieldLink RX1 index "MailRoom" "told" "I").before args s = true) (hdg : decode cc pc = .ok (.putfield index, 3)) (kk : ∀ (H1 : Heap) (locs1 : List Loc), va_P D vwCl (xW O K ad (xs_told σ x)) H1 → va_D A (xW O K ad (xs_told σ x)) → va_S A H0 H1 locs1 → W p l e R s m args below meth c H1 locs1 cells slots Q (F0 m (pc + 3) ls rest)) : W p l e R s m args below meth c H locs cells slots Q (F0 m pc ls (.int x :: .ref (O 0) :: rest)) :=
  va_put (ci := 1) (C := RX1) (T := TX1) (N := 15) (ty := .int) hx hb hts hin tyX1 tyX1_ok nmX1 hown hK hP hD hS 0 rfl rfl 3 (by decide) hlink (fun _ h9 => h9) rfl rfl rfl rfl (Nat.le_of_ble_eq_true rfl) hdg kk
theorem x_ga_4 (hx : p.tables.exec = Jvm.exec) (hb : c.code = cc) (hts : ∀ w ∈ Ts, w.before args s = true) (hin : ∀ w ∈ wsX10, w ∈ Ts) (hown : s.vm.findClass RX1 = some m.cls) (hK : va_K D vwCl (xT K) s) (hP : va_P D vwCl (xW O K ad σ) H) (hlink : (Cond.fieldLink RX1 index "MailRoom" "queueKinds" "[I").before args s = true) (hdg : decode cc pc = .ok (.getfield index, 3)) (kk : W p l e R s m args below meth c H locs cells slots Q (F0 m (pc + 3) ls (.ref (O 4) :: rest))) : W p l e R s m args below meth c H locs cells slots Q (F0 m pc ls (.ref (O 0) :: rest)) :=
  va_get (ci := 1) (C := RX1) (T := TX1) (N := 15) hx hb hts hin hown hK hP 0 rfl rfl 4 (by decide) hlink (fun _ h9 => h9) rfl hdg kk
theorem x_ga_5 (hx : p.tables.exec = Jvm.exec) (hb : c.code = cc) (hts : ∀ w ∈ Ts, w.before args s = true) (hin : ∀ w ∈ wsX10, w ∈ Ts) (hown : s.vm.findClass RX1 = some m.cls) (hK : va_K D vwCl (xT K) s) (hP : va_P D vwCl (xW O K ad σ) H) (hlink : (Cond.fieldLink RX1 index "MailRoom" "queueValues" "[J").before args s = true) (hdg : decode cc pc = .ok (.getfield index, 3)) (kk : W p l e R s m args below meth c H locs cells slots Q (F0 m (pc + 3) ls (.ref (O 5) :: rest))) : W p l e R s m args below meth c H locs cells slots Q (F0 m pc ls (.ref (O 0) :: rest)) :=
  va_get (ci := 1) (C := RX1) (T := TX1) (N := 15) hx hb hts hin hown hK hP 0 rfl rfl 5 (by decide) hlink (fun _ h9 => h9) rfl hdg kk
theorem x_gi_qf (hx : p.tables.exec = Jvm.exec) (hb : c.code = cc) (hts : ∀ w ∈ Ts, w.before args s = true) (hin : ∀ w ∈ wsX10, w ∈ Ts) (hown : s.vm.findClass RX1 = some m.cls) (hK : va_K D vwCl (xT K) s) (hP : va_P D vwCl (xW O K ad σ) H) {v : Int32} (hv : x_qf σ = v) (hlink : (Cond.fieldLink RX1 index "MailRoom" "queueFirst" "I").before args s = true) (hdg : decode cc pc = .ok (.getfield index, 3)) (kk : W p l e R s m args below meth c H locs cells slots Q (F0 m (pc + 3) ls (.int v :: rest))) : W p l e R s m args below meth c H locs cells slots Q (F0 m pc ls (.ref (O 0) :: rest)) := by
  subst hv
  exact va_get (ci := 1) (C := RX1) (T := TX1) (N := 15) hx hb hts hin hown hK hP 0 rfl rfl 6 (by decide) hlink (fun _ h9 => h9) rfl hdg kk
theorem x_pi_qf (hx : p.tables.exec = Jvm.exec) (hb : c.code = cc) (hts : ∀ w ∈ Ts, w.before args s = true) (hin : ∀ w ∈ wsX10, w ∈ Ts) (hown : s.vm.findClass RX1 = some m.cls) (hK : va_K D vwCl (xT K) s) (hP : va_P D vwCl (xW O K ad σ) H) (hD : va_D A (xW O K ad σ)) (hS : va_S A H0 H locs) (hlink : (Cond.fieldLink RX1 index "MailRoom" "queueFirst" "I").before args s = true) (hdg : decode cc pc = .ok (.putfield index, 3)) (kk : ∀ (H1 : Heap) (locs1 : List Loc), va_P D vwCl (xW O K ad (xs_qf σ x)) H1 → va_D A (xW O K ad (xs_qf σ x)) → va_S A H0 H1 locs1 → W p l e R s m args below meth c H1 locs1 cells slots Q (F0 m (pc + 3) ls rest)) : W p l e R s m args below meth c H locs cells slots Q (F0 m pc ls (.int x :: .ref (O 0) :: rest)) :=
  va_put (ci := 1) (C := RX1) (T := TX1) (N := 15) (ty := .int) hx hb hts hin tyX1 tyX1_ok nmX1 hown hK hP hD hS 0 rfl rfl 6 (by decide) hlink (fun _ h9 => h9) rfl rfl rfl rfl (Nat.le_of_ble_eq_true rfl) hdg kk
theorem x_gi_qs (hx : p.tables.exec = Jvm.exec) (hb : c.code = cc) (hts : ∀ w ∈ Ts, w.before args s = true) (hin : ∀ w ∈ wsX10, w ∈ Ts) (hown : s.vm.findClass RX1 = some m.cls) (hK : va_K D vwCl (xT K) s) (hP : va_P D vwCl (xW O K ad σ) H) {v : Int32} (hv : x_qs σ = v) (hlink : (Cond.fieldLink RX1 index "MailRoom" "queueSize" "I").before args s = true) (hdg : decode cc pc = .ok (.getfield index, 3)) (kk : W p l e R s m args below meth c H locs cells slots Q (F0 m (pc + 3) ls (.int v :: rest))) : W p l e R s m args below meth c H locs cells slots Q (F0 m pc ls (.ref (O 0) :: rest)) := by
  subst hv
  exact va_get (ci := 1) (C := RX1) (T := TX1) (N := 15) hx hb hts hin hown hK hP 0 rfl rfl 7 (by decide) hlink (fun _ h9 => h9) rfl hdg kk
theorem x_pi_qs (hx : p.tables.exec = Jvm.exec) (hb : c.code = cc) (hts : ∀ w ∈ Ts, w.before args s = true) (hin : ∀ w ∈ wsX10, w ∈ Ts) (hown : s.vm.findClass RX1 = some m.cls) (hK : va_K D vwCl (xT K) s) (hP : va_P D vwCl (xW O K ad σ) H) (hD : va_D A (xW O K ad σ)) (hS : va_S A H0 H locs) (hlink : (Cond.fieldLink RX1 index "MailRoom" "queueSize" "I").before args s = true) (hdg : decode cc pc = .ok (.putfield index, 3)) (kk : ∀ (H1 : Heap) (locs1 : List Loc), va_P D vwCl (xW O K ad (xs_qs σ x)) H1 → va_D A (xW O K ad (xs_qs σ x)) → va_S A H0 H1 locs1 → W p l e R s m args below meth c H1 locs1 cells slots Q (F0 m (pc + 3) ls rest)) : W p l e R s m args below meth c H locs cells slots Q (F0 m pc ls (.int x :: .ref (O 0) :: rest)) :=
  va_put (ci := 1) (C := RX1) (T := TX1) (N := 15) (ty := .int) hx hb hts hin tyX1 tyX1_ok nmX1 hown hK hP hD hS 0 rfl rfl 7 (by decide) hlink (fun _ h9 => h9) rfl rfl rfl rfl (Nat.le_of_ble_eq_true rfl) hdg kk
theorem x_gi_tk (hx : p.tables.exec = Jvm.exec) (hb : c.code = cc) (hts : ∀ w ∈ Ts, w.before args s = true) (hin : ∀ w ∈ wsX10, w ∈ Ts) (hown : s.vm.findClass RX1 = some m.cls) (hK : va_K D vwCl (xT K) s) (hP : va_P D vwCl (xW O K ad σ) H) {v : Int32} (hv : x_tk σ = v) (hlink : (Cond.fieldLink RX1 index "MailRoom" "taken" "I").before args s = true) (hdg : decode cc pc = .ok (.getfield index, 3)) (kk : W p l e R s m args below meth c H locs cells slots Q (F0 m (pc + 3) ls (.int v :: rest))) : W p l e R s m args below meth c H locs cells slots Q (F0 m pc ls (.ref (O 0) :: rest)) := by
  subst hv
  exact va_get (ci := 1) (C := RX1) (T := TX1) (N := 15) hx hb hts hin hown hK hP 0 rfl rfl 8 (by decide) hlink (fun _ h9 => h9) rfl hdg kk
theorem x_pi_tk (hx : p.tables.exec = Jvm.exec) (hb : c.code = cc) (hts : ∀ w ∈ Ts, w.before args s = true) (hin : ∀ w ∈ wsX10, w ∈ Ts) (hown : s.vm.findClass RX1 = some m.cls) (hK : va_K D vwCl (xT K) s) (hP : va_P D vwCl (xW O K ad σ) H) (hD : va_D A (xW O K ad σ)) (hS : va_S A H0 H locs) (hlink : (Cond.fieldLink RX1 index "MailRoom" "taken" "I").before args s = true) (hdg : decode cc pc = .ok (.putfield index, 3)) (kk : ∀ (H1 : Heap) (locs1 : List Loc), va_P D vwCl (xW O K ad (xs_tk σ x)) H1 → va_D A (xW O K ad (xs_tk σ x)) → va_S A H0 H1 locs1 → W p l e R s m args below meth c H1 locs1 cells slots Q (F0 m (pc + 3) ls rest)) : W p l e R s m args below meth c H locs cells slots Q (F0 m pc ls (.int x :: .ref (O 0) :: rest)) :=
  va_put (ci := 1) (C := RX1) (T := TX1) (N := 15) (ty := .int) hx hb hts hin tyX1 tyX1_ok nmX1 hown hK hP hD hS 0 rfl rfl 8 (by decide) hlink (fun _ h9 => h9) rfl rfl rfl rfl (Nat.le_of_ble_eq_true rfl) hdg kk
theorem x_ga_6 (hx : p.tables.exec = Jvm.exec) (hb : c.code = cc) (hts : ∀ w ∈ Ts, w.before args s = true) (hin : ∀ w ∈ wsX10, w ∈ Ts) (hown : s.vm.findClass RX1 = some m.cls) (hK : va_K D vwCl (xT K) s) (hP : va_P D vwCl (xW O K ad σ) H) (hlink : (Cond.fieldLink RX1 index "MailRoom" "failedKinds" "[I").before args s = true) (hdg : decode cc pc = .ok (.getfield index, 3)) (kk : W p l e R s m args below meth c H locs cells slots Q (F0 m (pc + 3) ls (.ref (O 6) :: rest))) : W p l e R s m args below meth c H locs cells slots Q (F0 m pc ls (.ref (O 0) :: rest)) :=
  va_get (ci := 1) (C := RX1) (T := TX1) (N := 15) hx hb hts hin hown hK hP 0 rfl rfl 9 (by decide) hlink (fun _ h9 => h9) rfl hdg kk
theorem x_ga_7 (hx : p.tables.exec = Jvm.exec) (hb : c.code = cc) (hts : ∀ w ∈ Ts, w.before args s = true) (hin : ∀ w ∈ wsX10, w ∈ Ts) (hown : s.vm.findClass RX1 = some m.cls) (hK : va_K D vwCl (xT K) s) (hP : va_P D vwCl (xW O K ad σ) H) (hlink : (Cond.fieldLink RX1 index "MailRoom" "failedNumbers" "[I").before args s = true) (hdg : decode cc pc = .ok (.getfield index, 3)) (kk : W p l e R s m args below meth c H locs cells slots Q (F0 m (pc + 3) ls (.ref (O 7) :: rest))) : W p l e R s m args below meth c H locs cells slots Q (F0 m pc ls (.ref (O 0) :: rest)) :=
  va_get (ci := 1) (C := RX1) (T := TX1) (N := 15) hx hb hts hin hown hK hP 0 rfl rfl 10 (by decide) hlink (fun _ h9 => h9) rfl hdg kk
theorem x_ga_8 (hx : p.tables.exec = Jvm.exec) (hb : c.code = cc) (hts : ∀ w ∈ Ts, w.before args s = true) (hin : ∀ w ∈ wsX10, w ∈ Ts) (hown : s.vm.findClass RX1 = some m.cls) (hK : va_K D vwCl (xT K) s) (hP : va_P D vwCl (xW O K ad σ) H) (hlink : (Cond.fieldLink RX1 index "MailRoom" "failedValues" "[J").before args s = true) (hdg : decode cc pc = .ok (.getfield index, 3)) (kk : W p l e R s m args below meth c H locs cells slots Q (F0 m (pc + 3) ls (.ref (O 8) :: rest))) : W p l e R s m args below meth c H locs cells slots Q (F0 m pc ls (.ref (O 0) :: rest)) :=
  va_get (ci := 1) (C := RX1) (T := TX1) (N := 15) hx hb hts hin hown hK hP 0 rfl rfl 11 (by decide) hlink (fun _ h9 => h9) rfl hdg kk
theorem x_gi_fl (hx : p.tables.exec = Jvm.exec) (hb : c.code = cc) (hts : ∀ w ∈ Ts, w.before args s = true) (hin : ∀ w ∈ wsX10, w ∈ Ts) (hown : s.vm.findClass RX1 = some m.cls) (hK : va_K D vwCl (xT K) s) (hP : va_P D vwCl (xW O K ad σ) H) {v : Int32} (hv : x_fl σ = v) (hlink : (Cond.fieldLink RX1 index "MailRoom" "failures" "I").before args s = true) (hdg : decode cc pc = .ok (.getfield index, 3)) (kk : W p l e R s m args below meth c H locs cells slots Q (F0 m (pc + 3) ls (.int v :: rest))) : W p l e R s m args below meth c H locs cells slots Q (F0 m pc ls (.ref (O 0) :: rest)) := by
  subst hv
  exact va_get (ci := 1) (C := RX1) (T := TX1) (N := 15) hx hb hts hin hown hK hP 0 rfl rfl 12 (by decide) hlink (fun _ h9 => h9) rfl hdg kk
theorem x_pi_fl (hx : p.tables.exec = Jvm.exec) (hb : c.code = cc) (hts : ∀ w ∈ Ts, w.before args s = true) (hin : ∀ w ∈ wsX10, w ∈ Ts) (hown : s.vm.findClass RX1 = some m.cls) (hK : va_K D vwCl (xT K) s) (hP : va_P D vwCl (xW O K ad σ) H) (hD : va_D A (xW O K ad σ)) (hS : va_S A H0 H locs) (hlink : (Cond.fieldLink RX1 index "MailRoom" "failures" "I").before args s = true) (hdg : decode cc pc = .ok (.putfield index, 3)) (kk : ∀ (H1 : Heap) (locs1 : List Loc), va_P D vwCl (xW O K ad (xs_fl σ x)) H1 → va_D A (xW O K ad (xs_fl σ x)) → va_S A H0 H1 locs1 → W p l e R s m args below meth c H1 locs1 cells slots Q (F0 m (pc + 3) ls rest)) : W p l e R s m args below meth c H locs cells slots Q (F0 m pc ls (.int x :: .ref (O 0) :: rest)) :=
  va_put (ci := 1) (C := RX1) (T := TX1) (N := 15) (ty := .int) hx hb hts hin tyX1 tyX1_ok nmX1 hown hK hP hD hS 0 rfl rfl 12 (by decide) hlink (fun _ h9 => h9) rfl rfl rfl rfl (Nat.le_of_ble_eq_true rfl) hdg kk
theorem x_gi_bl (hx : p.tables.exec = Jvm.exec) (hb : c.code = cc) (hts : ∀ w ∈ Ts, w.before args s = true) (hin : ∀ w ∈ wsX10, w ∈ Ts) (hown : s.vm.findClass RX1 = some m.cls) (hK : va_K D vwCl (xT K) s) (hP : va_P D vwCl (xW O K ad σ) H) {v : Int32} (hv : x_bl σ = v) (hlink : (Cond.fieldLink RX1 index "MailRoom" "begunForLetter" "I").before args s = true) (hdg : decode cc pc = .ok (.getfield index, 3)) (kk : W p l e R s m args below meth c H locs cells slots Q (F0 m (pc + 3) ls (.int v :: rest))) : W p l e R s m args below meth c H locs cells slots Q (F0 m pc ls (.ref (O 0) :: rest)) := by
  subst hv
  exact va_get (ci := 1) (C := RX1) (T := TX1) (N := 15) hx hb hts hin hown hK hP 0 rfl rfl 13 (by decide) hlink (fun _ h9 => h9) rfl hdg kk
theorem x_pi_bl (hx : p.tables.exec = Jvm.exec) (hb : c.code = cc) (hts : ∀ w ∈ Ts, w.before args s = true) (hin : ∀ w ∈ wsX10, w ∈ Ts) (hown : s.vm.findClass RX1 = some m.cls) (hK : va_K D vwCl (xT K) s) (hP : va_P D vwCl (xW O K ad σ) H) (hD : va_D A (xW O K ad σ)) (hS : va_S A H0 H locs) (hlink : (Cond.fieldLink RX1 index "MailRoom" "begunForLetter" "I").before args s = true) (hdg : decode cc pc = .ok (.putfield index, 3)) (kk : ∀ (H1 : Heap) (locs1 : List Loc), va_P D vwCl (xW O K ad (xs_bl σ x)) H1 → va_D A (xW O K ad (xs_bl σ x)) → va_S A H0 H1 locs1 → W p l e R s m args below meth c H1 locs1 cells slots Q (F0 m (pc + 3) ls rest)) : W p l e R s m args below meth c H locs cells slots Q (F0 m pc ls (.int x :: .ref (O 0) :: rest)) :=
  va_put (ci := 1) (C := RX1) (T := TX1) (N := 15) (ty := .int) hx hb hts hin tyX1 tyX1_ok nmX1 hown hK hP hD hS 0 rfl rfl 13 (by decide) hlink (fun _ h9 => h9) rfl rfl rfl rfl (Nat.le_of_ble_eq_true rfl) hdg kk
theorem x_gi_bic (hx : p.tables.exec = Jvm.exec) (hb : c.code = cc) (hts : ∀ w ∈ Ts, w.before args s = true) (hin : ∀ w ∈ wsX10, w ∈ Ts) (hown : s.vm.findClass RX1 = some m.cls) (hK : va_K D vwCl (xT K) s) (hP : va_P D vwCl (xW O K ad σ) H) {v : Int32} (hv : x_bic σ = v) (hlink : (Cond.fieldLink RX1 index "MailRoom" "begunInCall" "I").before args s = true) (hdg : decode cc pc = .ok (.getfield index, 3)) (kk : W p l e R s m args below meth c H locs cells slots Q (F0 m (pc + 3) ls (.int v :: rest))) : W p l e R s m args below meth c H locs cells slots Q (F0 m pc ls (.ref (O 0) :: rest)) := by
  subst hv
  exact va_get (ci := 1) (C := RX1) (T := TX1) (N := 15) hx hb hts hin hown hK hP 0 rfl rfl 14 (by decide) hlink (fun _ h9 => h9) rfl hdg kk
theorem x_pi_bic (hx : p.tables.exec = Jvm.exec) (hb : c.code = cc) (hts : ∀ w ∈ Ts, w.before args s = true) (hin : ∀ w ∈ wsX10, w ∈ Ts) (hown : s.vm.findClass RX1 = some m.cls) (hK : va_K D vwCl (xT K) s) (hP : va_P D vwCl (xW O K ad σ) H) (hD : va_D A (xW O K ad σ)) (hS : va_S A H0 H locs) (hlink : (Cond.fieldLink RX1 index "MailRoom" "begunInCall" "I").before args s = true) (hdg : decode cc pc = .ok (.putfield index, 3)) (kk : ∀ (H1 : Heap) (locs1 : List Loc), va_P D vwCl (xW O K ad (xs_bic σ x)) H1 → va_D A (xW O K ad (xs_bic σ x)) → va_S A H0 H1 locs1 → W p l e R s m args below meth c H1 locs1 cells slots Q (F0 m (pc + 3) ls rest)) : W p l e R s m args below meth c H locs cells slots Q (F0 m pc ls (.int x :: .ref (O 0) :: rest)) :=
  va_put (ci := 1) (C := RX1) (T := TX1) (N := 15) (ty := .int) hx hb hts hin tyX1 tyX1_ok nmX1 hown hK hP hD hS 0 rfl rfl 14 (by decide) hlink (fun _ h9 => h9) rfl rfl rfl rfl (Nat.le_of_ble_eq_true rfl) hdg kk
theorem x_ld_bs (hx : p.tables.exec = Jvm.exec) (hb : c.code = cc) (hK : va_K D vwCl (xT K) s) (hP : va_P D vwCl (xW O K ad σ) H) {f : Nat → Int64} (hv : x_bs σ = f) (hin : vp_in i 6) (hdg : decode cc pc = .ok (.laload, 1)) (kk : W p l e R s m args below meth c H locs cells slots Q (F0 m (pc + 1) ls (.long (f i.toNatClampNeg) :: rest))) : W p l e R s m args below meth c H locs cells slots Q (F0 m pc ls (.int i :: .ref (O 1) :: rest)) := by
  subst hv
  exact va_lald hx hb hK hP 1 0 rfl rfl hin hdg kk
theorem x_st_bs (hx : p.tables.exec = Jvm.exec) (hb : c.code = cc) (hK : va_K D vwCl (xT K) s) (hP : va_P D vwCl (xW O K ad σ) H) (hD : va_D A (xW O K ad σ)) (hS : va_S A H0 H locs) {f : Nat → Int64} {z : Int64} (hv : x_bs σ = f) (hin : vp_in i 6) (hdg : decode cc pc = .ok (.lastore, 1)) (kk : ∀ (H1 : Heap) (locs1 : List Loc), va_P D vwCl (xW O K ad (xs_bs σ (vp_updL f i.toNatClampNeg z))) H1 → va_D A (xW O K ad (xs_bs σ (vp_updL f i.toNatClampNeg z))) → va_S A H0 H1 locs1 → W p l e R s m args below meth c H1 locs1 cells slots Q (F0 m (pc + 1) ls rest)) : W p l e R s m args below meth c H locs cells slots Q (F0 m pc ls (.long z :: .int i :: .ref (O 1) :: rest)) := by
  subst hv
  exact va_last hx hb hK hP hD hS 1 0 rfl rfl hin hdg kk
theorem x_ld_bc (hx : p.tables.exec = Jvm.exec) (hb : c.code = cc) (hK : va_K D vwCl (xT K) s) (hP : va_P D vwCl (xW O K ad σ) H) {f : Nat → Int32} (hv : x_bc σ = f) (hin : vp_in i 6) (hdg : decode cc pc = .ok (.iaload, 1)) (kk : W p l e R s m args below meth c H locs cells slots Q (F0 m (pc + 1) ls (.int (f i.toNatClampNeg) :: rest))) : W p l e R s m args below meth c H locs cells slots Q (F0 m pc ls (.int i :: .ref (O 2) :: rest)) := by
  subst hv
  exact va_iald hx hb hK hP 2 1 rfl rfl hin hdg kk
theorem x_st_bc (hx : p.tables.exec = Jvm.exec) (hb : c.code = cc) (hK : va_K D vwCl (xT K) s) (hP : va_P D vwCl (xW O K ad σ) H) (hD : va_D A (xW O K ad σ)) (hS : va_S A H0 H locs) {f : Nat → Int32} {z : Int32} (hv : x_bc σ = f) (hin : vp_in i 6) (hdg : decode cc pc = .ok (.iastore, 1)) (kk : ∀ (H1 : Heap) (locs1 : List Loc), va_P D vwCl (xW O K ad (xs_bc σ (upd f i.toNatClampNeg z))) H1 → va_D A (xW O K ad (xs_bc σ (upd f i.toNatClampNeg z))) → va_S A H0 H1 locs1 → W p l e R s m args below meth c H1 locs1 cells slots Q (F0 m (pc + 1) ls rest)) : W p l e R s m args below meth c H locs cells slots Q (F0 m pc ls (.int z :: .int i :: .ref (O 2) :: rest)) := by
  subst hv
  exact va_iast hx hb hK hP hD hS 2 1 rfl rfl hin hdg kk
theorem x_ld_qk (hx : p.tables.exec = Jvm.exec) (hb : c.code = cc) (hK : va_K D vwCl (xT K) s) (hP : va_P D vwCl (xW O K ad σ) H) {f : Nat → Int32} (hv : x_qk σ = f) (hin : vp_in i 40) (hdg : decode cc pc = .ok (.iaload, 1)) (kk : W p l e R s m args below meth c H locs cells slots Q (F0 m (pc + 1) ls (.int (f i.toNatClampNeg) :: rest))) : W p l e R s m args below meth c H locs cells slots Q (F0 m pc ls (.int i :: .ref (O 4) :: rest)) := by
  subst hv
  exact va_iald hx hb hK hP 4 3 rfl rfl hin hdg kk
theorem x_st_qk (hx : p.tables.exec = Jvm.exec) (hb : c.code = cc) (hK : va_K D vwCl (xT K) s) (hP : va_P D vwCl (xW O K ad σ) H) (hD : va_D A (xW O K ad σ)) (hS : va_S A H0 H locs) {f : Nat → Int32} {z : Int32} (hv : x_qk σ = f) (hin : vp_in i 40) (hdg : decode cc pc = .ok (.iastore, 1)) (kk : ∀ (H1 : Heap) (locs1 : List Loc), va_P D vwCl (xW O K ad (xs_qk σ (upd f i.toNatClampNeg z))) H1 → va_D A (xW O K ad (xs_qk σ (upd f i.toNatClampNeg z))) → va_S A H0 H1 locs1 → W p l e R s m args below meth c H1 locs1 cells slots Q (F0 m (pc + 1) ls rest)) : W p l e R s m args below meth c H locs cells slots Q (F0 m pc ls (.int z :: .int i :: .ref (O 4) :: rest)) := by
  subst hv
  exact va_iast hx hb hK hP hD hS 4 3 rfl rfl hin hdg kk
theorem x_ld_qv (hx : p.tables.exec = Jvm.exec) (hb : c.code = cc) (hK : va_K D vwCl (xT K) s) (hP : va_P D vwCl (xW O K ad σ) H) {f : Nat → Int64} (hv : x_qv σ = f) (hin : vp_in i 40) (hdg : decode cc pc = .ok (.laload, 1)) (kk : W p l e R s m args below meth c H locs cells slots Q (F0 m (pc + 1) ls (.long (f i.toNatClampNeg) :: rest))) : W p l e R s m args below meth c H locs cells slots Q (F0 m pc ls (.int i :: .ref (O 5) :: rest)) := by
  subst hv
  exact va_lald hx hb hK hP 5 4 rfl rfl hin hdg kk
theorem x_st_qv (hx : p.tables.exec = Jvm.exec) (hb : c.code = cc) (hK : va_K D vwCl (xT K) s) (hP : va_P D vwCl (xW O K ad σ) H) (hD : va_D A (xW O K ad σ)) (hS : va_S A H0 H locs) {f : Nat → Int64} {z : Int64} (hv : x_qv σ = f) (hin : vp_in i 40) (hdg : decode cc pc = .ok (.lastore, 1)) (kk : ∀ (H1 : Heap) (locs1 : List Loc), va_P D vwCl (xW O K ad (xs_qv σ (vp_updL f i.toNatClampNeg z))) H1 → va_D A (xW O K ad (xs_qv σ (vp_updL f i.toNatClampNeg z))) → va_S A H0 H1 locs1 → W p l e R s m args below meth c H1 locs1 cells slots Q (F0 m (pc + 1) ls rest)) : W p l e R s m args below meth c H locs cells slots Q (F0 m pc ls (.long z :: .int i :: .ref (O 5) :: rest)) := by
  subst hv
  exact va_last hx hb hK hP hD hS 5 4 rfl rfl hin hdg kk
theorem x_ld_fk (hx : p.tables.exec = Jvm.exec) (hb : c.code = cc) (hK : va_K D vwCl (xT K) s) (hP : va_P D vwCl (xW O K ad σ) H) {f : Nat → Int32} (hv : x_fk σ = f) (hin : vp_in i 30) (hdg : decode cc pc = .ok (.iaload, 1)) (kk : W p l e R s m args below meth c H locs cells slots Q (F0 m (pc + 1) ls (.int (f i.toNatClampNeg) :: rest))) : W p l e R s m args below meth c H locs cells slots Q (F0 m pc ls (.int i :: .ref (O 6) :: rest)) := by
  subst hv
  exact va_iald hx hb hK hP 6 5 rfl rfl hin hdg kk
theorem x_st_fk (hx : p.tables.exec = Jvm.exec) (hb : c.code = cc) (hK : va_K D vwCl (xT K) s) (hP : va_P D vwCl (xW O K ad σ) H) (hD : va_D A (xW O K ad σ)) (hS : va_S A H0 H locs) {f : Nat → Int32} {z : Int32} (hv : x_fk σ = f) (hin : vp_in i 30) (hdg : decode cc pc = .ok (.iastore, 1)) (kk : ∀ (H1 : Heap) (locs1 : List Loc), va_P D vwCl (xW O K ad (xs_fk σ (upd f i.toNatClampNeg z))) H1 → va_D A (xW O K ad (xs_fk σ (upd f i.toNatClampNeg z))) → va_S A H0 H1 locs1 → W p l e R s m args below meth c H1 locs1 cells slots Q (F0 m (pc + 1) ls rest)) : W p l e R s m args below meth c H locs cells slots Q (F0 m pc ls (.int z :: .int i :: .ref (O 6) :: rest)) := by
  subst hv
  exact va_iast hx hb hK hP hD hS 6 5 rfl rfl hin hdg kk
theorem x_ld_fn (hx : p.tables.exec = Jvm.exec) (hb : c.code = cc) (hK : va_K D vwCl (xT K) s) (hP : va_P D vwCl (xW O K ad σ) H) {f : Nat → Int32} (hv : x_fn σ = f) (hin : vp_in i 30) (hdg : decode cc pc = .ok (.iaload, 1)) (kk : W p l e R s m args below meth c H locs cells slots Q (F0 m (pc + 1) ls (.int (f i.toNatClampNeg) :: rest))) : W p l e R s m args below meth c H locs cells slots Q (F0 m pc ls (.int i :: .ref (O 7) :: rest)) := by
  subst hv
  exact va_iald hx hb hK hP 7 6 rfl rfl hin hdg kk
theorem x_st_fn (hx : p.tables.exec = Jvm.exec) (hb : c.code = cc) (hK : va_K D vwCl (xT K) s) (hP : va_P D vwCl (xW O K ad σ) H) (hD : va_D A (xW O K ad σ)) (hS : va_S A H0 H locs) {f : Nat → Int32} {z : Int32} (hv : x_fn σ = f) (hin : vp_in i 30) (hdg : decode cc pc = .ok (.iastore, 1)) (kk : ∀ (H1 : Heap) (locs1 : List Loc), va_P D vwCl (xW O K ad (xs_fn σ (upd f i.toNatClampNeg z))) H1 → va_D A (xW O K ad (xs_fn σ (upd f i.toNatClampNeg z))) → va_S A H0 H1 locs1 → W p l e R s m args below meth c H1 locs1 cells slots Q (F0 m (pc + 1) ls rest)) : W p l e R s m args below meth c H locs cells slots Q (F0 m pc ls (.int z :: .int i :: .ref (O 7) :: rest)) := by
  subst hv
  exact va_iast hx hb hK hP hD hS 7 6 rfl rfl hin hdg kk
theorem x_ld_fv (hx : p.tables.exec = Jvm.exec) (hb : c.code = cc) (hK : va_K D vwCl (xT K) s) (hP : va_P D vwCl (xW O K ad σ) H) {f : Nat → Int64} (hv : x_fv σ = f) (hin : vp_in i 30) (hdg : decode cc pc = .ok (.laload, 1)) (kk : W p l e R s m args below meth c H locs cells slots Q (F0 m (pc + 1) ls (.long (f i.toNatClampNeg) :: rest))) : W p l e R s m args below meth c H locs cells slots Q (F0 m pc ls (.int i :: .ref (O 8) :: rest)) := by
  subst hv
  exact va_lald hx hb hK hP 8 7 rfl rfl hin hdg kk
theorem x_st_fv (hx : p.tables.exec = Jvm.exec) (hb : c.code = cc) (hK : va_K D vwCl (xT K) s) (hP : va_P D vwCl (xW O K ad σ) H) (hD : va_D A (xW O K ad σ)) (hS : va_S A H0 H locs) {f : Nat → Int64} {z : Int64} (hv : x_fv σ = f) (hin : vp_in i 30) (hdg : decode cc pc = .ok (.lastore, 1)) (kk : ∀ (H1 : Heap) (locs1 : List Loc), va_P D vwCl (xW O K ad (xs_fv σ (vp_updL f i.toNatClampNeg z))) H1 → va_D A (xW O K ad (xs_fv σ (vp_updL f i.toNatClampNeg z))) → va_S A H0 H1 locs1 → W p l e R s m args below meth c H1 locs1 cells slots Q (F0 m (pc + 1) ls rest)) : W p l e R s m args below meth c H locs cells slots Q (F0 m pc ls (.long z :: .int i :: .ref (O 8) :: rest)) := by
  subst hv
  exact va_last hx hb hK hP hD hS 8 7 rfl rfl hin hdg kk
end XROWS
end
section
theorem qX1_act : yX1_act.cls = RX1 ∧ yX1_act.cls ≠ "java/lang/invoke/MethodHandle" ∧ yX1_act.cls ≠ "java/lang/invoke/VarHandle" ∧ (parseMethodDescriptor yX1_act.desc).map (fun d => d.parameters.length) = some 3 := by decide +kernel
theorem qX1_begin : yX1_begin.cls = RX1 ∧ yX1_begin.cls ≠ "java/lang/invoke/MethodHandle" ∧ yX1_begin.cls ≠ "java/lang/invoke/VarHandle" ∧ (parseMethodDescriptor yX1_begin.desc).map (fun d => d.parameters.length) = some 3 := by decide +kernel
theorem qX1_both : yX1_both.cls = RX1 ∧ yX1_both.cls ≠ "java/lang/invoke/MethodHandle" ∧ yX1_both.cls ≠ "java/lang/invoke/VarHandle" ∧ (parseMethodDescriptor yX1_both.desc).map (fun d => d.parameters.length) = some 3 := by decide +kernel
theorem qX1_count : yX1_count.cls = RX1 ∧ yX1_count.cls ≠ "java/lang/invoke/MethodHandle" ∧ yX1_count.cls ≠ "java/lang/invoke/VarHandle" ∧ (parseMethodDescriptor yX1_count.desc).map (fun d => d.parameters.length) = some 1 := by decide +kernel
theorem qX1_counted : yX1_counted.cls = RX1 ∧ yX1_counted.cls ≠ "java/lang/invoke/MethodHandle" ∧ yX1_counted.cls ≠ "java/lang/invoke/VarHandle" ∧ (parseMethodDescriptor yX1_counted.desc).map (fun d => d.parameters.length) = some 1 := by decide +kernel
theorem qX1_deliver : yX1_deliver.cls = RX1 ∧ yX1_deliver.cls ≠ "java/lang/invoke/MethodHandle" ∧ yX1_deliver.cls ≠ "java/lang/invoke/VarHandle" ∧ (parseMethodDescriptor yX1_deliver.desc).map (fun d => d.parameters.length) = some 2 := by decide +kernel
theorem qX1_drop : yX1_drop.cls = RX1 ∧ yX1_drop.cls ≠ "java/lang/invoke/MethodHandle" ∧ yX1_drop.cls ≠ "java/lang/invoke/VarHandle" ∧ (parseMethodDescriptor yX1_drop.desc).map (fun d => d.parameters.length) = some 1 := by decide +kernel
theorem qX1_enqueue : yX1_enqueue.cls = RX1 ∧ yX1_enqueue.cls ≠ "java/lang/invoke/MethodHandle" ∧ yX1_enqueue.cls ≠ "java/lang/invoke/VarHandle" ∧ (parseMethodDescriptor yX1_enqueue.desc).map (fun d => d.parameters.length) = some 2 := by decide +kernel
theorem qX1_failed : yX1_failed.cls = RX1 ∧ yX1_failed.cls ≠ "java/lang/invoke/MethodHandle" ∧ yX1_failed.cls ≠ "java/lang/invoke/VarHandle" ∧ (parseMethodDescriptor yX1_failed.desc).map (fun d => d.parameters.length) = some 2 := by decide +kernel
theorem qX1_give : yX1_give.cls = RX1 ∧ yX1_give.cls ≠ "java/lang/invoke/MethodHandle" ∧ yX1_give.cls ≠ "java/lang/invoke/VarHandle" ∧ (parseMethodDescriptor yX1_give.desc).map (fun d => d.parameters.length) = some 2 := by decide +kernel
theorem qX1_handle : yX1_handle.cls = RX1 ∧ yX1_handle.cls ≠ "java/lang/invoke/MethodHandle" ∧ yX1_handle.cls ≠ "java/lang/invoke/VarHandle" ∧ (parseMethodDescriptor yX1_handle.desc).map (fun d => d.parameters.length) = some 5 := by decide +kernel
theorem qX1_handlerOf : yX1_handlerOf.cls = RX1 ∧ yX1_handlerOf.cls ≠ "java/lang/invoke/MethodHandle" ∧ yX1_handlerOf.cls ≠ "java/lang/invoke/VarHandle" ∧ (parseMethodDescriptor yX1_handlerOf.desc).map (fun d => d.parameters.length) = some 1 := by decide +kernel
theorem qX1_has : yX1_has.cls = RX1 ∧ yX1_has.cls ≠ "java/lang/invoke/MethodHandle" ∧ yX1_has.cls ≠ "java/lang/invoke/VarHandle" ∧ (parseMethodDescriptor yX1_has.desc).map (fun d => d.parameters.length) = some 1 := by decide +kernel
theorem qX1_isBox : yX1_isBox.cls ≠ "java/lang/invoke/MethodHandle" ∧ yX1_isBox.cls ≠ "java/lang/invoke/VarHandle" ∧ (parseMethodDescriptor yX1_isBox.desc).map (fun d => d.parameters.length) = some 1 := by decide +kernel
theorem qX1_isFailedKept : yX1_isFailedKept.cls = RX1 ∧ yX1_isFailedKept.cls ≠ "java/lang/invoke/MethodHandle" ∧ yX1_isFailedKept.cls ≠ "java/lang/invoke/VarHandle" ∧ (parseMethodDescriptor yX1_isFailedKept.desc).map (fun d => d.parameters.length) = some 1 := by decide +kernel
theorem qX1_isKind : yX1_isKind.cls ≠ "java/lang/invoke/MethodHandle" ∧ yX1_isKind.cls ≠ "java/lang/invoke/VarHandle" ∧ (parseMethodDescriptor yX1_isKind.desc).map (fun d => d.parameters.length) = some 1 := by decide +kernel
theorem qX1_keep : yX1_keep.cls = RX1 ∧ yX1_keep.cls ≠ "java/lang/invoke/MethodHandle" ∧ yX1_keep.cls ≠ "java/lang/invoke/VarHandle" ∧ (parseMethodDescriptor yX1_keep.desc).map (fun d => d.parameters.length) = some 2 := by decide +kernel
theorem qX1_keepAndSend : yX1_keepAndSend.cls = RX1 ∧ yX1_keepAndSend.cls ≠ "java/lang/invoke/MethodHandle" ∧ yX1_keepAndSend.cls ≠ "java/lang/invoke/VarHandle" ∧ (parseMethodDescriptor yX1_keepAndSend.desc).map (fun d => d.parameters.length) = some 2 := by decide +kernel
theorem qX1_keepFailure : yX1_keepFailure.cls = RX1 ∧ yX1_keepFailure.cls ≠ "java/lang/invoke/MethodHandle" ∧ yX1_keepFailure.cls ≠ "java/lang/invoke/VarHandle" ∧ (parseMethodDescriptor yX1_keepFailure.desc).map (fun d => d.parameters.length) = some 3 := by decide +kernel
theorem qX1_limit : yX1_limit.cls = RX1 ∧ yX1_limit.cls ≠ "java/lang/invoke/MethodHandle" ∧ yX1_limit.cls ≠ "java/lang/invoke/VarHandle" ∧ (parseMethodDescriptor yX1_limit.desc).map (fun d => d.parameters.length) = some 3 := by decide +kernel
theorem qX1_mean : yX1_mean.cls = RX1 ∧ yX1_mean.cls ≠ "java/lang/invoke/MethodHandle" ∧ yX1_mean.cls ≠ "java/lang/invoke/VarHandle" ∧ (parseMethodDescriptor yX1_mean.desc).map (fun d => d.parameters.length) = some 3 := by decide +kernel
theorem qX1_namesKnown : yX1_namesKnown.cls ≠ "java/lang/invoke/MethodHandle" ∧ yX1_namesKnown.cls ≠ "java/lang/invoke/VarHandle" ∧ (parseMethodDescriptor yX1_namesKnown.desc).map (fun d => d.parameters.length) = some 3 := by decide +kernel
theorem qX1_noteFailed : yX1_noteFailed.cls = RX1 ∧ yX1_noteFailed.cls ≠ "java/lang/invoke/MethodHandle" ∧ yX1_noteFailed.cls ≠ "java/lang/invoke/VarHandle" ∧ (parseMethodDescriptor yX1_noteFailed.desc).map (fun d => d.parameters.length) = some 3 := by decide +kernel
theorem qX1_once : yX1_once.cls = RX1 ∧ yX1_once.cls ≠ "java/lang/invoke/MethodHandle" ∧ yX1_once.cls ≠ "java/lang/invoke/VarHandle" ∧ (parseMethodDescriptor yX1_once.desc).map (fun d => d.parameters.length) = some 2 := by decide +kernel
theorem qX1_post : yX1_post.cls = RX1 ∧ yX1_post.cls ≠ "java/lang/invoke/MethodHandle" ∧ yX1_post.cls ≠ "java/lang/invoke/VarHandle" ∧ (parseMethodDescriptor yX1_post.desc).map (fun d => d.parameters.length) = some 2 := by decide +kernel
theorem qX1_share : yX1_share.cls = RX1 ∧ yX1_share.cls ≠ "java/lang/invoke/MethodHandle" ∧ yX1_share.cls ≠ "java/lang/invoke/VarHandle" ∧ (parseMethodDescriptor yX1_share.desc).map (fun d => d.parameters.length) = some 2 := by decide +kernel
theorem qX1_sift : yX1_sift.cls = RX1 ∧ yX1_sift.cls ≠ "java/lang/invoke/MethodHandle" ∧ yX1_sift.cls ≠ "java/lang/invoke/VarHandle" ∧ (parseMethodDescriptor yX1_sift.desc).map (fun d => d.parameters.length) = some 3 := by decide +kernel
theorem qX1_sum : yX1_sum.cls = RX1 ∧ yX1_sum.cls ≠ "java/lang/invoke/MethodHandle" ∧ yX1_sum.cls ≠ "java/lang/invoke/VarHandle" ∧ (parseMethodDescriptor yX1_sum.desc).map (fun d => d.parameters.length) = some 1 := by decide +kernel
theorem qX1_take : yX1_take.cls = RX1 ∧ yX1_take.cls ≠ "java/lang/invoke/MethodHandle" ∧ yX1_take.cls ≠ "java/lang/invoke/VarHandle" ∧ (parseMethodDescriptor yX1_take.desc).map (fun d => d.parameters.length) = some 1 := by decide +kernel
theorem qX1_takeFirst : yX1_takeFirst.cls = RX1 ∧ yX1_takeFirst.cls ≠ "java/lang/invoke/MethodHandle" ∧ yX1_takeFirst.cls ≠ "java/lang/invoke/VarHandle" ∧ (parseMethodDescriptor yX1_takeFirst.desc).map (fun d => d.parameters.length) = some 0 := by decide +kernel
theorem qX1_value : yX1_value.cls = RX1 ∧ yX1_value.cls ≠ "java/lang/invoke/MethodHandle" ∧ yX1_value.cls ≠ "java/lang/invoke/VarHandle" ∧ (parseMethodDescriptor yX1_value.desc).map (fun d => d.parameters.length) = some 1 := by decide +kernel
theorem qX2_areKnown : yX2_areKnown.cls ≠ "java/lang/invoke/MethodHandle" ∧ yX2_areKnown.cls ≠ "java/lang/invoke/VarHandle" ∧ (parseMethodDescriptor yX2_areKnown.desc).map (fun d => d.parameters.length) = some 3 := by decide +kernel
theorem qX2_begins : yX2_begins.cls = RX2 ∧ yX2_begins.cls ≠ "java/lang/invoke/MethodHandle" ∧ yX2_begins.cls ≠ "java/lang/invoke/VarHandle" ∧ (parseMethodDescriptor yX2_begins.desc).map (fun d => d.parameters.length) = some 3 := by decide +kernel
theorem qX2_behind : yX2_behind.cls = RX2 ∧ yX2_behind.cls ≠ "java/lang/invoke/MethodHandle" ∧ yX2_behind.cls ≠ "java/lang/invoke/VarHandle" ∧ (parseMethodDescriptor yX2_behind.desc).map (fun d => d.parameters.length) = some 3 := by decide +kernel
theorem qX2_call : yX2_call.cls = RX2 ∧ yX2_call.cls ≠ "java/lang/invoke/MethodHandle" ∧ yX2_call.cls ≠ "java/lang/invoke/VarHandle" ∧ (parseMethodDescriptor yX2_call.desc).map (fun d => d.parameters.length) = some 2 := by decide +kernel
theorem qX2_comes : yX2_comes.cls = RX2 ∧ yX2_comes.cls ≠ "java/lang/invoke/MethodHandle" ∧ yX2_comes.cls ≠ "java/lang/invoke/VarHandle" ∧ (parseMethodDescriptor yX2_comes.desc).map (fun d => d.parameters.length) = some 2 := by decide +kernel
theorem qX2_count : yX2_count.cls = RX2 ∧ yX2_count.cls ≠ "java/lang/invoke/MethodHandle" ∧ yX2_count.cls ≠ "java/lang/invoke/VarHandle" ∧ (parseMethodDescriptor yX2_count.desc).map (fun d => d.parameters.length) = some 1 := by decide +kernel
theorem qX2_counted : yX2_counted.cls = RX2 ∧ yX2_counted.cls ≠ "java/lang/invoke/MethodHandle" ∧ yX2_counted.cls ≠ "java/lang/invoke/VarHandle" ∧ (parseMethodDescriptor yX2_counted.desc).map (fun d => d.parameters.length) = some 1 := by decide +kernel
theorem qX2_drop : yX2_drop.cls = RX2 ∧ yX2_drop.cls ≠ "java/lang/invoke/MethodHandle" ∧ yX2_drop.cls ≠ "java/lang/invoke/VarHandle" ∧ (parseMethodDescriptor yX2_drop.desc).map (fun d => d.parameters.length) = some 1 := by decide +kernel
theorem qX2_ends : yX2_ends.cls = RX2 ∧ yX2_ends.cls ≠ "java/lang/invoke/MethodHandle" ∧ yX2_ends.cls ≠ "java/lang/invoke/VarHandle" ∧ (parseMethodDescriptor yX2_ends.desc).map (fun d => d.parameters.length) = some 1 := by decide +kernel
theorem qX2_failed : yX2_failed.cls = RX2 ∧ yX2_failed.cls ≠ "java/lang/invoke/MethodHandle" ∧ yX2_failed.cls ≠ "java/lang/invoke/VarHandle" ∧ (parseMethodDescriptor yX2_failed.desc).map (fun d => d.parameters.length) = some 2 := by decide +kernel
theorem qX2_falls : yX2_falls.cls = RX2 ∧ yX2_falls.cls ≠ "java/lang/invoke/MethodHandle" ∧ yX2_falls.cls ≠ "java/lang/invoke/VarHandle" ∧ (parseMethodDescriptor yX2_falls.desc).map (fun d => d.parameters.length) = some 2 := by decide +kernel
theorem qX2_give : yX2_give.cls = RX2 ∧ yX2_give.cls ≠ "java/lang/invoke/MethodHandle" ∧ yX2_give.cls ≠ "java/lang/invoke/VarHandle" ∧ (parseMethodDescriptor yX2_give.desc).map (fun d => d.parameters.length) = some 2 := by decide +kernel
theorem qX2_go : yX2_go.cls = RX2 ∧ yX2_go.cls ≠ "java/lang/invoke/MethodHandle" ∧ yX2_go.cls ≠ "java/lang/invoke/VarHandle" ∧ (parseMethodDescriptor yX2_go.desc).map (fun d => d.parameters.length) = some 2 := by decide +kernel
theorem qX2_goOn : yX2_goOn.cls = RX2 ∧ yX2_goOn.cls ≠ "java/lang/invoke/MethodHandle" ∧ yX2_goOn.cls ≠ "java/lang/invoke/VarHandle" ∧ (parseMethodDescriptor yX2_goOn.desc).map (fun d => d.parameters.length) = some 3 := by decide +kernel
theorem qX2_handle : yX2_handle.cls = RX2 ∧ yX2_handle.cls ≠ "java/lang/invoke/MethodHandle" ∧ yX2_handle.cls ≠ "java/lang/invoke/VarHandle" ∧ (parseMethodDescriptor yX2_handle.desc).map (fun d => d.parameters.length) = some 5 := by decide +kernel
theorem qX2_has : yX2_has.cls = RX2 ∧ yX2_has.cls ≠ "java/lang/invoke/MethodHandle" ∧ yX2_has.cls ≠ "java/lang/invoke/VarHandle" ∧ (parseMethodDescriptor yX2_has.desc).map (fun d => d.parameters.length) = some 1 := by decide +kernel
theorem qX2_in : yX2_in.cls ≠ "java/lang/invoke/MethodHandle" ∧ yX2_in.cls ≠ "java/lang/invoke/VarHandle" ∧ (parseMethodDescriptor yX2_in.desc).map (fun d => d.parameters.length) = some 3 := by decide +kernel
theorem qX2_isBox : yX2_isBox.cls ≠ "java/lang/invoke/MethodHandle" ∧ yX2_isBox.cls ≠ "java/lang/invoke/VarHandle" ∧ (parseMethodDescriptor yX2_isBox.desc).map (fun d => d.parameters.length) = some 1 := by decide +kernel
theorem qX2_isKind : yX2_isKind.cls ≠ "java/lang/invoke/MethodHandle" ∧ yX2_isKind.cls ≠ "java/lang/invoke/VarHandle" ∧ (parseMethodDescriptor yX2_isKind.desc).map (fun d => d.parameters.length) = some 1 := by decide +kernel
theorem qX2_keep : yX2_keep.cls = RX2 ∧ yX2_keep.cls ≠ "java/lang/invoke/MethodHandle" ∧ yX2_keep.cls ≠ "java/lang/invoke/VarHandle" ∧ (parseMethodDescriptor yX2_keep.desc).map (fun d => d.parameters.length) = some 2 := by decide +kernel
theorem qX2_post : yX2_post.cls = RX2 ∧ yX2_post.cls ≠ "java/lang/invoke/MethodHandle" ∧ yX2_post.cls ≠ "java/lang/invoke/VarHandle" ∧ (parseMethodDescriptor yX2_post.desc).map (fun d => d.parameters.length) = some 2 := by decide +kernel
theorem qX2_sends : yX2_sends.cls = RX2 ∧ yX2_sends.cls ≠ "java/lang/invoke/MethodHandle" ∧ yX2_sends.cls ≠ "java/lang/invoke/VarHandle" ∧ (parseMethodDescriptor yX2_sends.desc).map (fun d => d.parameters.length) = some 2 := by decide +kernel
theorem qX2_shares : yX2_shares.cls = RX2 ∧ yX2_shares.cls ≠ "java/lang/invoke/MethodHandle" ∧ yX2_shares.cls ≠ "java/lang/invoke/VarHandle" ∧ (parseMethodDescriptor yX2_shares.desc).map (fun d => d.parameters.length) = some 4 := by decide +kernel
theorem qX2_sum : yX2_sum.cls = RX2 ∧ yX2_sum.cls ≠ "java/lang/invoke/MethodHandle" ∧ yX2_sum.cls ≠ "java/lang/invoke/VarHandle" ∧ (parseMethodDescriptor yX2_sum.desc).map (fun d => d.parameters.length) = some 1 := by decide +kernel
theorem qX2_take : yX2_take.cls = RX2 ∧ yX2_take.cls ≠ "java/lang/invoke/MethodHandle" ∧ yX2_take.cls ≠ "java/lang/invoke/VarHandle" ∧ (parseMethodDescriptor yX2_take.desc).map (fun d => d.parameters.length) = some 1 := by decide +kernel
theorem qX2_value : yX2_value.cls = RX2 ∧ yX2_value.cls ≠ "java/lang/invoke/MethodHandle" ∧ yX2_value.cls ≠ "java/lang/invoke/VarHandle" ∧ (parseMethodDescriptor yX2_value.desc).map (fun d => d.parameters.length) = some 1 := by decide +kernel
noncomputable def xf_isKind  (k : Int32) : Int32 := if k < 0 then 0 else (if 10 ≤ k then 0 else 1)
set_option maxRecDepth 100000 in
set_option maxHeartbeats 4000000 in
theorem cx_isKind (l : Launch) (k : Int32) : cS l yX1_isKind wsX1_isKind { frames := 0, cells := 0, slots := 0, locals := 0 } [.int k] (xf_isKind k) := by
  refine z_startS (cc := cX1_isKind) (maxL := 1) (ret := (some .boolean)) (by decide) rfl (Nat.le_of_ble_eq_true rfl) ?_
  intro p e s m below meth c X ls hl
  obtain ⟨hx, hb, hr, hml, hts, hown, hlocks, hnm⟩ := X
  have hown : s.vm.findClass RX1 = some m.cls := hown
  have hl : lv_has ls 1 [(0, .int k)] := hl
  have XX : CallFix p m c cX1_isKind 1 s _ wsX1_isKind RX1 := ⟨hx, hb, hml, hown, hts⟩
  refine lv_iload_n hx hb dX1_isKind_0 rfl (lv_at hl 0 rfl) ?_
  refine lv_if_lt (tgt := 14) hx hb dX1_isKind_1 (by decide) (fun c1 => ?_) (fun c1 => ?_)
  · refine lv_iconst (v := 0) hx hb dX1_isKind_14 (by decide) ?_
    exact z_retS hx hb hr hlocks (rfl) (((if_pos c1).trans (rfl)).symm) dX1_isKind_15
  · refine lv_iload_n hx hb dX1_isKind_4 rfl (lv_at hl 0 rfl) ?_
    refine lv_bipush (v := 10) hx hb dX1_isKind_5 (by decide) ?_
    refine lv_icmp_ge (tgt := 14) hx hb dX1_isKind_7 (by decide) (fun c7 => ?_) (fun c7 => ?_)
    · refine lv_iconst (v := 0) hx hb dX1_isKind_14 (by decide) ?_
      exact z_retS hx hb hr hlocks (rfl) (((if_neg c1).trans ((if_pos c7).trans (rfl))).symm) dX1_isKind_15
    · refine lv_iconst (v := 1) hx hb dX1_isKind_10 (by decide) ?_
      refine lv_goto (tgt := 15) hx hb dX1_isKind_11 (by decide) ?_
      exact z_retS hx hb hr hlocks (rfl) (((if_neg c1).trans ((if_neg c7).trans (rfl))).symm) dX1_isKind_15
theorem nb_xf_isKind (k : Int32) : narrow .boolean (.int (xf_isKind k)) = .int (xf_isKind k) := by
  unfold xf_isKind
  repeat' split
  all_goals first | rfl | exact nb_xf_isBox .. | exact nb_xf_isKind ..
noncomputable def xf_isBox  (b : Int32) : Int32 := if b < 0 then 0 else (if 6 ≤ b then 0 else 1)
set_option maxRecDepth 100000 in
set_option maxHeartbeats 4000000 in
theorem cx_isBox (l : Launch) (b : Int32) : cS l yX1_isBox wsX1_isBox { frames := 0, cells := 0, slots := 0, locals := 0 } [.int b] (xf_isBox b) := by
  refine z_startS (cc := cX1_isBox) (maxL := 1) (ret := (some .boolean)) (by decide) rfl (Nat.le_of_ble_eq_true rfl) ?_
  intro p e s m below meth c X ls hl
  obtain ⟨hx, hb, hr, hml, hts, hown, hlocks, hnm⟩ := X
  have hown : s.vm.findClass RX1 = some m.cls := hown
  have hl : lv_has ls 1 [(0, .int b)] := hl
  have XX : CallFix p m c cX1_isBox 1 s _ wsX1_isBox RX1 := ⟨hx, hb, hml, hown, hts⟩
  refine lv_iload_n hx hb dX1_isBox_0 rfl (lv_at hl 0 rfl) ?_
  refine lv_if_lt (tgt := 14) hx hb dX1_isBox_1 (by decide) (fun c1 => ?_) (fun c1 => ?_)
  · refine lv_iconst (v := 0) hx hb dX1_isBox_14 (by decide) ?_
    exact z_retS hx hb hr hlocks (rfl) (((if_pos c1).trans (rfl)).symm) dX1_isBox_15
  · refine lv_iload_n hx hb dX1_isBox_4 rfl (lv_at hl 0 rfl) ?_
    refine lv_bipush (v := 6) hx hb dX1_isBox_5 (by decide) ?_
    refine lv_icmp_ge (tgt := 14) hx hb dX1_isBox_7 (by decide) (fun c7 => ?_) (fun c7 => ?_)
    · refine lv_iconst (v := 0) hx hb dX1_isBox_14 (by decide) ?_
      exact z_retS hx hb hr hlocks (rfl) (((if_neg c1).trans ((if_pos c7).trans (rfl))).symm) dX1_isBox_15
    · refine lv_iconst (v := 1) hx hb dX1_isBox_10 (by decide) ?_
      refine lv_goto (tgt := 15) hx hb dX1_isBox_11 (by decide) ?_
      exact z_retS hx hb hr hlocks (rfl) (((if_neg c1).trans ((if_neg c7).trans (rfl))).symm) dX1_isBox_15
theorem nb_xf_isBox (b : Int32) : narrow .boolean (.int (xf_isBox b)) = .int (xf_isBox b) := by
  unfold xf_isBox
  repeat' split
  all_goals first | rfl | exact nb_xf_isBox .. | exact nb_xf_isKind ..
noncomputable def xf_namesKnown  (sort : Int32) (a : Int32) (b : Int32) : Int32 := if sort = 0 then (xf_isBox a) else (if sort = 1 then (xf_isKind a) else (if sort = 2 then (xf_isKind a) else (if sort = 3 then (xf_isKind a) else (if sort = 4 then 1 else (if sort = 5 then 1 else (if sort = 6 then (xf_isBox a) else (if sort = 7 then (xf_isKind a) else (if sort = 8 then (if (xf_isBox a) = 0 then 0 else (if (xf_isBox b) = 0 then 0 else 1)) else (if sort = 9 then 1 else (if sort = 10 then (xf_isBox a) else (if sort = 11 then (xf_isBox a) else 1)))))))))))
set_option maxRecDepth 100000 in
set_option maxHeartbeats 4000000 in
theorem cx_namesKnown (l : Launch) (sort : Int32) (a : Int32) (b : Int32) : cS l yX1_namesKnown wsX1_namesKnown { frames := 1, cells := 0, slots := 0, locals := 100 } [.int sort, .int a, .int b] (xf_namesKnown sort a b) := by
  refine z_startS (cc := cX1_namesKnown) (maxL := 3) (ret := (some .boolean)) (by decide) rfl (Nat.le_of_ble_eq_true rfl) ?_
  intro p e s m below meth c X ls hl
  obtain ⟨hx, hb, hr, hml, hts, hown, hlocks, hnm⟩ := X
  have hown : s.vm.findClass RX1 = some m.cls := hown
  have hl : lv_has ls 3 [(0, .int sort), (1, .int a), (2, .int b)] := hl
  have XX : CallFix p m c cX1_namesKnown 3 s _ wsX1_namesKnown RX1 := ⟨hx, hb, hml, hown, hts⟩
  refine lv_iload_n hx hb dX1_namesKnown_0 rfl (lv_at hl 0 rfl) ?_
  by_cases t1_0 : sort = 0
  · refine lv_tableIn (off := 63) (tgt := 64) hx hb dX1_namesKnown_1 (by rw [t1_0]; decide) (by rw [t1_0]; decide) (by rw [t1_0]; rfl) (by decide) ?_
    refine lv_iload_n hx hb dX1_namesKnown_64 rfl (lv_at hl 1 rfl) ?_
    refine z_calls (As := [.int a]) (rest := []) XX (cx_isBox l a) (va_cwS 1 hts gX1_namesKnown_X1_isBox rfl rfl rfl qX1_isBox ⟨by decide, by decide⟩) rfl hl.1 rfl (Nat.le_of_ble_eq_true rfl) dX1_namesKnown_65 ⟨Nat.zero_le _, Nat.zero_le _⟩ ?_
    exact z_retS hx hb hr hlocks (nb_xf_isBox ..) (((if_pos t1_0).trans (rfl)).symm) dX1_namesKnown_68
  · by_cases t1_1 : sort = 1
    · refine lv_tableIn (off := 88) (tgt := 89) hx hb dX1_namesKnown_1 (by rw [t1_1]; decide) (by rw [t1_1]; decide) (by rw [t1_1]; rfl) (by decide) ?_
      refine lv_iload_n hx hb dX1_namesKnown_89 rfl (lv_at hl 1 rfl) ?_
      refine z_calls (As := [.int a]) (rest := []) XX (cx_isKind l a) (va_cwS 1 hts gX1_namesKnown_X1_isKind rfl rfl rfl qX1_isKind ⟨by decide, by decide⟩) rfl hl.1 rfl (Nat.le_of_ble_eq_true rfl) dX1_namesKnown_90 ⟨Nat.zero_le _, Nat.zero_le _⟩ ?_
      exact z_retS hx hb hr hlocks (nb_xf_isKind ..) (((if_neg t1_0).trans ((if_pos t1_1).trans (rfl))).symm) dX1_namesKnown_93
    · by_cases t1_2 : sort = 2
      · refine lv_tableIn (off := 88) (tgt := 89) hx hb dX1_namesKnown_1 (by rw [t1_2]; decide) (by rw [t1_2]; decide) (by rw [t1_2]; rfl) (by decide) ?_
        refine lv_iload_n hx hb dX1_namesKnown_89 rfl (lv_at hl 1 rfl) ?_
        refine z_calls (As := [.int a]) (rest := []) XX (cx_isKind l a) (va_cwS 1 hts gX1_namesKnown_X1_isKind rfl rfl rfl qX1_isKind ⟨by decide, by decide⟩) rfl hl.1 rfl (Nat.le_of_ble_eq_true rfl) dX1_namesKnown_90 ⟨Nat.zero_le _, Nat.zero_le _⟩ ?_
        exact z_retS hx hb hr hlocks (nb_xf_isKind ..) (((if_neg t1_0).trans ((if_neg t1_1).trans ((if_pos t1_2).trans (rfl)))).symm) dX1_namesKnown_93
      · by_cases t1_3 : sort = 3
        · refine lv_tableIn (off := 88) (tgt := 89) hx hb dX1_namesKnown_1 (by rw [t1_3]; decide) (by rw [t1_3]; decide) (by rw [t1_3]; rfl) (by decide) ?_
          refine lv_iload_n hx hb dX1_namesKnown_89 rfl (lv_at hl 1 rfl) ?_
          refine z_calls (As := [.int a]) (rest := []) XX (cx_isKind l a) (va_cwS 1 hts gX1_namesKnown_X1_isKind rfl rfl rfl qX1_isKind ⟨by decide, by decide⟩) rfl hl.1 rfl (Nat.le_of_ble_eq_true rfl) dX1_namesKnown_90 ⟨Nat.zero_le _, Nat.zero_le _⟩ ?_
          exact z_retS hx hb hr hlocks (nb_xf_isKind ..) (((if_neg t1_0).trans ((if_neg t1_1).trans ((if_neg t1_2).trans ((if_pos t1_3).trans (rfl))))).symm) dX1_namesKnown_93
        · by_cases t1_4 : sort = 4
          · refine lv_tableIn (off := 93) (tgt := 94) hx hb dX1_namesKnown_1 (by rw [t1_4]; decide) (by rw [t1_4]; decide) (by rw [t1_4]; rfl) (by decide) ?_
            refine lv_iconst (v := 1) hx hb dX1_namesKnown_94 (by decide) ?_
            exact z_retS hx hb hr hlocks (rfl) (((if_neg t1_0).trans ((if_neg t1_1).trans ((if_neg t1_2).trans ((if_neg t1_3).trans ((if_pos t1_4).trans (rfl)))))).symm) dX1_namesKnown_95
          · by_cases t1_5 : sort = 5
            · refine lv_tableIn (off := 93) (tgt := 94) hx hb dX1_namesKnown_1 (by rw [t1_5]; decide) (by rw [t1_5]; decide) (by rw [t1_5]; rfl) (by decide) ?_
              refine lv_iconst (v := 1) hx hb dX1_namesKnown_94 (by decide) ?_
              exact z_retS hx hb hr hlocks (rfl) (((if_neg t1_0).trans ((if_neg t1_1).trans ((if_neg t1_2).trans ((if_neg t1_3).trans ((if_neg t1_4).trans ((if_pos t1_5).trans (rfl))))))).symm) dX1_namesKnown_95
            · by_cases t1_6 : sort = 6
              · refine lv_tableIn (off := 63) (tgt := 64) hx hb dX1_namesKnown_1 (by rw [t1_6]; decide) (by rw [t1_6]; decide) (by rw [t1_6]; rfl) (by decide) ?_
                refine lv_iload_n hx hb dX1_namesKnown_64 rfl (lv_at hl 1 rfl) ?_
                refine z_calls (As := [.int a]) (rest := []) XX (cx_isBox l a) (va_cwS 1 hts gX1_namesKnown_X1_isBox rfl rfl rfl qX1_isBox ⟨by decide, by decide⟩) rfl hl.1 rfl (Nat.le_of_ble_eq_true rfl) dX1_namesKnown_65 ⟨Nat.zero_le _, Nat.zero_le _⟩ ?_
                exact z_retS hx hb hr hlocks (nb_xf_isBox ..) (((if_neg t1_0).trans ((if_neg t1_1).trans ((if_neg t1_2).trans ((if_neg t1_3).trans ((if_neg t1_4).trans ((if_neg t1_5).trans ((if_pos t1_6).trans (rfl)))))))).symm) dX1_namesKnown_68
              · by_cases t1_7 : sort = 7
                · refine lv_tableIn (off := 88) (tgt := 89) hx hb dX1_namesKnown_1 (by rw [t1_7]; decide) (by rw [t1_7]; decide) (by rw [t1_7]; rfl) (by decide) ?_
                  refine lv_iload_n hx hb dX1_namesKnown_89 rfl (lv_at hl 1 rfl) ?_
                  refine z_calls (As := [.int a]) (rest := []) XX (cx_isKind l a) (va_cwS 1 hts gX1_namesKnown_X1_isKind rfl rfl rfl qX1_isKind ⟨by decide, by decide⟩) rfl hl.1 rfl (Nat.le_of_ble_eq_true rfl) dX1_namesKnown_90 ⟨Nat.zero_le _, Nat.zero_le _⟩ ?_
                  exact z_retS hx hb hr hlocks (nb_xf_isKind ..) (((if_neg t1_0).trans ((if_neg t1_1).trans ((if_neg t1_2).trans ((if_neg t1_3).trans ((if_neg t1_4).trans ((if_neg t1_5).trans ((if_neg t1_6).trans ((if_pos t1_7).trans (rfl))))))))).symm) dX1_namesKnown_93
                · by_cases t1_8 : sort = 8
                  · refine lv_tableIn (off := 68) (tgt := 69) hx hb dX1_namesKnown_1 (by rw [t1_8]; decide) (by rw [t1_8]; decide) (by rw [t1_8]; rfl) (by decide) ?_
                    refine lv_iload_n hx hb dX1_namesKnown_69 rfl (lv_at hl 1 rfl) ?_
                    refine z_calls (As := [.int a]) (rest := []) XX (cx_isBox l a) (va_cwS 1 hts gX1_namesKnown_X1_isBox rfl rfl rfl qX1_isBox ⟨by decide, by decide⟩) rfl hl.1 rfl (Nat.le_of_ble_eq_true rfl) dX1_namesKnown_70 ⟨Nat.zero_le _, Nat.zero_le _⟩ ?_
                    refine lv_if_eq (tgt := 87) hx hb dX1_namesKnown_73 (by decide) (fun c73 => ?_) (fun c73 => ?_)
                    · refine lv_iconst (v := 0) hx hb dX1_namesKnown_87 (by decide) ?_
                      exact z_retS hx hb hr hlocks (rfl) (((if_neg t1_0).trans ((if_neg t1_1).trans ((if_neg t1_2).trans ((if_neg t1_3).trans ((if_neg t1_4).trans ((if_neg t1_5).trans ((if_neg t1_6).trans ((if_neg t1_7).trans ((if_pos t1_8).trans ((if_pos c73).trans (rfl))))))))))).symm) dX1_namesKnown_88
                    · refine lv_iload_n hx hb dX1_namesKnown_76 rfl (lv_at hl 2 rfl) ?_
                      refine z_calls (As := [.int b]) (rest := []) XX (cx_isBox l b) (va_cwS 1 hts gX1_namesKnown_X1_isBox rfl rfl rfl qX1_isBox ⟨by decide, by decide⟩) rfl hl.1 rfl (Nat.le_of_ble_eq_true rfl) dX1_namesKnown_77 ⟨Nat.zero_le _, Nat.zero_le _⟩ ?_
                      refine lv_if_eq (tgt := 87) hx hb dX1_namesKnown_80 (by decide) (fun c80 => ?_) (fun c80 => ?_)
                      · refine lv_iconst (v := 0) hx hb dX1_namesKnown_87 (by decide) ?_
                        exact z_retS hx hb hr hlocks (rfl) (((if_neg t1_0).trans ((if_neg t1_1).trans ((if_neg t1_2).trans ((if_neg t1_3).trans ((if_neg t1_4).trans ((if_neg t1_5).trans ((if_neg t1_6).trans ((if_neg t1_7).trans ((if_pos t1_8).trans ((if_neg c73).trans ((if_pos c80).trans (rfl)))))))))))).symm) dX1_namesKnown_88
                      · refine lv_iconst (v := 1) hx hb dX1_namesKnown_83 (by decide) ?_
                        refine lv_goto (tgt := 88) hx hb dX1_namesKnown_84 (by decide) ?_
                        exact z_retS hx hb hr hlocks (rfl) (((if_neg t1_0).trans ((if_neg t1_1).trans ((if_neg t1_2).trans ((if_neg t1_3).trans ((if_neg t1_4).trans ((if_neg t1_5).trans ((if_neg t1_6).trans ((if_neg t1_7).trans ((if_pos t1_8).trans ((if_neg c73).trans ((if_neg c80).trans (rfl)))))))))))).symm) dX1_namesKnown_88
                  · by_cases t1_9 : sort = 9
                    · refine lv_tableIn (off := 93) (tgt := 94) hx hb dX1_namesKnown_1 (by rw [t1_9]; decide) (by rw [t1_9]; decide) (by rw [t1_9]; rfl) (by decide) ?_
                      refine lv_iconst (v := 1) hx hb dX1_namesKnown_94 (by decide) ?_
                      exact z_retS hx hb hr hlocks (rfl) (((if_neg t1_0).trans ((if_neg t1_1).trans ((if_neg t1_2).trans ((if_neg t1_3).trans ((if_neg t1_4).trans ((if_neg t1_5).trans ((if_neg t1_6).trans ((if_neg t1_7).trans ((if_neg t1_8).trans ((if_pos t1_9).trans (rfl))))))))))).symm) dX1_namesKnown_95
                    · by_cases t1_10 : sort = 10
                      · refine lv_tableIn (off := 63) (tgt := 64) hx hb dX1_namesKnown_1 (by rw [t1_10]; decide) (by rw [t1_10]; decide) (by rw [t1_10]; rfl) (by decide) ?_
                        refine lv_iload_n hx hb dX1_namesKnown_64 rfl (lv_at hl 1 rfl) ?_
                        refine z_calls (As := [.int a]) (rest := []) XX (cx_isBox l a) (va_cwS 1 hts gX1_namesKnown_X1_isBox rfl rfl rfl qX1_isBox ⟨by decide, by decide⟩) rfl hl.1 rfl (Nat.le_of_ble_eq_true rfl) dX1_namesKnown_65 ⟨Nat.zero_le _, Nat.zero_le _⟩ ?_
                        exact z_retS hx hb hr hlocks (nb_xf_isBox ..) (((if_neg t1_0).trans ((if_neg t1_1).trans ((if_neg t1_2).trans ((if_neg t1_3).trans ((if_neg t1_4).trans ((if_neg t1_5).trans ((if_neg t1_6).trans ((if_neg t1_7).trans ((if_neg t1_8).trans ((if_neg t1_9).trans ((if_pos t1_10).trans (rfl)))))))))))).symm) dX1_namesKnown_68
                      · by_cases t1_11 : sort = 11
                        · refine lv_tableIn (off := 63) (tgt := 64) hx hb dX1_namesKnown_1 (by rw [t1_11]; decide) (by rw [t1_11]; decide) (by rw [t1_11]; rfl) (by decide) ?_
                          refine lv_iload_n hx hb dX1_namesKnown_64 rfl (lv_at hl 1 rfl) ?_
                          refine z_calls (As := [.int a]) (rest := []) XX (cx_isBox l a) (va_cwS 1 hts gX1_namesKnown_X1_isBox rfl rfl rfl qX1_isBox ⟨by decide, by decide⟩) rfl hl.1 rfl (Nat.le_of_ble_eq_true rfl) dX1_namesKnown_65 ⟨Nat.zero_le _, Nat.zero_le _⟩ ?_
                          exact z_retS hx hb hr hlocks (nb_xf_isBox ..) (((if_neg t1_0).trans ((if_neg t1_1).trans ((if_neg t1_2).trans ((if_neg t1_3).trans ((if_neg t1_4).trans ((if_neg t1_5).trans ((if_neg t1_6).trans ((if_neg t1_7).trans ((if_neg t1_8).trans ((if_neg t1_9).trans ((if_neg t1_10).trans ((if_pos t1_11).trans (rfl))))))))))))).symm) dX1_namesKnown_68
                        · refine lv_tableOut (tgt := 94) hx hb dX1_namesKnown_1 (z_out 11 (by decide) (fun k hk => match k, hk with | 0, _ => t1_0 | 1, _ => t1_1 | 2, _ => t1_2 | 3, _ => t1_3 | 4, _ => t1_4 | 5, _ => t1_5 | 6, _ => t1_6 | 7, _ => t1_7 | 8, _ => t1_8 | 9, _ => t1_9 | 10, _ => t1_10 | 11, _ => t1_11 | (k + 12), hk => absurd hk (by omega))) (by decide) ?_
                          refine lv_iconst (v := 1) hx hb dX1_namesKnown_94 (by decide) ?_
                          exact z_retS hx hb hr hlocks (rfl) (((if_neg t1_0).trans ((if_neg t1_1).trans ((if_neg t1_2).trans ((if_neg t1_3).trans ((if_neg t1_4).trans ((if_neg t1_5).trans ((if_neg t1_6).trans ((if_neg t1_7).trans ((if_neg t1_8).trans ((if_neg t1_9).trans ((if_neg t1_10).trans ((if_neg t1_11).trans (rfl))))))))))))).symm) dX1_namesKnown_95
theorem nb_xf_namesKnown (sort : Int32) (a : Int32) (b : Int32) : narrow .boolean (.int (xf_namesKnown sort a b)) = .int (xf_namesKnown sort a b) := by
  unfold xf_namesKnown
  repeat' split
  all_goals first | rfl | exact nb_xf_isBox .. | exact nb_xf_isKind ..
theorem xbox_in {b : Int32} (h : ¬ xf_isBox b = 0) : vp_in b 6 := by
  unfold xf_isBox at h
  by_cases h0 : b < 0
  · rw [if_pos h0] at h; exact absurd rfl h
  · rw [if_neg h0] at h
    by_cases h1 : 6 ≤ b
    · rw [if_pos h1] at h; exact absurd rfl h
    · exact z_in (M := 6) rfl (by decide) h0 h1
theorem xkind_in {b : Int32} (h : ¬ xf_isKind b = 0) : vp_in b 10 := by
  unfold xf_isKind at h
  by_cases h0 : b < 0
  · rw [if_pos h0] at h; exact absurd rfl h
  · rw [if_neg h0] at h
    by_cases h1 : 10 ≤ b
    · rw [if_pos h1] at h; exact absurd rfl h
    · exact z_in (M := 10) rfl (by decide) h0 h1
theorem z_ltn {x y : Int32} (h : x < y) : ¬ y ≤ x := by
  rw [Int32.lt_iff_toInt_lt] at h
  rw [Int32.le_iff_toInt_le]
  omega
theorem z_le0 {x : Int32} (h : 0 ≤ x) : ¬ x < 0 := by
  rw [Int32.le_iff_toInt_le] at h
  rw [Int32.lt_iff_toInt_lt]
  omega
theorem x_lt40 {x : Int32} (h0 : ¬ x < 0) (h1 : x < 40) : vp_in x 40 := z_in (M := 40) rfl (by decide) h0 (z_ltn h1)
theorem x_lt30 {x : Int32} (h0 : ¬ x < 0) (h1 : ¬ 30 ≤ x) : vp_in x 30 := z_in (M := 30) rfl (by decide) h0 h1
theorem z_tdiv (a : Int) : (0 ≤ a → 40 * a.tdiv 40 ≤ a ∧ a < 40 * a.tdiv 40 + 40) ∧ (a < 0 → a ≤ 40 * a.tdiv 40 ∧ 40 * a.tdiv 40 < a + 40) := by
  constructor
  · intro h
    rw [Int.tdiv_eq_ediv_of_nonneg h]
    omega
  · intro h
    have e : a.tdiv 40 = -((-a) / 40) := by
      rw [← Int.tdiv_eq_ediv_of_nonneg (by omega : 0 ≤ -a), Int.neg_tdiv, Int.neg_neg]
    rw [e]
    omega
theorem x_rem40 {y : Int32} (h : 0 ≤ y - y / 40 * 40) : vp_in (y - y / 40 * 40) 40 := by
  have e40 : (40 : Int32).toInt = 40 := by decide
  have h0 : (0 : Int32).toInt = 0 := by decide
  have hq : (y / 40).toInt = y.toInt.tdiv 40 := by rw [Int32.toInt_div_of_ne_right _ _ (by decide), e40]
  have hlo := Int32.le_toInt y
  have hhi := Int32.toInt_lt y
  have hk := z_tdiv y.toInt
  rw [vp_in_iff]
  rw [Int32.le_iff_toInt_le, h0] at h
  have hm : (y / 40 * 40).toInt = y.toInt.tdiv 40 * 40 := by
    rw [Int32.toInt_mul, hq, e40]
    exact Int.bmod_eq_of_le (by omega) (by omega)
  have hs : (y - y / 40 * 40).toInt = y.toInt - y.toInt.tdiv 40 * 40 := by
    rw [Int32.toInt_sub, hm]
    exact Int.bmod_eq_of_le (by omega) (by omega)
  rw [hs] at h ⊢
  omega
theorem z_l0 {x y : Int64} (h : ¬ lg_cmp x y = 0) : ¬ x = y := by
  intro e
  subst e
  exact h (by simp [lg_cmp])
theorem z_i0 {x : Int32} (h : ¬ x = 0) : ¬ x.toInt64 = 0 := by
  intro e
  apply h
  have := congrArg Int64.toInt e
  rw [Int32.toInt_toInt64] at this
  exact Int32.toInt_inj.mp this
end
section
noncomputable def xf_isFailedKept  (i : Int32) (σ : SX) : Int32 := if i < 0 then 0 else (if 30 ≤ i then 0 else (if (x_fl σ) ≤ i then 0 else 1))
set_option maxRecDepth 100000 in
set_option maxHeartbeats 4000000 in
theorem cx_isFailedKept (l : Launch) (D : va_G) (O : Nat → Nat) (K : Nat → ClassId) (ad : Nat → Nat) (i : Int32) (σ : SX)  : cI l yX1_isFailedKept wsX1_isFailedKept { frames := 0, cells := 0, slots := 0, locals := 0 } 0 0 D (xT K) (xW O K ad) σ [.ref (O 0), .int i] ((xf_isFailedKept i σ), σ) := by
  intro sz
  refine z_start (cc := cX1_isFailedKept) (maxL := 2) (ret := (some .boolean)) (Qc := fun A => va_Qi (fun r9 u9 => r9 = ((xf_isFailedKept i σ), σ).1 ∧ u9 = ((xf_isFailedKept i σ), σ).2) (zB D (xT K) (xW O K ad) A) A) sz (by decide) rfl (Nat.le_of_ble_eq_true rfl) ?_
  intro p e s m below meth c A X hA hK hP hD hS ls hl
  obtain ⟨hx, hb, hr, hml, hts, hown, hlocks, hnm⟩ := X
  have hown : s.vm.findClass RX1 = some m.cls := hown
  have hl : lv_has ls 2 [(0, .ref (O 0)), (1, .int i)] := hl
  have inW : ∀ w ∈ wsX10, w ∈ wsX1_isFailedKept := fun w h => List.mem_cons_of_mem _ (List.mem_append_right _ h)
  have XX : CallFix p m c cX1_isFailedKept 2 s _ wsX1_isFailedKept RX1 := ⟨hx, hb, hml, hown, hts⟩
  have k84 := hts (.fieldLink RX1 84 "MailRoom" "failures" "I") (List.mem_of_getElem? (i := 1) rfl)
  refine lv_iload_n hx hb dX1_isFailedKept_0 rfl (lv_at hl 1 rfl) ?_
  refine lv_if_lt (tgt := 22) hx hb dX1_isFailedKept_1 (by decide) (fun c1 => ?_) (fun c1 => ?_)
  · refine lv_iconst (v := 0) hx hb dX1_isFailedKept_22 (by decide) ?_
    exact z_reti hx hb hr hlocks rfl hK hP hD hS (congrArg (fun x => (x, σ)) ((if_pos c1).trans (rfl))) dX1_isFailedKept_23
  · refine lv_iload_n hx hb dX1_isFailedKept_4 rfl (lv_at hl 1 rfl) ?_
    refine lv_bipush (v := 30) hx hb dX1_isFailedKept_5 (by decide) ?_
    refine lv_icmp_ge (tgt := 22) hx hb dX1_isFailedKept_7 (by decide) (fun c7 => ?_) (fun c7 => ?_)
    · refine lv_iconst (v := 0) hx hb dX1_isFailedKept_22 (by decide) ?_
      exact z_reti hx hb hr hlocks rfl hK hP hD hS (congrArg (fun x => (x, σ)) ((if_neg c1).trans ((if_pos c7).trans (rfl)))) dX1_isFailedKept_23
    · refine lv_iload_n hx hb dX1_isFailedKept_10 rfl (lv_at hl 1 rfl) ?_
      refine lv_aload_n hx hb dX1_isFailedKept_11 rfl (lv_at hl 0 rfl) ?_
      refine x_gi_fl (v := (x_fl σ)) hx hb hts inW hown hK hP (rfl) k84 dX1_isFailedKept_12 ?_
      refine lv_icmp_ge (tgt := 22) hx hb dX1_isFailedKept_15 (by decide) (fun c15 => ?_) (fun c15 => ?_)
      · refine lv_iconst (v := 0) hx hb dX1_isFailedKept_22 (by decide) ?_
        exact z_reti hx hb hr hlocks rfl hK hP hD hS (congrArg (fun x => (x, σ)) ((if_neg c1).trans ((if_neg c7).trans ((if_pos c15).trans (rfl))))) dX1_isFailedKept_23
      · refine lv_iconst (v := 1) hx hb dX1_isFailedKept_18 (by decide) ?_
        refine lv_goto (tgt := 23) hx hb dX1_isFailedKept_19 (by decide) ?_
        exact z_reti hx hb hr hlocks rfl hK hP hD hS (congrArg (fun x => (x, σ)) ((if_neg c1).trans ((if_neg c7).trans ((if_neg c15).trans (rfl))))) dX1_isFailedKept_23
noncomputable def xf_handlerOf  (k : Int32) (σ : SX) : Option Nat := if (xf_isKind k) = 0 then none else ((x_hd σ) k.toNatClampNeg)
set_option maxRecDepth 100000 in
set_option maxHeartbeats 4000000 in
theorem cx_handlerOf (l : Launch) (D : va_G) (O : Nat → Nat) (K : Nat → ClassId) (ad : Nat → Nat) (k : Int32) (σ : SX)  : cQ ad l yX1_handlerOf wsX1_handlerOf { frames := 1, cells := 0, slots := 0, locals := 100 } 0 0 D (xT K) (xW O K ad) σ [.ref (O 0), .int k] ((xf_handlerOf k σ), σ) := by
  intro sz
  refine z_start (cc := cX1_handlerOf) (maxL := 2) (ret := (some (.object "MailRoom$Handler"))) (Qc := fun A => va_Qq (fun r9 u9 => r9 = ((xf_handlerOf k σ), σ).1.map ad ∧ u9 = ((xf_handlerOf k σ), σ).2) (zB D (xT K) (xW O K ad) A) A) sz (by decide) rfl (Nat.le_of_ble_eq_true rfl) ?_
  intro p e s m below meth c A X hA hK hP hD hS ls hl
  obtain ⟨hx, hb, hr, hml, hts, hown, hlocks, hnm⟩ := X
  have hown : s.vm.findClass RX1 = some m.cls := hown
  have hl : lv_has ls 2 [(0, .ref (O 0)), (1, .int k)] := hl
  have inW : ∀ w ∈ wsX10, w ∈ wsX1_handlerOf := fun w h => List.mem_cons_of_mem _ (List.mem_append_right _ h)
  have XX : CallFix p m c cX1_handlerOf 2 s _ wsX1_handlerOf RX1 := ⟨hx, hb, hml, hown, hts⟩
  have k19 := hts (.fieldLink RX1 19 "MailRoom" "handlers" "[LMailRoom$Handler;") (List.mem_of_getElem? (i := 1) rfl)
  refine lv_iload_n hx hb dX1_handlerOf_0 rfl (lv_at hl 1 rfl) ?_
  refine z_calls (As := [.int k]) (rest := []) XX (cx_isKind l k) (va_cwS 1 hts gX1_handlerOf_X1_isKind rfl rfl rfl qX1_isKind ⟨by decide, by decide⟩) rfl hl.1 rfl (Nat.le_of_ble_eq_true rfl) dX1_handlerOf_1 ⟨Nat.zero_le _, Nat.zero_le _⟩ ?_
  refine lv_if_eq (tgt := 16) hx hb dX1_handlerOf_4 (by decide) (fun c4 => ?_) (fun c4 => ?_)
  · refine z_null ad hx hb dX1_handlerOf_16 ?_
    exact z_retq hx hb hr hlocks hK hP hD hS (congrArg (fun x => (x, σ)) ((if_pos c4).trans (rfl))) dX1_handlerOf_17
  · refine lv_aload_n hx hb dX1_handlerOf_7 rfl (lv_at hl 0 rfl) ?_
    refine x_ga_3 hx hb hts inW hown hK hP k19 dX1_handlerOf_8 ?_
    refine lv_iload_n hx hb dX1_handlerOf_11 rfl (lv_at hl 1 rfl) ?_
    refine x_aldH hx hb hK hP (i := k) (xkind_in (by assumption)) dX1_handlerOf_12 ?_
    refine lv_goto (tgt := 17) hx hb dX1_handlerOf_13 (by decide) ?_
    exact z_retq hx hb hr hlocks hK hP hD hS (congrArg (fun x => (x, σ)) ((if_neg c4).trans (rfl))) dX1_handlerOf_17
noncomputable def xf_has  (k : Int32) (σ : SX) : Int32 := if (xf_isKind k) = 0 then (-2) else (if ((x_hd σ) k.toNatClampNeg) = none then 0 else 1)
set_option maxRecDepth 100000 in
set_option maxHeartbeats 4000000 in
theorem cx_has (l : Launch) (D : va_G) (O : Nat → Nat) (K : Nat → ClassId) (ad : Nat → Nat) (k : Int32) (σ : SX)  : cI l yX1_has wsX1_has { frames := 1, cells := 0, slots := 0, locals := 100 } 0 0 D (xT K) (xW O K ad) σ [.ref (O 0), .int k] ((xf_has k σ), σ) := by
  intro sz
  refine z_start (cc := cX1_has) (maxL := 2) (ret := (some .int)) (Qc := fun A => va_Qi (fun r9 u9 => r9 = ((xf_has k σ), σ).1 ∧ u9 = ((xf_has k σ), σ).2) (zB D (xT K) (xW O K ad) A) A) sz (by decide) rfl (Nat.le_of_ble_eq_true rfl) ?_
  intro p e s m below meth c A X hA hK hP hD hS ls hl
  obtain ⟨hx, hb, hr, hml, hts, hown, hlocks, hnm⟩ := X
  have hown : s.vm.findClass RX1 = some m.cls := hown
  have hl : lv_has ls 2 [(0, .ref (O 0)), (1, .int k)] := hl
  have inW : ∀ w ∈ wsX10, w ∈ wsX1_has := fun w h => List.mem_cons_of_mem _ (List.mem_append_right _ h)
  have XX : CallFix p m c cX1_has 2 s _ wsX1_has RX1 := ⟨hx, hb, hml, hown, hts⟩
  have k19 := hts (.fieldLink RX1 19 "MailRoom" "handlers" "[LMailRoom$Handler;") (List.mem_of_getElem? (i := 1) rfl)
  refine lv_iload_n hx hb dX1_has_0 rfl (lv_at hl 1 rfl) ?_
  refine z_calls (As := [.int k]) (rest := []) XX (cx_isKind l k) (va_cwS 1 hts gX1_has_X1_isKind rfl rfl rfl qX1_isKind ⟨by decide, by decide⟩) rfl hl.1 rfl (Nat.le_of_ble_eq_true rfl) dX1_has_1 ⟨Nat.zero_le _, Nat.zero_le _⟩ ?_
  refine lv_if_ne (tgt := 10) hx hb dX1_has_4 (by decide) (fun c4 => ?_) (fun c4 => ?_)
  · refine lv_aload_n hx hb dX1_has_10 rfl (lv_at hl 0 rfl) ?_
    refine x_ga_3 hx hb hts inW hown hK hP k19 dX1_has_11 ?_
    refine lv_iload_n hx hb dX1_has_14 rfl (lv_at hl 1 rfl) ?_
    refine x_aldH hx hb hK hP (i := k) (xkind_in (by assumption)) dX1_has_15 ?_
    refine z_ifnull (tgt := 23) hx hb dX1_has_16 (by decide) (fun c16 => ?_) (fun c16 => ?_)
    · refine lv_iconst (v := 0) hx hb dX1_has_23 (by decide) ?_
      exact z_reti hx hb hr hlocks rfl hK hP hD hS (congrArg (fun x => (x, σ)) ((if_neg c4).trans ((if_pos c16).trans (rfl)))) dX1_has_24
    · refine lv_iconst (v := 1) hx hb dX1_has_19 (by decide) ?_
      refine lv_goto (tgt := 24) hx hb dX1_has_20 (by decide) ?_
      exact z_reti hx hb hr hlocks rfl hK hP hD hS (congrArg (fun x => (x, σ)) ((if_neg c4).trans ((if_neg c16).trans (rfl)))) dX1_has_24
  · refine lv_bipush (v := (-2)) hx hb dX1_has_7 (by decide) ?_
    exact z_reti hx hb hr hlocks rfl hK hP hD hS (congrArg (fun x => (x, σ)) ((if_pos c4).trans (rfl))) dX1_has_9
noncomputable def xf_sum  (b : Int32) (σ : SX) : Int64 := if (xf_isBox b) = 0 then 0 else ((x_bs σ) b.toNatClampNeg)
set_option maxRecDepth 100000 in
set_option maxHeartbeats 4000000 in
theorem cx_sum (l : Launch) (D : va_G) (O : Nat → Nat) (K : Nat → ClassId) (ad : Nat → Nat) (b : Int32) (σ : SX)  : cL l yX1_sum wsX1_sum { frames := 1, cells := 0, slots := 0, locals := 100 } 0 0 D (xT K) (xW O K ad) σ [.ref (O 0), .int b] ((xf_sum b σ), σ) := by
  intro sz
  refine z_start (cc := cX1_sum) (maxL := 2) (ret := (some .long)) (Qc := fun A => va_Ql (fun r9 u9 => r9 = ((xf_sum b σ), σ).1 ∧ u9 = ((xf_sum b σ), σ).2) (zB D (xT K) (xW O K ad) A) A) sz (by decide) rfl (Nat.le_of_ble_eq_true rfl) ?_
  intro p e s m below meth c A X hA hK hP hD hS ls hl
  obtain ⟨hx, hb, hr, hml, hts, hown, hlocks, hnm⟩ := X
  have hown : s.vm.findClass RX1 = some m.cls := hown
  have hl : lv_has ls 2 [(0, .ref (O 0)), (1, .int b)] := hl
  have inW : ∀ w ∈ wsX10, w ∈ wsX1_sum := fun w h => List.mem_cons_of_mem _ (List.mem_append_right _ h)
  have XX : CallFix p m c cX1_sum 2 s _ wsX1_sum RX1 := ⟨hx, hb, hml, hown, hts⟩
  have k9 := hts (.fieldLink RX1 9 "MailRoom" "boxSums" "[J") (List.mem_of_getElem? (i := 1) rfl)
  refine lv_iload_n hx hb dX1_sum_0 rfl (lv_at hl 1 rfl) ?_
  refine z_calls (As := [.int b]) (rest := []) XX (cx_isBox l b) (va_cwS 1 hts gX1_sum_X1_isBox rfl rfl rfl qX1_isBox ⟨by decide, by decide⟩) rfl hl.1 rfl (Nat.le_of_ble_eq_true rfl) dX1_sum_1 ⟨Nat.zero_le _, Nat.zero_le _⟩ ?_
  refine lv_if_eq (tgt := 16) hx hb dX1_sum_4 (by decide) (fun c4 => ?_) (fun c4 => ?_)
  · refine lv_lconst (v := 0) hx hb dX1_sum_16 (by decide) ?_
    exact z_retl hx hb hr hlocks hK hP hD hS (congrArg (fun x => (x, σ)) ((if_pos c4).trans (rfl))) dX1_sum_17
  · refine lv_aload_n hx hb dX1_sum_7 rfl (lv_at hl 0 rfl) ?_
    refine x_ga_1 hx hb hts inW hown hK hP k9 dX1_sum_8 ?_
    refine lv_iload_n hx hb dX1_sum_11 rfl (lv_at hl 1 rfl) ?_
    refine x_ld_bs (f := (x_bs σ)) (i := b) hx hb hK hP (rfl) (xbox_in (by assumption)) dX1_sum_12 ?_
    refine lv_goto (tgt := 17) hx hb dX1_sum_13 (by decide) ?_
    exact z_retl hx hb hr hlocks hK hP hD hS (congrArg (fun x => (x, σ)) ((if_neg c4).trans (rfl))) dX1_sum_17
noncomputable def xf_counted  (b : Int32) (σ : SX) : Int32 := if (xf_isBox b) = 0 then (-2) else ((x_bc σ) b.toNatClampNeg)
set_option maxRecDepth 100000 in
set_option maxHeartbeats 4000000 in
theorem cx_counted (l : Launch) (D : va_G) (O : Nat → Nat) (K : Nat → ClassId) (ad : Nat → Nat) (b : Int32) (σ : SX)  : cI l yX1_counted wsX1_counted { frames := 1, cells := 0, slots := 0, locals := 100 } 0 0 D (xT K) (xW O K ad) σ [.ref (O 0), .int b] ((xf_counted b σ), σ) := by
  intro sz
  refine z_start (cc := cX1_counted) (maxL := 2) (ret := (some .int)) (Qc := fun A => va_Qi (fun r9 u9 => r9 = ((xf_counted b σ), σ).1 ∧ u9 = ((xf_counted b σ), σ).2) (zB D (xT K) (xW O K ad) A) A) sz (by decide) rfl (Nat.le_of_ble_eq_true rfl) ?_
  intro p e s m below meth c A X hA hK hP hD hS ls hl
  obtain ⟨hx, hb, hr, hml, hts, hown, hlocks, hnm⟩ := X
  have hown : s.vm.findClass RX1 = some m.cls := hown
  have hl : lv_has ls 2 [(0, .ref (O 0)), (1, .int b)] := hl
  have inW : ∀ w ∈ wsX10, w ∈ wsX1_counted := fun w h => List.mem_cons_of_mem _ (List.mem_append_right _ h)
  have XX : CallFix p m c cX1_counted 2 s _ wsX1_counted RX1 := ⟨hx, hb, hml, hown, hts⟩
  have k13 := hts (.fieldLink RX1 13 "MailRoom" "boxCounts" "[I") (List.mem_of_getElem? (i := 1) rfl)
  refine lv_iload_n hx hb dX1_counted_0 rfl (lv_at hl 1 rfl) ?_
  refine z_calls (As := [.int b]) (rest := []) XX (cx_isBox l b) (va_cwS 1 hts gX1_counted_X1_isBox rfl rfl rfl qX1_isBox ⟨by decide, by decide⟩) rfl hl.1 rfl (Nat.le_of_ble_eq_true rfl) dX1_counted_1 ⟨Nat.zero_le _, Nat.zero_le _⟩ ?_
  refine lv_if_eq (tgt := 16) hx hb dX1_counted_4 (by decide) (fun c4 => ?_) (fun c4 => ?_)
  · refine lv_bipush (v := (-2)) hx hb dX1_counted_16 (by decide) ?_
    exact z_reti hx hb hr hlocks rfl hK hP hD hS (congrArg (fun x => (x, σ)) ((if_pos c4).trans (rfl))) dX1_counted_18
  · refine lv_aload_n hx hb dX1_counted_7 rfl (lv_at hl 0 rfl) ?_
    refine x_ga_2 hx hb hts inW hown hK hP k13 dX1_counted_8 ?_
    refine lv_iload_n hx hb dX1_counted_11 rfl (lv_at hl 1 rfl) ?_
    refine x_ld_bc (f := (x_bc σ)) (i := b) hx hb hK hP (rfl) (xbox_in (by assumption)) dX1_counted_12 ?_
    refine lv_goto (tgt := 18) hx hb dX1_counted_13 (by decide) ?_
    exact z_reti hx hb hr hlocks rfl hK hP hD hS (congrArg (fun x => (x, σ)) ((if_neg c4).trans (rfl))) dX1_counted_18
theorem xfk_in {i : Int32} {σ : SX} (h : ¬ xf_isFailedKept i σ = 0) : vp_in i 30 := by
  unfold xf_isFailedKept at h
  by_cases h0 : i < 0
  · rw [if_pos h0] at h; exact absurd rfl h
  · rw [if_neg h0] at h
    by_cases h1 : 30 ≤ i
    · rw [if_pos h1] at h; exact absurd rfl h
    · exact z_in (M := 30) rfl (by decide) h0 h1
noncomputable def xf_failed  (i : Int32) (what : Int32) (σ : SX) : Int32 := if what = 0 then (if (xf_isFailedKept i σ) = 0 then (-1) else (if what = 0 then ((x_fk σ) i.toNatClampNeg) else ((x_fn σ) i.toNatClampNeg))) else (if what = 1 then (if (xf_isFailedKept i σ) = 0 then (-1) else (if what = 0 then ((x_fk σ) i.toNatClampNeg) else ((x_fn σ) i.toNatClampNeg))) else (-3))
set_option maxRecDepth 100000 in
set_option maxHeartbeats 4000000 in
theorem cx_failed (l : Launch) (D : va_G) (O : Nat → Nat) (K : Nat → ClassId) (ad : Nat → Nat) (i : Int32) (what : Int32) (σ : SX)  : cI l yX1_failed wsX1_failed { frames := 1, cells := 0, slots := 0, locals := 100 } 0 0 D (xT K) (xW O K ad) σ [.ref (O 0), .int i, .int what] ((xf_failed i what σ), σ) := by
  intro sz
  refine z_start (cc := cX1_failed) (maxL := 3) (ret := (some .int)) (Qc := fun A => va_Qi (fun r9 u9 => r9 = ((xf_failed i what σ), σ).1 ∧ u9 = ((xf_failed i what σ), σ).2) (zB D (xT K) (xW O K ad) A) A) sz (by decide) rfl (Nat.le_of_ble_eq_true rfl) ?_
  intro p e s m below meth c A X hA hK hP hD hS ls hl
  obtain ⟨hx, hb, hr, hml, hts, hown, hlocks, hnm⟩ := X
  have hown : s.vm.findClass RX1 = some m.cls := hown
  have hl : lv_has ls 3 [(0, .ref (O 0)), (1, .int i), (2, .int what)] := hl
  have inW : ∀ w ∈ wsX10, w ∈ wsX1_failed := fun w h => List.mem_cons_of_mem _ (List.mem_append_right _ h)
  have XX : CallFix p m c cX1_failed 3 s _ wsX1_failed RX1 := ⟨hx, hb, hml, hown, hts⟩
  have k32 := hts (.fieldLink RX1 32 "MailRoom" "failedNumbers" "[I") (List.mem_of_getElem? (i := 2) rfl)
  have k29 := hts (.fieldLink RX1 29 "MailRoom" "failedKinds" "[I") (List.mem_of_getElem? (i := 1) rfl)
  refine lv_iload_n hx hb dX1_failed_0 rfl (lv_at hl 2 rfl) ?_
  refine lv_if_eq (tgt := 12) hx hb dX1_failed_1 (by decide) (fun c1 => ?_) (fun c1 => ?_)
  · refine lv_aload_n hx hb dX1_failed_12 rfl (lv_at hl 0 rfl) ?_
    refine lv_iload_n hx hb dX1_failed_13 rfl (lv_at hl 1 rfl) ?_
    refine z_calli (As := [.int i]) (rest := []) XX (cx_isFailedKept l D O K ad i σ) (cwV 1 hts gX1_failed_X1_isFailedKept rfl rfl rfl qX1_isFailedKept ⟨by decide, by decide⟩) (va_recv hK hP (ci := 1) (q0 := 0) rfl rfl) hK hP hD hS hA rfl hl.1 rfl (Nat.le_of_ble_eq_true rfl) dX1_failed_14 ⟨Nat.zero_le _, Nat.zero_le _⟩ (fun H locs hP hD hS => ?_)
    refine lv_if_ne (tgt := 22) hx hb dX1_failed_17 (by decide) (fun c17 => ?_) (fun c17 => ?_)
    · refine lv_iload_n hx hb dX1_failed_22 rfl (lv_at hl 2 rfl) ?_
      refine lv_if_ne (tgt := 35) hx hb dX1_failed_23 (by decide) (fun c23 => ?_) (fun c23 => ?_)
      · refine lv_aload_n hx hb dX1_failed_35 rfl (lv_at hl 0 rfl) ?_
        refine x_ga_7 hx hb hts inW hown hK hP k32 dX1_failed_36 ?_
        refine lv_iload_n hx hb dX1_failed_39 rfl (lv_at hl 1 rfl) ?_
        refine x_ld_fn (f := (x_fn σ)) (i := i) hx hb hK hP (rfl) (xfk_in (by assumption)) dX1_failed_40 ?_
        exact z_reti hx hb hr hlocks rfl hK hP hD hS (congrArg (fun x => (x, σ)) ((if_pos c1).trans ((if_neg c17).trans ((if_neg c23).trans (rfl))))) dX1_failed_41
      · refine lv_aload_n hx hb dX1_failed_26 rfl (lv_at hl 0 rfl) ?_
        refine x_ga_6 hx hb hts inW hown hK hP k29 dX1_failed_27 ?_
        refine lv_iload_n hx hb dX1_failed_30 rfl (lv_at hl 1 rfl) ?_
        refine x_ld_fk (f := (x_fk σ)) (i := i) hx hb hK hP (rfl) (xfk_in (by assumption)) dX1_failed_31 ?_
        refine lv_goto (tgt := 41) hx hb dX1_failed_32 (by decide) ?_
        exact z_reti hx hb hr hlocks rfl hK hP hD hS (congrArg (fun x => (x, σ)) ((if_pos c1).trans ((if_neg c17).trans ((if_pos c23).trans (rfl))))) dX1_failed_41
    · refine lv_iconst (v := (-1)) hx hb dX1_failed_20 (by decide) ?_
      exact z_reti hx hb hr hlocks rfl hK hP hD hS (congrArg (fun x => (x, σ)) ((if_pos c1).trans ((if_pos c17).trans (rfl)))) dX1_failed_21
  · refine lv_iload_n hx hb dX1_failed_4 rfl (lv_at hl 2 rfl) ?_
    refine lv_iconst (v := 1) hx hb dX1_failed_5 (by decide) ?_
    refine lv_icmp_eq (tgt := 12) hx hb dX1_failed_6 (by decide) (fun c6 => ?_) (fun c6 => ?_)
    · refine lv_aload_n hx hb dX1_failed_12 rfl (lv_at hl 0 rfl) ?_
      refine lv_iload_n hx hb dX1_failed_13 rfl (lv_at hl 1 rfl) ?_
      refine z_calli (As := [.int i]) (rest := []) XX (cx_isFailedKept l D O K ad i σ) (cwV 1 hts gX1_failed_X1_isFailedKept rfl rfl rfl qX1_isFailedKept ⟨by decide, by decide⟩) (va_recv hK hP (ci := 1) (q0 := 0) rfl rfl) hK hP hD hS hA rfl hl.1 rfl (Nat.le_of_ble_eq_true rfl) dX1_failed_14 ⟨Nat.zero_le _, Nat.zero_le _⟩ (fun H locs hP hD hS => ?_)
      refine lv_if_ne (tgt := 22) hx hb dX1_failed_17 (by decide) (fun c17 => ?_) (fun c17 => ?_)
      · refine lv_iload_n hx hb dX1_failed_22 rfl (lv_at hl 2 rfl) ?_
        refine lv_if_ne (tgt := 35) hx hb dX1_failed_23 (by decide) (fun c23 => ?_) (fun c23 => ?_)
        · refine lv_aload_n hx hb dX1_failed_35 rfl (lv_at hl 0 rfl) ?_
          refine x_ga_7 hx hb hts inW hown hK hP k32 dX1_failed_36 ?_
          refine lv_iload_n hx hb dX1_failed_39 rfl (lv_at hl 1 rfl) ?_
          refine x_ld_fn (f := (x_fn σ)) (i := i) hx hb hK hP (rfl) (xfk_in (by assumption)) dX1_failed_40 ?_
          exact z_reti hx hb hr hlocks rfl hK hP hD hS (congrArg (fun x => (x, σ)) ((if_neg c1).trans ((if_pos c6).trans ((if_neg c17).trans ((if_neg c23).trans (rfl)))))) dX1_failed_41
        · refine lv_aload_n hx hb dX1_failed_26 rfl (lv_at hl 0 rfl) ?_
          refine x_ga_6 hx hb hts inW hown hK hP k29 dX1_failed_27 ?_
          refine lv_iload_n hx hb dX1_failed_30 rfl (lv_at hl 1 rfl) ?_
          refine x_ld_fk (f := (x_fk σ)) (i := i) hx hb hK hP (rfl) (xfk_in (by assumption)) dX1_failed_31 ?_
          refine lv_goto (tgt := 41) hx hb dX1_failed_32 (by decide) ?_
          exact z_reti hx hb hr hlocks rfl hK hP hD hS (congrArg (fun x => (x, σ)) ((if_neg c1).trans ((if_pos c6).trans ((if_neg c17).trans ((if_pos c23).trans (rfl)))))) dX1_failed_41
      · refine lv_iconst (v := (-1)) hx hb dX1_failed_20 (by decide) ?_
        exact z_reti hx hb hr hlocks rfl hK hP hD hS (congrArg (fun x => (x, σ)) ((if_neg c1).trans ((if_pos c6).trans ((if_pos c17).trans (rfl))))) dX1_failed_21
    · refine lv_bipush (v := (-3)) hx hb dX1_failed_9 (by decide) ?_
      exact z_reti hx hb hr hlocks rfl hK hP hD hS (congrArg (fun x => (x, σ)) ((if_neg c1).trans ((if_neg c6).trans (rfl)))) dX1_failed_11
noncomputable def xf_value  (i : Int32) (σ : SX) : Int64 := if (xf_isFailedKept i σ) = 0 then 0 else ((x_fv σ) i.toNatClampNeg)
set_option maxRecDepth 100000 in
set_option maxHeartbeats 4000000 in
theorem cx_value (l : Launch) (D : va_G) (O : Nat → Nat) (K : Nat → ClassId) (ad : Nat → Nat) (i : Int32) (σ : SX)  : cL l yX1_value wsX1_value { frames := 1, cells := 0, slots := 0, locals := 100 } 0 0 D (xT K) (xW O K ad) σ [.ref (O 0), .int i] ((xf_value i σ), σ) := by
  intro sz
  refine z_start (cc := cX1_value) (maxL := 2) (ret := (some .long)) (Qc := fun A => va_Ql (fun r9 u9 => r9 = ((xf_value i σ), σ).1 ∧ u9 = ((xf_value i σ), σ).2) (zB D (xT K) (xW O K ad) A) A) sz (by decide) rfl (Nat.le_of_ble_eq_true rfl) ?_
  intro p e s m below meth c A X hA hK hP hD hS ls hl
  obtain ⟨hx, hb, hr, hml, hts, hown, hlocks, hnm⟩ := X
  have hown : s.vm.findClass RX1 = some m.cls := hown
  have hl : lv_has ls 2 [(0, .ref (O 0)), (1, .int i)] := hl
  have inW : ∀ w ∈ wsX10, w ∈ wsX1_value := fun w h => List.mem_cons_of_mem _ (List.mem_append_right _ h)
  have XX : CallFix p m c cX1_value 2 s _ wsX1_value RX1 := ⟨hx, hb, hml, hown, hts⟩
  have k35 := hts (.fieldLink RX1 35 "MailRoom" "failedValues" "[J") (List.mem_of_getElem? (i := 1) rfl)
  refine lv_aload_n hx hb dX1_value_0 rfl (lv_at hl 0 rfl) ?_
  refine lv_iload_n hx hb dX1_value_1 rfl (lv_at hl 1 rfl) ?_
  refine z_calli (As := [.int i]) (rest := []) XX (cx_isFailedKept l D O K ad i σ) (cwV 1 hts gX1_value_X1_isFailedKept rfl rfl rfl qX1_isFailedKept ⟨by decide, by decide⟩) (va_recv hK hP (ci := 1) (q0 := 0) rfl rfl) hK hP hD hS hA rfl hl.1 rfl (Nat.le_of_ble_eq_true rfl) dX1_value_2 ⟨Nat.zero_le _, Nat.zero_le _⟩ (fun H locs hP hD hS => ?_)
  refine lv_if_eq (tgt := 17) hx hb dX1_value_5 (by decide) (fun c5 => ?_) (fun c5 => ?_)
  · refine lv_lconst (v := 0) hx hb dX1_value_17 (by decide) ?_
    exact z_retl hx hb hr hlocks hK hP hD hS (congrArg (fun x => (x, σ)) ((if_pos c5).trans (rfl))) dX1_value_18
  · refine lv_aload_n hx hb dX1_value_8 rfl (lv_at hl 0 rfl) ?_
    refine x_ga_8 hx hb hts inW hown hK hP k35 dX1_value_9 ?_
    refine lv_iload_n hx hb dX1_value_12 rfl (lv_at hl 1 rfl) ?_
    refine x_ld_fv (f := (x_fv σ)) (i := i) hx hb hK hP (rfl) (xfk_in (by assumption)) dX1_value_13 ?_
    refine lv_goto (tgt := 18) hx hb dX1_value_14 (by decide) ?_
    exact z_retl hx hb hr hlocks hK hP hD hS (congrArg (fun x => (x, σ)) ((if_neg c5).trans (rfl))) dX1_value_18
noncomputable def xf_count  (what : Int32) (σ : SX) : Int32 := if what = 0 then (x_qs σ) else (if what = 1 then (x_tk σ) else (if what = 2 then (x_told σ) else (if what = 3 then (x_fl σ) else (if what = 4 then (x_bic σ) else (-3)))))
set_option maxRecDepth 100000 in
set_option maxHeartbeats 4000000 in
theorem cx_count (l : Launch) (D : va_G) (O : Nat → Nat) (K : Nat → ClassId) (ad : Nat → Nat) (what : Int32) (σ : SX)  : cI l yX1_count wsX1_count { frames := 0, cells := 0, slots := 0, locals := 0 } 0 0 D (xT K) (xW O K ad) σ [.ref (O 0), .int what] ((xf_count what σ), σ) := by
  intro sz
  refine z_start (cc := cX1_count) (maxL := 2) (ret := (some .int)) (Qc := fun A => va_Qi (fun r9 u9 => r9 = ((xf_count what σ), σ).1 ∧ u9 = ((xf_count what σ), σ).2) (zB D (xT K) (xW O K ad) A) A) sz (by decide) rfl (Nat.le_of_ble_eq_true rfl) ?_
  intro p e s m below meth c A X hA hK hP hD hS ls hl
  obtain ⟨hx, hb, hr, hml, hts, hown, hlocks, hnm⟩ := X
  have hown : s.vm.findClass RX1 = some m.cls := hown
  have hl : lv_has ls 2 [(0, .ref (O 0)), (1, .int what)] := hl
  have inW : ∀ w ∈ wsX10, w ∈ wsX1_count := fun w h => List.mem_cons_of_mem _ (List.mem_append_right _ h)
  have XX : CallFix p m c cX1_count 2 s _ wsX1_count RX1 := ⟨hx, hb, hml, hown, hts⟩
  have k63 := hts (.fieldLink RX1 63 "MailRoom" "queueSize" "I") (List.mem_of_getElem? (i := 1) rfl)
  have k81 := hts (.fieldLink RX1 81 "MailRoom" "taken" "I") (List.mem_of_getElem? (i := 2) rfl)
  have k51 := hts (.fieldLink RX1 51 "MailRoom" "told" "I") (List.mem_of_getElem? (i := 3) rfl)
  have k84 := hts (.fieldLink RX1 84 "MailRoom" "failures" "I") (List.mem_of_getElem? (i := 4) rfl)
  have k66 := hts (.fieldLink RX1 66 "MailRoom" "begunInCall" "I") (List.mem_of_getElem? (i := 5) rfl)
  refine lv_iload_n hx hb dX1_count_0 rfl (lv_at hl 1 rfl) ?_
  by_cases t1_0 : what = 0
  · refine lv_tableIn (off := 35) (tgt := 36) hx hb dX1_count_1 (by rw [t1_0]; decide) (by rw [t1_0]; decide) (by rw [t1_0]; rfl) (by decide) ?_
    refine lv_aload_n hx hb dX1_count_36 rfl (lv_at hl 0 rfl) ?_
    refine x_gi_qs (v := (x_qs σ)) hx hb hts inW hown hK hP (rfl) k63 dX1_count_37 ?_
    exact z_reti hx hb hr hlocks rfl hK hP hD hS (congrArg (fun x => (x, σ)) ((if_pos t1_0).trans (rfl))) dX1_count_40
  · by_cases t1_1 : what = 1
    · refine lv_tableIn (off := 40) (tgt := 41) hx hb dX1_count_1 (by rw [t1_1]; decide) (by rw [t1_1]; decide) (by rw [t1_1]; rfl) (by decide) ?_
      refine lv_aload_n hx hb dX1_count_41 rfl (lv_at hl 0 rfl) ?_
      refine x_gi_tk (v := (x_tk σ)) hx hb hts inW hown hK hP (rfl) k81 dX1_count_42 ?_
      exact z_reti hx hb hr hlocks rfl hK hP hD hS (congrArg (fun x => (x, σ)) ((if_neg t1_0).trans ((if_pos t1_1).trans (rfl)))) dX1_count_45
    · by_cases t1_2 : what = 2
      · refine lv_tableIn (off := 45) (tgt := 46) hx hb dX1_count_1 (by rw [t1_2]; decide) (by rw [t1_2]; decide) (by rw [t1_2]; rfl) (by decide) ?_
        refine lv_aload_n hx hb dX1_count_46 rfl (lv_at hl 0 rfl) ?_
        refine x_gi_told (v := (x_told σ)) hx hb hts inW hown hK hP (rfl) k51 dX1_count_47 ?_
        exact z_reti hx hb hr hlocks rfl hK hP hD hS (congrArg (fun x => (x, σ)) ((if_neg t1_0).trans ((if_neg t1_1).trans ((if_pos t1_2).trans (rfl))))) dX1_count_50
      · by_cases t1_3 : what = 3
        · refine lv_tableIn (off := 50) (tgt := 51) hx hb dX1_count_1 (by rw [t1_3]; decide) (by rw [t1_3]; decide) (by rw [t1_3]; rfl) (by decide) ?_
          refine lv_aload_n hx hb dX1_count_51 rfl (lv_at hl 0 rfl) ?_
          refine x_gi_fl (v := (x_fl σ)) hx hb hts inW hown hK hP (rfl) k84 dX1_count_52 ?_
          exact z_reti hx hb hr hlocks rfl hK hP hD hS (congrArg (fun x => (x, σ)) ((if_neg t1_0).trans ((if_neg t1_1).trans ((if_neg t1_2).trans ((if_pos t1_3).trans (rfl)))))) dX1_count_55
        · by_cases t1_4 : what = 4
          · refine lv_tableIn (off := 55) (tgt := 56) hx hb dX1_count_1 (by rw [t1_4]; decide) (by rw [t1_4]; decide) (by rw [t1_4]; rfl) (by decide) ?_
            refine lv_aload_n hx hb dX1_count_56 rfl (lv_at hl 0 rfl) ?_
            refine x_gi_bic (v := (x_bic σ)) hx hb hts inW hown hK hP (rfl) k66 dX1_count_57 ?_
            exact z_reti hx hb hr hlocks rfl hK hP hD hS (congrArg (fun x => (x, σ)) ((if_neg t1_0).trans ((if_neg t1_1).trans ((if_neg t1_2).trans ((if_neg t1_3).trans ((if_pos t1_4).trans (rfl))))))) dX1_count_60
          · refine lv_tableOut (tgt := 61) hx hb dX1_count_1 (z_out 4 (by decide) (fun k hk => match k, hk with | 0, _ => t1_0 | 1, _ => t1_1 | 2, _ => t1_2 | 3, _ => t1_3 | 4, _ => t1_4 | (k + 5), hk => absurd hk (by omega))) (by decide) ?_
            refine lv_bipush (v := (-3)) hx hb dX1_count_61 (by decide) ?_
            exact z_reti hx hb hr hlocks rfl hK hP hD hS (congrArg (fun x => (x, σ)) ((if_neg t1_0).trans ((if_neg t1_1).trans ((if_neg t1_2).trans ((if_neg t1_3).trans ((if_neg t1_4).trans (rfl))))))) dX1_count_63
end
section
noncomputable def xf_keep  (b : Int32) (v : Int64) (σ : SX) : Int32 × SX := if (xf_isBox b) = 0 then (3, σ) else (0, xs_bc (xs_bs σ (vp_updL (x_bs σ) b.toNatClampNeg (((x_bs σ) b.toNatClampNeg) + v))) (upd (x_bc σ) b.toNatClampNeg (((x_bc σ) b.toNatClampNeg) + 1)))
set_option maxRecDepth 100000 in
set_option maxHeartbeats 4000000 in
theorem cx_keep (l : Launch) (D : va_G) (O : Nat → Nat) (K : Nat → ClassId) (ad : Nat → Nat) (b : Int32) (v : Int64) (σ : SX)  : cI l yX1_keep wsX1_keep { frames := 1, cells := 0, slots := 0, locals := 100 } 0 0 D (xT K) (xW O K ad) σ [.ref (O 0), .int b, .long v] (xf_keep b v σ) := by
  intro sz
  refine z_start (cc := cX1_keep) (maxL := 4) (ret := (some .int)) (Qc := fun A => va_Qi (fun r9 u9 => r9 = (xf_keep b v σ).1 ∧ u9 = (xf_keep b v σ).2) (zB D (xT K) (xW O K ad) A) A) sz (by decide) rfl (Nat.le_of_ble_eq_true rfl) ?_
  intro p e s m below meth c A X hA hK hP hD hS ls hl
  obtain ⟨hx, hb, hr, hml, hts, hown, hlocks, hnm⟩ := X
  have hown : s.vm.findClass RX1 = some m.cls := hown
  have hl : lv_has ls 4 [(0, .ref (O 0)), (1, .int b), (2, .long v)] := hl
  have inW : ∀ w ∈ wsX10, w ∈ wsX1_keep := fun w h => List.mem_cons_of_mem _ (List.mem_append_right _ h)
  have XX : CallFix p m c cX1_keep 4 s _ wsX1_keep RX1 := ⟨hx, hb, hml, hown, hts⟩
  have k9 := hts (.fieldLink RX1 9 "MailRoom" "boxSums" "[J") (List.mem_of_getElem? (i := 1) rfl)
  have k13 := hts (.fieldLink RX1 13 "MailRoom" "boxCounts" "[I") (List.mem_of_getElem? (i := 2) rfl)
  refine lv_iload_n hx hb dX1_keep_0 rfl (lv_at hl 1 rfl) ?_
  refine z_calls (As := [.int b]) (rest := []) XX (cx_isBox l b) (va_cwS 1 hts gX1_keep_X1_isBox rfl rfl rfl qX1_isBox ⟨by decide, by decide⟩) rfl hl.1 rfl (Nat.le_of_ble_eq_true rfl) dX1_keep_1 ⟨Nat.zero_le _, Nat.zero_le _⟩ ?_
  refine lv_if_ne (tgt := 9) hx hb dX1_keep_4 (by decide) (fun c4 => ?_) (fun c4 => ?_)
  · refine lv_aload_n hx hb dX1_keep_9 rfl (lv_at hl 0 rfl) ?_
    refine x_ga_1 hx hb hts inW hown hK hP k9 dX1_keep_10 ?_
    refine lv_iload_n hx hb dX1_keep_13 rfl (lv_at hl 1 rfl) ?_
    refine lv_dup2_11 hx hb dX1_keep_14 rfl rfl ?_
    refine x_ld_bs (f := (x_bs σ)) (i := b) hx hb hK hP (rfl) (xbox_in (by assumption)) dX1_keep_15 ?_
    refine lv_lload_n hx hb dX1_keep_16 rfl (lv_at hl 2 rfl) ?_
    refine lv_ladd hx hb dX1_keep_17 ?_
    refine x_st_bs (f := (x_bs σ)) (i := b) hx hb hK hP hD hS (rfl) (xbox_in (by assumption)) dX1_keep_18 (fun H locs hP hD hS => ?_)
    refine lv_aload_n hx hb dX1_keep_19 rfl (lv_at hl 0 rfl) ?_
    refine x_ga_2 hx hb hts inW hown hK hP k13 dX1_keep_20 ?_
    refine lv_iload_n hx hb dX1_keep_23 rfl (lv_at hl 1 rfl) ?_
    refine lv_dup2_11 hx hb dX1_keep_24 rfl rfl ?_
    refine x_ld_bc (f := (x_bc σ)) (i := b) hx hb hK hP (xr_bc_bs _ _) (xbox_in (by assumption)) dX1_keep_25 ?_
    refine lv_iconst (v := 1) hx hb dX1_keep_26 (by decide) ?_
    refine lv_iadd hx hb dX1_keep_27 ?_
    refine x_st_bc (f := (x_bc σ)) (i := b) hx hb hK hP hD hS (xr_bc_bs _ _) (xbox_in (by assumption)) dX1_keep_28 (fun H locs hP hD hS => ?_)
    refine lv_iconst (v := 0) hx hb dX1_keep_29 (by decide) ?_
    exact z_reti hx hb hr hlocks rfl hK hP hD hS ((if_neg c4).trans (rfl)) dX1_keep_30
  · refine lv_iconst (v := 3) hx hb dX1_keep_7 (by decide) ?_
    exact z_reti hx hb hr hlocks rfl hK hP hD hS ((if_pos c4).trans (rfl)) dX1_keep_8
noncomputable def xf_enqueue  (k : Int32) (v : Int64) (σ : SX) : Int32 × SX := if (x_qs σ) < 40 then (if 0 ≤ (((x_qf σ) + (x_qs σ)) - ((x_qf σ) + (x_qs σ)) / 40 * 40) then (0, xs_qs (xs_qv (xs_qk σ (upd (x_qk σ) ((((x_qf σ) + (x_qs σ)) - ((x_qf σ) + (x_qs σ)) / 40 * 40).toNatClampNeg) k)) (vp_updL (x_qv σ) ((((x_qf σ) + (x_qs σ)) - ((x_qf σ) + (x_qs σ)) / 40 * 40).toNatClampNeg) v)) ((x_qs σ) + 1)) else (5, σ)) else (5, σ)
set_option maxRecDepth 100000 in
set_option maxHeartbeats 4000000 in
theorem cx_enqueue (l : Launch) (D : va_G) (O : Nat → Nat) (K : Nat → ClassId) (ad : Nat → Nat) (k : Int32) (v : Int64) (σ : SX)  : cI l yX1_enqueue wsX1_enqueue { frames := 0, cells := 0, slots := 0, locals := 0 } 0 0 D (xT K) (xW O K ad) σ [.ref (O 0), .int k, .long v] (xf_enqueue k v σ) := by
  intro sz
  refine z_start (cc := cX1_enqueue) (maxL := 5) (ret := (some .int)) (Qc := fun A => va_Qi (fun r9 u9 => r9 = (xf_enqueue k v σ).1 ∧ u9 = (xf_enqueue k v σ).2) (zB D (xT K) (xW O K ad) A) A) sz (by decide) rfl (Nat.le_of_ble_eq_true rfl) ?_
  intro p e s m below meth c A X hA hK hP hD hS ls hl
  obtain ⟨hx, hb, hr, hml, hts, hown, hlocks, hnm⟩ := X
  have hown : s.vm.findClass RX1 = some m.cls := hown
  have hl : lv_has ls 5 [(0, .ref (O 0)), (1, .int k), (2, .long v)] := hl
  have inW : ∀ w ∈ wsX10, w ∈ wsX1_enqueue := fun w h => List.mem_cons_of_mem _ (List.mem_append_right _ h)
  have XX : CallFix p m c cX1_enqueue 5 s _ wsX1_enqueue RX1 := ⟨hx, hb, hml, hown, hts⟩
  have k63 := hts (.fieldLink RX1 63 "MailRoom" "queueSize" "I") (List.mem_of_getElem? (i := 1) rfl)
  have k87 := hts (.fieldLink RX1 87 "MailRoom" "queueFirst" "I") (List.mem_of_getElem? (i := 2) rfl)
  have k23 := hts (.fieldLink RX1 23 "MailRoom" "queueKinds" "[I") (List.mem_of_getElem? (i := 3) rfl)
  have k26 := hts (.fieldLink RX1 26 "MailRoom" "queueValues" "[J") (List.mem_of_getElem? (i := 4) rfl)
  refine lv_aload_n hx hb dX1_enqueue_0 rfl (lv_at hl 0 rfl) ?_
  refine x_gi_qs (v := (x_qs σ)) hx hb hts inW hown hK hP (rfl) k63 dX1_enqueue_1 ?_
  refine lv_bipush (v := 40) hx hb dX1_enqueue_4 (by decide) ?_
  refine lv_icmp_lt (tgt := 11) hx hb dX1_enqueue_6 (by decide) (fun c6 => ?_) (fun c6 => ?_)
  · refine lv_aload_n hx hb dX1_enqueue_11 rfl (lv_at hl 0 rfl) ?_
    refine x_gi_qf (v := (x_qf σ)) hx hb hts inW hown hK hP (rfl) k87 dX1_enqueue_12 ?_
    refine lv_aload_n hx hb dX1_enqueue_15 rfl (lv_at hl 0 rfl) ?_
    refine x_gi_qs (v := (x_qs σ)) hx hb hts inW hown hK hP (rfl) k63 dX1_enqueue_16 ?_
    refine lv_iadd hx hb dX1_enqueue_19 ?_
    refine lv_bipush (v := 40) hx hb dX1_enqueue_20 (by decide) ?_
    refine lv_irem hx hb dX1_enqueue_22 (by decide) ?_
    refine lv_istore (lv' := [(4, .int (((x_qf σ) + (x_qs σ)) - ((x_qf σ) + (x_qs σ)) / 40 * 40)), (0, .ref (O 0)), (1, .int k), (2, .long v)]) hx hb dX1_enqueue_23 hl (by decide) rfl (fun ls hl => ?_)
    refine lv_iload hx hb dX1_enqueue_25 (lv_at hl 0 rfl) ?_
    refine lv_if_ge (tgt := 32) hx hb dX1_enqueue_27 (by decide) (fun c27 => ?_) (fun c27 => ?_)
    · refine lv_aload_n hx hb dX1_enqueue_32 rfl (lv_at hl 1 rfl) ?_
      refine x_ga_4 hx hb hts inW hown hK hP k23 dX1_enqueue_33 ?_
      refine lv_iload hx hb dX1_enqueue_36 (lv_at hl 0 rfl) ?_
      refine lv_iload_n hx hb dX1_enqueue_38 rfl (lv_at hl 2 rfl) ?_
      refine x_st_qk (f := (x_qk σ)) (i := (((x_qf σ) + (x_qs σ)) - ((x_qf σ) + (x_qs σ)) / 40 * 40)) hx hb hK hP hD hS (rfl) (x_rem40 (by assumption)) dX1_enqueue_39 (fun H locs hP hD hS => ?_)
      refine lv_aload_n hx hb dX1_enqueue_40 rfl (lv_at hl 1 rfl) ?_
      refine x_ga_5 hx hb hts inW hown hK hP k26 dX1_enqueue_41 ?_
      refine lv_iload hx hb dX1_enqueue_44 (lv_at hl 0 rfl) ?_
      refine lv_lload_n hx hb dX1_enqueue_46 rfl (lv_at hl 3 rfl) ?_
      refine x_st_qv (f := (x_qv σ)) (i := (((x_qf σ) + (x_qs σ)) - ((x_qf σ) + (x_qs σ)) / 40 * 40)) hx hb hK hP hD hS (xr_qv_qk _ _) (x_rem40 (by assumption)) dX1_enqueue_47 (fun H locs hP hD hS => ?_)
      refine lv_aload_n hx hb dX1_enqueue_48 rfl (lv_at hl 1 rfl) ?_
      refine lv_dup hx hb dX1_enqueue_49 rfl ?_
      refine x_gi_qs (v := (x_qs σ)) hx hb hts inW hown hK hP ((xr_qs_qv _ _).trans (xr_qs_qk _ _)) k63 dX1_enqueue_50 ?_
      refine lv_iconst (v := 1) hx hb dX1_enqueue_53 (by decide) ?_
      refine lv_iadd hx hb dX1_enqueue_54 ?_
      refine x_pi_qs hx hb hts inW hown hK hP hD hS k63 dX1_enqueue_55 (fun H locs hP hD hS => ?_)
      refine lv_iconst (v := 0) hx hb dX1_enqueue_58 (by decide) ?_
      exact z_reti hx hb hr hlocks rfl hK hP hD hS ((if_pos c6).trans ((if_pos c27).trans (rfl))) dX1_enqueue_59
    · refine lv_iconst (v := 5) hx hb dX1_enqueue_30 (by decide) ?_
      exact z_reti hx hb hr hlocks rfl hK hP hD hS ((if_pos c6).trans ((if_neg c27).trans (rfl))) dX1_enqueue_31
  · refine lv_iconst (v := 5) hx hb dX1_enqueue_9 (by decide) ?_
    exact z_reti hx hb hr hlocks rfl hK hP hD hS ((if_neg c6).trans (rfl)) dX1_enqueue_10
noncomputable def xf_noteFailed  (k : Int32) (v : Int64) (f : Int32) (σ : SX) : SX := if (x_fl σ) < 0 then (xs_fl σ ((x_fl σ) + 1)) else (if 30 ≤ (x_fl σ) then (xs_fl σ ((x_fl σ) + 1)) else (xs_fv (xs_fn (xs_fk (xs_fl σ ((x_fl σ) + 1)) (upd (x_fk σ) ((x_fl σ).toNatClampNeg) k)) (upd (x_fn σ) ((x_fl σ).toNatClampNeg) f)) (vp_updL (x_fv σ) ((x_fl σ).toNatClampNeg) v)))
set_option maxRecDepth 100000 in
set_option maxHeartbeats 4000000 in
theorem cx_noteFailed (l : Launch) (D : va_G) (O : Nat → Nat) (K : Nat → ClassId) (ad : Nat → Nat) (k : Int32) (v : Int64) (f : Int32) (σ : SX)  : cV l yX1_noteFailed wsX1_noteFailed { frames := 0, cells := 0, slots := 0, locals := 0 } 0 0 D (xT K) (xW O K ad) σ [.ref (O 0), .int k, .long v, .int f] (xf_noteFailed k v f σ) := by
  intro sz
  refine z_start (cc := cX1_noteFailed) (maxL := 6) (ret := none) (Qc := fun A => va_Qv (fun u9 => u9 = (xf_noteFailed k v f σ)) (zB D (xT K) (xW O K ad) A) A) sz (by decide) rfl (Nat.le_of_ble_eq_true rfl) ?_
  intro p e s m below meth c A X hA hK hP hD hS ls hl
  obtain ⟨hx, hb, hr, hml, hts, hown, hlocks, hnm⟩ := X
  have hown : s.vm.findClass RX1 = some m.cls := hown
  have hl : lv_has ls 6 [(0, .ref (O 0)), (1, .int k), (2, .long v), (4, .int f)] := hl
  have inW : ∀ w ∈ wsX10, w ∈ wsX1_noteFailed := fun w h => List.mem_cons_of_mem _ (List.mem_append_right _ h)
  have XX : CallFix p m c cX1_noteFailed 6 s _ wsX1_noteFailed RX1 := ⟨hx, hb, hml, hown, hts⟩
  have k84 := hts (.fieldLink RX1 84 "MailRoom" "failures" "I") (List.mem_of_getElem? (i := 1) rfl)
  have k29 := hts (.fieldLink RX1 29 "MailRoom" "failedKinds" "[I") (List.mem_of_getElem? (i := 2) rfl)
  have k32 := hts (.fieldLink RX1 32 "MailRoom" "failedNumbers" "[I") (List.mem_of_getElem? (i := 3) rfl)
  have k35 := hts (.fieldLink RX1 35 "MailRoom" "failedValues" "[J") (List.mem_of_getElem? (i := 4) rfl)
  refine lv_aload_n hx hb dX1_noteFailed_0 rfl (lv_at hl 0 rfl) ?_
  refine x_gi_fl (v := (x_fl σ)) hx hb hts inW hown hK hP (rfl) k84 dX1_noteFailed_1 ?_
  refine lv_istore (lv' := [(5, .int (x_fl σ)), (0, .ref (O 0)), (1, .int k), (2, .long v), (4, .int f)]) hx hb dX1_noteFailed_4 hl (by decide) rfl (fun ls hl => ?_)
  refine lv_aload_n hx hb dX1_noteFailed_6 rfl (lv_at hl 1 rfl) ?_
  refine lv_dup hx hb dX1_noteFailed_7 rfl ?_
  refine x_gi_fl (v := (x_fl σ)) hx hb hts inW hown hK hP (rfl) k84 dX1_noteFailed_8 ?_
  refine lv_iconst (v := 1) hx hb dX1_noteFailed_11 (by decide) ?_
  refine lv_iadd hx hb dX1_noteFailed_12 ?_
  refine x_pi_fl hx hb hts inW hown hK hP hD hS k84 dX1_noteFailed_13 (fun H locs hP hD hS => ?_)
  refine lv_iload hx hb dX1_noteFailed_16 (lv_at hl 0 rfl) ?_
  refine lv_if_lt (tgt := 53) hx hb dX1_noteFailed_18 (by decide) (fun c18 => ?_) (fun c18 => ?_)
  · exact z_retv hx hb hr hlocks hK hP hD hS ((if_pos c18).trans (rfl)) dX1_noteFailed_53
  · refine lv_iload hx hb dX1_noteFailed_21 (lv_at hl 0 rfl) ?_
    refine lv_bipush (v := 30) hx hb dX1_noteFailed_23 (by decide) ?_
    refine lv_icmp_ge (tgt := 53) hx hb dX1_noteFailed_25 (by decide) (fun c25 => ?_) (fun c25 => ?_)
    · exact z_retv hx hb hr hlocks hK hP hD hS ((if_neg c18).trans ((if_pos c25).trans (rfl))) dX1_noteFailed_53
    · refine lv_aload_n hx hb dX1_noteFailed_28 rfl (lv_at hl 1 rfl) ?_
      refine x_ga_6 hx hb hts inW hown hK hP k29 dX1_noteFailed_29 ?_
      refine lv_iload hx hb dX1_noteFailed_32 (lv_at hl 0 rfl) ?_
      refine lv_iload_n hx hb dX1_noteFailed_34 rfl (lv_at hl 2 rfl) ?_
      refine x_st_fk (f := (x_fk σ)) (i := (x_fl σ)) hx hb hK hP hD hS (xr_fk_fl _ _) (x_lt30 (by assumption) (by assumption)) dX1_noteFailed_35 (fun H locs hP hD hS => ?_)
      refine lv_aload_n hx hb dX1_noteFailed_36 rfl (lv_at hl 1 rfl) ?_
      refine x_ga_7 hx hb hts inW hown hK hP k32 dX1_noteFailed_37 ?_
      refine lv_iload hx hb dX1_noteFailed_40 (lv_at hl 0 rfl) ?_
      refine lv_iload hx hb dX1_noteFailed_42 (lv_at hl 4 rfl) ?_
      refine x_st_fn (f := (x_fn σ)) (i := (x_fl σ)) hx hb hK hP hD hS ((xr_fn_fk _ _).trans (xr_fn_fl _ _)) (x_lt30 (by assumption) (by assumption)) dX1_noteFailed_44 (fun H locs hP hD hS => ?_)
      refine lv_aload_n hx hb dX1_noteFailed_45 rfl (lv_at hl 1 rfl) ?_
      refine x_ga_8 hx hb hts inW hown hK hP k35 dX1_noteFailed_46 ?_
      refine lv_iload hx hb dX1_noteFailed_49 (lv_at hl 0 rfl) ?_
      refine lv_lload_n hx hb dX1_noteFailed_51 rfl (lv_at hl 3 rfl) ?_
      refine x_st_fv (f := (x_fv σ)) (i := (x_fl σ)) hx hb hK hP hD hS ((xr_fv_fn _ _).trans ((xr_fv_fk _ _).trans (xr_fv_fl _ _))) (x_lt30 (by assumption) (by assumption)) dX1_noteFailed_52 (fun H locs hP hD hS => ?_)
      exact z_retv hx hb hr hlocks hK hP hD hS ((if_neg c18).trans ((if_neg c25).trans (rfl))) dX1_noteFailed_53
noncomputable def xf_drop  (k : Int32) (σ : SX) : Int32 × SX := if (xf_isKind k) = 0 then ((-2), σ) else (if ((x_hd σ) k.toNatClampNeg) = none then (0, xs_hd σ (va_up (x_hd σ) k.toNatClampNeg none)) else (1, xs_hd σ (va_up (x_hd σ) k.toNatClampNeg none)))
set_option maxRecDepth 100000 in
set_option maxHeartbeats 4000000 in
theorem cx_drop (l : Launch) (D : va_G) (O : Nat → Nat) (K : Nat → ClassId) (ad : Nat → Nat) (k : Int32) (σ : SX)  : cI l yX1_drop wsX1_drop { frames := 1, cells := 0, slots := 0, locals := 100 } 0 0 D (xT K) (xW O K ad) σ [.ref (O 0), .int k] (xf_drop k σ) := by
  intro sz
  refine z_start (cc := cX1_drop) (maxL := 3) (ret := (some .int)) (Qc := fun A => va_Qi (fun r9 u9 => r9 = (xf_drop k σ).1 ∧ u9 = (xf_drop k σ).2) (zB D (xT K) (xW O K ad) A) A) sz (by decide) rfl (Nat.le_of_ble_eq_true rfl) ?_
  intro p e s m below meth c A X hA hK hP hD hS ls hl
  obtain ⟨hx, hb, hr, hml, hts, hown, hlocks, hnm⟩ := X
  have hown : s.vm.findClass RX1 = some m.cls := hown
  have hl : lv_has ls 3 [(0, .ref (O 0)), (1, .int k)] := hl
  have inW : ∀ w ∈ wsX10, w ∈ wsX1_drop := fun w h => List.mem_cons_of_mem _ (List.mem_append_right _ h)
  have XX : CallFix p m c cX1_drop 3 s _ wsX1_drop RX1 := ⟨hx, hb, hml, hown, hts⟩
  have k19 := hts (.fieldLink RX1 19 "MailRoom" "handlers" "[LMailRoom$Handler;") (List.mem_of_getElem? (i := 1) rfl)
  refine lv_iload_n hx hb dX1_drop_0 rfl (lv_at hl 1 rfl) ?_
  refine z_calls (As := [.int k]) (rest := []) XX (cx_isKind l k) (va_cwS 1 hts gX1_drop_X1_isKind rfl rfl rfl qX1_isKind ⟨by decide, by decide⟩) rfl hl.1 rfl (Nat.le_of_ble_eq_true rfl) dX1_drop_1 ⟨Nat.zero_le _, Nat.zero_le _⟩ ?_
  refine lv_if_ne (tgt := 10) hx hb dX1_drop_4 (by decide) (fun c4 => ?_) (fun c4 => ?_)
  · refine lv_aload_n hx hb dX1_drop_10 rfl (lv_at hl 0 rfl) ?_
    refine x_ga_3 hx hb hts inW hown hK hP k19 dX1_drop_11 ?_
    refine lv_iload_n hx hb dX1_drop_14 rfl (lv_at hl 1 rfl) ?_
    refine x_aldH hx hb hK hP (i := k) (xkind_in (by assumption)) dX1_drop_15 ?_
    refine z_ifnull (tgt := 23) hx hb dX1_drop_16 (by decide) (fun c16 => ?_) (fun c16 => ?_)
    · refine lv_iconst (v := 0) hx hb dX1_drop_23 (by decide) ?_
      refine lv_istore_n (lv' := [(2, .int 0), (0, .ref (O 0)), (1, .int k)]) hx hb dX1_drop_24 rfl hl (by decide) rfl (fun ls hl => ?_)
      refine lv_aload_n hx hb dX1_drop_25 rfl (lv_at hl 1 rfl) ?_
      refine x_ga_3 hx hb hts inW hown hK hP k19 dX1_drop_26 ?_
      refine lv_iload_n hx hb dX1_drop_29 rfl (lv_at hl 2 rfl) ?_
      refine z_null ad hx hb dX1_drop_30 ?_
      refine x_astH hx hb hK hP hD hS (i := k) (fun j h => by cases h) (xkind_in (by assumption)) dX1_drop_31 (fun H locs hP hD hS => ?_)
      refine lv_iload_n hx hb dX1_drop_32 rfl (lv_at hl 0 rfl) ?_
      exact z_reti hx hb hr hlocks rfl hK hP hD hS ((if_neg c4).trans ((if_pos c16).trans (rfl))) dX1_drop_33
    · refine lv_iconst (v := 1) hx hb dX1_drop_19 (by decide) ?_
      refine lv_goto (tgt := 24) hx hb dX1_drop_20 (by decide) ?_
      refine lv_istore_n (lv' := [(2, .int 1), (0, .ref (O 0)), (1, .int k)]) hx hb dX1_drop_24 rfl hl (by decide) rfl (fun ls hl => ?_)
      refine lv_aload_n hx hb dX1_drop_25 rfl (lv_at hl 1 rfl) ?_
      refine x_ga_3 hx hb hts inW hown hK hP k19 dX1_drop_26 ?_
      refine lv_iload_n hx hb dX1_drop_29 rfl (lv_at hl 2 rfl) ?_
      refine z_null ad hx hb dX1_drop_30 ?_
      refine x_astH hx hb hK hP hD hS (i := k) (fun j h => by cases h) (xkind_in (by assumption)) dX1_drop_31 (fun H locs hP hD hS => ?_)
      refine lv_iload_n hx hb dX1_drop_32 rfl (lv_at hl 0 rfl) ?_
      exact z_reti hx hb hr hlocks rfl hK hP hD hS ((if_neg c4).trans ((if_neg c16).trans (rfl))) dX1_drop_33
  · refine lv_bipush (v := (-2)) hx hb dX1_drop_7 (by decide) ?_
    exact z_reti hx hb hr hlocks rfl hK hP hD hS ((if_pos c4).trans (rfl)) dX1_drop_9
noncomputable def xf_post  (k : Int32) (v : Int64) (σ : SX) : Int32 × SX := if (xf_isKind k) = 0 then ((-2), σ) else (if (xf_enqueue k v σ).1 = 0 then ((x_qs ((xf_enqueue k v σ).2)), (xf_enqueue k v σ).2) else ((-4), (xf_enqueue k v σ).2))
set_option maxRecDepth 100000 in
set_option maxHeartbeats 4000000 in
theorem cx_post (l : Launch) (D : va_G) (O : Nat → Nat) (K : Nat → ClassId) (ad : Nat → Nat) (k : Int32) (v : Int64) (σ : SX)  : cI l yX1_post wsX1_post { frames := 1, cells := 0, slots := 0, locals := 100 } 0 0 D (xT K) (xW O K ad) σ [.ref (O 0), .int k, .long v] (xf_post k v σ) := by
  intro sz
  refine z_start (cc := cX1_post) (maxL := 4) (ret := (some .int)) (Qc := fun A => va_Qi (fun r9 u9 => r9 = (xf_post k v σ).1 ∧ u9 = (xf_post k v σ).2) (zB D (xT K) (xW O K ad) A) A) sz (by decide) rfl (Nat.le_of_ble_eq_true rfl) ?_
  intro p e s m below meth c A X hA hK hP hD hS ls hl
  obtain ⟨hx, hb, hr, hml, hts, hown, hlocks, hnm⟩ := X
  have hown : s.vm.findClass RX1 = some m.cls := hown
  have hl : lv_has ls 4 [(0, .ref (O 0)), (1, .int k), (2, .long v)] := hl
  have inW : ∀ w ∈ wsX10, w ∈ wsX1_post := fun w h => List.mem_cons_of_mem _ (List.mem_append_right _ h)
  have XX : CallFix p m c cX1_post 4 s _ wsX1_post RX1 := ⟨hx, hb, hml, hown, hts⟩
  have k63 := hts (.fieldLink RX1 63 "MailRoom" "queueSize" "I") (List.mem_of_getElem? (i := 1) rfl)
  refine lv_iload_n hx hb dX1_post_0 rfl (lv_at hl 1 rfl) ?_
  refine z_calls (As := [.int k]) (rest := []) XX (cx_isKind l k) (va_cwS 1 hts gX1_post_X1_isKind rfl rfl rfl qX1_isKind ⟨by decide, by decide⟩) rfl hl.1 rfl (Nat.le_of_ble_eq_true rfl) dX1_post_1 ⟨Nat.zero_le _, Nat.zero_le _⟩ ?_
  refine lv_if_ne (tgt := 10) hx hb dX1_post_4 (by decide) (fun c4 => ?_) (fun c4 => ?_)
  · refine lv_aload_n hx hb dX1_post_10 rfl (lv_at hl 0 rfl) ?_
    refine lv_iload_n hx hb dX1_post_11 rfl (lv_at hl 1 rfl) ?_
    refine lv_lload_n hx hb dX1_post_12 rfl (lv_at hl 2 rfl) ?_
    refine z_calli (As := [.int k, .long v]) (rest := []) XX (cx_enqueue l D O K ad k v σ) (cwV 2 hts gX1_post_X1_enqueue rfl rfl rfl qX1_enqueue ⟨by decide, by decide⟩) (va_recv hK hP (ci := 1) (q0 := 0) rfl rfl) hK hP hD hS hA rfl hl.1 rfl (Nat.le_of_ble_eq_true rfl) dX1_post_13 ⟨Nat.zero_le _, Nat.zero_le _⟩ (fun H locs hP hD hS => ?_)
    refine lv_if_ne (tgt := 26) hx hb dX1_post_16 (by decide) (fun c16 => ?_) (fun c16 => ?_)
    · refine lv_bipush (v := (-4)) hx hb dX1_post_26 (by decide) ?_
      exact z_reti hx hb hr hlocks rfl hK hP hD hS ((if_neg c4).trans ((if_neg c16).trans (rfl))) dX1_post_28
    · refine lv_aload_n hx hb dX1_post_19 rfl (lv_at hl 0 rfl) ?_
      refine x_gi_qs (v := (x_qs ((xf_enqueue k v σ).2))) hx hb hts inW hown hK hP (rfl) k63 dX1_post_20 ?_
      refine lv_goto (tgt := 28) hx hb dX1_post_23 (by decide) ?_
      exact z_reti hx hb hr hlocks rfl hK hP hD hS ((if_neg c4).trans ((if_pos c16).trans (rfl))) dX1_post_28
  · refine lv_bipush (v := (-2)) hx hb dX1_post_7 (by decide) ?_
    exact z_reti hx hb hr hlocks rfl hK hP hD hS ((if_pos c4).trans (rfl)) dX1_post_9
end
section
def okr (n : Nat) (r : Option Nat) : Prop := ∀ j, r = some j → j < n
def xok (σ : SX) : Prop := (∀ k, okr (x_n σ) (x_hd σ k)) ∧ ∀ i, okr (x_n σ) (h_former (x_tab σ i)) ∧ okr (x_n σ) (h_other (x_tab σ i))
def xpres (σ τ : SX) : Prop := x_n τ = x_n σ ∧ (xok σ → xok τ)
theorem xpres.refl (σ : SX) : xpres σ σ := ⟨rfl, fun h => h⟩
theorem xpres.trans {a b c : SX} (h : xpres a b) (k : xpres b c) : xpres a c := ⟨k.1.trans h.1, fun z => k.2 (h.2 z)⟩
theorem xpres.of {σ τ : SX} (h1 : x_n τ = x_n σ) (h2 : x_hd τ = x_hd σ) (h3 : x_tab τ = x_tab σ) : xpres σ τ := by
  refine ⟨h1, fun h => ?_⟩
  unfold xok
  rw [h1, h2, h3]
  exact h
theorem xt_keep (b : Int32) (v : Int64) (σ : SX) : x_tab (xf_keep b v σ).2 = x_tab σ := by
  unfold xf_keep
  split <;> rfl
theorem xp_keep (b : Int32) (v : Int64) (σ : SX) : xpres σ (xf_keep b v σ).2 := by
  unfold xf_keep
  split
  · exact xpres.refl σ
  · exact xpres.of rfl rfl rfl
theorem xp_enqueue (b : Int32) (v : Int64) (σ : SX) : xpres σ (xf_enqueue b v σ).2 := by
  unfold xf_enqueue
  repeat' split
  all_goals first | exact xpres.refl σ | exact xpres.of rfl rfl rfl
theorem xok_begun {σ : SX} {j : Nat} {v : Int32} (h : xok σ) : xok (xs_tab σ (va_up (x_tab σ) j (hs_begun (x_tab σ j) v))) := by
  refine ⟨h.1, fun i => ?_⟩
  show okr (x_n σ) (h_former (va_up (x_tab σ) j (hs_begun (x_tab σ j) v) i)) ∧ okr (x_n σ) (h_other (va_up (x_tab σ) j (hs_begun (x_tab σ j) v) i))
  by_cases e : i = j
  · subst e
    rw [va_up_self]
    exact h.2 i
  · rw [va_up_ne _ _ e]
    exact h.2 i
theorem xokr_handlerOf {k : Int32} {σ : SX} (h : xok σ) : okr (x_n σ) (xf_handlerOf k σ) := by
  unfold xf_handlerOf
  split
  · intro j hj; cases hj
  · exact h.1 _
end
section
noncomputable def xf_share  (j : Nat) (v : Int64) (σ : SX) : Int32 × SX := if (lg_cmp (h_c ((x_tab σ) j)) 0) = 0 then (2, σ) else (if (xf_keep (h_a ((x_tab σ) j)) (v / (h_c ((x_tab σ) j))) σ).1 = 0 then (xf_keep (h_b ((x_tab ((xf_keep (h_a ((x_tab σ) j)) (v / (h_c ((x_tab σ) j))) σ).2)) j)) (v - v / (h_c ((x_tab ((xf_keep (h_a ((x_tab σ) j)) (v / (h_c ((x_tab σ) j))) σ).2)) j)) * (h_c ((x_tab ((xf_keep (h_a ((x_tab σ) j)) (v / (h_c ((x_tab σ) j))) σ).2)) j))) ((xf_keep (h_a ((x_tab σ) j)) (v / (h_c ((x_tab σ) j))) σ).2)) else (xf_keep (h_a ((x_tab σ) j)) (v / (h_c ((x_tab σ) j))) σ))
set_option maxRecDepth 100000 in
set_option maxHeartbeats 4000000 in
theorem cx_share (l : Launch) (D : va_G) (O : Nat → Nat) (K : Nat → ClassId) (ad : Nat → Nat) (j : Nat) (v : Int64) (σ : SX) (hj : j < x_n σ) : cI l yX1_share wsX1_share { frames := 2, cells := 0, slots := 0, locals := 200 } 0 0 D (xT K) (xW O K ad) σ [.ref (O 0), .ref (ad j), .long v] (xf_share j v σ) := by
  intro sz
  refine z_start (cc := cX1_share) (maxL := 5) (ret := (some .int)) (Qc := fun A => va_Qi (fun r9 u9 => r9 = (xf_share j v σ).1 ∧ u9 = (xf_share j v σ).2) (zB D (xT K) (xW O K ad) A) A) sz (by decide) rfl (Nat.le_of_ble_eq_true rfl) ?_
  intro p e s m below meth c A X hA hK hP hD hS ls hl
  obtain ⟨hx, hb, hr, hml, hts, hown, hlocks, hnm⟩ := X
  have hown : s.vm.findClass RX1 = some m.cls := hown
  have hl : lv_has ls 5 [(0, .ref (O 0)), (1, .ref (ad j)), (2, .long v)] := hl
  have inW : ∀ w ∈ wsX10, w ∈ wsX1_share := fun w h => List.mem_cons_of_mem _ (List.mem_append_right _ h)
  have inX0 : ∀ w ∈ wsX00, w ∈ wsX1_share := fun w h => List.mem_cons_of_mem _ (List.mem_append_left _ (List.mem_append_right _ h))
  have XX : CallFix p m c cX1_share 5 s _ wsX1_share RX1 := ⟨hx, hb, hml, hown, hts⟩
  have k113 := hts (.fieldLink RX1 113 "MailRoom$Handler" "c" "J") (List.mem_of_getElem? (i := 1) rfl)
  have k107 := hts (.fieldLink RX1 107 "MailRoom$Handler" "a" "I") (List.mem_of_getElem? (i := 2) rfl)
  have k152 := hts (.fieldLink RX1 152 "MailRoom$Handler" "b" "I") (List.mem_of_getElem? (i := 3) rfl)
  refine lv_aload_n hx hb dX1_share_0 rfl (lv_at hl 1 rfl) ?_
  refine x_getH (v := .long (h_c ((x_tab σ) j))) (T := (x_tab σ)) hx hb hts inX0 hown hK hP (rfl) (hj) 4 (by decide) k113 rfl dX1_share_1 ?_
  refine lv_lconst (v := 0) hx hb dX1_share_4 (by decide) ?_
  refine W.lcmp hx hb dX1_share_5 ?_
  refine lv_if_ne (tgt := 11) hx hb dX1_share_6 (by decide) (fun c6 => ?_) (fun c6 => ?_)
  · refine lv_aload_n hx hb dX1_share_11 rfl (lv_at hl 0 rfl) ?_
    refine lv_aload_n hx hb dX1_share_12 rfl (lv_at hl 1 rfl) ?_
    refine x_getH (v := .int (h_a ((x_tab σ) j))) (T := (x_tab σ)) hx hb hts inX0 hown hK hP (rfl) (hj) 2 (by decide) k107 rfl dX1_share_13 ?_
    refine lv_lload_n hx hb dX1_share_16 rfl (lv_at hl 2 rfl) ?_
    refine lv_aload_n hx hb dX1_share_17 rfl (lv_at hl 1 rfl) ?_
    refine x_getH (v := .long (h_c ((x_tab σ) j))) (T := (x_tab σ)) hx hb hts inX0 hown hK hP (rfl) (hj) 4 (by decide) k113 rfl dX1_share_18 ?_
    refine lv_ldiv hx hb dX1_share_21 (z_l0 c6) ?_
    refine z_calli (As := [.int (h_a ((x_tab σ) j)), .long (v / (h_c ((x_tab σ) j)))]) (rest := []) XX (cx_keep l D O K ad (h_a ((x_tab σ) j)) (v / (h_c ((x_tab σ) j))) σ) (cwV 2 hts gX1_share_X1_keep rfl rfl rfl qX1_keep ⟨by decide, by decide⟩) (va_recv hK hP (ci := 1) (q0 := 0) rfl rfl) hK hP hD hS hA rfl hl.1 rfl (Nat.le_of_ble_eq_true rfl) dX1_share_22 ⟨Nat.zero_le _, Nat.zero_le _⟩ (fun H locs hP hD hS => ?_)
    have hp22 : xpres σ (xf_keep (h_a ((x_tab σ) j)) (v / (h_c ((x_tab σ) j))) σ).2 := xp_keep ..
    have hj22 : j < x_n (xf_keep (h_a ((x_tab σ) j)) (v / (h_c ((x_tab σ) j))) σ).2 := by rw [hp22.1]; exact hj
    refine lv_istore (lv' := [(4, .int ((xf_keep (h_a ((x_tab σ) j)) (v / (h_c ((x_tab σ) j))) σ).1)), (0, .ref (O 0)), (1, .ref (ad j)), (2, .long v)]) hx hb dX1_share_25 hl (by decide) rfl (fun ls hl => ?_)
    refine lv_iload hx hb dX1_share_27 (lv_at hl 0 rfl) ?_
    refine lv_if_ne (tgt := 49) hx hb dX1_share_29 (by decide) (fun c29 => ?_) (fun c29 => ?_)
    · refine lv_iload hx hb dX1_share_49 (lv_at hl 0 rfl) ?_
      exact z_reti hx hb hr hlocks rfl hK hP hD hS ((if_neg c6).trans ((if_neg c29).trans (z_eta _))) dX1_share_51
    · refine lv_aload_n hx hb dX1_share_32 rfl (lv_at hl 1 rfl) ?_
      refine lv_aload_n hx hb dX1_share_33 rfl (lv_at hl 2 rfl) ?_
      refine x_getH (v := .int (h_b ((x_tab ((xf_keep (h_a ((x_tab σ) j)) (v / (h_c ((x_tab σ) j))) σ).2)) j))) (T := (x_tab ((xf_keep (h_a ((x_tab σ) j)) (v / (h_c ((x_tab σ) j))) σ).2))) hx hb hts inX0 hown hK hP (rfl) (hj22) 3 (by decide) k152 rfl dX1_share_34 ?_
      refine lv_lload_n hx hb dX1_share_37 rfl (lv_at hl 3 rfl) ?_
      refine lv_aload_n hx hb dX1_share_38 rfl (lv_at hl 2 rfl) ?_
      refine x_getH (v := .long (h_c ((x_tab ((xf_keep (h_a ((x_tab σ) j)) (v / (h_c ((x_tab σ) j))) σ).2)) j))) (T := (x_tab ((xf_keep (h_a ((x_tab σ) j)) (v / (h_c ((x_tab σ) j))) σ).2))) hx hb hts inX0 hown hK hP (rfl) (hj22) 4 (by decide) k113 rfl dX1_share_39 ?_
      refine lv_lrem hx hb dX1_share_42 (by rw [xt_keep]; exact z_l0 c6) ?_
      refine z_calli (As := [.int (h_b ((x_tab ((xf_keep (h_a ((x_tab σ) j)) (v / (h_c ((x_tab σ) j))) σ).2)) j)), .long (v - v / (h_c ((x_tab ((xf_keep (h_a ((x_tab σ) j)) (v / (h_c ((x_tab σ) j))) σ).2)) j)) * (h_c ((x_tab ((xf_keep (h_a ((x_tab σ) j)) (v / (h_c ((x_tab σ) j))) σ).2)) j)))]) (rest := []) XX (cx_keep l D O K ad (h_b ((x_tab ((xf_keep (h_a ((x_tab σ) j)) (v / (h_c ((x_tab σ) j))) σ).2)) j)) (v - v / (h_c ((x_tab ((xf_keep (h_a ((x_tab σ) j)) (v / (h_c ((x_tab σ) j))) σ).2)) j)) * (h_c ((x_tab ((xf_keep (h_a ((x_tab σ) j)) (v / (h_c ((x_tab σ) j))) σ).2)) j))) ((xf_keep (h_a ((x_tab σ) j)) (v / (h_c ((x_tab σ) j))) σ).2)) (cwV 2 hts gX1_share_X1_keep rfl rfl rfl qX1_keep ⟨by decide, by decide⟩) (va_recv hK hP (ci := 1) (q0 := 0) rfl rfl) hK hP hD hS hA rfl hl.1 rfl (Nat.le_of_ble_eq_true rfl) dX1_share_43 ⟨Nat.zero_le _, Nat.zero_le _⟩ (fun H locs hP hD hS => ?_)
      have hp43 : xpres ((xf_keep (h_a ((x_tab σ) j)) (v / (h_c ((x_tab σ) j))) σ).2) (xf_keep (h_b ((x_tab ((xf_keep (h_a ((x_tab σ) j)) (v / (h_c ((x_tab σ) j))) σ).2)) j)) (v - v / (h_c ((x_tab ((xf_keep (h_a ((x_tab σ) j)) (v / (h_c ((x_tab σ) j))) σ).2)) j)) * (h_c ((x_tab ((xf_keep (h_a ((x_tab σ) j)) (v / (h_c ((x_tab σ) j))) σ).2)) j))) ((xf_keep (h_a ((x_tab σ) j)) (v / (h_c ((x_tab σ) j))) σ).2)).2 := xp_keep ..
      have hj43 : j < x_n (xf_keep (h_b ((x_tab ((xf_keep (h_a ((x_tab σ) j)) (v / (h_c ((x_tab σ) j))) σ).2)) j)) (v - v / (h_c ((x_tab ((xf_keep (h_a ((x_tab σ) j)) (v / (h_c ((x_tab σ) j))) σ).2)) j)) * (h_c ((x_tab ((xf_keep (h_a ((x_tab σ) j)) (v / (h_c ((x_tab σ) j))) σ).2)) j))) ((xf_keep (h_a ((x_tab σ) j)) (v / (h_c ((x_tab σ) j))) σ).2)).2 := by rw [hp43.1]; exact hj22
      refine lv_goto (tgt := 51) hx hb dX1_share_46 (by decide) ?_
      exact z_reti hx hb hr hlocks rfl hK hP hD hS ((if_neg c6).trans ((if_pos c29).trans (z_eta _))) dX1_share_51
  · refine lv_iconst (v := 2) hx hb dX1_share_9 (by decide) ?_
    exact z_reti hx hb hr hlocks rfl hK hP hD hS ((if_pos c6).trans (rfl)) dX1_share_10
noncomputable def xf_keepAndSend  (j : Nat) (v : Int64) (σ : SX) : Int32 × SX := if (xf_keep (h_a ((x_tab σ) j)) v σ).1 = 0 then (if (lg_cmp v 1) ≤ 0 then (xf_keep (h_a ((x_tab σ) j)) v σ) else (xf_enqueue (h_b ((x_tab ((xf_keep (h_a ((x_tab σ) j)) v σ).2)) j)) (v + (h_c ((x_tab ((xf_keep (h_a ((x_tab σ) j)) v σ).2)) j))) ((xf_keep (h_a ((x_tab σ) j)) v σ).2))) else (xf_keep (h_a ((x_tab σ) j)) v σ)
set_option maxRecDepth 100000 in
set_option maxHeartbeats 4000000 in
theorem cx_keepAndSend (l : Launch) (D : va_G) (O : Nat → Nat) (K : Nat → ClassId) (ad : Nat → Nat) (j : Nat) (v : Int64) (σ : SX) (hj : j < x_n σ) : cI l yX1_keepAndSend wsX1_keepAndSend { frames := 2, cells := 0, slots := 0, locals := 200 } 0 0 D (xT K) (xW O K ad) σ [.ref (O 0), .ref (ad j), .long v] (xf_keepAndSend j v σ) := by
  intro sz
  refine z_start (cc := cX1_keepAndSend) (maxL := 5) (ret := (some .int)) (Qc := fun A => va_Qi (fun r9 u9 => r9 = (xf_keepAndSend j v σ).1 ∧ u9 = (xf_keepAndSend j v σ).2) (zB D (xT K) (xW O K ad) A) A) sz (by decide) rfl (Nat.le_of_ble_eq_true rfl) ?_
  intro p e s m below meth c A X hA hK hP hD hS ls hl
  obtain ⟨hx, hb, hr, hml, hts, hown, hlocks, hnm⟩ := X
  have hown : s.vm.findClass RX1 = some m.cls := hown
  have hl : lv_has ls 5 [(0, .ref (O 0)), (1, .ref (ad j)), (2, .long v)] := hl
  have inW : ∀ w ∈ wsX10, w ∈ wsX1_keepAndSend := fun w h => List.mem_cons_of_mem _ (List.mem_append_right _ h)
  have inX0 : ∀ w ∈ wsX00, w ∈ wsX1_keepAndSend := fun w h => List.mem_cons_of_mem _ (List.mem_append_left _ (List.mem_append_right _ h))
  have XX : CallFix p m c cX1_keepAndSend 5 s _ wsX1_keepAndSend RX1 := ⟨hx, hb, hml, hown, hts⟩
  have k107 := hts (.fieldLink RX1 107 "MailRoom$Handler" "a" "I") (List.mem_of_getElem? (i := 1) rfl)
  have k152 := hts (.fieldLink RX1 152 "MailRoom$Handler" "b" "I") (List.mem_of_getElem? (i := 2) rfl)
  have k113 := hts (.fieldLink RX1 113 "MailRoom$Handler" "c" "J") (List.mem_of_getElem? (i := 3) rfl)
  refine lv_aload_n hx hb dX1_keepAndSend_0 rfl (lv_at hl 0 rfl) ?_
  refine lv_aload_n hx hb dX1_keepAndSend_1 rfl (lv_at hl 1 rfl) ?_
  refine x_getH (v := .int (h_a ((x_tab σ) j))) (T := (x_tab σ)) hx hb hts inX0 hown hK hP (rfl) (hj) 2 (by decide) k107 rfl dX1_keepAndSend_2 ?_
  refine lv_lload_n hx hb dX1_keepAndSend_5 rfl (lv_at hl 2 rfl) ?_
  refine z_calli (As := [.int (h_a ((x_tab σ) j)), .long v]) (rest := []) XX (cx_keep l D O K ad (h_a ((x_tab σ) j)) v σ) (cwV 2 hts gX1_keepAndSend_X1_keep rfl rfl rfl qX1_keep ⟨by decide, by decide⟩) (va_recv hK hP (ci := 1) (q0 := 0) rfl rfl) hK hP hD hS hA rfl hl.1 rfl (Nat.le_of_ble_eq_true rfl) dX1_keepAndSend_6 ⟨Nat.zero_le _, Nat.zero_le _⟩ (fun H locs hP hD hS => ?_)
  have hp6 : xpres σ (xf_keep (h_a ((x_tab σ) j)) v σ).2 := xp_keep ..
  have hj6 : j < x_n (xf_keep (h_a ((x_tab σ) j)) v σ).2 := by rw [hp6.1]; exact hj
  refine lv_istore (lv' := [(4, .int ((xf_keep (h_a ((x_tab σ) j)) v σ).1)), (0, .ref (O 0)), (1, .ref (ad j)), (2, .long v)]) hx hb dX1_keepAndSend_9 hl (by decide) rfl (fun ls hl => ?_)
  refine lv_iload hx hb dX1_keepAndSend_11 (lv_at hl 0 rfl) ?_
  refine lv_if_ne (tgt := 39) hx hb dX1_keepAndSend_13 (by decide) (fun c13 => ?_) (fun c13 => ?_)
  · refine lv_iload hx hb dX1_keepAndSend_39 (lv_at hl 0 rfl) ?_
    exact z_reti hx hb hr hlocks rfl hK hP hD hS ((if_neg c13).trans (z_eta _)) dX1_keepAndSend_41
  · refine lv_lload_n hx hb dX1_keepAndSend_16 rfl (lv_at hl 3 rfl) ?_
    refine lv_lconst (v := 1) hx hb dX1_keepAndSend_17 (by decide) ?_
    refine W.lcmp hx hb dX1_keepAndSend_18 ?_
    refine lv_if_le (tgt := 39) hx hb dX1_keepAndSend_19 (by decide) (fun c19 => ?_) (fun c19 => ?_)
    · refine lv_iload hx hb dX1_keepAndSend_39 (lv_at hl 0 rfl) ?_
      exact z_reti hx hb hr hlocks rfl hK hP hD hS ((if_pos c13).trans ((if_pos c19).trans (z_eta _))) dX1_keepAndSend_41
    · refine lv_aload_n hx hb dX1_keepAndSend_22 rfl (lv_at hl 1 rfl) ?_
      refine lv_aload_n hx hb dX1_keepAndSend_23 rfl (lv_at hl 2 rfl) ?_
      refine x_getH (v := .int (h_b ((x_tab ((xf_keep (h_a ((x_tab σ) j)) v σ).2)) j))) (T := (x_tab ((xf_keep (h_a ((x_tab σ) j)) v σ).2))) hx hb hts inX0 hown hK hP (rfl) (hj6) 3 (by decide) k152 rfl dX1_keepAndSend_24 ?_
      refine lv_lload_n hx hb dX1_keepAndSend_27 rfl (lv_at hl 3 rfl) ?_
      refine lv_aload_n hx hb dX1_keepAndSend_28 rfl (lv_at hl 2 rfl) ?_
      refine x_getH (v := .long (h_c ((x_tab ((xf_keep (h_a ((x_tab σ) j)) v σ).2)) j))) (T := (x_tab ((xf_keep (h_a ((x_tab σ) j)) v σ).2))) hx hb hts inX0 hown hK hP (rfl) (hj6) 4 (by decide) k113 rfl dX1_keepAndSend_29 ?_
      refine lv_ladd hx hb dX1_keepAndSend_32 ?_
      refine z_calli (As := [.int (h_b ((x_tab ((xf_keep (h_a ((x_tab σ) j)) v σ).2)) j)), .long (v + (h_c ((x_tab ((xf_keep (h_a ((x_tab σ) j)) v σ).2)) j)))]) (rest := []) XX (cx_enqueue l D O K ad (h_b ((x_tab ((xf_keep (h_a ((x_tab σ) j)) v σ).2)) j)) (v + (h_c ((x_tab ((xf_keep (h_a ((x_tab σ) j)) v σ).2)) j))) ((xf_keep (h_a ((x_tab σ) j)) v σ).2)) (cwV 2 hts gX1_keepAndSend_X1_enqueue rfl rfl rfl qX1_enqueue ⟨by decide, by decide⟩) (va_recv hK hP (ci := 1) (q0 := 0) rfl rfl) hK hP hD hS hA rfl hl.1 rfl (Nat.le_of_ble_eq_true rfl) dX1_keepAndSend_33 ⟨Nat.zero_le _, Nat.zero_le _⟩ (fun H locs hP hD hS => ?_)
      have hp33 : xpres ((xf_keep (h_a ((x_tab σ) j)) v σ).2) (xf_enqueue (h_b ((x_tab ((xf_keep (h_a ((x_tab σ) j)) v σ).2)) j)) (v + (h_c ((x_tab ((xf_keep (h_a ((x_tab σ) j)) v σ).2)) j))) ((xf_keep (h_a ((x_tab σ) j)) v σ).2)).2 := xp_enqueue ..
      have hj33 : j < x_n (xf_enqueue (h_b ((x_tab ((xf_keep (h_a ((x_tab σ) j)) v σ).2)) j)) (v + (h_c ((x_tab ((xf_keep (h_a ((x_tab σ) j)) v σ).2)) j))) ((xf_keep (h_a ((x_tab σ) j)) v σ).2)).2 := by rw [hp33.1]; exact hj6
      refine lv_goto (tgt := 41) hx hb dX1_keepAndSend_36 (by decide) ?_
      exact z_reti hx hb hr hlocks rfl hK hP hD hS ((if_pos c13).trans ((if_neg c19).trans (z_eta _))) dX1_keepAndSend_41
noncomputable def xf_once  (j : Nat) (v : Int64) (σ : SX) : Int32 × SX := if (xf_keep (h_a ((x_tab σ) j)) v σ).1 = 0 then (if (xf_isKind (h_kind ((x_tab ((xf_keep (h_a ((x_tab σ) j)) v σ).2)) j))) = 0 then (xf_keep (h_a ((x_tab σ) j)) v σ) else ((xf_keep (h_a ((x_tab σ) j)) v σ).1, xs_hd ((xf_keep (h_a ((x_tab σ) j)) v σ).2) (va_up (x_hd ((xf_keep (h_a ((x_tab σ) j)) v σ).2)) ((h_kind ((x_tab ((xf_keep (h_a ((x_tab σ) j)) v σ).2)) j)).toNatClampNeg) (h_former ((x_tab ((xf_keep (h_a ((x_tab σ) j)) v σ).2)) j))))) else (xf_keep (h_a ((x_tab σ) j)) v σ)
set_option maxRecDepth 100000 in
set_option maxHeartbeats 4000000 in
theorem cx_once (l : Launch) (D : va_G) (O : Nat → Nat) (K : Nat → ClassId) (ad : Nat → Nat) (j : Nat) (v : Int64) (σ : SX) (hok : xok σ) (hj : j < x_n σ) : cI l yX1_once wsX1_once { frames := 2, cells := 0, slots := 0, locals := 200 } 0 0 D (xT K) (xW O K ad) σ [.ref (O 0), .ref (ad j), .long v] (xf_once j v σ) := by
  intro sz
  refine z_start (cc := cX1_once) (maxL := 5) (ret := (some .int)) (Qc := fun A => va_Qi (fun r9 u9 => r9 = (xf_once j v σ).1 ∧ u9 = (xf_once j v σ).2) (zB D (xT K) (xW O K ad) A) A) sz (by decide) rfl (Nat.le_of_ble_eq_true rfl) ?_
  intro p e s m below meth c A X hA hK hP hD hS ls hl
  obtain ⟨hx, hb, hr, hml, hts, hown, hlocks, hnm⟩ := X
  have hown : s.vm.findClass RX1 = some m.cls := hown
  have hl : lv_has ls 5 [(0, .ref (O 0)), (1, .ref (ad j)), (2, .long v)] := hl
  have inW : ∀ w ∈ wsX10, w ∈ wsX1_once := fun w h => List.mem_cons_of_mem _ (List.mem_append_right _ h)
  have inX0 : ∀ w ∈ wsX00, w ∈ wsX1_once := fun w h => List.mem_cons_of_mem _ (List.mem_append_left _ (List.mem_append_right _ h))
  have XX : CallFix p m c cX1_once 5 s _ wsX1_once RX1 := ⟨hx, hb, hml, hown, hts⟩
  have k107 := hts (.fieldLink RX1 107 "MailRoom$Handler" "a" "I") (List.mem_of_getElem? (i := 1) rfl)
  have k155 := hts (.fieldLink RX1 155 "MailRoom$Handler" "kind" "I") (List.mem_of_getElem? (i := 2) rfl)
  have k19 := hts (.fieldLink RX1 19 "MailRoom" "handlers" "[LMailRoom$Handler;") (List.mem_of_getElem? (i := 3) rfl)
  have k146 := hts (.fieldLink RX1 146 "MailRoom$Handler" "former" "LMailRoom$Handler;") (List.mem_of_getElem? (i := 4) rfl)
  refine lv_aload_n hx hb dX1_once_0 rfl (lv_at hl 0 rfl) ?_
  refine lv_aload_n hx hb dX1_once_1 rfl (lv_at hl 1 rfl) ?_
  refine x_getH (v := .int (h_a ((x_tab σ) j))) (T := (x_tab σ)) hx hb hts inX0 hown hK hP (rfl) (hj) 2 (by decide) k107 rfl dX1_once_2 ?_
  refine lv_lload_n hx hb dX1_once_5 rfl (lv_at hl 2 rfl) ?_
  refine z_calli (As := [.int (h_a ((x_tab σ) j)), .long v]) (rest := []) XX (cx_keep l D O K ad (h_a ((x_tab σ) j)) v σ) (cwV 2 hts gX1_once_X1_keep rfl rfl rfl qX1_keep ⟨by decide, by decide⟩) (va_recv hK hP (ci := 1) (q0 := 0) rfl rfl) hK hP hD hS hA rfl hl.1 rfl (Nat.le_of_ble_eq_true rfl) dX1_once_6 ⟨Nat.zero_le _, Nat.zero_le _⟩ (fun H locs hP hD hS => ?_)
  have hp6 : xpres σ (xf_keep (h_a ((x_tab σ) j)) v σ).2 := xp_keep ..
  have hj6 : j < x_n (xf_keep (h_a ((x_tab σ) j)) v σ).2 := by rw [hp6.1]; exact hj
  have hok6 : xok (xf_keep (h_a ((x_tab σ) j)) v σ).2 := hp6.2 (hok)
  refine lv_istore (lv' := [(4, .int ((xf_keep (h_a ((x_tab σ) j)) v σ).1)), (0, .ref (O 0)), (1, .ref (ad j)), (2, .long v)]) hx hb dX1_once_9 hl (by decide) rfl (fun ls hl => ?_)
  refine lv_iload hx hb dX1_once_11 (lv_at hl 0 rfl) ?_
  refine lv_if_ne (tgt := 39) hx hb dX1_once_13 (by decide) (fun c13 => ?_) (fun c13 => ?_)
  · refine lv_iload hx hb dX1_once_39 (lv_at hl 0 rfl) ?_
    exact z_reti hx hb hr hlocks rfl hK hP hD hS ((if_neg c13).trans (z_eta _)) dX1_once_41
  · refine lv_aload_n hx hb dX1_once_16 rfl (lv_at hl 2 rfl) ?_
    refine x_getH (v := .int (h_kind ((x_tab ((xf_keep (h_a ((x_tab σ) j)) v σ).2)) j))) (T := (x_tab ((xf_keep (h_a ((x_tab σ) j)) v σ).2))) hx hb hts inX0 hown hK hP (rfl) (hj6) 0 (by decide) k155 rfl dX1_once_17 ?_
    refine z_calls (As := [.int (h_kind ((x_tab ((xf_keep (h_a ((x_tab σ) j)) v σ).2)) j))]) (rest := []) XX (cx_isKind l (h_kind ((x_tab ((xf_keep (h_a ((x_tab σ) j)) v σ).2)) j))) (va_cwS 1 hts gX1_once_X1_isKind rfl rfl rfl qX1_isKind ⟨by decide, by decide⟩) rfl hl.1 rfl (Nat.le_of_ble_eq_true rfl) dX1_once_20 ⟨Nat.zero_le _, Nat.zero_le _⟩ ?_
    refine lv_if_eq (tgt := 39) hx hb dX1_once_23 (by decide) (fun c23 => ?_) (fun c23 => ?_)
    · refine lv_iload hx hb dX1_once_39 (lv_at hl 0 rfl) ?_
      exact z_reti hx hb hr hlocks rfl hK hP hD hS ((if_pos c13).trans ((if_pos c23).trans (z_eta _))) dX1_once_41
    · refine lv_aload_n hx hb dX1_once_26 rfl (lv_at hl 1 rfl) ?_
      refine x_ga_3 hx hb hts inW hown hK hP k19 dX1_once_27 ?_
      refine lv_aload_n hx hb dX1_once_30 rfl (lv_at hl 2 rfl) ?_
      refine x_getH (v := .int (h_kind ((x_tab ((xf_keep (h_a ((x_tab σ) j)) v σ).2)) j))) (T := (x_tab ((xf_keep (h_a ((x_tab σ) j)) v σ).2))) hx hb hts inX0 hown hK hP (rfl) (hj6) 0 (by decide) k155 rfl dX1_once_31 ?_
      refine lv_aload_n hx hb dX1_once_34 rfl (lv_at hl 2 rfl) ?_
      refine x_getH (v := va_re ad (h_former ((x_tab ((xf_keep (h_a ((x_tab σ) j)) v σ).2)) j))) (T := (x_tab ((xf_keep (h_a ((x_tab σ) j)) v σ).2))) hx hb hts inX0 hown hK hP (rfl) (hj6) 5 (by decide) k146 rfl dX1_once_35 ?_
      refine x_astH hx hb hK hP hD hS (i := (h_kind ((x_tab ((xf_keep (h_a ((x_tab σ) j)) v σ).2)) j))) (((hok6).2 _).1) (xkind_in (by assumption)) dX1_once_38 (fun H locs hP hD hS => ?_)
      refine lv_iload hx hb dX1_once_39 (lv_at hl 0 rfl) ?_
      exact z_reti hx hb hr hlocks rfl hK hP hD hS ((if_pos c13).trans ((if_neg c23).trans (rfl))) dX1_once_41
end
section
def rmB (d : Nat) : Room := { frames := 10 * d + 4, cells := 0, slots := 0, locals := 1000 * d + 400 }
def rmS (d : Nat) : Room := { frames := 10 * d + 8, cells := 0, slots := 0, locals := 1000 * d + 800 }
def rmA (d : Nat) : Room := { frames := 10 * d + 12, cells := 0, slots := 0, locals := 1000 * d + 1200 }
def xBG (l : Launch) (D : va_G) (O : Nat → Nat) (K : Nat → ClassId) (ad : Nat → Nat) (bg : Option Nat → Int64 → Int32 → SX → Int32 × SX) (d : Nat) : Prop :=
  ∀ (r : Option Nat) (v : Int64) (dp : Int32) (σ : SX), xok σ → okr (x_n σ) r → (∃ k, dp = nI k ∧ k + d = 9) → cI l yX1_begin wsX1_begin (rmB d) 0 0 D (xT K) (xW O K ad) σ [.ref (O 0), va_re ad r, .long v, .int dp] (bg r v dp σ)
def xBP (bg : Option Nat → Int64 → Int32 → SX → Int32 × SX) : Prop := ∀ (r : Option Nat) (v : Int64) (dp : Int32) (σ : SX), xok σ → okr (x_n σ) r → xpres σ (bg r v dp σ).2
theorem z_dp {dp : Int32} {d : Nat} (h : ∃ k, dp = nI k ∧ k + (d + 1) = 9) : ∃ k, dp + 1 = nI k ∧ k + d = 9 := by
  obtain ⟨k, rfl, h2⟩ := h
  exact ⟨k + 1, nI_1 k, by omega⟩
theorem z_some {r : Option Nat} (h : ¬ r = none) : ∃ j, r = some j := by
  cases r with
  | none => exact absurd rfl h
  | some j => exact ⟨j, rfl⟩
theorem z_deep {dp : Int32} (h : ∃ k, dp = nI k ∧ k + 0 = 9) : 8 < dp := by
  obtain ⟨k, rfl, h2⟩ := h
  have : k = 9 := by omega
  subst this
  decide
noncomputable def xf_sift (bg : Option Nat → Int64 → Int32 → SX → Int32 × SX) (j : Nat) (v : Int64) (dp : Int32) (σ : SX) : Int32 × SX := if (lg_cmp (h_c ((x_tab σ) j)) 0) = 0 then (2, σ) else (if (lg_cmp (v - v / (h_c ((x_tab σ) j)) * (h_c ((x_tab σ) j))) (((h_a ((x_tab σ) j))).toInt64)) = 0 then (bg (h_former ((x_tab σ) j)) v (dp + 1) σ) else (0, σ))
set_option maxRecDepth 100000 in
set_option maxHeartbeats 4000000 in
theorem cx_sift (l : Launch) (D : va_G) (O : Nat → Nat) (K : Nat → ClassId) (ad : Nat → Nat) (bg : Option Nat → Int64 → Int32 → SX → Int32 × SX) (d : Nat) (Hbg : xBG l D O K ad bg d) (Hbp : xBP bg) (j : Nat) (v : Int64) (dp : Int32) (σ : SX) (hok : xok σ) (hj : j < x_n σ) (hd : ∃ k, dp = nI k ∧ k + (d + 1) = 9) : cI l yX1_sift wsX1_sift (rmS d) 0 0 D (xT K) (xW O K ad) σ [.ref (O 0), .ref (ad j), .long v, .int dp] (xf_sift bg j v dp σ) := by
  intro sz
  refine z_start (cc := cX1_sift) (maxL := 5) (ret := (some .int)) (Qc := fun A => va_Qi (fun r9 u9 => r9 = (xf_sift bg j v dp σ).1 ∧ u9 = (xf_sift bg j v dp σ).2) (zB D (xT K) (xW O K ad) A) A) sz (by decide) rfl (Nat.le_of_ble_eq_true rfl) ?_
  intro p e s m below meth c A X hA hK hP hD hS ls hl
  obtain ⟨hx, hb, hr, hml, hts, hown, hlocks, hnm⟩ := X
  have hown : s.vm.findClass RX1 = some m.cls := hown
  have hl : lv_has ls 5 [(0, .ref (O 0)), (1, .ref (ad j)), (2, .long v), (4, .int dp)] := hl
  have inW : ∀ w ∈ wsX10, w ∈ wsX1_sift := fun w h => List.mem_cons_of_mem _ (List.mem_append_right _ h)
  have inX0 : ∀ w ∈ wsX00, w ∈ wsX1_sift := fun w h => List.mem_cons_of_mem _ (List.mem_append_left _ (List.mem_append_right _ h))
  have XX : CallFix p m c cX1_sift 5 s _ wsX1_sift RX1 := ⟨hx, hb, hml, hown, hts⟩
  have k113 := hts (.fieldLink RX1 113 "MailRoom$Handler" "c" "J") (List.mem_of_getElem? (i := 1) rfl)
  have k107 := hts (.fieldLink RX1 107 "MailRoom$Handler" "a" "I") (List.mem_of_getElem? (i := 2) rfl)
  have k146 := hts (.fieldLink RX1 146 "MailRoom$Handler" "former" "LMailRoom$Handler;") (List.mem_of_getElem? (i := 3) rfl)
  refine lv_aload_n hx hb dX1_sift_0 rfl (lv_at hl 1 rfl) ?_
  refine x_getH (v := .long (h_c ((x_tab σ) j))) (T := (x_tab σ)) hx hb hts inX0 hown hK hP (rfl) (hj) 4 (by decide) k113 rfl dX1_sift_1 ?_
  refine lv_lconst (v := 0) hx hb dX1_sift_4 (by decide) ?_
  refine W.lcmp hx hb dX1_sift_5 ?_
  refine lv_if_ne (tgt := 11) hx hb dX1_sift_6 (by decide) (fun c6 => ?_) (fun c6 => ?_)
  · refine lv_lload_n hx hb dX1_sift_11 rfl (lv_at hl 2 rfl) ?_
    refine lv_aload_n hx hb dX1_sift_12 rfl (lv_at hl 1 rfl) ?_
    refine x_getH (v := .long (h_c ((x_tab σ) j))) (T := (x_tab σ)) hx hb hts inX0 hown hK hP (rfl) (hj) 4 (by decide) k113 rfl dX1_sift_13 ?_
    refine lv_lrem hx hb dX1_sift_16 (z_l0 c6) ?_
    refine lv_aload_n hx hb dX1_sift_17 rfl (lv_at hl 1 rfl) ?_
    refine x_getH (v := .int (h_a ((x_tab σ) j))) (T := (x_tab σ)) hx hb hts inX0 hown hK hP (rfl) (hj) 2 (by decide) k107 rfl dX1_sift_18 ?_
    refine lv_i2l (v := ((h_a ((x_tab σ) j))).toInt64) hx hb dX1_sift_21 rfl ?_
    refine W.lcmp hx hb dX1_sift_22 ?_
    refine lv_if_ne (tgt := 42) hx hb dX1_sift_23 (by decide) (fun c23 => ?_) (fun c23 => ?_)
    · refine lv_iconst (v := 0) hx hb dX1_sift_42 (by decide) ?_
      exact z_reti hx hb hr hlocks rfl hK hP hD hS ((if_neg c6).trans ((if_neg c23).trans (rfl))) dX1_sift_43
    · refine lv_aload_n hx hb dX1_sift_26 rfl (lv_at hl 0 rfl) ?_
      refine lv_aload_n hx hb dX1_sift_27 rfl (lv_at hl 1 rfl) ?_
      refine x_getH (v := va_re ad (h_former ((x_tab σ) j))) (T := (x_tab σ)) hx hb hts inX0 hown hK hP (rfl) (hj) 5 (by decide) k146 rfl dX1_sift_28 ?_
      refine lv_lload_n hx hb dX1_sift_31 rfl (lv_at hl 2 rfl) ?_
      refine lv_iload hx hb dX1_sift_32 (lv_at hl 3 rfl) ?_
      refine lv_iconst (v := 1) hx hb dX1_sift_34 (by decide) ?_
      refine lv_iadd hx hb dX1_sift_35 ?_
      refine z_calli (As := [va_re ad (h_former ((x_tab σ) j)), .long v, .int (dp + 1)]) (rest := []) XX (Hbg (h_former ((x_tab σ) j)) v (dp + 1) σ (hok) (((hok).2 _).1) (z_dp hd)) (cwV 3 hts gX1_sift_X1_begin rfl rfl rfl qX1_begin (by constructor <;> (simp only [rmB, rmS, rmA]; omega))) (va_recv hK hP (ci := 1) (q0 := 0) rfl rfl) hK hP hD hS hA rfl hl.1 rfl (Nat.le_of_ble_eq_true rfl) dX1_sift_36 ⟨Nat.zero_le _, Nat.zero_le _⟩ (fun H locs hP hD hS => ?_)
      have hp36 : xpres σ (bg (h_former ((x_tab σ) j)) v (dp + 1) σ).2 := Hbp _ _ _ _ (hok) (((hok).2 _).1)
      have hj36 : j < x_n (bg (h_former ((x_tab σ) j)) v (dp + 1) σ).2 := by rw [hp36.1]; exact hj
      have hok36 : xok (bg (h_former ((x_tab σ) j)) v (dp + 1) σ).2 := hp36.2 (hok)
      refine lv_goto (tgt := 43) hx hb dX1_sift_39 (by decide) ?_
      exact z_reti hx hb hr hlocks rfl hK hP hD hS ((if_neg c6).trans ((if_pos c23).trans (z_eta _))) dX1_sift_43
  · refine lv_iconst (v := 2) hx hb dX1_sift_9 (by decide) ?_
    exact z_reti hx hb hr hlocks rfl hK hP hD hS ((if_pos c6).trans (rfl)) dX1_sift_10
noncomputable def xf_limit (bg : Option Nat → Int64 → Int32 → SX → Int32 × SX) (j : Nat) (v : Int64) (dp : Int32) (σ : SX) : Int32 × SX := if (h_begun ((x_tab σ) j)) < (h_b ((x_tab σ) j)) then (bg (h_former ((va_up (x_tab σ) j (hs_begun ((x_tab σ) j) ((h_begun ((x_tab σ) j)) + 1))) j)) v (dp + 1) (xs_tab σ (va_up (x_tab σ) j (hs_begun ((x_tab σ) j) ((h_begun ((x_tab σ) j)) + 1))))) else (4, σ)
set_option maxRecDepth 100000 in
set_option maxHeartbeats 4000000 in
theorem cx_limit (l : Launch) (D : va_G) (O : Nat → Nat) (K : Nat → ClassId) (ad : Nat → Nat) (bg : Option Nat → Int64 → Int32 → SX → Int32 × SX) (d : Nat) (Hbg : xBG l D O K ad bg d) (Hbp : xBP bg) (j : Nat) (v : Int64) (dp : Int32) (σ : SX) (hok : xok σ) (hj : j < x_n σ) (hd : ∃ k, dp = nI k ∧ k + (d + 1) = 9) : cI l yX1_limit wsX1_limit (rmS d) 0 0 D (xT K) (xW O K ad) σ [.ref (O 0), .ref (ad j), .long v, .int dp] (xf_limit bg j v dp σ) := by
  intro sz
  refine z_start (cc := cX1_limit) (maxL := 5) (ret := (some .int)) (Qc := fun A => va_Qi (fun r9 u9 => r9 = (xf_limit bg j v dp σ).1 ∧ u9 = (xf_limit bg j v dp σ).2) (zB D (xT K) (xW O K ad) A) A) sz (by decide) rfl (Nat.le_of_ble_eq_true rfl) ?_
  intro p e s m below meth c A X hA hK hP hD hS ls hl
  obtain ⟨hx, hb, hr, hml, hts, hown, hlocks, hnm⟩ := X
  have hown : s.vm.findClass RX1 = some m.cls := hown
  have hl : lv_has ls 5 [(0, .ref (O 0)), (1, .ref (ad j)), (2, .long v), (4, .int dp)] := hl
  have inW : ∀ w ∈ wsX10, w ∈ wsX1_limit := fun w h => List.mem_cons_of_mem _ (List.mem_append_right _ h)
  have inX0 : ∀ w ∈ wsX00, w ∈ wsX1_limit := fun w h => List.mem_cons_of_mem _ (List.mem_append_left _ (List.mem_append_right _ h))
  have XX : CallFix p m c cX1_limit 5 s _ wsX1_limit RX1 := ⟨hx, hb, hml, hown, hts⟩
  have k149 := hts (.fieldLink RX1 149 "MailRoom$Handler" "begun" "I") (List.mem_of_getElem? (i := 1) rfl)
  have k152 := hts (.fieldLink RX1 152 "MailRoom$Handler" "b" "I") (List.mem_of_getElem? (i := 2) rfl)
  have k146 := hts (.fieldLink RX1 146 "MailRoom$Handler" "former" "LMailRoom$Handler;") (List.mem_of_getElem? (i := 3) rfl)
  refine lv_aload_n hx hb dX1_limit_0 rfl (lv_at hl 1 rfl) ?_
  refine x_getH (v := .int (h_begun ((x_tab σ) j))) (T := (x_tab σ)) hx hb hts inX0 hown hK hP (rfl) (hj) 7 (by decide) k149 rfl dX1_limit_1 ?_
  refine lv_aload_n hx hb dX1_limit_4 rfl (lv_at hl 1 rfl) ?_
  refine x_getH (v := .int (h_b ((x_tab σ) j))) (T := (x_tab σ)) hx hb hts inX0 hown hK hP (rfl) (hj) 3 (by decide) k152 rfl dX1_limit_5 ?_
  refine lv_icmp_lt (tgt := 13) hx hb dX1_limit_8 (by decide) (fun c8 => ?_) (fun c8 => ?_)
  · refine lv_aload_n hx hb dX1_limit_13 rfl (lv_at hl 1 rfl) ?_
    refine lv_dup hx hb dX1_limit_14 rfl ?_
    refine x_getH (v := .int (h_begun ((x_tab σ) j))) (T := (x_tab σ)) hx hb hts inX0 hown hK hP (rfl) (hj) 7 (by decide) k149 rfl dX1_limit_15 ?_
    refine lv_iconst (v := 1) hx hb dX1_limit_18 (by decide) ?_
    refine lv_iadd hx hb dX1_limit_19 ?_
    refine x_putH hx hb hts inX0 hown hK hP hD hS (hj) k149 dX1_limit_20 (fun H locs hP hD hS => ?_)
    refine lv_aload_n hx hb dX1_limit_23 rfl (lv_at hl 0 rfl) ?_
    refine lv_aload_n hx hb dX1_limit_24 rfl (lv_at hl 1 rfl) ?_
    refine x_getH (v := va_re ad (h_former ((va_up (x_tab σ) j (hs_begun ((x_tab σ) j) ((h_begun ((x_tab σ) j)) + 1))) j))) (T := (va_up (x_tab σ) j (hs_begun ((x_tab σ) j) ((h_begun ((x_tab σ) j)) + 1)))) hx hb hts inX0 hown hK hP (xw_tab _ _) (z_ltE (xr_n_tab _ _) hj) 5 (by decide) k146 rfl dX1_limit_25 ?_
    refine lv_lload_n hx hb dX1_limit_28 rfl (lv_at hl 2 rfl) ?_
    refine lv_iload hx hb dX1_limit_29 (lv_at hl 3 rfl) ?_
    refine lv_iconst (v := 1) hx hb dX1_limit_31 (by decide) ?_
    refine lv_iadd hx hb dX1_limit_32 ?_
    refine z_calli (As := [va_re ad (h_former ((va_up (x_tab σ) j (hs_begun ((x_tab σ) j) ((h_begun ((x_tab σ) j)) + 1))) j)), .long v, .int (dp + 1)]) (rest := []) XX (Hbg (h_former ((va_up (x_tab σ) j (hs_begun ((x_tab σ) j) ((h_begun ((x_tab σ) j)) + 1))) j)) v (dp + 1) (xs_tab σ (va_up (x_tab σ) j (hs_begun ((x_tab σ) j) ((h_begun ((x_tab σ) j)) + 1)))) (xok_begun (hok)) (((xok_begun (hok)).2 _).1) (z_dp hd)) (cwV 3 hts gX1_limit_X1_begin rfl rfl rfl qX1_begin (by constructor <;> (simp only [rmB, rmS, rmA]; omega))) (va_recv hK hP (ci := 1) (q0 := 0) rfl rfl) hK hP hD hS hA rfl hl.1 rfl (Nat.le_of_ble_eq_true rfl) dX1_limit_33 ⟨Nat.zero_le _, Nat.zero_le _⟩ (fun H locs hP hD hS => ?_)
    have hp33 : xpres (xs_tab σ (va_up (x_tab σ) j (hs_begun ((x_tab σ) j) ((h_begun ((x_tab σ) j)) + 1)))) (bg (h_former ((va_up (x_tab σ) j (hs_begun ((x_tab σ) j) ((h_begun ((x_tab σ) j)) + 1))) j)) v (dp + 1) (xs_tab σ (va_up (x_tab σ) j (hs_begun ((x_tab σ) j) ((h_begun ((x_tab σ) j)) + 1))))).2 := Hbp _ _ _ _ (xok_begun (hok)) (((xok_begun (hok)).2 _).1)
    have hj33 : j < x_n (bg (h_former ((va_up (x_tab σ) j (hs_begun ((x_tab σ) j) ((h_begun ((x_tab σ) j)) + 1))) j)) v (dp + 1) (xs_tab σ (va_up (x_tab σ) j (hs_begun ((x_tab σ) j) ((h_begun ((x_tab σ) j)) + 1))))).2 := by rw [hp33.1]; exact z_ltE (xr_n_tab _ _) hj
    have hok33 : xok (bg (h_former ((va_up (x_tab σ) j (hs_begun ((x_tab σ) j) ((h_begun ((x_tab σ) j)) + 1))) j)) v (dp + 1) (xs_tab σ (va_up (x_tab σ) j (hs_begun ((x_tab σ) j) ((h_begun ((x_tab σ) j)) + 1))))).2 := hp33.2 (xok_begun (hok))
    exact z_reti hx hb hr hlocks rfl hK hP hD hS ((if_pos c8).trans (z_eta _)) dX1_limit_36
  · refine lv_iconst (v := 4) hx hb dX1_limit_11 (by decide) ?_
    exact z_reti hx hb hr hlocks rfl hK hP hD hS ((if_neg c8).trans (rfl)) dX1_limit_12
noncomputable def xf_both (bg : Option Nat → Int64 → Int32 → SX → Int32 × SX) (j : Nat) (v : Int64) (dp : Int32) (σ : SX) : Int32 × SX := if (bg (h_former ((x_tab σ) j)) v (dp + 1) σ).1 = 0 then (bg (h_other ((x_tab ((bg (h_former ((x_tab σ) j)) v (dp + 1) σ).2)) j)) v (dp + 1) ((bg (h_former ((x_tab σ) j)) v (dp + 1) σ).2)) else (bg (h_former ((x_tab σ) j)) v (dp + 1) σ)
set_option maxRecDepth 100000 in
set_option maxHeartbeats 4000000 in
theorem cx_both (l : Launch) (D : va_G) (O : Nat → Nat) (K : Nat → ClassId) (ad : Nat → Nat) (bg : Option Nat → Int64 → Int32 → SX → Int32 × SX) (d : Nat) (Hbg : xBG l D O K ad bg d) (Hbp : xBP bg) (j : Nat) (v : Int64) (dp : Int32) (σ : SX) (hok : xok σ) (hj : j < x_n σ) (hd : ∃ k, dp = nI k ∧ k + (d + 1) = 9) : cI l yX1_both wsX1_both (rmS d) 0 0 D (xT K) (xW O K ad) σ [.ref (O 0), .ref (ad j), .long v, .int dp] (xf_both bg j v dp σ) := by
  intro sz
  refine z_start (cc := cX1_both) (maxL := 6) (ret := (some .int)) (Qc := fun A => va_Qi (fun r9 u9 => r9 = (xf_both bg j v dp σ).1 ∧ u9 = (xf_both bg j v dp σ).2) (zB D (xT K) (xW O K ad) A) A) sz (by decide) rfl (Nat.le_of_ble_eq_true rfl) ?_
  intro p e s m below meth c A X hA hK hP hD hS ls hl
  obtain ⟨hx, hb, hr, hml, hts, hown, hlocks, hnm⟩ := X
  have hown : s.vm.findClass RX1 = some m.cls := hown
  have hl : lv_has ls 6 [(0, .ref (O 0)), (1, .ref (ad j)), (2, .long v), (4, .int dp)] := hl
  have inW : ∀ w ∈ wsX10, w ∈ wsX1_both := fun w h => List.mem_cons_of_mem _ (List.mem_append_right _ h)
  have inX0 : ∀ w ∈ wsX00, w ∈ wsX1_both := fun w h => List.mem_cons_of_mem _ (List.mem_append_left _ (List.mem_append_right _ h))
  have XX : CallFix p m c cX1_both 6 s _ wsX1_both RX1 := ⟨hx, hb, hml, hown, hts⟩
  have k146 := hts (.fieldLink RX1 146 "MailRoom$Handler" "former" "LMailRoom$Handler;") (List.mem_of_getElem? (i := 1) rfl)
  have k117 := hts (.fieldLink RX1 117 "MailRoom$Handler" "other" "LMailRoom$Handler;") (List.mem_of_getElem? (i := 2) rfl)
  refine lv_aload_n hx hb dX1_both_0 rfl (lv_at hl 0 rfl) ?_
  refine lv_aload_n hx hb dX1_both_1 rfl (lv_at hl 1 rfl) ?_
  refine x_getH (v := va_re ad (h_former ((x_tab σ) j))) (T := (x_tab σ)) hx hb hts inX0 hown hK hP (rfl) (hj) 5 (by decide) k146 rfl dX1_both_2 ?_
  refine lv_lload_n hx hb dX1_both_5 rfl (lv_at hl 2 rfl) ?_
  refine lv_iload hx hb dX1_both_6 (lv_at hl 3 rfl) ?_
  refine lv_iconst (v := 1) hx hb dX1_both_8 (by decide) ?_
  refine lv_iadd hx hb dX1_both_9 ?_
  refine z_calli (As := [va_re ad (h_former ((x_tab σ) j)), .long v, .int (dp + 1)]) (rest := []) XX (Hbg (h_former ((x_tab σ) j)) v (dp + 1) σ (hok) (((hok).2 _).1) (z_dp hd)) (cwV 3 hts gX1_both_X1_begin rfl rfl rfl qX1_begin (by constructor <;> (simp only [rmB, rmS, rmA]; omega))) (va_recv hK hP (ci := 1) (q0 := 0) rfl rfl) hK hP hD hS hA rfl hl.1 rfl (Nat.le_of_ble_eq_true rfl) dX1_both_10 ⟨Nat.zero_le _, Nat.zero_le _⟩ (fun H locs hP hD hS => ?_)
  have hp10 : xpres σ (bg (h_former ((x_tab σ) j)) v (dp + 1) σ).2 := Hbp _ _ _ _ (hok) (((hok).2 _).1)
  have hj10 : j < x_n (bg (h_former ((x_tab σ) j)) v (dp + 1) σ).2 := by rw [hp10.1]; exact hj
  have hok10 : xok (bg (h_former ((x_tab σ) j)) v (dp + 1) σ).2 := hp10.2 (hok)
  refine lv_istore (lv' := [(5, .int ((bg (h_former ((x_tab σ) j)) v (dp + 1) σ).1)), (0, .ref (O 0)), (1, .ref (ad j)), (2, .long v), (4, .int dp)]) hx hb dX1_both_13 hl (by decide) rfl (fun ls hl => ?_)
  refine lv_iload hx hb dX1_both_15 (lv_at hl 0 rfl) ?_
  refine lv_if_ne (tgt := 36) hx hb dX1_both_17 (by decide) (fun c17 => ?_) (fun c17 => ?_)
  · refine lv_iload hx hb dX1_both_36 (lv_at hl 0 rfl) ?_
    exact z_reti hx hb hr hlocks rfl hK hP hD hS ((if_neg c17).trans (z_eta _)) dX1_both_38
  · refine lv_aload_n hx hb dX1_both_20 rfl (lv_at hl 1 rfl) ?_
    refine lv_aload_n hx hb dX1_both_21 rfl (lv_at hl 2 rfl) ?_
    refine x_getH (v := va_re ad (h_other ((x_tab ((bg (h_former ((x_tab σ) j)) v (dp + 1) σ).2)) j))) (T := (x_tab ((bg (h_former ((x_tab σ) j)) v (dp + 1) σ).2))) hx hb hts inX0 hown hK hP (rfl) (hj10) 6 (by decide) k117 rfl dX1_both_22 ?_
    refine lv_lload_n hx hb dX1_both_25 rfl (lv_at hl 3 rfl) ?_
    refine lv_iload hx hb dX1_both_26 (lv_at hl 4 rfl) ?_
    refine lv_iconst (v := 1) hx hb dX1_both_28 (by decide) ?_
    refine lv_iadd hx hb dX1_both_29 ?_
    refine z_calli (As := [va_re ad (h_other ((x_tab ((bg (h_former ((x_tab σ) j)) v (dp + 1) σ).2)) j)), .long v, .int (dp + 1)]) (rest := []) XX (Hbg (h_other ((x_tab ((bg (h_former ((x_tab σ) j)) v (dp + 1) σ).2)) j)) v (dp + 1) ((bg (h_former ((x_tab σ) j)) v (dp + 1) σ).2) (hok10) (((hok10).2 _).2) (z_dp hd)) (cwV 3 hts gX1_both_X1_begin rfl rfl rfl qX1_begin (by constructor <;> (simp only [rmB, rmS, rmA]; omega))) (va_recv hK hP (ci := 1) (q0 := 0) rfl rfl) hK hP hD hS hA rfl hl.1 rfl (Nat.le_of_ble_eq_true rfl) dX1_both_30 ⟨Nat.zero_le _, Nat.zero_le _⟩ (fun H locs hP hD hS => ?_)
    have hp30 : xpres ((bg (h_former ((x_tab σ) j)) v (dp + 1) σ).2) (bg (h_other ((x_tab ((bg (h_former ((x_tab σ) j)) v (dp + 1) σ).2)) j)) v (dp + 1) ((bg (h_former ((x_tab σ) j)) v (dp + 1) σ).2)).2 := Hbp _ _ _ _ (hok10) (((hok10).2 _).2)
    have hj30 : j < x_n (bg (h_other ((x_tab ((bg (h_former ((x_tab σ) j)) v (dp + 1) σ).2)) j)) v (dp + 1) ((bg (h_former ((x_tab σ) j)) v (dp + 1) σ).2)).2 := by rw [hp30.1]; exact hj10
    have hok30 : xok (bg (h_other ((x_tab ((bg (h_former ((x_tab σ) j)) v (dp + 1) σ).2)) j)) v (dp + 1) ((bg (h_former ((x_tab σ) j)) v (dp + 1) σ).2)).2 := hp30.2 (hok10)
    refine lv_goto (tgt := 38) hx hb dX1_both_33 (by decide) ?_
    exact z_reti hx hb hr hlocks rfl hK hP hD hS ((if_pos c17).trans (z_eta _)) dX1_both_38
noncomputable def xf_keepFailure (bg : Option Nat → Int64 → Int32 → SX → Int32 × SX) (j : Nat) (v : Int64) (dp : Int32) (σ : SX) : Int32 × SX := if (bg (h_former ((x_tab σ) j)) v (dp + 1) σ).1 = 0 then (bg (h_former ((x_tab σ) j)) v (dp + 1) σ) else (if (bg (h_former ((x_tab σ) j)) v (dp + 1) σ).1 = 6 then (bg (h_former ((x_tab σ) j)) v (dp + 1) σ) else (xf_keep (h_a ((x_tab ((bg (h_former ((x_tab σ) j)) v (dp + 1) σ).2)) j)) (((bg (h_former ((x_tab σ) j)) v (dp + 1) σ).1).toInt64) ((bg (h_former ((x_tab σ) j)) v (dp + 1) σ).2)))
set_option maxRecDepth 100000 in
set_option maxHeartbeats 4000000 in
theorem cx_keepFailure (l : Launch) (D : va_G) (O : Nat → Nat) (K : Nat → ClassId) (ad : Nat → Nat) (bg : Option Nat → Int64 → Int32 → SX → Int32 × SX) (d : Nat) (Hbg : xBG l D O K ad bg d) (Hbp : xBP bg) (j : Nat) (v : Int64) (dp : Int32) (σ : SX) (hok : xok σ) (hj : j < x_n σ) (hd : ∃ k, dp = nI k ∧ k + (d + 1) = 9) : cI l yX1_keepFailure wsX1_keepFailure (rmS d) 0 0 D (xT K) (xW O K ad) σ [.ref (O 0), .ref (ad j), .long v, .int dp] (xf_keepFailure bg j v dp σ) := by
  intro sz
  refine z_start (cc := cX1_keepFailure) (maxL := 6) (ret := (some .int)) (Qc := fun A => va_Qi (fun r9 u9 => r9 = (xf_keepFailure bg j v dp σ).1 ∧ u9 = (xf_keepFailure bg j v dp σ).2) (zB D (xT K) (xW O K ad) A) A) sz (by decide) rfl (Nat.le_of_ble_eq_true rfl) ?_
  intro p e s m below meth c A X hA hK hP hD hS ls hl
  obtain ⟨hx, hb, hr, hml, hts, hown, hlocks, hnm⟩ := X
  have hown : s.vm.findClass RX1 = some m.cls := hown
  have hl : lv_has ls 6 [(0, .ref (O 0)), (1, .ref (ad j)), (2, .long v), (4, .int dp)] := hl
  have inW : ∀ w ∈ wsX10, w ∈ wsX1_keepFailure := fun w h => List.mem_cons_of_mem _ (List.mem_append_right _ h)
  have inX0 : ∀ w ∈ wsX00, w ∈ wsX1_keepFailure := fun w h => List.mem_cons_of_mem _ (List.mem_append_left _ (List.mem_append_right _ h))
  have XX : CallFix p m c cX1_keepFailure 6 s _ wsX1_keepFailure RX1 := ⟨hx, hb, hml, hown, hts⟩
  have k146 := hts (.fieldLink RX1 146 "MailRoom$Handler" "former" "LMailRoom$Handler;") (List.mem_of_getElem? (i := 1) rfl)
  have k107 := hts (.fieldLink RX1 107 "MailRoom$Handler" "a" "I") (List.mem_of_getElem? (i := 2) rfl)
  refine lv_aload_n hx hb dX1_keepFailure_0 rfl (lv_at hl 0 rfl) ?_
  refine lv_aload_n hx hb dX1_keepFailure_1 rfl (lv_at hl 1 rfl) ?_
  refine x_getH (v := va_re ad (h_former ((x_tab σ) j))) (T := (x_tab σ)) hx hb hts inX0 hown hK hP (rfl) (hj) 5 (by decide) k146 rfl dX1_keepFailure_2 ?_
  refine lv_lload_n hx hb dX1_keepFailure_5 rfl (lv_at hl 2 rfl) ?_
  refine lv_iload hx hb dX1_keepFailure_6 (lv_at hl 3 rfl) ?_
  refine lv_iconst (v := 1) hx hb dX1_keepFailure_8 (by decide) ?_
  refine lv_iadd hx hb dX1_keepFailure_9 ?_
  refine z_calli (As := [va_re ad (h_former ((x_tab σ) j)), .long v, .int (dp + 1)]) (rest := []) XX (Hbg (h_former ((x_tab σ) j)) v (dp + 1) σ (hok) (((hok).2 _).1) (z_dp hd)) (cwV 3 hts gX1_keepFailure_X1_begin rfl rfl rfl qX1_begin (by constructor <;> (simp only [rmB, rmS, rmA]; omega))) (va_recv hK hP (ci := 1) (q0 := 0) rfl rfl) hK hP hD hS hA rfl hl.1 rfl (Nat.le_of_ble_eq_true rfl) dX1_keepFailure_10 ⟨Nat.zero_le _, Nat.zero_le _⟩ (fun H locs hP hD hS => ?_)
  have hp10 : xpres σ (bg (h_former ((x_tab σ) j)) v (dp + 1) σ).2 := Hbp _ _ _ _ (hok) (((hok).2 _).1)
  have hj10 : j < x_n (bg (h_former ((x_tab σ) j)) v (dp + 1) σ).2 := by rw [hp10.1]; exact hj
  have hok10 : xok (bg (h_former ((x_tab σ) j)) v (dp + 1) σ).2 := hp10.2 (hok)
  refine lv_istore (lv' := [(5, .int ((bg (h_former ((x_tab σ) j)) v (dp + 1) σ).1)), (0, .ref (O 0)), (1, .ref (ad j)), (2, .long v), (4, .int dp)]) hx hb dX1_keepFailure_13 hl (by decide) rfl (fun ls hl => ?_)
  refine lv_iload hx hb dX1_keepFailure_15 (lv_at hl 0 rfl) ?_
  refine lv_if_eq (tgt := 27) hx hb dX1_keepFailure_17 (by decide) (fun c17 => ?_) (fun c17 => ?_)
  · refine lv_iload hx hb dX1_keepFailure_27 (lv_at hl 0 rfl) ?_
    refine lv_goto (tgt := 43) hx hb dX1_keepFailure_29 (by decide) ?_
    exact z_reti hx hb hr hlocks rfl hK hP hD hS ((if_pos c17).trans (z_eta _)) dX1_keepFailure_43
  · refine lv_iload hx hb dX1_keepFailure_20 (lv_at hl 0 rfl) ?_
    refine lv_bipush (v := 6) hx hb dX1_keepFailure_22 (by decide) ?_
    refine lv_icmp_ne (tgt := 32) hx hb dX1_keepFailure_24 (by decide) (fun c24 => ?_) (fun c24 => ?_)
    · refine lv_aload_n hx hb dX1_keepFailure_32 rfl (lv_at hl 1 rfl) ?_
      refine lv_aload_n hx hb dX1_keepFailure_33 rfl (lv_at hl 2 rfl) ?_
      refine x_getH (v := .int (h_a ((x_tab ((bg (h_former ((x_tab σ) j)) v (dp + 1) σ).2)) j))) (T := (x_tab ((bg (h_former ((x_tab σ) j)) v (dp + 1) σ).2))) hx hb hts inX0 hown hK hP (rfl) (hj10) 2 (by decide) k107 rfl dX1_keepFailure_34 ?_
      refine lv_iload hx hb dX1_keepFailure_37 (lv_at hl 0 rfl) ?_
      refine lv_i2l (v := ((bg (h_former ((x_tab σ) j)) v (dp + 1) σ).1).toInt64) hx hb dX1_keepFailure_39 rfl ?_
      refine z_calli (As := [.int (h_a ((x_tab ((bg (h_former ((x_tab σ) j)) v (dp + 1) σ).2)) j)), .long (((bg (h_former ((x_tab σ) j)) v (dp + 1) σ).1).toInt64)]) (rest := []) XX (cx_keep l D O K ad (h_a ((x_tab ((bg (h_former ((x_tab σ) j)) v (dp + 1) σ).2)) j)) (((bg (h_former ((x_tab σ) j)) v (dp + 1) σ).1).toInt64) ((bg (h_former ((x_tab σ) j)) v (dp + 1) σ).2)) (cwV 2 hts gX1_keepFailure_X1_keep rfl rfl rfl qX1_keep (by constructor <;> (simp only [rmB, rmS, rmA]; omega))) (va_recv hK hP (ci := 1) (q0 := 0) rfl rfl) hK hP hD hS hA rfl hl.1 rfl (Nat.le_of_ble_eq_true rfl) dX1_keepFailure_40 ⟨Nat.zero_le _, Nat.zero_le _⟩ (fun H locs hP hD hS => ?_)
      have hp40 : xpres ((bg (h_former ((x_tab σ) j)) v (dp + 1) σ).2) (xf_keep (h_a ((x_tab ((bg (h_former ((x_tab σ) j)) v (dp + 1) σ).2)) j)) (((bg (h_former ((x_tab σ) j)) v (dp + 1) σ).1).toInt64) ((bg (h_former ((x_tab σ) j)) v (dp + 1) σ).2)).2 := xp_keep ..
      have hj40 : j < x_n (xf_keep (h_a ((x_tab ((bg (h_former ((x_tab σ) j)) v (dp + 1) σ).2)) j)) (((bg (h_former ((x_tab σ) j)) v (dp + 1) σ).1).toInt64) ((bg (h_former ((x_tab σ) j)) v (dp + 1) σ).2)).2 := by rw [hp40.1]; exact hj10
      have hok40 : xok (xf_keep (h_a ((x_tab ((bg (h_former ((x_tab σ) j)) v (dp + 1) σ).2)) j)) (((bg (h_former ((x_tab σ) j)) v (dp + 1) σ).1).toInt64) ((bg (h_former ((x_tab σ) j)) v (dp + 1) σ).2)).2 := hp40.2 (hok10)
      exact z_reti hx hb hr hlocks rfl hK hP hD hS ((if_neg c17).trans ((if_neg c24).trans (z_eta _))) dX1_keepFailure_43
    · refine lv_iload hx hb dX1_keepFailure_27 (lv_at hl 0 rfl) ?_
      refine lv_goto (tgt := 43) hx hb dX1_keepFailure_29 (by decide) ?_
      exact z_reti hx hb hr hlocks rfl hK hP hD hS ((if_neg c17).trans ((if_pos c24).trans (z_eta _))) dX1_keepFailure_43
noncomputable def xf_mean (bg : Option Nat → Int64 → Int32 → SX → Int32 × SX) (j : Nat) (v : Int64) (dp : Int32) (σ : SX) : Int32 × SX := if (xf_keep (h_a ((x_tab σ) j)) v σ).1 = 0 then (if (h_former ((x_tab ((xf_keep (h_a ((x_tab σ) j)) v σ).2)) j)) = none then (xf_keep (h_a ((x_tab σ) j)) v σ) else (if (xf_isBox (h_a ((x_tab σ) j))) = 0 then (2, (xf_keep (h_a ((x_tab σ) j)) v σ).2) else (if ((x_bc ((xf_keep (h_a ((x_tab σ) j)) v σ).2)) (h_a ((x_tab σ) j)).toNatClampNeg) = 0 then (2, (xf_keep (h_a ((x_tab σ) j)) v σ).2) else (bg (h_former ((x_tab ((xf_keep (h_a ((x_tab σ) j)) v σ).2)) j)) (((x_bs ((xf_keep (h_a ((x_tab σ) j)) v σ).2)) (h_a ((x_tab σ) j)).toNatClampNeg) / (((x_bc ((xf_keep (h_a ((x_tab σ) j)) v σ).2)) (h_a ((x_tab σ) j)).toNatClampNeg)).toInt64) (dp + 1) ((xf_keep (h_a ((x_tab σ) j)) v σ).2))))) else (xf_keep (h_a ((x_tab σ) j)) v σ)
set_option maxRecDepth 100000 in
set_option maxHeartbeats 4000000 in
theorem cx_mean (l : Launch) (D : va_G) (O : Nat → Nat) (K : Nat → ClassId) (ad : Nat → Nat) (bg : Option Nat → Int64 → Int32 → SX → Int32 × SX) (d : Nat) (Hbg : xBG l D O K ad bg d) (Hbp : xBP bg) (j : Nat) (v : Int64) (dp : Int32) (σ : SX) (hok : xok σ) (hj : j < x_n σ) (hd : ∃ k, dp = nI k ∧ k + (d + 1) = 9) : cI l yX1_mean wsX1_mean (rmS d) 0 0 D (xT K) (xW O K ad) σ [.ref (O 0), .ref (ad j), .long v, .int dp] (xf_mean bg j v dp σ) := by
  intro sz
  refine z_start (cc := cX1_mean) (maxL := 7) (ret := (some .int)) (Qc := fun A => va_Qi (fun r9 u9 => r9 = (xf_mean bg j v dp σ).1 ∧ u9 = (xf_mean bg j v dp σ).2) (zB D (xT K) (xW O K ad) A) A) sz (by decide) rfl (Nat.le_of_ble_eq_true rfl) ?_
  intro p e s m below meth c A X hA hK hP hD hS ls hl
  obtain ⟨hx, hb, hr, hml, hts, hown, hlocks, hnm⟩ := X
  have hown : s.vm.findClass RX1 = some m.cls := hown
  have hl : lv_has ls 7 [(0, .ref (O 0)), (1, .ref (ad j)), (2, .long v), (4, .int dp)] := hl
  have inW : ∀ w ∈ wsX10, w ∈ wsX1_mean := fun w h => List.mem_cons_of_mem _ (List.mem_append_right _ h)
  have inX0 : ∀ w ∈ wsX00, w ∈ wsX1_mean := fun w h => List.mem_cons_of_mem _ (List.mem_append_left _ (List.mem_append_right _ h))
  have XX : CallFix p m c cX1_mean 7 s _ wsX1_mean RX1 := ⟨hx, hb, hml, hown, hts⟩
  have k107 := hts (.fieldLink RX1 107 "MailRoom$Handler" "a" "I") (List.mem_of_getElem? (i := 1) rfl)
  have k146 := hts (.fieldLink RX1 146 "MailRoom$Handler" "former" "LMailRoom$Handler;") (List.mem_of_getElem? (i := 2) rfl)
  have k13 := hts (.fieldLink RX1 13 "MailRoom" "boxCounts" "[I") (List.mem_of_getElem? (i := 3) rfl)
  have k9 := hts (.fieldLink RX1 9 "MailRoom" "boxSums" "[J") (List.mem_of_getElem? (i := 4) rfl)
  refine lv_aload_n hx hb dX1_mean_0 rfl (lv_at hl 1 rfl) ?_
  refine x_getH (v := .int (h_a ((x_tab σ) j))) (T := (x_tab σ)) hx hb hts inX0 hown hK hP (rfl) (hj) 2 (by decide) k107 rfl dX1_mean_1 ?_
  refine lv_istore (lv' := [(5, .int (h_a ((x_tab σ) j))), (0, .ref (O 0)), (1, .ref (ad j)), (2, .long v), (4, .int dp)]) hx hb dX1_mean_4 hl (by decide) rfl (fun ls hl => ?_)
  refine lv_aload_n hx hb dX1_mean_6 rfl (lv_at hl 1 rfl) ?_
  refine lv_iload hx hb dX1_mean_7 (lv_at hl 0 rfl) ?_
  refine lv_lload_n hx hb dX1_mean_9 rfl (lv_at hl 3 rfl) ?_
  refine z_calli (As := [.int (h_a ((x_tab σ) j)), .long v]) (rest := []) XX (cx_keep l D O K ad (h_a ((x_tab σ) j)) v σ) (cwV 2 hts gX1_mean_X1_keep rfl rfl rfl qX1_keep (by constructor <;> (simp only [rmB, rmS, rmA]; omega))) (va_recv hK hP (ci := 1) (q0 := 0) rfl rfl) hK hP hD hS hA rfl hl.1 rfl (Nat.le_of_ble_eq_true rfl) dX1_mean_10 ⟨Nat.zero_le _, Nat.zero_le _⟩ (fun H locs hP hD hS => ?_)
  have hp10 : xpres σ (xf_keep (h_a ((x_tab σ) j)) v σ).2 := xp_keep ..
  have hj10 : j < x_n (xf_keep (h_a ((x_tab σ) j)) v σ).2 := by rw [hp10.1]; exact hj
  have hok10 : xok (xf_keep (h_a ((x_tab σ) j)) v σ).2 := hp10.2 (hok)
  refine lv_istore (lv' := [(6, .int ((xf_keep (h_a ((x_tab σ) j)) v σ).1)), (5, .int (h_a ((x_tab σ) j))), (0, .ref (O 0)), (1, .ref (ad j)), (2, .long v), (4, .int dp)]) hx hb dX1_mean_13 hl (by decide) rfl (fun ls hl => ?_)
  refine lv_iload hx hb dX1_mean_15 (lv_at hl 0 rfl) ?_
  refine lv_if_ne (tgt := 27) hx hb dX1_mean_17 (by decide) (fun c17 => ?_) (fun c17 => ?_)
  · refine lv_iload hx hb dX1_mean_27 (lv_at hl 0 rfl) ?_
    exact z_reti hx hb hr hlocks rfl hK hP hD hS ((if_neg c17).trans (z_eta _)) dX1_mean_29
  · refine lv_aload_n hx hb dX1_mean_20 rfl (lv_at hl 3 rfl) ?_
    refine x_getH (v := va_re ad (h_former ((x_tab ((xf_keep (h_a ((x_tab σ) j)) v σ).2)) j))) (T := (x_tab ((xf_keep (h_a ((x_tab σ) j)) v σ).2))) hx hb hts inX0 hown hK hP (rfl) (hj10) 5 (by decide) k146 rfl dX1_mean_21 ?_
    refine z_ifnonnull (tgt := 30) hx hb dX1_mean_24 (by decide) (fun c24 => ?_) (fun c24 => ?_)
    · refine lv_iload hx hb dX1_mean_30 (lv_at hl 1 rfl) ?_
      refine z_calls (As := [.int (h_a ((x_tab σ) j))]) (rest := []) XX (cx_isBox l (h_a ((x_tab σ) j))) (va_cwS 1 hts gX1_mean_X1_isBox rfl rfl rfl qX1_isBox (by constructor <;> (simp only [rmB, rmS, rmA]; omega))) rfl hl.1 rfl (Nat.le_of_ble_eq_true rfl) dX1_mean_32 ⟨Nat.zero_le _, Nat.zero_le _⟩ ?_
      refine lv_if_eq (tgt := 48) hx hb dX1_mean_35 (by decide) (fun c35 => ?_) (fun c35 => ?_)
      · refine lv_iconst (v := 2) hx hb dX1_mean_48 (by decide) ?_
        exact z_reti hx hb hr hlocks rfl hK hP hD hS ((if_pos c17).trans ((if_neg c24).trans ((if_pos c35).trans (rfl)))) dX1_mean_49
      · refine lv_aload_n hx hb dX1_mean_38 rfl (lv_at hl 2 rfl) ?_
        refine x_ga_2 hx hb hts inW hown hK hP k13 dX1_mean_39 ?_
        refine lv_iload hx hb dX1_mean_42 (lv_at hl 1 rfl) ?_
        refine x_ld_bc (f := (x_bc ((xf_keep (h_a ((x_tab σ) j)) v σ).2))) (i := (h_a ((x_tab σ) j))) hx hb hK hP (rfl) (xbox_in (by assumption)) dX1_mean_44 ?_
        refine lv_if_ne (tgt := 50) hx hb dX1_mean_45 (by decide) (fun c45 => ?_) (fun c45 => ?_)
        · refine lv_aload_n hx hb dX1_mean_50 rfl (lv_at hl 2 rfl) ?_
          refine lv_aload_n hx hb dX1_mean_51 rfl (lv_at hl 3 rfl) ?_
          refine x_getH (v := va_re ad (h_former ((x_tab ((xf_keep (h_a ((x_tab σ) j)) v σ).2)) j))) (T := (x_tab ((xf_keep (h_a ((x_tab σ) j)) v σ).2))) hx hb hts inX0 hown hK hP (rfl) (hj10) 5 (by decide) k146 rfl dX1_mean_52 ?_
          refine lv_aload_n hx hb dX1_mean_55 rfl (lv_at hl 2 rfl) ?_
          refine x_ga_1 hx hb hts inW hown hK hP k9 dX1_mean_56 ?_
          refine lv_iload hx hb dX1_mean_59 (lv_at hl 1 rfl) ?_
          refine x_ld_bs (f := (x_bs ((xf_keep (h_a ((x_tab σ) j)) v σ).2))) (i := (h_a ((x_tab σ) j))) hx hb hK hP (rfl) (xbox_in (by assumption)) dX1_mean_61 ?_
          refine lv_aload_n hx hb dX1_mean_62 rfl (lv_at hl 2 rfl) ?_
          refine x_ga_2 hx hb hts inW hown hK hP k13 dX1_mean_63 ?_
          refine lv_iload hx hb dX1_mean_66 (lv_at hl 1 rfl) ?_
          refine x_ld_bc (f := (x_bc ((xf_keep (h_a ((x_tab σ) j)) v σ).2))) (i := (h_a ((x_tab σ) j))) hx hb hK hP (rfl) (xbox_in (by assumption)) dX1_mean_68 ?_
          refine lv_i2l (v := (((x_bc ((xf_keep (h_a ((x_tab σ) j)) v σ).2)) (h_a ((x_tab σ) j)).toNatClampNeg)).toInt64) hx hb dX1_mean_69 rfl ?_
          refine lv_ldiv hx hb dX1_mean_70 (z_i0 c45) ?_
          refine lv_iload hx hb dX1_mean_71 (lv_at hl 5 rfl) ?_
          refine lv_iconst (v := 1) hx hb dX1_mean_73 (by decide) ?_
          refine lv_iadd hx hb dX1_mean_74 ?_
          refine z_calli (As := [va_re ad (h_former ((x_tab ((xf_keep (h_a ((x_tab σ) j)) v σ).2)) j)), .long (((x_bs ((xf_keep (h_a ((x_tab σ) j)) v σ).2)) (h_a ((x_tab σ) j)).toNatClampNeg) / (((x_bc ((xf_keep (h_a ((x_tab σ) j)) v σ).2)) (h_a ((x_tab σ) j)).toNatClampNeg)).toInt64), .int (dp + 1)]) (rest := []) XX (Hbg (h_former ((x_tab ((xf_keep (h_a ((x_tab σ) j)) v σ).2)) j)) (((x_bs ((xf_keep (h_a ((x_tab σ) j)) v σ).2)) (h_a ((x_tab σ) j)).toNatClampNeg) / (((x_bc ((xf_keep (h_a ((x_tab σ) j)) v σ).2)) (h_a ((x_tab σ) j)).toNatClampNeg)).toInt64) (dp + 1) ((xf_keep (h_a ((x_tab σ) j)) v σ).2) (hok10) (((hok10).2 _).1) (z_dp hd)) (cwV 3 hts gX1_mean_X1_begin rfl rfl rfl qX1_begin (by constructor <;> (simp only [rmB, rmS, rmA]; omega))) (va_recv hK hP (ci := 1) (q0 := 0) rfl rfl) hK hP hD hS hA rfl hl.1 rfl (Nat.le_of_ble_eq_true rfl) dX1_mean_75 ⟨Nat.zero_le _, Nat.zero_le _⟩ (fun H locs hP hD hS => ?_)
          have hp75 : xpres ((xf_keep (h_a ((x_tab σ) j)) v σ).2) (bg (h_former ((x_tab ((xf_keep (h_a ((x_tab σ) j)) v σ).2)) j)) (((x_bs ((xf_keep (h_a ((x_tab σ) j)) v σ).2)) (h_a ((x_tab σ) j)).toNatClampNeg) / (((x_bc ((xf_keep (h_a ((x_tab σ) j)) v σ).2)) (h_a ((x_tab σ) j)).toNatClampNeg)).toInt64) (dp + 1) ((xf_keep (h_a ((x_tab σ) j)) v σ).2)).2 := Hbp _ _ _ _ (hok10) (((hok10).2 _).1)
          have hj75 : j < x_n (bg (h_former ((x_tab ((xf_keep (h_a ((x_tab σ) j)) v σ).2)) j)) (((x_bs ((xf_keep (h_a ((x_tab σ) j)) v σ).2)) (h_a ((x_tab σ) j)).toNatClampNeg) / (((x_bc ((xf_keep (h_a ((x_tab σ) j)) v σ).2)) (h_a ((x_tab σ) j)).toNatClampNeg)).toInt64) (dp + 1) ((xf_keep (h_a ((x_tab σ) j)) v σ).2)).2 := by rw [hp75.1]; exact hj10
          have hok75 : xok (bg (h_former ((x_tab ((xf_keep (h_a ((x_tab σ) j)) v σ).2)) j)) (((x_bs ((xf_keep (h_a ((x_tab σ) j)) v σ).2)) (h_a ((x_tab σ) j)).toNatClampNeg) / (((x_bc ((xf_keep (h_a ((x_tab σ) j)) v σ).2)) (h_a ((x_tab σ) j)).toNatClampNeg)).toInt64) (dp + 1) ((xf_keep (h_a ((x_tab σ) j)) v σ).2)).2 := hp75.2 (hok10)
          exact z_reti hx hb hr hlocks rfl hK hP hD hS ((if_pos c17).trans ((if_neg c24).trans ((if_neg c35).trans ((if_neg c45).trans (z_eta _))))) dX1_mean_78
        · refine lv_iconst (v := 2) hx hb dX1_mean_48 (by decide) ?_
          exact z_reti hx hb hr hlocks rfl hK hP hD hS ((if_pos c17).trans ((if_neg c24).trans ((if_neg c35).trans ((if_pos c45).trans (rfl))))) dX1_mean_49
    · refine lv_iload hx hb dX1_mean_27 (lv_at hl 0 rfl) ?_
      exact z_reti hx hb hr hlocks rfl hK hP hD hS ((if_pos c17).trans ((if_pos c24).trans (z_eta _))) dX1_mean_29
noncomputable def xf_act (bg : Option Nat → Int64 → Int32 → SX → Int32 × SX) (j : Nat) (v : Int64) (dp : Int32) (σ : SX) : Int32 × SX := if (h_sort ((x_tab σ) j)) = 0 then (xf_keep (h_a ((x_tab σ) j)) v σ) else (if (h_sort ((x_tab σ) j)) = 1 then (xf_enqueue (h_a ((x_tab σ) j)) (v + (h_c ((x_tab σ) j))) σ) else (if (h_sort ((x_tab σ) j)) = 2 then (bg (h_other ((x_tab σ) j)) (v + (h_c ((x_tab σ) j))) (dp + 1) σ) else (if (h_sort ((x_tab σ) j)) = 3 then (bg (xf_handlerOf (h_a ((x_tab σ) j)) σ) (v + (h_c ((x_tab σ) j))) (dp + 1) σ) else (if (h_sort ((x_tab σ) j)) = 4 then (xf_sift bg j v dp σ) else (if (h_sort ((x_tab σ) j)) = 5 then (xf_limit bg j v dp σ) else (if (h_sort ((x_tab σ) j)) = 6 then (xf_once j v σ) else (if (h_sort ((x_tab σ) j)) = 7 then (xf_both bg j v dp σ) else (if (h_sort ((x_tab σ) j)) = 8 then (xf_share j v σ) else (if (h_sort ((x_tab σ) j)) = 9 then (xf_keep ((v).toInt32) 1 σ) else (if (h_sort ((x_tab σ) j)) = 10 then (xf_keepFailure bg j v dp σ) else (if (h_sort ((x_tab σ) j)) = 11 then (xf_mean bg j v dp σ) else (xf_keepAndSend j v σ))))))))))))
set_option maxRecDepth 100000 in
set_option maxHeartbeats 4000000 in
theorem cx_act (l : Launch) (D : va_G) (O : Nat → Nat) (K : Nat → ClassId) (ad : Nat → Nat) (bg : Option Nat → Int64 → Int32 → SX → Int32 × SX) (d : Nat) (Hbg : xBG l D O K ad bg d) (Hbp : xBP bg) (j : Nat) (v : Int64) (dp : Int32) (σ : SX) (hok : xok σ) (hj : j < x_n σ) (hd : ∃ k, dp = nI k ∧ k + (d + 1) = 9) : cI l yX1_act wsX1_act (rmA d) 0 0 D (xT K) (xW O K ad) σ [.ref (O 0), .ref (ad j), .long v, .int dp] (xf_act bg j v dp σ) := by
  intro sz
  refine z_start (cc := cX1_act) (maxL := 5) (ret := (some .int)) (Qc := fun A => va_Qi (fun r9 u9 => r9 = (xf_act bg j v dp σ).1 ∧ u9 = (xf_act bg j v dp σ).2) (zB D (xT K) (xW O K ad) A) A) sz (by decide) rfl (Nat.le_of_ble_eq_true rfl) ?_
  intro p e s m below meth c A X hA hK hP hD hS ls hl
  obtain ⟨hx, hb, hr, hml, hts, hown, hlocks, hnm⟩ := X
  have hown : s.vm.findClass RX1 = some m.cls := hown
  have hl : lv_has ls 5 [(0, .ref (O 0)), (1, .ref (ad j)), (2, .long v), (4, .int dp)] := hl
  have inW : ∀ w ∈ wsX10, w ∈ wsX1_act := fun w h => List.mem_cons_of_mem _ (List.mem_append_right _ h)
  have inX0 : ∀ w ∈ wsX00, w ∈ wsX1_act := fun w h => List.mem_cons_of_mem _ (List.mem_append_left _ (List.mem_append_right _ h))
  have XX : CallFix p m c cX1_act 5 s _ wsX1_act RX1 := ⟨hx, hb, hml, hown, hts⟩
  have k104 := hts (.fieldLink RX1 104 "MailRoom$Handler" "sort" "I") (List.mem_of_getElem? (i := 1) rfl)
  have k107 := hts (.fieldLink RX1 107 "MailRoom$Handler" "a" "I") (List.mem_of_getElem? (i := 2) rfl)
  have k113 := hts (.fieldLink RX1 113 "MailRoom$Handler" "c" "J") (List.mem_of_getElem? (i := 3) rfl)
  have k117 := hts (.fieldLink RX1 117 "MailRoom$Handler" "other" "LMailRoom$Handler;") (List.mem_of_getElem? (i := 4) rfl)
  refine lv_aload_n hx hb dX1_act_0 rfl (lv_at hl 1 rfl) ?_
  refine x_getH (v := .int (h_sort ((x_tab σ) j))) (T := (x_tab σ)) hx hb hts inX0 hown hK hP (rfl) (hj) 1 (by decide) k104 rfl dX1_act_1 ?_
  by_cases t4_0 : (h_sort ((x_tab σ) j)) = 0
  · refine lv_tableIn (off := 64) (tgt := 68) hx hb dX1_act_4 (by rw [t4_0]; decide) (by rw [t4_0]; decide) (by rw [t4_0]; rfl) (by decide) ?_
    refine lv_aload_n hx hb dX1_act_68 rfl (lv_at hl 0 rfl) ?_
    refine lv_aload_n hx hb dX1_act_69 rfl (lv_at hl 1 rfl) ?_
    refine x_getH (v := .int (h_a ((x_tab σ) j))) (T := (x_tab σ)) hx hb hts inX0 hown hK hP (rfl) (hj) 2 (by decide) k107 rfl dX1_act_70 ?_
    refine lv_lload_n hx hb dX1_act_73 rfl (lv_at hl 2 rfl) ?_
    refine z_calli (As := [.int (h_a ((x_tab σ) j)), .long v]) (rest := []) XX (cx_keep l D O K ad (h_a ((x_tab σ) j)) v σ) (cwV 2 hts gX1_act_X1_keep rfl rfl rfl qX1_keep (by constructor <;> (simp only [rmB, rmS, rmA]; omega))) (va_recv hK hP (ci := 1) (q0 := 0) rfl rfl) hK hP hD hS hA rfl hl.1 rfl (Nat.le_of_ble_eq_true rfl) dX1_act_74 ⟨Nat.zero_le _, Nat.zero_le _⟩ (fun H locs hP hD hS => ?_)
    exact z_reti hx hb hr hlocks rfl hK hP hD hS ((if_pos t4_0).trans (z_eta _)) dX1_act_77
  · by_cases t4_1 : (h_sort ((x_tab σ) j)) = 1
    · refine lv_tableIn (off := 74) (tgt := 78) hx hb dX1_act_4 (by rw [t4_1]; decide) (by rw [t4_1]; decide) (by rw [t4_1]; rfl) (by decide) ?_
      refine lv_aload_n hx hb dX1_act_78 rfl (lv_at hl 0 rfl) ?_
      refine lv_aload_n hx hb dX1_act_79 rfl (lv_at hl 1 rfl) ?_
      refine x_getH (v := .int (h_a ((x_tab σ) j))) (T := (x_tab σ)) hx hb hts inX0 hown hK hP (rfl) (hj) 2 (by decide) k107 rfl dX1_act_80 ?_
      refine lv_lload_n hx hb dX1_act_83 rfl (lv_at hl 2 rfl) ?_
      refine lv_aload_n hx hb dX1_act_84 rfl (lv_at hl 1 rfl) ?_
      refine x_getH (v := .long (h_c ((x_tab σ) j))) (T := (x_tab σ)) hx hb hts inX0 hown hK hP (rfl) (hj) 4 (by decide) k113 rfl dX1_act_85 ?_
      refine lv_ladd hx hb dX1_act_88 ?_
      refine z_calli (As := [.int (h_a ((x_tab σ) j)), .long (v + (h_c ((x_tab σ) j)))]) (rest := []) XX (cx_enqueue l D O K ad (h_a ((x_tab σ) j)) (v + (h_c ((x_tab σ) j))) σ) (cwV 2 hts gX1_act_X1_enqueue rfl rfl rfl qX1_enqueue (by constructor <;> (simp only [rmB, rmS, rmA]; omega))) (va_recv hK hP (ci := 1) (q0 := 0) rfl rfl) hK hP hD hS hA rfl hl.1 rfl (Nat.le_of_ble_eq_true rfl) dX1_act_89 ⟨Nat.zero_le _, Nat.zero_le _⟩ (fun H locs hP hD hS => ?_)
      exact z_reti hx hb hr hlocks rfl hK hP hD hS ((if_neg t4_0).trans ((if_pos t4_1).trans (z_eta _))) dX1_act_92
    · by_cases t4_2 : (h_sort ((x_tab σ) j)) = 2
      · refine lv_tableIn (off := 89) (tgt := 93) hx hb dX1_act_4 (by rw [t4_2]; decide) (by rw [t4_2]; decide) (by rw [t4_2]; rfl) (by decide) ?_
        refine lv_aload_n hx hb dX1_act_93 rfl (lv_at hl 0 rfl) ?_
        refine lv_aload_n hx hb dX1_act_94 rfl (lv_at hl 1 rfl) ?_
        refine x_getH (v := va_re ad (h_other ((x_tab σ) j))) (T := (x_tab σ)) hx hb hts inX0 hown hK hP (rfl) (hj) 6 (by decide) k117 rfl dX1_act_95 ?_
        refine lv_lload_n hx hb dX1_act_98 rfl (lv_at hl 2 rfl) ?_
        refine lv_aload_n hx hb dX1_act_99 rfl (lv_at hl 1 rfl) ?_
        refine x_getH (v := .long (h_c ((x_tab σ) j))) (T := (x_tab σ)) hx hb hts inX0 hown hK hP (rfl) (hj) 4 (by decide) k113 rfl dX1_act_100 ?_
        refine lv_ladd hx hb dX1_act_103 ?_
        refine lv_iload hx hb dX1_act_104 (lv_at hl 3 rfl) ?_
        refine lv_iconst (v := 1) hx hb dX1_act_106 (by decide) ?_
        refine lv_iadd hx hb dX1_act_107 ?_
        refine z_calli (As := [va_re ad (h_other ((x_tab σ) j)), .long (v + (h_c ((x_tab σ) j))), .int (dp + 1)]) (rest := []) XX (Hbg (h_other ((x_tab σ) j)) (v + (h_c ((x_tab σ) j))) (dp + 1) σ (hok) (((hok).2 _).2) (z_dp hd)) (cwV 3 hts gX1_act_X1_begin rfl rfl rfl qX1_begin (by constructor <;> (simp only [rmB, rmS, rmA]; omega))) (va_recv hK hP (ci := 1) (q0 := 0) rfl rfl) hK hP hD hS hA rfl hl.1 rfl (Nat.le_of_ble_eq_true rfl) dX1_act_108 ⟨Nat.zero_le _, Nat.zero_le _⟩ (fun H locs hP hD hS => ?_)
        exact z_reti hx hb hr hlocks rfl hK hP hD hS ((if_neg t4_0).trans ((if_neg t4_1).trans ((if_pos t4_2).trans (z_eta _)))) dX1_act_111
      · by_cases t4_3 : (h_sort ((x_tab σ) j)) = 3
        · refine lv_tableIn (off := 108) (tgt := 112) hx hb dX1_act_4 (by rw [t4_3]; decide) (by rw [t4_3]; decide) (by rw [t4_3]; rfl) (by decide) ?_
          refine lv_aload_n hx hb dX1_act_112 rfl (lv_at hl 0 rfl) ?_
          refine lv_aload_n hx hb dX1_act_113 rfl (lv_at hl 0 rfl) ?_
          refine lv_aload_n hx hb dX1_act_114 rfl (lv_at hl 1 rfl) ?_
          refine x_getH (v := .int (h_a ((x_tab σ) j))) (T := (x_tab σ)) hx hb hts inX0 hown hK hP (rfl) (hj) 2 (by decide) k107 rfl dX1_act_115 ?_
          refine z_callq (As := [.int (h_a ((x_tab σ) j))]) (rest := [.ref (O 0)]) XX (cx_handlerOf l D O K ad (h_a ((x_tab σ) j)) σ) (cwV 1 hts gX1_act_X1_handlerOf rfl rfl rfl qX1_handlerOf (by constructor <;> (simp only [rmB, rmS, rmA]; omega))) (va_recv hK hP (ci := 1) (q0 := 0) rfl rfl) hK hP hD hS hA rfl hl.1 rfl (Nat.le_of_ble_eq_true rfl) dX1_act_118 ⟨Nat.zero_le _, Nat.zero_le _⟩ (fun H locs hP hD hS => ?_)
          refine lv_lload_n hx hb dX1_act_121 rfl (lv_at hl 2 rfl) ?_
          refine lv_aload_n hx hb dX1_act_122 rfl (lv_at hl 1 rfl) ?_
          refine x_getH (v := .long (h_c ((x_tab σ) j))) (T := (x_tab σ)) hx hb hts inX0 hown hK hP (rfl) (hj) 4 (by decide) k113 rfl dX1_act_123 ?_
          refine lv_ladd hx hb dX1_act_126 ?_
          refine lv_iload hx hb dX1_act_127 (lv_at hl 3 rfl) ?_
          refine lv_iconst (v := 1) hx hb dX1_act_129 (by decide) ?_
          refine lv_iadd hx hb dX1_act_130 ?_
          refine z_calli (As := [va_re ad (xf_handlerOf (h_a ((x_tab σ) j)) σ), .long (v + (h_c ((x_tab σ) j))), .int (dp + 1)]) (rest := []) XX (Hbg (xf_handlerOf (h_a ((x_tab σ) j)) σ) (v + (h_c ((x_tab σ) j))) (dp + 1) σ (hok) (xokr_handlerOf (hok)) (z_dp hd)) (cwV 3 hts gX1_act_X1_begin rfl rfl rfl qX1_begin (by constructor <;> (simp only [rmB, rmS, rmA]; omega))) (va_recv hK hP (ci := 1) (q0 := 0) rfl rfl) hK hP hD hS hA rfl hl.1 rfl (Nat.le_of_ble_eq_true rfl) dX1_act_131 ⟨Nat.zero_le _, Nat.zero_le _⟩ (fun H locs hP hD hS => ?_)
          exact z_reti hx hb hr hlocks rfl hK hP hD hS ((if_neg t4_0).trans ((if_neg t4_1).trans ((if_neg t4_2).trans ((if_pos t4_3).trans (z_eta _))))) dX1_act_134
        · by_cases t4_4 : (h_sort ((x_tab σ) j)) = 4
          · refine lv_tableIn (off := 131) (tgt := 135) hx hb dX1_act_4 (by rw [t4_4]; decide) (by rw [t4_4]; decide) (by rw [t4_4]; rfl) (by decide) ?_
            refine lv_aload_n hx hb dX1_act_135 rfl (lv_at hl 0 rfl) ?_
            refine lv_aload_n hx hb dX1_act_136 rfl (lv_at hl 1 rfl) ?_
            refine lv_lload_n hx hb dX1_act_137 rfl (lv_at hl 2 rfl) ?_
            refine lv_iload hx hb dX1_act_138 (lv_at hl 3 rfl) ?_
            refine z_calli (As := [.ref (ad j), .long v, .int dp]) (rest := []) XX (cx_sift l D O K ad bg d Hbg Hbp j v dp σ (hok) (hj) hd) (cwV 3 hts gX1_act_X1_sift rfl rfl rfl qX1_sift (by constructor <;> (simp only [rmB, rmS, rmA]; omega))) (va_recv hK hP (ci := 1) (q0 := 0) rfl rfl) hK hP hD hS hA rfl hl.1 rfl (Nat.le_of_ble_eq_true rfl) dX1_act_140 ⟨Nat.zero_le _, Nat.zero_le _⟩ (fun H locs hP hD hS => ?_)
            exact z_reti hx hb hr hlocks rfl hK hP hD hS ((if_neg t4_0).trans ((if_neg t4_1).trans ((if_neg t4_2).trans ((if_neg t4_3).trans ((if_pos t4_4).trans (z_eta _)))))) dX1_act_143
          · by_cases t4_5 : (h_sort ((x_tab σ) j)) = 5
            · refine lv_tableIn (off := 140) (tgt := 144) hx hb dX1_act_4 (by rw [t4_5]; decide) (by rw [t4_5]; decide) (by rw [t4_5]; rfl) (by decide) ?_
              refine lv_aload_n hx hb dX1_act_144 rfl (lv_at hl 0 rfl) ?_
              refine lv_aload_n hx hb dX1_act_145 rfl (lv_at hl 1 rfl) ?_
              refine lv_lload_n hx hb dX1_act_146 rfl (lv_at hl 2 rfl) ?_
              refine lv_iload hx hb dX1_act_147 (lv_at hl 3 rfl) ?_
              refine z_calli (As := [.ref (ad j), .long v, .int dp]) (rest := []) XX (cx_limit l D O K ad bg d Hbg Hbp j v dp σ (hok) (hj) hd) (cwV 3 hts gX1_act_X1_limit rfl rfl rfl qX1_limit (by constructor <;> (simp only [rmB, rmS, rmA]; omega))) (va_recv hK hP (ci := 1) (q0 := 0) rfl rfl) hK hP hD hS hA rfl hl.1 rfl (Nat.le_of_ble_eq_true rfl) dX1_act_149 ⟨Nat.zero_le _, Nat.zero_le _⟩ (fun H locs hP hD hS => ?_)
              exact z_reti hx hb hr hlocks rfl hK hP hD hS ((if_neg t4_0).trans ((if_neg t4_1).trans ((if_neg t4_2).trans ((if_neg t4_3).trans ((if_neg t4_4).trans ((if_pos t4_5).trans (z_eta _))))))) dX1_act_152
            · by_cases t4_6 : (h_sort ((x_tab σ) j)) = 6
              · refine lv_tableIn (off := 149) (tgt := 153) hx hb dX1_act_4 (by rw [t4_6]; decide) (by rw [t4_6]; decide) (by rw [t4_6]; rfl) (by decide) ?_
                refine lv_aload_n hx hb dX1_act_153 rfl (lv_at hl 0 rfl) ?_
                refine lv_aload_n hx hb dX1_act_154 rfl (lv_at hl 1 rfl) ?_
                refine lv_lload_n hx hb dX1_act_155 rfl (lv_at hl 2 rfl) ?_
                refine z_calli (As := [.ref (ad j), .long v]) (rest := []) XX (cx_once l D O K ad j v σ (hok) (hj)) (cwV 2 hts gX1_act_X1_once rfl rfl rfl qX1_once (by constructor <;> (simp only [rmB, rmS, rmA]; omega))) (va_recv hK hP (ci := 1) (q0 := 0) rfl rfl) hK hP hD hS hA rfl hl.1 rfl (Nat.le_of_ble_eq_true rfl) dX1_act_156 ⟨Nat.zero_le _, Nat.zero_le _⟩ (fun H locs hP hD hS => ?_)
                exact z_reti hx hb hr hlocks rfl hK hP hD hS ((if_neg t4_0).trans ((if_neg t4_1).trans ((if_neg t4_2).trans ((if_neg t4_3).trans ((if_neg t4_4).trans ((if_neg t4_5).trans ((if_pos t4_6).trans (z_eta _)))))))) dX1_act_159
              · by_cases t4_7 : (h_sort ((x_tab σ) j)) = 7
                · refine lv_tableIn (off := 156) (tgt := 160) hx hb dX1_act_4 (by rw [t4_7]; decide) (by rw [t4_7]; decide) (by rw [t4_7]; rfl) (by decide) ?_
                  refine lv_aload_n hx hb dX1_act_160 rfl (lv_at hl 0 rfl) ?_
                  refine lv_aload_n hx hb dX1_act_161 rfl (lv_at hl 1 rfl) ?_
                  refine lv_lload_n hx hb dX1_act_162 rfl (lv_at hl 2 rfl) ?_
                  refine lv_iload hx hb dX1_act_163 (lv_at hl 3 rfl) ?_
                  refine z_calli (As := [.ref (ad j), .long v, .int dp]) (rest := []) XX (cx_both l D O K ad bg d Hbg Hbp j v dp σ (hok) (hj) hd) (cwV 3 hts gX1_act_X1_both rfl rfl rfl qX1_both (by constructor <;> (simp only [rmB, rmS, rmA]; omega))) (va_recv hK hP (ci := 1) (q0 := 0) rfl rfl) hK hP hD hS hA rfl hl.1 rfl (Nat.le_of_ble_eq_true rfl) dX1_act_165 ⟨Nat.zero_le _, Nat.zero_le _⟩ (fun H locs hP hD hS => ?_)
                  exact z_reti hx hb hr hlocks rfl hK hP hD hS ((if_neg t4_0).trans ((if_neg t4_1).trans ((if_neg t4_2).trans ((if_neg t4_3).trans ((if_neg t4_4).trans ((if_neg t4_5).trans ((if_neg t4_6).trans ((if_pos t4_7).trans (z_eta _))))))))) dX1_act_168
                · by_cases t4_8 : (h_sort ((x_tab σ) j)) = 8
                  · refine lv_tableIn (off := 165) (tgt := 169) hx hb dX1_act_4 (by rw [t4_8]; decide) (by rw [t4_8]; decide) (by rw [t4_8]; rfl) (by decide) ?_
                    refine lv_aload_n hx hb dX1_act_169 rfl (lv_at hl 0 rfl) ?_
                    refine lv_aload_n hx hb dX1_act_170 rfl (lv_at hl 1 rfl) ?_
                    refine lv_lload_n hx hb dX1_act_171 rfl (lv_at hl 2 rfl) ?_
                    refine z_calli (As := [.ref (ad j), .long v]) (rest := []) XX (cx_share l D O K ad j v σ (hj)) (cwV 2 hts gX1_act_X1_share rfl rfl rfl qX1_share (by constructor <;> (simp only [rmB, rmS, rmA]; omega))) (va_recv hK hP (ci := 1) (q0 := 0) rfl rfl) hK hP hD hS hA rfl hl.1 rfl (Nat.le_of_ble_eq_true rfl) dX1_act_172 ⟨Nat.zero_le _, Nat.zero_le _⟩ (fun H locs hP hD hS => ?_)
                    exact z_reti hx hb hr hlocks rfl hK hP hD hS ((if_neg t4_0).trans ((if_neg t4_1).trans ((if_neg t4_2).trans ((if_neg t4_3).trans ((if_neg t4_4).trans ((if_neg t4_5).trans ((if_neg t4_6).trans ((if_neg t4_7).trans ((if_pos t4_8).trans (z_eta _)))))))))) dX1_act_175
                  · by_cases t4_9 : (h_sort ((x_tab σ) j)) = 9
                    · refine lv_tableIn (off := 172) (tgt := 176) hx hb dX1_act_4 (by rw [t4_9]; decide) (by rw [t4_9]; decide) (by rw [t4_9]; rfl) (by decide) ?_
                      refine lv_aload_n hx hb dX1_act_176 rfl (lv_at hl 0 rfl) ?_
                      refine lv_lload_n hx hb dX1_act_177 rfl (lv_at hl 2 rfl) ?_
                      refine lv_l2i (v := (v).toInt32) hx hb dX1_act_178 rfl ?_
                      refine lv_lconst (v := 1) hx hb dX1_act_179 (by decide) ?_
                      refine z_calli (As := [.int ((v).toInt32), .long 1]) (rest := []) XX (cx_keep l D O K ad ((v).toInt32) 1 σ) (cwV 2 hts gX1_act_X1_keep rfl rfl rfl qX1_keep (by constructor <;> (simp only [rmB, rmS, rmA]; omega))) (va_recv hK hP (ci := 1) (q0 := 0) rfl rfl) hK hP hD hS hA rfl hl.1 rfl (Nat.le_of_ble_eq_true rfl) dX1_act_180 ⟨Nat.zero_le _, Nat.zero_le _⟩ (fun H locs hP hD hS => ?_)
                      exact z_reti hx hb hr hlocks rfl hK hP hD hS ((if_neg t4_0).trans ((if_neg t4_1).trans ((if_neg t4_2).trans ((if_neg t4_3).trans ((if_neg t4_4).trans ((if_neg t4_5).trans ((if_neg t4_6).trans ((if_neg t4_7).trans ((if_neg t4_8).trans ((if_pos t4_9).trans (z_eta _))))))))))) dX1_act_183
                    · by_cases t4_10 : (h_sort ((x_tab σ) j)) = 10
                      · refine lv_tableIn (off := 180) (tgt := 184) hx hb dX1_act_4 (by rw [t4_10]; decide) (by rw [t4_10]; decide) (by rw [t4_10]; rfl) (by decide) ?_
                        refine lv_aload_n hx hb dX1_act_184 rfl (lv_at hl 0 rfl) ?_
                        refine lv_aload_n hx hb dX1_act_185 rfl (lv_at hl 1 rfl) ?_
                        refine lv_lload_n hx hb dX1_act_186 rfl (lv_at hl 2 rfl) ?_
                        refine lv_iload hx hb dX1_act_187 (lv_at hl 3 rfl) ?_
                        refine z_calli (As := [.ref (ad j), .long v, .int dp]) (rest := []) XX (cx_keepFailure l D O K ad bg d Hbg Hbp j v dp σ (hok) (hj) hd) (cwV 3 hts gX1_act_X1_keepFailure rfl rfl rfl qX1_keepFailure (by constructor <;> (simp only [rmB, rmS, rmA]; omega))) (va_recv hK hP (ci := 1) (q0 := 0) rfl rfl) hK hP hD hS hA rfl hl.1 rfl (Nat.le_of_ble_eq_true rfl) dX1_act_189 ⟨Nat.zero_le _, Nat.zero_le _⟩ (fun H locs hP hD hS => ?_)
                        exact z_reti hx hb hr hlocks rfl hK hP hD hS ((if_neg t4_0).trans ((if_neg t4_1).trans ((if_neg t4_2).trans ((if_neg t4_3).trans ((if_neg t4_4).trans ((if_neg t4_5).trans ((if_neg t4_6).trans ((if_neg t4_7).trans ((if_neg t4_8).trans ((if_neg t4_9).trans ((if_pos t4_10).trans (z_eta _)))))))))))) dX1_act_192
                      · by_cases t4_11 : (h_sort ((x_tab σ) j)) = 11
                        · refine lv_tableIn (off := 189) (tgt := 193) hx hb dX1_act_4 (by rw [t4_11]; decide) (by rw [t4_11]; decide) (by rw [t4_11]; rfl) (by decide) ?_
                          refine lv_aload_n hx hb dX1_act_193 rfl (lv_at hl 0 rfl) ?_
                          refine lv_aload_n hx hb dX1_act_194 rfl (lv_at hl 1 rfl) ?_
                          refine lv_lload_n hx hb dX1_act_195 rfl (lv_at hl 2 rfl) ?_
                          refine lv_iload hx hb dX1_act_196 (lv_at hl 3 rfl) ?_
                          refine z_calli (As := [.ref (ad j), .long v, .int dp]) (rest := []) XX (cx_mean l D O K ad bg d Hbg Hbp j v dp σ (hok) (hj) hd) (cwV 3 hts gX1_act_X1_mean rfl rfl rfl qX1_mean (by constructor <;> (simp only [rmB, rmS, rmA]; omega))) (va_recv hK hP (ci := 1) (q0 := 0) rfl rfl) hK hP hD hS hA rfl hl.1 rfl (Nat.le_of_ble_eq_true rfl) dX1_act_198 ⟨Nat.zero_le _, Nat.zero_le _⟩ (fun H locs hP hD hS => ?_)
                          exact z_reti hx hb hr hlocks rfl hK hP hD hS ((if_neg t4_0).trans ((if_neg t4_1).trans ((if_neg t4_2).trans ((if_neg t4_3).trans ((if_neg t4_4).trans ((if_neg t4_5).trans ((if_neg t4_6).trans ((if_neg t4_7).trans ((if_neg t4_8).trans ((if_neg t4_9).trans ((if_neg t4_10).trans ((if_pos t4_11).trans (z_eta _))))))))))))) dX1_act_201
                        · refine lv_tableOut (tgt := 202) hx hb dX1_act_4 (z_out 11 (by decide) (fun k hk => match k, hk with | 0, _ => t4_0 | 1, _ => t4_1 | 2, _ => t4_2 | 3, _ => t4_3 | 4, _ => t4_4 | 5, _ => t4_5 | 6, _ => t4_6 | 7, _ => t4_7 | 8, _ => t4_8 | 9, _ => t4_9 | 10, _ => t4_10 | 11, _ => t4_11 | (k + 12), hk => absurd hk (by omega))) (by decide) ?_
                          refine lv_aload_n hx hb dX1_act_202 rfl (lv_at hl 0 rfl) ?_
                          refine lv_aload_n hx hb dX1_act_203 rfl (lv_at hl 1 rfl) ?_
                          refine lv_lload_n hx hb dX1_act_204 rfl (lv_at hl 2 rfl) ?_
                          refine z_calli (As := [.ref (ad j), .long v]) (rest := []) XX (cx_keepAndSend l D O K ad j v σ (hj)) (cwV 2 hts gX1_act_X1_keepAndSend rfl rfl rfl qX1_keepAndSend (by constructor <;> (simp only [rmB, rmS, rmA]; omega))) (va_recv hK hP (ci := 1) (q0 := 0) rfl rfl) hK hP hD hS hA rfl hl.1 rfl (Nat.le_of_ble_eq_true rfl) dX1_act_205 ⟨Nat.zero_le _, Nat.zero_le _⟩ (fun H locs hP hD hS => ?_)
                          exact z_reti hx hb hr hlocks rfl hK hP hD hS ((if_neg t4_0).trans ((if_neg t4_1).trans ((if_neg t4_2).trans ((if_neg t4_3).trans ((if_neg t4_4).trans ((if_neg t4_5).trans ((if_neg t4_6).trans ((if_neg t4_7).trans ((if_neg t4_8).trans ((if_neg t4_9).trans ((if_neg t4_10).trans ((if_neg t4_11).trans (z_eta _))))))))))))) dX1_act_208
end
section
noncomputable def xf_beginB (ac : Nat → Int64 → Int32 → SX → Int32 × SX) (r : Option Nat) (v : Int64) (dp : Int32) (σ : SX) : Int32 × SX := if 8 < dp then (6, σ) else (if (x_bl σ) < 16 then (if r = none then (1, xs_bl σ ((x_bl σ) + 1)) else (ac (r.getD 0) v dp (xs_bl σ ((x_bl σ) + 1)))) else (6, σ))
set_option maxRecDepth 100000 in
set_option maxHeartbeats 4000000 in
theorem cx_beginB (l : Launch) (D : va_G) (O : Nat → Nat) (K : Nat → ClassId) (ad : Nat → Nat) (ac : Nat → Int64 → Int32 → SX → Int32 × SX) (d : Nat) (Hac : ∀ (j : Nat) (v : Int64) (dp : Int32) (σ : SX), xok σ → j < x_n σ → (∃ k, dp = nI k ∧ k + (d + 1) = 9) → cI l yX1_act wsX1_act (rmA d) 0 0 D (xT K) (xW O K ad) σ [.ref (O 0), .ref (ad j), .long v, .int dp] (ac j v dp σ)) (r : Option Nat) (v : Int64) (dp : Int32) (σ : SX) (hok : xok σ) (hokr : okr (x_n σ) r) (hd : ∃ k, dp = nI k ∧ k + (d + 1) = 9) : cI l yX1_begin wsX1_begin (rmB (d + 1)) 0 0 D (xT K) (xW O K ad) σ [.ref (O 0), va_re ad r, .long v, .int dp] (xf_beginB ac r v dp σ) := by
  intro sz
  refine z_start (cc := cX1_begin) (maxL := 5) (ret := (some .int)) (Qc := fun A => va_Qi (fun r9 u9 => r9 = (xf_beginB ac r v dp σ).1 ∧ u9 = (xf_beginB ac r v dp σ).2) (zB D (xT K) (xW O K ad) A) A) sz (by decide) rfl (by cases r <;> exact Nat.le_of_ble_eq_true rfl) ?_
  intro p e s m below meth c A X hA hK hP hD hS ls hl
  obtain ⟨hx, hb, hr, hml, hts, hown, hlocks, hnm⟩ := X
  have hown : s.vm.findClass RX1 = some m.cls := hown
  have hl : lv_has ls 5 [(0, .ref (O 0)), (1, va_re ad r), (2, .long v), (4, .int dp)] := by cases r <;> exact hl
  have inW : ∀ w ∈ wsX10, w ∈ wsX1_begin := fun w h => List.mem_cons_of_mem _ (List.mem_append_right _ h)
  have XX : CallFix p m c cX1_begin 5 s _ wsX1_begin RX1 := ⟨hx, hb, hml, hown, hts⟩
  have k94 := hts (.fieldLink RX1 94 "MailRoom" "begunForLetter" "I") (List.mem_of_getElem? (i := 1) rfl)
  refine lv_iload hx hb dX1_begin_0 (lv_at hl 3 rfl) ?_
  refine lv_bipush (v := 8) hx hb dX1_begin_2 (by decide) ?_
  refine lv_icmp_gt (tgt := 16) hx hb dX1_begin_4 (by decide) (fun c4 => ?_) (fun c4 => ?_)
  · refine lv_bipush (v := 6) hx hb dX1_begin_16 (by decide) ?_
    exact z_reti hx hb hr hlocks rfl hK hP hD hS ((if_pos c4).trans (rfl)) dX1_begin_18
  · refine lv_aload_n hx hb dX1_begin_7 rfl (lv_at hl 0 rfl) ?_
    refine x_gi_bl (v := (x_bl σ)) hx hb hts inW hown hK hP (rfl) k94 dX1_begin_8 ?_
    refine lv_bipush (v := 16) hx hb dX1_begin_11 (by decide) ?_
    refine lv_icmp_lt (tgt := 19) hx hb dX1_begin_13 (by decide) (fun c13 => ?_) (fun c13 => ?_)
    · refine lv_aload_n hx hb dX1_begin_19 rfl (lv_at hl 0 rfl) ?_
      refine lv_dup hx hb dX1_begin_20 rfl ?_
      refine x_gi_bl (v := (x_bl σ)) hx hb hts inW hown hK hP (rfl) k94 dX1_begin_21 ?_
      refine lv_iconst (v := 1) hx hb dX1_begin_24 (by decide) ?_
      refine lv_iadd hx hb dX1_begin_25 ?_
      refine x_pi_bl hx hb hts inW hown hK hP hD hS k94 dX1_begin_26 (fun H locs hP hD hS => ?_)
      refine z_aload_n hx hb dX1_begin_29 rfl (lv_at hl 1 rfl) ?_
      refine z_ifnonnull (tgt := 37) hx hb dX1_begin_30 (by decide) (fun c30 => ?_) (fun c30 => ?_)
      · obtain ⟨j, rfl⟩ := z_some c30
        have hj := hokr j rfl
        refine lv_aload_n hx hb dX1_begin_37 rfl (lv_at hl 0 rfl) ?_
        refine z_aload_n hx hb dX1_begin_38 rfl (lv_at hl 1 rfl) ?_
        refine lv_lload_n hx hb dX1_begin_39 rfl (lv_at hl 2 rfl) ?_
        refine lv_iload hx hb dX1_begin_40 (lv_at hl 3 rfl) ?_
        refine z_calli (As := [.ref (ad j), .long v, .int dp]) (rest := []) XX (Hac j v dp (xs_bl σ ((x_bl σ) + 1)) ((xpres.of (σ := σ) (τ := (xs_bl σ ((x_bl σ) + 1))) (xr_n_bl _ _) (xr_hd_bl _ _) (xr_tab_bl _ _)).2 (hok)) (z_ltE (xr_n_bl _ _) hj) hd) (cwV 3 hts gX1_begin_X1_act rfl rfl rfl qX1_act (by constructor <;> (simp only [rmB, rmS, rmA]; omega))) (va_recv hK hP (ci := 1) (q0 := 0) rfl rfl) hK hP hD hS hA rfl hl.1 rfl (Nat.le_of_ble_eq_true rfl) dX1_begin_42 ⟨Nat.zero_le _, Nat.zero_le _⟩ (fun H locs hP hD hS => ?_)
        exact z_reti hx hb hr hlocks rfl hK hP hD hS ((if_neg c4).trans ((if_pos c13).trans ((if_neg c30).trans (z_eta _)))) dX1_begin_45
      · refine lv_iconst (v := 1) hx hb dX1_begin_33 (by decide) ?_
        refine lv_goto (tgt := 45) hx hb dX1_begin_34 (by decide) ?_
        exact z_reti hx hb hr hlocks rfl hK hP hD hS ((if_neg c4).trans ((if_pos c13).trans ((if_pos c30).trans (rfl)))) dX1_begin_45
    · refine lv_bipush (v := 6) hx hb dX1_begin_16 (by decide) ?_
      exact z_reti hx hb hr hlocks rfl hK hP hD hS ((if_neg c4).trans ((if_neg c13).trans (rfl))) dX1_begin_18
set_option maxRecDepth 100000 in
set_option maxHeartbeats 4000000 in
theorem cx_begin0 (l : Launch) (D : va_G) (O : Nat → Nat) (K : Nat → ClassId) (ad : Nat → Nat) (r : Option Nat) (v : Int64) (dp : Int32) (σ : SX) (hd : ∃ k, dp = nI k ∧ k + 0 = 9) : cI l yX1_begin wsX1_begin (rmB 0) 0 0 D (xT K) (xW O K ad) σ [.ref (O 0), va_re ad r, .long v, .int dp] ((6 : Int32), σ) := by
  intro sz
  refine z_start (cc := cX1_begin) (maxL := 5) (ret := (some .int)) (Qc := fun A => va_Qi (fun r9 u9 => r9 = ((6 : Int32), σ).1 ∧ u9 = ((6 : Int32), σ).2) (zB D (xT K) (xW O K ad) A) A) sz (by decide) rfl (by cases r <;> exact Nat.le_of_ble_eq_true rfl) ?_
  intro p e s m below meth c A X hA hK hP hD hS ls hl
  obtain ⟨hx, hb, hr, hml, hts, hown, hlocks, hnm⟩ := X
  have hown : s.vm.findClass RX1 = some m.cls := hown
  have hl : lv_has ls 5 [(0, .ref (O 0)), (1, va_re ad r), (2, .long v), (4, .int dp)] := by cases r <;> exact hl
  have inW : ∀ w ∈ wsX10, w ∈ wsX1_begin := fun w h => List.mem_cons_of_mem _ (List.mem_append_right _ h)
  have XX : CallFix p m c cX1_begin 5 s _ wsX1_begin RX1 := ⟨hx, hb, hml, hown, hts⟩
  refine lv_iload hx hb dX1_begin_0 (lv_at hl 3 rfl) ?_
  refine lv_bipush (v := 8) hx hb dX1_begin_2 (by decide) ?_
  refine lv_icmp_gt (tgt := 16) hx hb dX1_begin_4 (by decide) (fun c4 => ?_) (fun c4 => ?_)
  · refine lv_bipush (v := 6) hx hb dX1_begin_16 (by decide) ?_
    exact z_reti hx hb hr hlocks rfl hK hP hD hS (rfl) dX1_begin_18
  · exact absurd (z_deep hd) c4
end
section
noncomputable def xf_begin : Nat → Option Nat → Int64 → Int32 → SX → Int32 × SX
  | 0 => fun _ _ _ σ => (6, σ)
  | d + 1 => xf_beginB (fun j v dp σ => xf_act (xf_begin d) j v dp σ)
theorem xpi {c : Prop} [Decidable c] {σ : SX} {a b : Int32 × SX} (ha : c → xpres σ a.2) (hb : ¬ c → xpres σ b.2) : xpres σ (if c then a else b).2 := by
  by_cases h : c
  · rw [if_pos h]
    exact ha h
  · rw [if_neg h]
    exact hb h
theorem xp_share (j : Nat) (v : Int64) (σ : SX) : xpres σ (xf_share j v σ).2 := by
  unfold xf_share
  exact xpi (fun _ => xpres.refl σ) (fun _ => xpi (fun _ => (xp_keep _ _ _).trans (xp_keep _ _ _)) (fun _ => xp_keep _ _ _))
theorem xp_keepAndSend (j : Nat) (v : Int64) (σ : SX) : xpres σ (xf_keepAndSend j v σ).2 := by
  unfold xf_keepAndSend
  exact xpi (fun _ => xpi (fun _ => xp_keep _ _ _) (fun _ => (xp_keep _ _ _).trans (xp_enqueue _ _ _))) (fun _ => xp_keep _ _ _)
theorem xok_hd {σ : SX} {i : Nat} {r : Option Nat} (h : xok σ) (hr : okr (x_n σ) r) : xok (xs_hd σ (va_up (x_hd σ) i r)) := by
  refine ⟨fun k => ?_, h.2⟩
  show okr (x_n σ) (va_up (x_hd σ) i r k)
  by_cases e : k = i
  · subst e
    rw [va_up_self]
    exact hr
  · rw [va_up_ne _ _ e]
    exact h.1 k
theorem xp_once (j : Nat) (v : Int64) (σ : SX) : xpres σ (xf_once j v σ).2 := by
  unfold xf_once
  exact xpi (fun _ => xpi (fun _ => xp_keep _ _ _) (fun _ => (xp_keep _ _ _).trans ⟨rfl, fun h => xok_hd h (h.2 _).1⟩)) (fun _ => xp_keep _ _ _)
section XPB
variable {bg : Option Nat → Int64 → Int32 → SX → Int32 × SX}
theorem xp_sift (Hbp : xBP bg) (j : Nat) (v : Int64) (dp : Int32) (σ : SX) (hok : xok σ) : xpres σ (xf_sift bg j v dp σ).2 := by
  unfold xf_sift
  exact xpi (fun _ => xpres.refl σ) (fun _ => xpi (fun _ => Hbp _ _ _ _ hok (hok.2 _).1) (fun _ => xpres.refl σ))
theorem xp_limit (Hbp : xBP bg) (j : Nat) (v : Int64) (dp : Int32) (σ : SX) (hok : xok σ) : xpres σ (xf_limit bg j v dp σ).2 := by
  have h1 : xpres σ (xs_tab σ (va_up (x_tab σ) j (hs_begun (x_tab σ j) (h_begun (x_tab σ j) + 1)))) := ⟨rfl, fun h => xok_begun h⟩
  have h2 : okr (x_n σ) (h_former (va_up (x_tab σ) j (hs_begun (x_tab σ j) (h_begun (x_tab σ j) + 1)) j)) := by
    rw [va_up_self]
    exact (hok.2 j).1
  unfold xf_limit
  exact xpi (fun _ => h1.trans (Hbp _ _ _ _ (h1.2 hok) (by rw [h1.1]; exact h2))) (fun _ => xpres.refl σ)
theorem xp_both (Hbp : xBP bg) (j : Nat) (v : Int64) (dp : Int32) (σ : SX) (hok : xok σ) : xpres σ (xf_both bg j v dp σ).2 := by
  have h1 := Hbp (h_former (x_tab σ j)) v (dp + 1) σ hok (hok.2 j).1
  unfold xf_both
  exact xpi (fun _ => h1.trans (Hbp _ _ _ _ (h1.2 hok) ((h1.2 hok).2 j).2)) (fun _ => h1)
theorem xp_keepFailure (Hbp : xBP bg) (j : Nat) (v : Int64) (dp : Int32) (σ : SX) (hok : xok σ) : xpres σ (xf_keepFailure bg j v dp σ).2 := by
  have h1 := Hbp (h_former (x_tab σ j)) v (dp + 1) σ hok (hok.2 j).1
  unfold xf_keepFailure
  exact xpi (fun _ => h1) (fun _ => xpi (fun _ => h1) (fun _ => h1.trans (xp_keep _ _ _)))
theorem xp_mean (Hbp : xBP bg) (j : Nat) (v : Int64) (dp : Int32) (σ : SX) (hok : xok σ) : xpres σ (xf_mean bg j v dp σ).2 := by
  have h1 := xp_keep (h_a (x_tab σ j)) v σ
  unfold xf_mean
  exact xpi (fun _ => xpi (fun _ => h1) (fun _ => xpi (fun _ => h1) (fun _ => xpi (fun _ => h1) (fun _ => h1.trans (Hbp _ _ _ _ (h1.2 hok) ((h1.2 hok).2 j).1))))) (fun _ => h1)
theorem xp_act (Hbp : xBP bg) (j : Nat) (v : Int64) (dp : Int32) (σ : SX) (hok : xok σ) : xpres σ (xf_act bg j v dp σ).2 := by
  unfold xf_act
  exact xpi (fun _ => xp_keep _ _ _) (fun _ => xpi (fun _ => xp_enqueue _ _ _) (fun _ => xpi (fun _ => Hbp _ _ _ _ hok (hok.2 _).2) (fun _ => xpi (fun _ => Hbp _ _ _ _ hok (xokr_handlerOf hok)) (fun _ => xpi (fun _ => xp_sift Hbp _ _ _ _ hok) (fun _ => xpi (fun _ => xp_limit Hbp _ _ _ _ hok) (fun _ => xpi (fun _ => xp_once _ _ _) (fun _ => xpi (fun _ => xp_both Hbp _ _ _ _ hok) (fun _ => xpi (fun _ => xp_share _ _ _) (fun _ => xpi (fun _ => xp_keep _ _ _) (fun _ => xpi (fun _ => xp_keepFailure Hbp _ _ _ _ hok) (fun _ => xpi (fun _ => xp_mean Hbp _ _ _ _ hok) (fun _ => xp_keepAndSend _ _ _))))))))))))
theorem xp_beginB {ac : Nat → Int64 → Int32 → SX → Int32 × SX} (Hap : ∀ (j : Nat) (v : Int64) (dp : Int32) (σ : SX), xok σ → xpres σ (ac j v dp σ).2) (r : Option Nat) (v : Int64) (dp : Int32) (σ : SX) (hok : xok σ) : xpres σ (xf_beginB ac r v dp σ).2 := by
  have h1 : ∀ x : Int32, xpres σ (xs_bl σ x) := fun x => xpres.of rfl rfl rfl
  unfold xf_beginB
  exact xpi (fun _ => xpres.refl σ) (fun _ => xpi (fun _ => xpi (fun _ => h1 _) (fun _ => (h1 _).trans (Hap _ _ _ _ ((h1 _).2 hok)))) (fun _ => xpres.refl σ))
end XPB
theorem xp_begin : ∀ d : Nat, xBP (xf_begin d) := by
  intro d
  induction d with
  | zero => intro r v dp σ _ _; exact xpres.refl σ
  | succ d ih => intro r v dp σ hok _; exact xp_beginB (fun j v dp σ hok => xp_act ih j v dp σ hok) r v dp σ hok
theorem cx_begin (l : Launch) (D : va_G) (O : Nat → Nat) (K : Nat → ClassId) (ad : Nat → Nat) : ∀ d : Nat, xBG l D O K ad (xf_begin d) d := by
  intro d
  induction d with
  | zero => intro r v dp σ hok hokr hd; exact cx_begin0 l D O K ad r v dp σ hd
  | succ d ih => intro r v dp σ hok hokr hd; exact cx_beginB l D O K ad _ d (fun j v dp σ hok hj hd => cx_act l D O K ad (xf_begin d) d ih (xp_begin d) j v dp σ hok hj hd) r v dp σ hok hokr hd
end
section
noncomputable def xf_deliver  (k : Int32) (v : Int64) (σ : SX) : Int32 × SX := ((xf_begin 8 (xf_handlerOf k (xs_bl σ 0)) v 1 (xs_bl σ 0)).1, xs_bic ((xf_begin 8 (xf_handlerOf k (xs_bl σ 0)) v 1 (xs_bl σ 0)).2) ((x_bic ((xf_begin 8 (xf_handlerOf k (xs_bl σ 0)) v 1 (xs_bl σ 0)).2)) + (x_bl ((xf_begin 8 (xf_handlerOf k (xs_bl σ 0)) v 1 (xs_bl σ 0)).2))))
set_option maxRecDepth 100000 in
set_option maxHeartbeats 4000000 in
theorem cx_deliver (l : Launch) (D : va_G) (O : Nat → Nat) (K : Nat → ClassId) (ad : Nat → Nat) (k : Int32) (v : Int64) (σ : SX) (hok : xok σ) : cI l yX1_deliver wsX1_deliver { frames := 100, cells := 0, slots := 0, locals := 10000 } 0 0 D (xT K) (xW O K ad) σ [.ref (O 0), .int k, .long v] (xf_deliver k v σ) := by
  intro sz
  refine z_start (cc := cX1_deliver) (maxL := 5) (ret := (some .int)) (Qc := fun A => va_Qi (fun r9 u9 => r9 = (xf_deliver k v σ).1 ∧ u9 = (xf_deliver k v σ).2) (zB D (xT K) (xW O K ad) A) A) sz (by decide) rfl (Nat.le_of_ble_eq_true rfl) ?_
  intro p e s m below meth c A X hA hK hP hD hS ls hl
  obtain ⟨hx, hb, hr, hml, hts, hown, hlocks, hnm⟩ := X
  have hown : s.vm.findClass RX1 = some m.cls := hown
  have hl : lv_has ls 5 [(0, .ref (O 0)), (1, .int k), (2, .long v)] := hl
  have inW : ∀ w ∈ wsX10, w ∈ wsX1_deliver := fun w h => List.mem_cons_of_mem _ (List.mem_append_left _ (List.mem_append_right _ h))
  have XX : CallFix p m c cX1_deliver 5 s _ wsX1_deliver RX1 := ⟨hx, hb, hml, hown, hts⟩
  have k94 := hts (.fieldLink RX1 94 "MailRoom" "begunForLetter" "I") (List.mem_of_getElem? (i := 1) rfl)
  have k66 := hts (.fieldLink RX1 66 "MailRoom" "begunInCall" "I") (List.mem_of_getElem? (i := 2) rfl)
  refine lv_aload_n hx hb dX1_deliver_0 rfl (lv_at hl 0 rfl) ?_
  refine lv_iconst (v := 0) hx hb dX1_deliver_1 (by decide) ?_
  refine x_pi_bl hx hb hts inW hown hK hP hD hS k94 dX1_deliver_2 (fun H locs hP hD hS => ?_)
  refine lv_aload_n hx hb dX1_deliver_5 rfl (lv_at hl 0 rfl) ?_
  refine lv_aload_n hx hb dX1_deliver_6 rfl (lv_at hl 0 rfl) ?_
  refine lv_iload_n hx hb dX1_deliver_7 rfl (lv_at hl 1 rfl) ?_
  refine z_callq (As := [.int k]) (rest := [.ref (O 0)]) XX (cx_handlerOf l D O K ad k (xs_bl σ 0)) (cwV 1 hts gX1_deliver_X1_handlerOf rfl rfl rfl qX1_handlerOf ⟨by decide, by decide⟩) (va_recv hK hP (ci := 1) (q0 := 0) rfl rfl) hK hP hD hS hA rfl hl.1 rfl (Nat.le_of_ble_eq_true rfl) dX1_deliver_8 ⟨Nat.zero_le _, Nat.zero_le _⟩ (fun H locs hP hD hS => ?_)
  refine lv_lload_n hx hb dX1_deliver_11 rfl (lv_at hl 2 rfl) ?_
  refine lv_iconst (v := 1) hx hb dX1_deliver_12 (by decide) ?_
  refine z_calli (As := [va_re ad (xf_handlerOf k (xs_bl σ 0)), .long v, .int 1]) (rest := []) XX (cx_begin l D O K ad 8 (xf_handlerOf k (xs_bl σ 0)) v 1 (xs_bl σ 0) ((xpres.of (σ := σ) (τ := (xs_bl σ 0)) (xr_n_bl _ _) (xr_hd_bl _ _) (xr_tab_bl _ _)).2 (hok)) (xokr_handlerOf ((xpres.of (σ := σ) (τ := (xs_bl σ 0)) (xr_n_bl _ _) (xr_hd_bl _ _) (xr_tab_bl _ _)).2 (hok))) ⟨1, rfl, rfl⟩) (cwV 3 hts gX1_deliver_X1_begin rfl rfl rfl qX1_begin ⟨by decide, by decide⟩) (va_recv hK hP (ci := 1) (q0 := 0) rfl rfl) hK hP hD hS hA rfl hl.1 rfl (Nat.le_of_ble_eq_true rfl) dX1_deliver_13 ⟨Nat.zero_le _, Nat.zero_le _⟩ (fun H locs hP hD hS => ?_)
  refine lv_istore (lv' := [(4, .int ((xf_begin 8 (xf_handlerOf k (xs_bl σ 0)) v 1 (xs_bl σ 0)).1)), (0, .ref (O 0)), (1, .int k), (2, .long v)]) hx hb dX1_deliver_16 hl (by decide) rfl (fun ls hl => ?_)
  refine lv_aload_n hx hb dX1_deliver_18 rfl (lv_at hl 1 rfl) ?_
  refine lv_dup hx hb dX1_deliver_19 rfl ?_
  refine x_gi_bic (v := (x_bic ((xf_begin 8 (xf_handlerOf k (xs_bl σ 0)) v 1 (xs_bl σ 0)).2))) hx hb hts inW hown hK hP (rfl) k66 dX1_deliver_20 ?_
  refine lv_aload_n hx hb dX1_deliver_23 rfl (lv_at hl 1 rfl) ?_
  refine x_gi_bl (v := (x_bl ((xf_begin 8 (xf_handlerOf k (xs_bl σ 0)) v 1 (xs_bl σ 0)).2))) hx hb hts inW hown hK hP (rfl) k94 dX1_deliver_24 ?_
  refine lv_iadd hx hb dX1_deliver_27 ?_
  refine x_pi_bic hx hb hts inW hown hK hP hD hS k66 dX1_deliver_28 (fun H locs hP hD hS => ?_)
  refine lv_iload hx hb dX1_deliver_31 (lv_at hl 0 rfl) ?_
  exact z_reti hx hb hr hlocks rfl hK hP hD hS (rfl) dX1_deliver_33
theorem xp_deliver (k : Int32) (v : Int64) (σ : SX) (hok : xok σ) : xpres σ (xf_deliver k v σ).2 := by
  have h1 : xpres σ (xs_bl σ 0) := xpres.of (xr_n_bl _ _) (xr_hd_bl _ _) (xr_tab_bl _ _)
  unfold xf_deliver
  exact xpres.trans (h1.trans (xp_begin 8 _ _ _ _ (h1.2 hok) (xokr_handlerOf (h1.2 hok)))) (xpres.of (xr_n_bic _ _) (xr_hd_bic _ _) (xr_tab_bic _ _))
noncomputable def xf_takeFirst   (σ : SX) : SX := if (x_qf σ) < 0 then σ else (if (x_qf σ) < 40 then (if (xf_deliver ((x_qk σ) (x_qf σ).toNatClampNeg) ((x_qv σ) (x_qf σ).toNatClampNeg) (xs_tk (xs_qs (xs_qf σ (((x_qf σ) + 1) - ((x_qf σ) + 1) / 40 * 40)) ((x_qs σ) - 1)) ((x_tk σ) + 1))).1 = 0 then ((xf_deliver ((x_qk σ) (x_qf σ).toNatClampNeg) ((x_qv σ) (x_qf σ).toNatClampNeg) (xs_tk (xs_qs (xs_qf σ (((x_qf σ) + 1) - ((x_qf σ) + 1) / 40 * 40)) ((x_qs σ) - 1)) ((x_tk σ) + 1))).2) else (xf_noteFailed ((x_qk σ) (x_qf σ).toNatClampNeg) ((x_qv σ) (x_qf σ).toNatClampNeg) ((xf_deliver ((x_qk σ) (x_qf σ).toNatClampNeg) ((x_qv σ) (x_qf σ).toNatClampNeg) (xs_tk (xs_qs (xs_qf σ (((x_qf σ) + 1) - ((x_qf σ) + 1) / 40 * 40)) ((x_qs σ) - 1)) ((x_tk σ) + 1))).1) ((xf_deliver ((x_qk σ) (x_qf σ).toNatClampNeg) ((x_qv σ) (x_qf σ).toNatClampNeg) (xs_tk (xs_qs (xs_qf σ (((x_qf σ) + 1) - ((x_qf σ) + 1) / 40 * 40)) ((x_qs σ) - 1)) ((x_tk σ) + 1))).2))) else σ)
set_option maxRecDepth 100000 in
set_option maxHeartbeats 4000000 in
theorem cx_takeFirst (l : Launch) (D : va_G) (O : Nat → Nat) (K : Nat → ClassId) (ad : Nat → Nat)  (σ : SX) (hok : xok σ) : cV l yX1_takeFirst wsX1_takeFirst { frames := 101, cells := 0, slots := 0, locals := 10100 } 0 0 D (xT K) (xW O K ad) σ [.ref (O 0)] (xf_takeFirst σ) := by
  intro sz
  refine z_start (cc := cX1_takeFirst) (maxL := 6) (ret := none) (Qc := fun A => va_Qv (fun u9 => u9 = (xf_takeFirst σ)) (zB D (xT K) (xW O K ad) A) A) sz (by decide) rfl (Nat.le_of_ble_eq_true rfl) ?_
  intro p e s m below meth c A X hA hK hP hD hS ls hl
  obtain ⟨hx, hb, hr, hml, hts, hown, hlocks, hnm⟩ := X
  have hown : s.vm.findClass RX1 = some m.cls := hown
  have hl : lv_has ls 6 [(0, .ref (O 0))] := hl
  have inW : ∀ w ∈ wsX10, w ∈ wsX1_takeFirst := fun w h => List.mem_cons_of_mem _ (List.mem_append_left _ (List.mem_append_right _ h))
  have XX : CallFix p m c cX1_takeFirst 6 s _ wsX1_takeFirst RX1 := ⟨hx, hb, hml, hown, hts⟩
  have k87 := hts (.fieldLink RX1 87 "MailRoom" "queueFirst" "I") (List.mem_of_getElem? (i := 1) rfl)
  have k23 := hts (.fieldLink RX1 23 "MailRoom" "queueKinds" "[I") (List.mem_of_getElem? (i := 2) rfl)
  have k26 := hts (.fieldLink RX1 26 "MailRoom" "queueValues" "[J") (List.mem_of_getElem? (i := 3) rfl)
  have k63 := hts (.fieldLink RX1 63 "MailRoom" "queueSize" "I") (List.mem_of_getElem? (i := 4) rfl)
  have k81 := hts (.fieldLink RX1 81 "MailRoom" "taken" "I") (List.mem_of_getElem? (i := 5) rfl)
  refine lv_aload_n hx hb dX1_takeFirst_0 rfl (lv_at hl 0 rfl) ?_
  refine x_gi_qf (v := (x_qf σ)) hx hb hts inW hown hK hP (rfl) k87 dX1_takeFirst_1 ?_
  refine lv_istore_n (lv' := [(1, .int (x_qf σ)), (0, .ref (O 0))]) hx hb dX1_takeFirst_4 rfl hl (by decide) rfl (fun ls hl => ?_)
  refine lv_iload_n hx hb dX1_takeFirst_5 rfl (lv_at hl 0 rfl) ?_
  refine lv_if_lt (tgt := 15) hx hb dX1_takeFirst_6 (by decide) (fun c6 => ?_) (fun c6 => ?_)
  · exact z_retv hx hb hr hlocks hK hP hD hS ((if_pos c6).trans (rfl)) dX1_takeFirst_15
  · refine lv_iload_n hx hb dX1_takeFirst_9 rfl (lv_at hl 0 rfl) ?_
    refine lv_bipush (v := 40) hx hb dX1_takeFirst_10 (by decide) ?_
    refine lv_icmp_lt (tgt := 16) hx hb dX1_takeFirst_12 (by decide) (fun c12 => ?_) (fun c12 => ?_)
    · refine lv_aload_n hx hb dX1_takeFirst_16 rfl (lv_at hl 1 rfl) ?_
      refine x_ga_4 hx hb hts inW hown hK hP k23 dX1_takeFirst_17 ?_
      refine lv_iload_n hx hb dX1_takeFirst_20 rfl (lv_at hl 0 rfl) ?_
      refine x_ld_qk (f := (x_qk σ)) (i := (x_qf σ)) hx hb hK hP (rfl) (x_lt40 (by assumption) (by assumption)) dX1_takeFirst_21 ?_
      refine lv_istore_n (lv' := [(2, .int ((x_qk σ) (x_qf σ).toNatClampNeg)), (1, .int (x_qf σ)), (0, .ref (O 0))]) hx hb dX1_takeFirst_22 rfl hl (by decide) rfl (fun ls hl => ?_)
      refine lv_aload_n hx hb dX1_takeFirst_23 rfl (lv_at hl 2 rfl) ?_
      refine x_ga_5 hx hb hts inW hown hK hP k26 dX1_takeFirst_24 ?_
      refine lv_iload_n hx hb dX1_takeFirst_27 rfl (lv_at hl 1 rfl) ?_
      refine x_ld_qv (f := (x_qv σ)) (i := (x_qf σ)) hx hb hK hP (rfl) (x_lt40 (by assumption) (by assumption)) dX1_takeFirst_28 ?_
      refine lv_lstore_n (lv' := [(3, .long ((x_qv σ) (x_qf σ).toNatClampNeg)), (2, .int ((x_qk σ) (x_qf σ).toNatClampNeg)), (1, .int (x_qf σ)), (0, .ref (O 0))]) hx hb dX1_takeFirst_29 rfl hl (by decide) rfl (fun ls hl => ?_)
      refine lv_aload_n hx hb dX1_takeFirst_30 rfl (lv_at hl 3 rfl) ?_
      refine lv_iload_n hx hb dX1_takeFirst_31 rfl (lv_at hl 2 rfl) ?_
      refine lv_iconst (v := 1) hx hb dX1_takeFirst_32 (by decide) ?_
      refine lv_iadd hx hb dX1_takeFirst_33 ?_
      refine lv_bipush (v := 40) hx hb dX1_takeFirst_34 (by decide) ?_
      refine lv_irem hx hb dX1_takeFirst_36 (by decide) ?_
      refine x_pi_qf hx hb hts inW hown hK hP hD hS k87 dX1_takeFirst_37 (fun H locs hP hD hS => ?_)
      refine lv_aload_n hx hb dX1_takeFirst_40 rfl (lv_at hl 3 rfl) ?_
      refine lv_dup hx hb dX1_takeFirst_41 rfl ?_
      refine x_gi_qs (v := (x_qs σ)) hx hb hts inW hown hK hP (xr_qs_qf _ _) k63 dX1_takeFirst_42 ?_
      refine lv_iconst (v := 1) hx hb dX1_takeFirst_45 (by decide) ?_
      refine lv_isub hx hb dX1_takeFirst_46 ?_
      refine x_pi_qs hx hb hts inW hown hK hP hD hS k63 dX1_takeFirst_47 (fun H locs hP hD hS => ?_)
      refine lv_aload_n hx hb dX1_takeFirst_50 rfl (lv_at hl 3 rfl) ?_
      refine lv_dup hx hb dX1_takeFirst_51 rfl ?_
      refine x_gi_tk (v := (x_tk σ)) hx hb hts inW hown hK hP ((xr_tk_qs _ _).trans (xr_tk_qf _ _)) k81 dX1_takeFirst_52 ?_
      refine lv_iconst (v := 1) hx hb dX1_takeFirst_55 (by decide) ?_
      refine lv_iadd hx hb dX1_takeFirst_56 ?_
      refine x_pi_tk hx hb hts inW hown hK hP hD hS k81 dX1_takeFirst_57 (fun H locs hP hD hS => ?_)
      refine lv_aload_n hx hb dX1_takeFirst_60 rfl (lv_at hl 3 rfl) ?_
      refine lv_iload_n hx hb dX1_takeFirst_61 rfl (lv_at hl 1 rfl) ?_
      refine lv_lload_n hx hb dX1_takeFirst_62 rfl (lv_at hl 0 rfl) ?_
      refine z_calli (As := [.int ((x_qk σ) (x_qf σ).toNatClampNeg), .long ((x_qv σ) (x_qf σ).toNatClampNeg)]) (rest := []) XX (cx_deliver l D O K ad ((x_qk σ) (x_qf σ).toNatClampNeg) ((x_qv σ) (x_qf σ).toNatClampNeg) (xs_tk (xs_qs (xs_qf σ (((x_qf σ) + 1) - ((x_qf σ) + 1) / 40 * 40)) ((x_qs σ) - 1)) ((x_tk σ) + 1)) ((xpres.of (σ := σ) (τ := (xs_tk (xs_qs (xs_qf σ (((x_qf σ) + 1) - ((x_qf σ) + 1) / 40 * 40)) ((x_qs σ) - 1)) ((x_tk σ) + 1))) ((xr_n_tk _ _).trans ((xr_n_qs _ _).trans (xr_n_qf _ _))) ((xr_hd_tk _ _).trans ((xr_hd_qs _ _).trans (xr_hd_qf _ _))) ((xr_tab_tk _ _).trans ((xr_tab_qs _ _).trans (xr_tab_qf _ _)))).2 (hok))) (cwV 2 hts gX1_takeFirst_X1_deliver rfl rfl rfl qX1_deliver ⟨by decide, by decide⟩) (va_recv hK hP (ci := 1) (q0 := 0) rfl rfl) hK hP hD hS hA rfl hl.1 rfl (Nat.le_of_ble_eq_true rfl) dX1_takeFirst_63 ⟨Nat.zero_le _, Nat.zero_le _⟩ (fun H locs hP hD hS => ?_)
      refine lv_istore (lv' := [(5, .int ((xf_deliver ((x_qk σ) (x_qf σ).toNatClampNeg) ((x_qv σ) (x_qf σ).toNatClampNeg) (xs_tk (xs_qs (xs_qf σ (((x_qf σ) + 1) - ((x_qf σ) + 1) / 40 * 40)) ((x_qs σ) - 1)) ((x_tk σ) + 1))).1)), (3, .long ((x_qv σ) (x_qf σ).toNatClampNeg)), (2, .int ((x_qk σ) (x_qf σ).toNatClampNeg)), (1, .int (x_qf σ)), (0, .ref (O 0))]) hx hb dX1_takeFirst_66 hl (by decide) rfl (fun ls hl => ?_)
      refine lv_iload hx hb dX1_takeFirst_68 (lv_at hl 0 rfl) ?_
      refine lv_if_eq (tgt := 81) hx hb dX1_takeFirst_70 (by decide) (fun c70 => ?_) (fun c70 => ?_)
      · exact z_retv hx hb hr hlocks hK hP hD hS ((if_neg c6).trans ((if_pos c12).trans ((if_pos c70).trans (rfl)))) dX1_takeFirst_81
      · refine lv_aload_n hx hb dX1_takeFirst_73 rfl (lv_at hl 4 rfl) ?_
        refine lv_iload_n hx hb dX1_takeFirst_74 rfl (lv_at hl 2 rfl) ?_
        refine lv_lload_n hx hb dX1_takeFirst_75 rfl (lv_at hl 1 rfl) ?_
        refine lv_iload hx hb dX1_takeFirst_76 (lv_at hl 0 rfl) ?_
        refine z_callv (As := [.int ((x_qk σ) (x_qf σ).toNatClampNeg), .long ((x_qv σ) (x_qf σ).toNatClampNeg), .int ((xf_deliver ((x_qk σ) (x_qf σ).toNatClampNeg) ((x_qv σ) (x_qf σ).toNatClampNeg) (xs_tk (xs_qs (xs_qf σ (((x_qf σ) + 1) - ((x_qf σ) + 1) / 40 * 40)) ((x_qs σ) - 1)) ((x_tk σ) + 1))).1)]) (rest := []) XX (cx_noteFailed l D O K ad ((x_qk σ) (x_qf σ).toNatClampNeg) ((x_qv σ) (x_qf σ).toNatClampNeg) ((xf_deliver ((x_qk σ) (x_qf σ).toNatClampNeg) ((x_qv σ) (x_qf σ).toNatClampNeg) (xs_tk (xs_qs (xs_qf σ (((x_qf σ) + 1) - ((x_qf σ) + 1) / 40 * 40)) ((x_qs σ) - 1)) ((x_tk σ) + 1))).1) ((xf_deliver ((x_qk σ) (x_qf σ).toNatClampNeg) ((x_qv σ) (x_qf σ).toNatClampNeg) (xs_tk (xs_qs (xs_qf σ (((x_qf σ) + 1) - ((x_qf σ) + 1) / 40 * 40)) ((x_qs σ) - 1)) ((x_tk σ) + 1))).2)) (cwV 3 hts gX1_takeFirst_X1_noteFailed rfl rfl rfl qX1_noteFailed ⟨by decide, by decide⟩) (va_recv hK hP (ci := 1) (q0 := 0) rfl rfl) hK hP hD hS hA rfl hl.1 rfl (Nat.le_of_ble_eq_true rfl) dX1_takeFirst_78 ⟨Nat.zero_le _, Nat.zero_le _⟩ (fun H locs hP hD hS => ?_)
        exact z_retv hx hb hr hlocks hK hP hD hS ((if_neg c6).trans ((if_pos c12).trans ((if_neg c70).trans (rfl)))) dX1_takeFirst_81
    · exact z_retv hx hb hr hlocks hK hP hD hS ((if_neg c6).trans ((if_neg c12).trans (rfl))) dX1_takeFirst_15
noncomputable def xf_give  (k : Int32) (v : Int64) (σ : SX) : Int32 × SX := if (xf_isKind k) = 0 then ((-2), σ) else (if (xf_deliver k v (xs_bic σ 0)).1 = 0 then (1, (xf_deliver k v (xs_bic σ 0)).2) else (((-10) - (xf_deliver k v (xs_bic σ 0)).1), (xf_deliver k v (xs_bic σ 0)).2))
set_option maxRecDepth 100000 in
set_option maxHeartbeats 4000000 in
theorem cx_give (l : Launch) (D : va_G) (O : Nat → Nat) (K : Nat → ClassId) (ad : Nat → Nat) (k : Int32) (v : Int64) (σ : SX) (hok : xok σ) : cI l yX1_give wsX1_give { frames := 102, cells := 0, slots := 0, locals := 10200 } 0 0 D (xT K) (xW O K ad) σ [.ref (O 0), .int k, .long v] (xf_give k v σ) := by
  intro sz
  refine z_start (cc := cX1_give) (maxL := 5) (ret := (some .int)) (Qc := fun A => va_Qi (fun r9 u9 => r9 = (xf_give k v σ).1 ∧ u9 = (xf_give k v σ).2) (zB D (xT K) (xW O K ad) A) A) sz (by decide) rfl (Nat.le_of_ble_eq_true rfl) ?_
  intro p e s m below meth c A X hA hK hP hD hS ls hl
  obtain ⟨hx, hb, hr, hml, hts, hown, hlocks, hnm⟩ := X
  have hown : s.vm.findClass RX1 = some m.cls := hown
  have hl : lv_has ls 5 [(0, .ref (O 0)), (1, .int k), (2, .long v)] := hl
  have inW : ∀ w ∈ wsX10, w ∈ wsX1_give := fun w h => List.mem_cons_of_mem _ (List.mem_append_left _ (List.mem_append_right _ h))
  have XX : CallFix p m c cX1_give 5 s _ wsX1_give RX1 := ⟨hx, hb, hml, hown, hts⟩
  have k66 := hts (.fieldLink RX1 66 "MailRoom" "begunInCall" "I") (List.mem_of_getElem? (i := 1) rfl)
  refine lv_iload_n hx hb dX1_give_0 rfl (lv_at hl 1 rfl) ?_
  refine z_calls (As := [.int k]) (rest := []) XX (cx_isKind l k) (va_cwS 1 hts gX1_give_X1_isKind rfl rfl rfl qX1_isKind ⟨by decide, by decide⟩) rfl hl.1 rfl (Nat.le_of_ble_eq_true rfl) dX1_give_1 ⟨Nat.zero_le _, Nat.zero_le _⟩ ?_
  refine lv_if_ne (tgt := 10) hx hb dX1_give_4 (by decide) (fun c4 => ?_) (fun c4 => ?_)
  · refine lv_aload_n hx hb dX1_give_10 rfl (lv_at hl 0 rfl) ?_
    refine lv_iconst (v := 0) hx hb dX1_give_11 (by decide) ?_
    refine x_pi_bic hx hb hts inW hown hK hP hD hS k66 dX1_give_12 (fun H locs hP hD hS => ?_)
    refine lv_aload_n hx hb dX1_give_15 rfl (lv_at hl 0 rfl) ?_
    refine lv_iload_n hx hb dX1_give_16 rfl (lv_at hl 1 rfl) ?_
    refine lv_lload_n hx hb dX1_give_17 rfl (lv_at hl 2 rfl) ?_
    refine z_calli (As := [.int k, .long v]) (rest := []) XX (cx_deliver l D O K ad k v (xs_bic σ 0) ((xpres.of (σ := σ) (τ := (xs_bic σ 0)) (xr_n_bic _ _) (xr_hd_bic _ _) (xr_tab_bic _ _)).2 (hok))) (cwV 2 hts gX1_give_X1_deliver rfl rfl rfl qX1_deliver ⟨by decide, by decide⟩) (va_recv hK hP (ci := 1) (q0 := 0) rfl rfl) hK hP hD hS hA rfl hl.1 rfl (Nat.le_of_ble_eq_true rfl) dX1_give_18 ⟨Nat.zero_le _, Nat.zero_le _⟩ (fun H locs hP hD hS => ?_)
    refine lv_istore (lv' := [(4, .int ((xf_deliver k v (xs_bic σ 0)).1)), (0, .ref (O 0)), (1, .int k), (2, .long v)]) hx hb dX1_give_21 hl (by decide) rfl (fun ls hl => ?_)
    refine lv_iload hx hb dX1_give_23 (lv_at hl 0 rfl) ?_
    refine lv_if_ne (tgt := 32) hx hb dX1_give_25 (by decide) (fun c25 => ?_) (fun c25 => ?_)
    · refine lv_bipush (v := (-10)) hx hb dX1_give_32 (by decide) ?_
      refine lv_iload hx hb dX1_give_34 (lv_at hl 0 rfl) ?_
      refine lv_isub hx hb dX1_give_36 ?_
      exact z_reti hx hb hr hlocks rfl hK hP hD hS ((if_neg c4).trans ((if_neg c25).trans (rfl))) dX1_give_37
    · refine lv_iconst (v := 1) hx hb dX1_give_28 (by decide) ?_
      refine lv_goto (tgt := 37) hx hb dX1_give_29 (by decide) ?_
      exact z_reti hx hb hr hlocks rfl hK hP hD hS ((if_neg c4).trans ((if_pos c25).trans (rfl))) dX1_give_37
  · refine lv_bipush (v := (-2)) hx hb dX1_give_7 (by decide) ?_
    exact z_reti hx hb hr hlocks rfl hK hP hD hS ((if_pos c4).trans (rfl)) dX1_give_9
end
section
/-! the state of the reference and its cells -/
abbrev SM : Type := (Nat → Int64) × (Nat → Int32) × Int32 × (Nat → Int32) × (Nat → Int32) × (Nat → Int32) × (Nat → Int32) × (Nat → Int64) × (Nat → Int32) × (Nat → Int32) × (Nat → Int32) × (Nat → Int32) × Int32 × (Nat → Int32) × (Nat → Int64) × Int32 × Int32 × Int32 × (Nat → Int32) × (Nat → Int32) × (Nat → Int64) × Int32 × Int32 × Int32 × (Nat → Int32) × (Nat → Int32) × (Nat → Int64) × Int32
noncomputable def m_su (σ : SM) : Nat → Int64 := σ.1
noncomputable def m_co (σ : SM) : Nat → Int32 := σ.2.1
noncomputable def m_many (σ : SM) : Int32 := σ.2.2.1
noncomputable def m_so (σ : SM) : Nat → Int32 := σ.2.2.2.1
noncomputable def m_ki (σ : SM) : Nat → Int32 := σ.2.2.2.2.1
noncomputable def m_as (σ : SM) : Nat → Int32 := σ.2.2.2.2.2.1
noncomputable def m_bs (σ : SM) : Nat → Int32 := σ.2.2.2.2.2.2.1
noncomputable def m_cs (σ : SM) : Nat → Int64 := σ.2.2.2.2.2.2.2.1
noncomputable def m_fo (σ : SM) : Nat → Int32 := σ.2.2.2.2.2.2.2.2.1
noncomputable def m_ot (σ : SM) : Nat → Int32 := σ.2.2.2.2.2.2.2.2.2.1
noncomputable def m_le (σ : SM) : Nat → Int32 := σ.2.2.2.2.2.2.2.2.2.2.1
noncomputable def m_st (σ : SM) : Nat → Int32 := σ.2.2.2.2.2.2.2.2.2.2.2.1
noncomputable def m_sz (σ : SM) : Int32 := σ.2.2.2.2.2.2.2.2.2.2.2.2.1
noncomputable def m_qk (σ : SM) : Nat → Int32 := σ.2.2.2.2.2.2.2.2.2.2.2.2.2.1
noncomputable def m_qv (σ : SM) : Nat → Int64 := σ.2.2.2.2.2.2.2.2.2.2.2.2.2.2.1
noncomputable def m_tk (σ : SM) : Int32 := σ.2.2.2.2.2.2.2.2.2.2.2.2.2.2.2.1
noncomputable def m_fe (σ : SM) : Int32 := σ.2.2.2.2.2.2.2.2.2.2.2.2.2.2.2.2.1
noncomputable def m_kp (σ : SM) : Int32 := σ.2.2.2.2.2.2.2.2.2.2.2.2.2.2.2.2.2.1
noncomputable def m_kk (σ : SM) : Nat → Int32 := σ.2.2.2.2.2.2.2.2.2.2.2.2.2.2.2.2.2.2.1
noncomputable def m_kf (σ : SM) : Nat → Int32 := σ.2.2.2.2.2.2.2.2.2.2.2.2.2.2.2.2.2.2.2.1
noncomputable def m_kv (σ : SM) : Nat → Int64 := σ.2.2.2.2.2.2.2.2.2.2.2.2.2.2.2.2.2.2.2.2.1
noncomputable def m_la (σ : SM) : Int32 := σ.2.2.2.2.2.2.2.2.2.2.2.2.2.2.2.2.2.2.2.2.2.1
noncomputable def m_tp (σ : SM) : Int32 := σ.2.2.2.2.2.2.2.2.2.2.2.2.2.2.2.2.2.2.2.2.2.2.1
noncomputable def m_bg (σ : SM) : Int32 := σ.2.2.2.2.2.2.2.2.2.2.2.2.2.2.2.2.2.2.2.2.2.2.2.1
noncomputable def m_wh (σ : SM) : Nat → Int32 := σ.2.2.2.2.2.2.2.2.2.2.2.2.2.2.2.2.2.2.2.2.2.2.2.2.1
noncomputable def m_sg (σ : SM) : Nat → Int32 := σ.2.2.2.2.2.2.2.2.2.2.2.2.2.2.2.2.2.2.2.2.2.2.2.2.2.1
noncomputable def m_va (σ : SM) : Nat → Int64 := σ.2.2.2.2.2.2.2.2.2.2.2.2.2.2.2.2.2.2.2.2.2.2.2.2.2.2.1
noncomputable def m_fa (σ : SM) : Int32 := σ.2.2.2.2.2.2.2.2.2.2.2.2.2.2.2.2.2.2.2.2.2.2.2.2.2.2.2
noncomputable def ms_su (σ : SM) (v : Nat → Int64) : SM := (v, σ.2)
noncomputable def ms_co (σ : SM) (v : Nat → Int32) : SM := (σ.1, v, σ.2.2)
noncomputable def ms_many (σ : SM) (v : Int32) : SM := (σ.1, σ.2.1, v, σ.2.2.2)
noncomputable def ms_so (σ : SM) (v : Nat → Int32) : SM := (σ.1, σ.2.1, σ.2.2.1, v, σ.2.2.2.2)
noncomputable def ms_ki (σ : SM) (v : Nat → Int32) : SM := (σ.1, σ.2.1, σ.2.2.1, σ.2.2.2.1, v, σ.2.2.2.2.2)
noncomputable def ms_as (σ : SM) (v : Nat → Int32) : SM := (σ.1, σ.2.1, σ.2.2.1, σ.2.2.2.1, σ.2.2.2.2.1, v, σ.2.2.2.2.2.2)
noncomputable def ms_bs (σ : SM) (v : Nat → Int32) : SM := (σ.1, σ.2.1, σ.2.2.1, σ.2.2.2.1, σ.2.2.2.2.1, σ.2.2.2.2.2.1, v, σ.2.2.2.2.2.2.2)
noncomputable def ms_cs (σ : SM) (v : Nat → Int64) : SM := (σ.1, σ.2.1, σ.2.2.1, σ.2.2.2.1, σ.2.2.2.2.1, σ.2.2.2.2.2.1, σ.2.2.2.2.2.2.1, v, σ.2.2.2.2.2.2.2.2)
noncomputable def ms_fo (σ : SM) (v : Nat → Int32) : SM := (σ.1, σ.2.1, σ.2.2.1, σ.2.2.2.1, σ.2.2.2.2.1, σ.2.2.2.2.2.1, σ.2.2.2.2.2.2.1, σ.2.2.2.2.2.2.2.1, v, σ.2.2.2.2.2.2.2.2.2)
noncomputable def ms_ot (σ : SM) (v : Nat → Int32) : SM := (σ.1, σ.2.1, σ.2.2.1, σ.2.2.2.1, σ.2.2.2.2.1, σ.2.2.2.2.2.1, σ.2.2.2.2.2.2.1, σ.2.2.2.2.2.2.2.1, σ.2.2.2.2.2.2.2.2.1, v, σ.2.2.2.2.2.2.2.2.2.2)
noncomputable def ms_le (σ : SM) (v : Nat → Int32) : SM := (σ.1, σ.2.1, σ.2.2.1, σ.2.2.2.1, σ.2.2.2.2.1, σ.2.2.2.2.2.1, σ.2.2.2.2.2.2.1, σ.2.2.2.2.2.2.2.1, σ.2.2.2.2.2.2.2.2.1, σ.2.2.2.2.2.2.2.2.2.1, v, σ.2.2.2.2.2.2.2.2.2.2.2)
noncomputable def ms_st (σ : SM) (v : Nat → Int32) : SM := (σ.1, σ.2.1, σ.2.2.1, σ.2.2.2.1, σ.2.2.2.2.1, σ.2.2.2.2.2.1, σ.2.2.2.2.2.2.1, σ.2.2.2.2.2.2.2.1, σ.2.2.2.2.2.2.2.2.1, σ.2.2.2.2.2.2.2.2.2.1, σ.2.2.2.2.2.2.2.2.2.2.1, v, σ.2.2.2.2.2.2.2.2.2.2.2.2)
noncomputable def ms_sz (σ : SM) (v : Int32) : SM := (σ.1, σ.2.1, σ.2.2.1, σ.2.2.2.1, σ.2.2.2.2.1, σ.2.2.2.2.2.1, σ.2.2.2.2.2.2.1, σ.2.2.2.2.2.2.2.1, σ.2.2.2.2.2.2.2.2.1, σ.2.2.2.2.2.2.2.2.2.1, σ.2.2.2.2.2.2.2.2.2.2.1, σ.2.2.2.2.2.2.2.2.2.2.2.1, v, σ.2.2.2.2.2.2.2.2.2.2.2.2.2)
noncomputable def ms_qk (σ : SM) (v : Nat → Int32) : SM := (σ.1, σ.2.1, σ.2.2.1, σ.2.2.2.1, σ.2.2.2.2.1, σ.2.2.2.2.2.1, σ.2.2.2.2.2.2.1, σ.2.2.2.2.2.2.2.1, σ.2.2.2.2.2.2.2.2.1, σ.2.2.2.2.2.2.2.2.2.1, σ.2.2.2.2.2.2.2.2.2.2.1, σ.2.2.2.2.2.2.2.2.2.2.2.1, σ.2.2.2.2.2.2.2.2.2.2.2.2.1, v, σ.2.2.2.2.2.2.2.2.2.2.2.2.2.2)
noncomputable def ms_qv (σ : SM) (v : Nat → Int64) : SM := (σ.1, σ.2.1, σ.2.2.1, σ.2.2.2.1, σ.2.2.2.2.1, σ.2.2.2.2.2.1, σ.2.2.2.2.2.2.1, σ.2.2.2.2.2.2.2.1, σ.2.2.2.2.2.2.2.2.1, σ.2.2.2.2.2.2.2.2.2.1, σ.2.2.2.2.2.2.2.2.2.2.1, σ.2.2.2.2.2.2.2.2.2.2.2.1, σ.2.2.2.2.2.2.2.2.2.2.2.2.1, σ.2.2.2.2.2.2.2.2.2.2.2.2.2.1, v, σ.2.2.2.2.2.2.2.2.2.2.2.2.2.2.2)
noncomputable def ms_tk (σ : SM) (v : Int32) : SM := (σ.1, σ.2.1, σ.2.2.1, σ.2.2.2.1, σ.2.2.2.2.1, σ.2.2.2.2.2.1, σ.2.2.2.2.2.2.1, σ.2.2.2.2.2.2.2.1, σ.2.2.2.2.2.2.2.2.1, σ.2.2.2.2.2.2.2.2.2.1, σ.2.2.2.2.2.2.2.2.2.2.1, σ.2.2.2.2.2.2.2.2.2.2.2.1, σ.2.2.2.2.2.2.2.2.2.2.2.2.1, σ.2.2.2.2.2.2.2.2.2.2.2.2.2.1, σ.2.2.2.2.2.2.2.2.2.2.2.2.2.2.1, v, σ.2.2.2.2.2.2.2.2.2.2.2.2.2.2.2.2)
noncomputable def ms_fe (σ : SM) (v : Int32) : SM := (σ.1, σ.2.1, σ.2.2.1, σ.2.2.2.1, σ.2.2.2.2.1, σ.2.2.2.2.2.1, σ.2.2.2.2.2.2.1, σ.2.2.2.2.2.2.2.1, σ.2.2.2.2.2.2.2.2.1, σ.2.2.2.2.2.2.2.2.2.1, σ.2.2.2.2.2.2.2.2.2.2.1, σ.2.2.2.2.2.2.2.2.2.2.2.1, σ.2.2.2.2.2.2.2.2.2.2.2.2.1, σ.2.2.2.2.2.2.2.2.2.2.2.2.2.1, σ.2.2.2.2.2.2.2.2.2.2.2.2.2.2.1, σ.2.2.2.2.2.2.2.2.2.2.2.2.2.2.2.1, v, σ.2.2.2.2.2.2.2.2.2.2.2.2.2.2.2.2.2)
noncomputable def ms_kp (σ : SM) (v : Int32) : SM := (σ.1, σ.2.1, σ.2.2.1, σ.2.2.2.1, σ.2.2.2.2.1, σ.2.2.2.2.2.1, σ.2.2.2.2.2.2.1, σ.2.2.2.2.2.2.2.1, σ.2.2.2.2.2.2.2.2.1, σ.2.2.2.2.2.2.2.2.2.1, σ.2.2.2.2.2.2.2.2.2.2.1, σ.2.2.2.2.2.2.2.2.2.2.2.1, σ.2.2.2.2.2.2.2.2.2.2.2.2.1, σ.2.2.2.2.2.2.2.2.2.2.2.2.2.1, σ.2.2.2.2.2.2.2.2.2.2.2.2.2.2.1, σ.2.2.2.2.2.2.2.2.2.2.2.2.2.2.2.1, σ.2.2.2.2.2.2.2.2.2.2.2.2.2.2.2.2.1, v, σ.2.2.2.2.2.2.2.2.2.2.2.2.2.2.2.2.2.2)
noncomputable def ms_kk (σ : SM) (v : Nat → Int32) : SM := (σ.1, σ.2.1, σ.2.2.1, σ.2.2.2.1, σ.2.2.2.2.1, σ.2.2.2.2.2.1, σ.2.2.2.2.2.2.1, σ.2.2.2.2.2.2.2.1, σ.2.2.2.2.2.2.2.2.1, σ.2.2.2.2.2.2.2.2.2.1, σ.2.2.2.2.2.2.2.2.2.2.1, σ.2.2.2.2.2.2.2.2.2.2.2.1, σ.2.2.2.2.2.2.2.2.2.2.2.2.1, σ.2.2.2.2.2.2.2.2.2.2.2.2.2.1, σ.2.2.2.2.2.2.2.2.2.2.2.2.2.2.1, σ.2.2.2.2.2.2.2.2.2.2.2.2.2.2.2.1, σ.2.2.2.2.2.2.2.2.2.2.2.2.2.2.2.2.1, σ.2.2.2.2.2.2.2.2.2.2.2.2.2.2.2.2.2.1, v, σ.2.2.2.2.2.2.2.2.2.2.2.2.2.2.2.2.2.2.2)
noncomputable def ms_kf (σ : SM) (v : Nat → Int32) : SM := (σ.1, σ.2.1, σ.2.2.1, σ.2.2.2.1, σ.2.2.2.2.1, σ.2.2.2.2.2.1, σ.2.2.2.2.2.2.1, σ.2.2.2.2.2.2.2.1, σ.2.2.2.2.2.2.2.2.1, σ.2.2.2.2.2.2.2.2.2.1, σ.2.2.2.2.2.2.2.2.2.2.1, σ.2.2.2.2.2.2.2.2.2.2.2.1, σ.2.2.2.2.2.2.2.2.2.2.2.2.1, σ.2.2.2.2.2.2.2.2.2.2.2.2.2.1, σ.2.2.2.2.2.2.2.2.2.2.2.2.2.2.1, σ.2.2.2.2.2.2.2.2.2.2.2.2.2.2.2.1, σ.2.2.2.2.2.2.2.2.2.2.2.2.2.2.2.2.1, σ.2.2.2.2.2.2.2.2.2.2.2.2.2.2.2.2.2.1, σ.2.2.2.2.2.2.2.2.2.2.2.2.2.2.2.2.2.2.1, v, σ.2.2.2.2.2.2.2.2.2.2.2.2.2.2.2.2.2.2.2.2)
noncomputable def ms_kv (σ : SM) (v : Nat → Int64) : SM := (σ.1, σ.2.1, σ.2.2.1, σ.2.2.2.1, σ.2.2.2.2.1, σ.2.2.2.2.2.1, σ.2.2.2.2.2.2.1, σ.2.2.2.2.2.2.2.1, σ.2.2.2.2.2.2.2.2.1, σ.2.2.2.2.2.2.2.2.2.1, σ.2.2.2.2.2.2.2.2.2.2.1, σ.2.2.2.2.2.2.2.2.2.2.2.1, σ.2.2.2.2.2.2.2.2.2.2.2.2.1, σ.2.2.2.2.2.2.2.2.2.2.2.2.2.1, σ.2.2.2.2.2.2.2.2.2.2.2.2.2.2.1, σ.2.2.2.2.2.2.2.2.2.2.2.2.2.2.2.1, σ.2.2.2.2.2.2.2.2.2.2.2.2.2.2.2.2.1, σ.2.2.2.2.2.2.2.2.2.2.2.2.2.2.2.2.2.1, σ.2.2.2.2.2.2.2.2.2.2.2.2.2.2.2.2.2.2.1, σ.2.2.2.2.2.2.2.2.2.2.2.2.2.2.2.2.2.2.2.1, v, σ.2.2.2.2.2.2.2.2.2.2.2.2.2.2.2.2.2.2.2.2.2)
noncomputable def ms_la (σ : SM) (v : Int32) : SM := (σ.1, σ.2.1, σ.2.2.1, σ.2.2.2.1, σ.2.2.2.2.1, σ.2.2.2.2.2.1, σ.2.2.2.2.2.2.1, σ.2.2.2.2.2.2.2.1, σ.2.2.2.2.2.2.2.2.1, σ.2.2.2.2.2.2.2.2.2.1, σ.2.2.2.2.2.2.2.2.2.2.1, σ.2.2.2.2.2.2.2.2.2.2.2.1, σ.2.2.2.2.2.2.2.2.2.2.2.2.1, σ.2.2.2.2.2.2.2.2.2.2.2.2.2.1, σ.2.2.2.2.2.2.2.2.2.2.2.2.2.2.1, σ.2.2.2.2.2.2.2.2.2.2.2.2.2.2.2.1, σ.2.2.2.2.2.2.2.2.2.2.2.2.2.2.2.2.1, σ.2.2.2.2.2.2.2.2.2.2.2.2.2.2.2.2.2.1, σ.2.2.2.2.2.2.2.2.2.2.2.2.2.2.2.2.2.2.1, σ.2.2.2.2.2.2.2.2.2.2.2.2.2.2.2.2.2.2.2.1, σ.2.2.2.2.2.2.2.2.2.2.2.2.2.2.2.2.2.2.2.2.1, v, σ.2.2.2.2.2.2.2.2.2.2.2.2.2.2.2.2.2.2.2.2.2.2)
noncomputable def ms_tp (σ : SM) (v : Int32) : SM := (σ.1, σ.2.1, σ.2.2.1, σ.2.2.2.1, σ.2.2.2.2.1, σ.2.2.2.2.2.1, σ.2.2.2.2.2.2.1, σ.2.2.2.2.2.2.2.1, σ.2.2.2.2.2.2.2.2.1, σ.2.2.2.2.2.2.2.2.2.1, σ.2.2.2.2.2.2.2.2.2.2.1, σ.2.2.2.2.2.2.2.2.2.2.2.1, σ.2.2.2.2.2.2.2.2.2.2.2.2.1, σ.2.2.2.2.2.2.2.2.2.2.2.2.2.1, σ.2.2.2.2.2.2.2.2.2.2.2.2.2.2.1, σ.2.2.2.2.2.2.2.2.2.2.2.2.2.2.2.1, σ.2.2.2.2.2.2.2.2.2.2.2.2.2.2.2.2.1, σ.2.2.2.2.2.2.2.2.2.2.2.2.2.2.2.2.2.1, σ.2.2.2.2.2.2.2.2.2.2.2.2.2.2.2.2.2.2.1, σ.2.2.2.2.2.2.2.2.2.2.2.2.2.2.2.2.2.2.2.1, σ.2.2.2.2.2.2.2.2.2.2.2.2.2.2.2.2.2.2.2.2.1, σ.2.2.2.2.2.2.2.2.2.2.2.2.2.2.2.2.2.2.2.2.2.1, v, σ.2.2.2.2.2.2.2.2.2.2.2.2.2.2.2.2.2.2.2.2.2.2.2)
noncomputable def ms_bg (σ : SM) (v : Int32) : SM := (σ.1, σ.2.1, σ.2.2.1, σ.2.2.2.1, σ.2.2.2.2.1, σ.2.2.2.2.2.1, σ.2.2.2.2.2.2.1, σ.2.2.2.2.2.2.2.1, σ.2.2.2.2.2.2.2.2.1, σ.2.2.2.2.2.2.2.2.2.1, σ.2.2.2.2.2.2.2.2.2.2.1, σ.2.2.2.2.2.2.2.2.2.2.2.1, σ.2.2.2.2.2.2.2.2.2.2.2.2.1, σ.2.2.2.2.2.2.2.2.2.2.2.2.2.1, σ.2.2.2.2.2.2.2.2.2.2.2.2.2.2.1, σ.2.2.2.2.2.2.2.2.2.2.2.2.2.2.2.1, σ.2.2.2.2.2.2.2.2.2.2.2.2.2.2.2.2.1, σ.2.2.2.2.2.2.2.2.2.2.2.2.2.2.2.2.2.1, σ.2.2.2.2.2.2.2.2.2.2.2.2.2.2.2.2.2.2.1, σ.2.2.2.2.2.2.2.2.2.2.2.2.2.2.2.2.2.2.2.1, σ.2.2.2.2.2.2.2.2.2.2.2.2.2.2.2.2.2.2.2.2.1, σ.2.2.2.2.2.2.2.2.2.2.2.2.2.2.2.2.2.2.2.2.2.1, σ.2.2.2.2.2.2.2.2.2.2.2.2.2.2.2.2.2.2.2.2.2.2.1, v, σ.2.2.2.2.2.2.2.2.2.2.2.2.2.2.2.2.2.2.2.2.2.2.2.2)
noncomputable def ms_wh (σ : SM) (v : Nat → Int32) : SM := (σ.1, σ.2.1, σ.2.2.1, σ.2.2.2.1, σ.2.2.2.2.1, σ.2.2.2.2.2.1, σ.2.2.2.2.2.2.1, σ.2.2.2.2.2.2.2.1, σ.2.2.2.2.2.2.2.2.1, σ.2.2.2.2.2.2.2.2.2.1, σ.2.2.2.2.2.2.2.2.2.2.1, σ.2.2.2.2.2.2.2.2.2.2.2.1, σ.2.2.2.2.2.2.2.2.2.2.2.2.1, σ.2.2.2.2.2.2.2.2.2.2.2.2.2.1, σ.2.2.2.2.2.2.2.2.2.2.2.2.2.2.1, σ.2.2.2.2.2.2.2.2.2.2.2.2.2.2.2.1, σ.2.2.2.2.2.2.2.2.2.2.2.2.2.2.2.2.1, σ.2.2.2.2.2.2.2.2.2.2.2.2.2.2.2.2.2.1, σ.2.2.2.2.2.2.2.2.2.2.2.2.2.2.2.2.2.2.1, σ.2.2.2.2.2.2.2.2.2.2.2.2.2.2.2.2.2.2.2.1, σ.2.2.2.2.2.2.2.2.2.2.2.2.2.2.2.2.2.2.2.2.1, σ.2.2.2.2.2.2.2.2.2.2.2.2.2.2.2.2.2.2.2.2.2.1, σ.2.2.2.2.2.2.2.2.2.2.2.2.2.2.2.2.2.2.2.2.2.2.1, σ.2.2.2.2.2.2.2.2.2.2.2.2.2.2.2.2.2.2.2.2.2.2.2.1, v, σ.2.2.2.2.2.2.2.2.2.2.2.2.2.2.2.2.2.2.2.2.2.2.2.2.2)
noncomputable def ms_sg (σ : SM) (v : Nat → Int32) : SM := (σ.1, σ.2.1, σ.2.2.1, σ.2.2.2.1, σ.2.2.2.2.1, σ.2.2.2.2.2.1, σ.2.2.2.2.2.2.1, σ.2.2.2.2.2.2.2.1, σ.2.2.2.2.2.2.2.2.1, σ.2.2.2.2.2.2.2.2.2.1, σ.2.2.2.2.2.2.2.2.2.2.1, σ.2.2.2.2.2.2.2.2.2.2.2.1, σ.2.2.2.2.2.2.2.2.2.2.2.2.1, σ.2.2.2.2.2.2.2.2.2.2.2.2.2.1, σ.2.2.2.2.2.2.2.2.2.2.2.2.2.2.1, σ.2.2.2.2.2.2.2.2.2.2.2.2.2.2.2.1, σ.2.2.2.2.2.2.2.2.2.2.2.2.2.2.2.2.1, σ.2.2.2.2.2.2.2.2.2.2.2.2.2.2.2.2.2.1, σ.2.2.2.2.2.2.2.2.2.2.2.2.2.2.2.2.2.2.1, σ.2.2.2.2.2.2.2.2.2.2.2.2.2.2.2.2.2.2.2.1, σ.2.2.2.2.2.2.2.2.2.2.2.2.2.2.2.2.2.2.2.2.1, σ.2.2.2.2.2.2.2.2.2.2.2.2.2.2.2.2.2.2.2.2.2.1, σ.2.2.2.2.2.2.2.2.2.2.2.2.2.2.2.2.2.2.2.2.2.2.1, σ.2.2.2.2.2.2.2.2.2.2.2.2.2.2.2.2.2.2.2.2.2.2.2.1, σ.2.2.2.2.2.2.2.2.2.2.2.2.2.2.2.2.2.2.2.2.2.2.2.2.1, v, σ.2.2.2.2.2.2.2.2.2.2.2.2.2.2.2.2.2.2.2.2.2.2.2.2.2.2)
noncomputable def ms_va (σ : SM) (v : Nat → Int64) : SM := (σ.1, σ.2.1, σ.2.2.1, σ.2.2.2.1, σ.2.2.2.2.1, σ.2.2.2.2.2.1, σ.2.2.2.2.2.2.1, σ.2.2.2.2.2.2.2.1, σ.2.2.2.2.2.2.2.2.1, σ.2.2.2.2.2.2.2.2.2.1, σ.2.2.2.2.2.2.2.2.2.2.1, σ.2.2.2.2.2.2.2.2.2.2.2.1, σ.2.2.2.2.2.2.2.2.2.2.2.2.1, σ.2.2.2.2.2.2.2.2.2.2.2.2.2.1, σ.2.2.2.2.2.2.2.2.2.2.2.2.2.2.1, σ.2.2.2.2.2.2.2.2.2.2.2.2.2.2.2.1, σ.2.2.2.2.2.2.2.2.2.2.2.2.2.2.2.2.1, σ.2.2.2.2.2.2.2.2.2.2.2.2.2.2.2.2.2.1, σ.2.2.2.2.2.2.2.2.2.2.2.2.2.2.2.2.2.2.1, σ.2.2.2.2.2.2.2.2.2.2.2.2.2.2.2.2.2.2.2.1, σ.2.2.2.2.2.2.2.2.2.2.2.2.2.2.2.2.2.2.2.2.1, σ.2.2.2.2.2.2.2.2.2.2.2.2.2.2.2.2.2.2.2.2.2.1, σ.2.2.2.2.2.2.2.2.2.2.2.2.2.2.2.2.2.2.2.2.2.2.1, σ.2.2.2.2.2.2.2.2.2.2.2.2.2.2.2.2.2.2.2.2.2.2.2.1, σ.2.2.2.2.2.2.2.2.2.2.2.2.2.2.2.2.2.2.2.2.2.2.2.2.1, σ.2.2.2.2.2.2.2.2.2.2.2.2.2.2.2.2.2.2.2.2.2.2.2.2.2.1, v, σ.2.2.2.2.2.2.2.2.2.2.2.2.2.2.2.2.2.2.2.2.2.2.2.2.2.2.2)
noncomputable def ms_fa (σ : SM) (v : Int32) : SM := (σ.1, σ.2.1, σ.2.2.1, σ.2.2.2.1, σ.2.2.2.2.1, σ.2.2.2.2.2.1, σ.2.2.2.2.2.2.1, σ.2.2.2.2.2.2.2.1, σ.2.2.2.2.2.2.2.2.1, σ.2.2.2.2.2.2.2.2.2.1, σ.2.2.2.2.2.2.2.2.2.2.1, σ.2.2.2.2.2.2.2.2.2.2.2.1, σ.2.2.2.2.2.2.2.2.2.2.2.2.1, σ.2.2.2.2.2.2.2.2.2.2.2.2.2.1, σ.2.2.2.2.2.2.2.2.2.2.2.2.2.2.1, σ.2.2.2.2.2.2.2.2.2.2.2.2.2.2.2.1, σ.2.2.2.2.2.2.2.2.2.2.2.2.2.2.2.2.1, σ.2.2.2.2.2.2.2.2.2.2.2.2.2.2.2.2.2.1, σ.2.2.2.2.2.2.2.2.2.2.2.2.2.2.2.2.2.2.1, σ.2.2.2.2.2.2.2.2.2.2.2.2.2.2.2.2.2.2.2.1, σ.2.2.2.2.2.2.2.2.2.2.2.2.2.2.2.2.2.2.2.2.1, σ.2.2.2.2.2.2.2.2.2.2.2.2.2.2.2.2.2.2.2.2.2.1, σ.2.2.2.2.2.2.2.2.2.2.2.2.2.2.2.2.2.2.2.2.2.2.1, σ.2.2.2.2.2.2.2.2.2.2.2.2.2.2.2.2.2.2.2.2.2.2.2.1, σ.2.2.2.2.2.2.2.2.2.2.2.2.2.2.2.2.2.2.2.2.2.2.2.2.1, σ.2.2.2.2.2.2.2.2.2.2.2.2.2.2.2.2.2.2.2.2.2.2.2.2.2.1, σ.2.2.2.2.2.2.2.2.2.2.2.2.2.2.2.2.2.2.2.2.2.2.2.2.2.2.1, v)
theorem mw_su (σ : SM) (v : Nat → Int64) : m_su (ms_su σ v) = v := rfl
theorem mr_su_co (σ : SM) (v : Nat → Int32) : m_su (ms_co σ v) = m_su σ := rfl
theorem mr_su_many (σ : SM) (v : Int32) : m_su (ms_many σ v) = m_su σ := rfl
theorem mr_su_so (σ : SM) (v : Nat → Int32) : m_su (ms_so σ v) = m_su σ := rfl
theorem mr_su_ki (σ : SM) (v : Nat → Int32) : m_su (ms_ki σ v) = m_su σ := rfl
theorem mr_su_as (σ : SM) (v : Nat → Int32) : m_su (ms_as σ v) = m_su σ := rfl
theorem mr_su_bs (σ : SM) (v : Nat → Int32) : m_su (ms_bs σ v) = m_su σ := rfl
theorem mr_su_cs (σ : SM) (v : Nat → Int64) : m_su (ms_cs σ v) = m_su σ := rfl
theorem mr_su_fo (σ : SM) (v : Nat → Int32) : m_su (ms_fo σ v) = m_su σ := rfl
theorem mr_su_ot (σ : SM) (v : Nat → Int32) : m_su (ms_ot σ v) = m_su σ := rfl
theorem mr_su_le (σ : SM) (v : Nat → Int32) : m_su (ms_le σ v) = m_su σ := rfl
theorem mr_su_st (σ : SM) (v : Nat → Int32) : m_su (ms_st σ v) = m_su σ := rfl
theorem mr_su_sz (σ : SM) (v : Int32) : m_su (ms_sz σ v) = m_su σ := rfl
theorem mr_su_qk (σ : SM) (v : Nat → Int32) : m_su (ms_qk σ v) = m_su σ := rfl
theorem mr_su_qv (σ : SM) (v : Nat → Int64) : m_su (ms_qv σ v) = m_su σ := rfl
theorem mr_su_tk (σ : SM) (v : Int32) : m_su (ms_tk σ v) = m_su σ := rfl
theorem mr_su_fe (σ : SM) (v : Int32) : m_su (ms_fe σ v) = m_su σ := rfl
theorem mr_su_kp (σ : SM) (v : Int32) : m_su (ms_kp σ v) = m_su σ := rfl
theorem mr_su_kk (σ : SM) (v : Nat → Int32) : m_su (ms_kk σ v) = m_su σ := rfl
theorem mr_su_kf (σ : SM) (v : Nat → Int32) : m_su (ms_kf σ v) = m_su σ := rfl
theorem mr_su_kv (σ : SM) (v : Nat → Int64) : m_su (ms_kv σ v) = m_su σ := rfl
theorem mr_su_la (σ : SM) (v : Int32) : m_su (ms_la σ v) = m_su σ := rfl
theorem mr_su_tp (σ : SM) (v : Int32) : m_su (ms_tp σ v) = m_su σ := rfl
theorem mr_su_bg (σ : SM) (v : Int32) : m_su (ms_bg σ v) = m_su σ := rfl
theorem mr_su_wh (σ : SM) (v : Nat → Int32) : m_su (ms_wh σ v) = m_su σ := rfl
theorem mr_su_sg (σ : SM) (v : Nat → Int32) : m_su (ms_sg σ v) = m_su σ := rfl
theorem mr_su_va (σ : SM) (v : Nat → Int64) : m_su (ms_va σ v) = m_su σ := rfl
theorem mr_su_fa (σ : SM) (v : Int32) : m_su (ms_fa σ v) = m_su σ := rfl
theorem mw_co (σ : SM) (v : Nat → Int32) : m_co (ms_co σ v) = v := rfl
theorem mr_co_su (σ : SM) (v : Nat → Int64) : m_co (ms_su σ v) = m_co σ := rfl
theorem mr_co_many (σ : SM) (v : Int32) : m_co (ms_many σ v) = m_co σ := rfl
theorem mr_co_so (σ : SM) (v : Nat → Int32) : m_co (ms_so σ v) = m_co σ := rfl
theorem mr_co_ki (σ : SM) (v : Nat → Int32) : m_co (ms_ki σ v) = m_co σ := rfl
theorem mr_co_as (σ : SM) (v : Nat → Int32) : m_co (ms_as σ v) = m_co σ := rfl
theorem mr_co_bs (σ : SM) (v : Nat → Int32) : m_co (ms_bs σ v) = m_co σ := rfl
theorem mr_co_cs (σ : SM) (v : Nat → Int64) : m_co (ms_cs σ v) = m_co σ := rfl
theorem mr_co_fo (σ : SM) (v : Nat → Int32) : m_co (ms_fo σ v) = m_co σ := rfl
theorem mr_co_ot (σ : SM) (v : Nat → Int32) : m_co (ms_ot σ v) = m_co σ := rfl
theorem mr_co_le (σ : SM) (v : Nat → Int32) : m_co (ms_le σ v) = m_co σ := rfl
theorem mr_co_st (σ : SM) (v : Nat → Int32) : m_co (ms_st σ v) = m_co σ := rfl
theorem mr_co_sz (σ : SM) (v : Int32) : m_co (ms_sz σ v) = m_co σ := rfl
theorem mr_co_qk (σ : SM) (v : Nat → Int32) : m_co (ms_qk σ v) = m_co σ := rfl
theorem mr_co_qv (σ : SM) (v : Nat → Int64) : m_co (ms_qv σ v) = m_co σ := rfl
theorem mr_co_tk (σ : SM) (v : Int32) : m_co (ms_tk σ v) = m_co σ := rfl
theorem mr_co_fe (σ : SM) (v : Int32) : m_co (ms_fe σ v) = m_co σ := rfl
theorem mr_co_kp (σ : SM) (v : Int32) : m_co (ms_kp σ v) = m_co σ := rfl
theorem mr_co_kk (σ : SM) (v : Nat → Int32) : m_co (ms_kk σ v) = m_co σ := rfl
theorem mr_co_kf (σ : SM) (v : Nat → Int32) : m_co (ms_kf σ v) = m_co σ := rfl
theorem mr_co_kv (σ : SM) (v : Nat → Int64) : m_co (ms_kv σ v) = m_co σ := rfl
theorem mr_co_la (σ : SM) (v : Int32) : m_co (ms_la σ v) = m_co σ := rfl
theorem mr_co_tp (σ : SM) (v : Int32) : m_co (ms_tp σ v) = m_co σ := rfl
theorem mr_co_bg (σ : SM) (v : Int32) : m_co (ms_bg σ v) = m_co σ := rfl
theorem mr_co_wh (σ : SM) (v : Nat → Int32) : m_co (ms_wh σ v) = m_co σ := rfl
theorem mr_co_sg (σ : SM) (v : Nat → Int32) : m_co (ms_sg σ v) = m_co σ := rfl
theorem mr_co_va (σ : SM) (v : Nat → Int64) : m_co (ms_va σ v) = m_co σ := rfl
theorem mr_co_fa (σ : SM) (v : Int32) : m_co (ms_fa σ v) = m_co σ := rfl
theorem mw_many (σ : SM) (v : Int32) : m_many (ms_many σ v) = v := rfl
theorem mr_many_su (σ : SM) (v : Nat → Int64) : m_many (ms_su σ v) = m_many σ := rfl
theorem mr_many_co (σ : SM) (v : Nat → Int32) : m_many (ms_co σ v) = m_many σ := rfl
theorem mr_many_so (σ : SM) (v : Nat → Int32) : m_many (ms_so σ v) = m_many σ := rfl
theorem mr_many_ki (σ : SM) (v : Nat → Int32) : m_many (ms_ki σ v) = m_many σ := rfl
theorem mr_many_as (σ : SM) (v : Nat → Int32) : m_many (ms_as σ v) = m_many σ := rfl
theorem mr_many_bs (σ : SM) (v : Nat → Int32) : m_many (ms_bs σ v) = m_many σ := rfl
theorem mr_many_cs (σ : SM) (v : Nat → Int64) : m_many (ms_cs σ v) = m_many σ := rfl
theorem mr_many_fo (σ : SM) (v : Nat → Int32) : m_many (ms_fo σ v) = m_many σ := rfl
theorem mr_many_ot (σ : SM) (v : Nat → Int32) : m_many (ms_ot σ v) = m_many σ := rfl
theorem mr_many_le (σ : SM) (v : Nat → Int32) : m_many (ms_le σ v) = m_many σ := rfl
theorem mr_many_st (σ : SM) (v : Nat → Int32) : m_many (ms_st σ v) = m_many σ := rfl
theorem mr_many_sz (σ : SM) (v : Int32) : m_many (ms_sz σ v) = m_many σ := rfl
theorem mr_many_qk (σ : SM) (v : Nat → Int32) : m_many (ms_qk σ v) = m_many σ := rfl
theorem mr_many_qv (σ : SM) (v : Nat → Int64) : m_many (ms_qv σ v) = m_many σ := rfl
theorem mr_many_tk (σ : SM) (v : Int32) : m_many (ms_tk σ v) = m_many σ := rfl
theorem mr_many_fe (σ : SM) (v : Int32) : m_many (ms_fe σ v) = m_many σ := rfl
theorem mr_many_kp (σ : SM) (v : Int32) : m_many (ms_kp σ v) = m_many σ := rfl
theorem mr_many_kk (σ : SM) (v : Nat → Int32) : m_many (ms_kk σ v) = m_many σ := rfl
theorem mr_many_kf (σ : SM) (v : Nat → Int32) : m_many (ms_kf σ v) = m_many σ := rfl
theorem mr_many_kv (σ : SM) (v : Nat → Int64) : m_many (ms_kv σ v) = m_many σ := rfl
theorem mr_many_la (σ : SM) (v : Int32) : m_many (ms_la σ v) = m_many σ := rfl
theorem mr_many_tp (σ : SM) (v : Int32) : m_many (ms_tp σ v) = m_many σ := rfl
theorem mr_many_bg (σ : SM) (v : Int32) : m_many (ms_bg σ v) = m_many σ := rfl
theorem mr_many_wh (σ : SM) (v : Nat → Int32) : m_many (ms_wh σ v) = m_many σ := rfl
theorem mr_many_sg (σ : SM) (v : Nat → Int32) : m_many (ms_sg σ v) = m_many σ := rfl
theorem mr_many_va (σ : SM) (v : Nat → Int64) : m_many (ms_va σ v) = m_many σ := rfl
theorem mr_many_fa (σ : SM) (v : Int32) : m_many (ms_fa σ v) = m_many σ := rfl
theorem mw_so (σ : SM) (v : Nat → Int32) : m_so (ms_so σ v) = v := rfl
theorem mr_so_su (σ : SM) (v : Nat → Int64) : m_so (ms_su σ v) = m_so σ := rfl
theorem mr_so_co (σ : SM) (v : Nat → Int32) : m_so (ms_co σ v) = m_so σ := rfl
theorem mr_so_many (σ : SM) (v : Int32) : m_so (ms_many σ v) = m_so σ := rfl
theorem mr_so_ki (σ : SM) (v : Nat → Int32) : m_so (ms_ki σ v) = m_so σ := rfl
theorem mr_so_as (σ : SM) (v : Nat → Int32) : m_so (ms_as σ v) = m_so σ := rfl
theorem mr_so_bs (σ : SM) (v : Nat → Int32) : m_so (ms_bs σ v) = m_so σ := rfl
theorem mr_so_cs (σ : SM) (v : Nat → Int64) : m_so (ms_cs σ v) = m_so σ := rfl
theorem mr_so_fo (σ : SM) (v : Nat → Int32) : m_so (ms_fo σ v) = m_so σ := rfl
theorem mr_so_ot (σ : SM) (v : Nat → Int32) : m_so (ms_ot σ v) = m_so σ := rfl
theorem mr_so_le (σ : SM) (v : Nat → Int32) : m_so (ms_le σ v) = m_so σ := rfl
theorem mr_so_st (σ : SM) (v : Nat → Int32) : m_so (ms_st σ v) = m_so σ := rfl
theorem mr_so_sz (σ : SM) (v : Int32) : m_so (ms_sz σ v) = m_so σ := rfl
theorem mr_so_qk (σ : SM) (v : Nat → Int32) : m_so (ms_qk σ v) = m_so σ := rfl
theorem mr_so_qv (σ : SM) (v : Nat → Int64) : m_so (ms_qv σ v) = m_so σ := rfl
theorem mr_so_tk (σ : SM) (v : Int32) : m_so (ms_tk σ v) = m_so σ := rfl
theorem mr_so_fe (σ : SM) (v : Int32) : m_so (ms_fe σ v) = m_so σ := rfl
theorem mr_so_kp (σ : SM) (v : Int32) : m_so (ms_kp σ v) = m_so σ := rfl
theorem mr_so_kk (σ : SM) (v : Nat → Int32) : m_so (ms_kk σ v) = m_so σ := rfl
theorem mr_so_kf (σ : SM) (v : Nat → Int32) : m_so (ms_kf σ v) = m_so σ := rfl
theorem mr_so_kv (σ : SM) (v : Nat → Int64) : m_so (ms_kv σ v) = m_so σ := rfl
theorem mr_so_la (σ : SM) (v : Int32) : m_so (ms_la σ v) = m_so σ := rfl
theorem mr_so_tp (σ : SM) (v : Int32) : m_so (ms_tp σ v) = m_so σ := rfl
theorem mr_so_bg (σ : SM) (v : Int32) : m_so (ms_bg σ v) = m_so σ := rfl
theorem mr_so_wh (σ : SM) (v : Nat → Int32) : m_so (ms_wh σ v) = m_so σ := rfl
theorem mr_so_sg (σ : SM) (v : Nat → Int32) : m_so (ms_sg σ v) = m_so σ := rfl
theorem mr_so_va (σ : SM) (v : Nat → Int64) : m_so (ms_va σ v) = m_so σ := rfl
theorem mr_so_fa (σ : SM) (v : Int32) : m_so (ms_fa σ v) = m_so σ := rfl
theorem mw_ki (σ : SM) (v : Nat → Int32) : m_ki (ms_ki σ v) = v := rfl
theorem mr_ki_su (σ : SM) (v : Nat → Int64) : m_ki (ms_su σ v) = m_ki σ := rfl
theorem mr_ki_co (σ : SM) (v : Nat → Int32) : m_ki (ms_co σ v) = m_ki σ := rfl
theorem mr_ki_many (σ : SM) (v : Int32) : m_ki (ms_many σ v) = m_ki σ := rfl
theorem mr_ki_so (σ : SM) (v : Nat → Int32) : m_ki (ms_so σ v) = m_ki σ := rfl
theorem mr_ki_as (σ : SM) (v : Nat → Int32) : m_ki (ms_as σ v) = m_ki σ := rfl
theorem mr_ki_bs (σ : SM) (v : Nat → Int32) : m_ki (ms_bs σ v) = m_ki σ := rfl
theorem mr_ki_cs (σ : SM) (v : Nat → Int64) : m_ki (ms_cs σ v) = m_ki σ := rfl
theorem mr_ki_fo (σ : SM) (v : Nat → Int32) : m_ki (ms_fo σ v) = m_ki σ := rfl
theorem mr_ki_ot (σ : SM) (v : Nat → Int32) : m_ki (ms_ot σ v) = m_ki σ := rfl
theorem mr_ki_le (σ : SM) (v : Nat → Int32) : m_ki (ms_le σ v) = m_ki σ := rfl
theorem mr_ki_st (σ : SM) (v : Nat → Int32) : m_ki (ms_st σ v) = m_ki σ := rfl
theorem mr_ki_sz (σ : SM) (v : Int32) : m_ki (ms_sz σ v) = m_ki σ := rfl
theorem mr_ki_qk (σ : SM) (v : Nat → Int32) : m_ki (ms_qk σ v) = m_ki σ := rfl
theorem mr_ki_qv (σ : SM) (v : Nat → Int64) : m_ki (ms_qv σ v) = m_ki σ := rfl
theorem mr_ki_tk (σ : SM) (v : Int32) : m_ki (ms_tk σ v) = m_ki σ := rfl
theorem mr_ki_fe (σ : SM) (v : Int32) : m_ki (ms_fe σ v) = m_ki σ := rfl
theorem mr_ki_kp (σ : SM) (v : Int32) : m_ki (ms_kp σ v) = m_ki σ := rfl
theorem mr_ki_kk (σ : SM) (v : Nat → Int32) : m_ki (ms_kk σ v) = m_ki σ := rfl
theorem mr_ki_kf (σ : SM) (v : Nat → Int32) : m_ki (ms_kf σ v) = m_ki σ := rfl
theorem mr_ki_kv (σ : SM) (v : Nat → Int64) : m_ki (ms_kv σ v) = m_ki σ := rfl
theorem mr_ki_la (σ : SM) (v : Int32) : m_ki (ms_la σ v) = m_ki σ := rfl
theorem mr_ki_tp (σ : SM) (v : Int32) : m_ki (ms_tp σ v) = m_ki σ := rfl
theorem mr_ki_bg (σ : SM) (v : Int32) : m_ki (ms_bg σ v) = m_ki σ := rfl
theorem mr_ki_wh (σ : SM) (v : Nat → Int32) : m_ki (ms_wh σ v) = m_ki σ := rfl
theorem mr_ki_sg (σ : SM) (v : Nat → Int32) : m_ki (ms_sg σ v) = m_ki σ := rfl
theorem mr_ki_va (σ : SM) (v : Nat → Int64) : m_ki (ms_va σ v) = m_ki σ := rfl
theorem mr_ki_fa (σ : SM) (v : Int32) : m_ki (ms_fa σ v) = m_ki σ := rfl
theorem mw_as (σ : SM) (v : Nat → Int32) : m_as (ms_as σ v) = v := rfl
theorem mr_as_su (σ : SM) (v : Nat → Int64) : m_as (ms_su σ v) = m_as σ := rfl
theorem mr_as_co (σ : SM) (v : Nat → Int32) : m_as (ms_co σ v) = m_as σ := rfl
theorem mr_as_many (σ : SM) (v : Int32) : m_as (ms_many σ v) = m_as σ := rfl
theorem mr_as_so (σ : SM) (v : Nat → Int32) : m_as (ms_so σ v) = m_as σ := rfl
theorem mr_as_ki (σ : SM) (v : Nat → Int32) : m_as (ms_ki σ v) = m_as σ := rfl
theorem mr_as_bs (σ : SM) (v : Nat → Int32) : m_as (ms_bs σ v) = m_as σ := rfl
theorem mr_as_cs (σ : SM) (v : Nat → Int64) : m_as (ms_cs σ v) = m_as σ := rfl
theorem mr_as_fo (σ : SM) (v : Nat → Int32) : m_as (ms_fo σ v) = m_as σ := rfl
theorem mr_as_ot (σ : SM) (v : Nat → Int32) : m_as (ms_ot σ v) = m_as σ := rfl
theorem mr_as_le (σ : SM) (v : Nat → Int32) : m_as (ms_le σ v) = m_as σ := rfl
theorem mr_as_st (σ : SM) (v : Nat → Int32) : m_as (ms_st σ v) = m_as σ := rfl
theorem mr_as_sz (σ : SM) (v : Int32) : m_as (ms_sz σ v) = m_as σ := rfl
theorem mr_as_qk (σ : SM) (v : Nat → Int32) : m_as (ms_qk σ v) = m_as σ := rfl
theorem mr_as_qv (σ : SM) (v : Nat → Int64) : m_as (ms_qv σ v) = m_as σ := rfl
theorem mr_as_tk (σ : SM) (v : Int32) : m_as (ms_tk σ v) = m_as σ := rfl
theorem mr_as_fe (σ : SM) (v : Int32) : m_as (ms_fe σ v) = m_as σ := rfl
theorem mr_as_kp (σ : SM) (v : Int32) : m_as (ms_kp σ v) = m_as σ := rfl
theorem mr_as_kk (σ : SM) (v : Nat → Int32) : m_as (ms_kk σ v) = m_as σ := rfl
theorem mr_as_kf (σ : SM) (v : Nat → Int32) : m_as (ms_kf σ v) = m_as σ := rfl
theorem mr_as_kv (σ : SM) (v : Nat → Int64) : m_as (ms_kv σ v) = m_as σ := rfl
theorem mr_as_la (σ : SM) (v : Int32) : m_as (ms_la σ v) = m_as σ := rfl
theorem mr_as_tp (σ : SM) (v : Int32) : m_as (ms_tp σ v) = m_as σ := rfl
theorem mr_as_bg (σ : SM) (v : Int32) : m_as (ms_bg σ v) = m_as σ := rfl
theorem mr_as_wh (σ : SM) (v : Nat → Int32) : m_as (ms_wh σ v) = m_as σ := rfl
theorem mr_as_sg (σ : SM) (v : Nat → Int32) : m_as (ms_sg σ v) = m_as σ := rfl
theorem mr_as_va (σ : SM) (v : Nat → Int64) : m_as (ms_va σ v) = m_as σ := rfl
theorem mr_as_fa (σ : SM) (v : Int32) : m_as (ms_fa σ v) = m_as σ := rfl
theorem mw_bs (σ : SM) (v : Nat → Int32) : m_bs (ms_bs σ v) = v := rfl
theorem mr_bs_su (σ : SM) (v : Nat → Int64) : m_bs (ms_su σ v) = m_bs σ := rfl
theorem mr_bs_co (σ : SM) (v : Nat → Int32) : m_bs (ms_co σ v) = m_bs σ := rfl
theorem mr_bs_many (σ : SM) (v : Int32) : m_bs (ms_many σ v) = m_bs σ := rfl
theorem mr_bs_so (σ : SM) (v : Nat → Int32) : m_bs (ms_so σ v) = m_bs σ := rfl
theorem mr_bs_ki (σ : SM) (v : Nat → Int32) : m_bs (ms_ki σ v) = m_bs σ := rfl
theorem mr_bs_as (σ : SM) (v : Nat → Int32) : m_bs (ms_as σ v) = m_bs σ := rfl
theorem mr_bs_cs (σ : SM) (v : Nat → Int64) : m_bs (ms_cs σ v) = m_bs σ := rfl
theorem mr_bs_fo (σ : SM) (v : Nat → Int32) : m_bs (ms_fo σ v) = m_bs σ := rfl
theorem mr_bs_ot (σ : SM) (v : Nat → Int32) : m_bs (ms_ot σ v) = m_bs σ := rfl
theorem mr_bs_le (σ : SM) (v : Nat → Int32) : m_bs (ms_le σ v) = m_bs σ := rfl
theorem mr_bs_st (σ : SM) (v : Nat → Int32) : m_bs (ms_st σ v) = m_bs σ := rfl
theorem mr_bs_sz (σ : SM) (v : Int32) : m_bs (ms_sz σ v) = m_bs σ := rfl
theorem mr_bs_qk (σ : SM) (v : Nat → Int32) : m_bs (ms_qk σ v) = m_bs σ := rfl
theorem mr_bs_qv (σ : SM) (v : Nat → Int64) : m_bs (ms_qv σ v) = m_bs σ := rfl
theorem mr_bs_tk (σ : SM) (v : Int32) : m_bs (ms_tk σ v) = m_bs σ := rfl
theorem mr_bs_fe (σ : SM) (v : Int32) : m_bs (ms_fe σ v) = m_bs σ := rfl
theorem mr_bs_kp (σ : SM) (v : Int32) : m_bs (ms_kp σ v) = m_bs σ := rfl
theorem mr_bs_kk (σ : SM) (v : Nat → Int32) : m_bs (ms_kk σ v) = m_bs σ := rfl
theorem mr_bs_kf (σ : SM) (v : Nat → Int32) : m_bs (ms_kf σ v) = m_bs σ := rfl
theorem mr_bs_kv (σ : SM) (v : Nat → Int64) : m_bs (ms_kv σ v) = m_bs σ := rfl
theorem mr_bs_la (σ : SM) (v : Int32) : m_bs (ms_la σ v) = m_bs σ := rfl
theorem mr_bs_tp (σ : SM) (v : Int32) : m_bs (ms_tp σ v) = m_bs σ := rfl
theorem mr_bs_bg (σ : SM) (v : Int32) : m_bs (ms_bg σ v) = m_bs σ := rfl
theorem mr_bs_wh (σ : SM) (v : Nat → Int32) : m_bs (ms_wh σ v) = m_bs σ := rfl
theorem mr_bs_sg (σ : SM) (v : Nat → Int32) : m_bs (ms_sg σ v) = m_bs σ := rfl
theorem mr_bs_va (σ : SM) (v : Nat → Int64) : m_bs (ms_va σ v) = m_bs σ := rfl
theorem mr_bs_fa (σ : SM) (v : Int32) : m_bs (ms_fa σ v) = m_bs σ := rfl
theorem mw_cs (σ : SM) (v : Nat → Int64) : m_cs (ms_cs σ v) = v := rfl
theorem mr_cs_su (σ : SM) (v : Nat → Int64) : m_cs (ms_su σ v) = m_cs σ := rfl
theorem mr_cs_co (σ : SM) (v : Nat → Int32) : m_cs (ms_co σ v) = m_cs σ := rfl
theorem mr_cs_many (σ : SM) (v : Int32) : m_cs (ms_many σ v) = m_cs σ := rfl
theorem mr_cs_so (σ : SM) (v : Nat → Int32) : m_cs (ms_so σ v) = m_cs σ := rfl
theorem mr_cs_ki (σ : SM) (v : Nat → Int32) : m_cs (ms_ki σ v) = m_cs σ := rfl
theorem mr_cs_as (σ : SM) (v : Nat → Int32) : m_cs (ms_as σ v) = m_cs σ := rfl
theorem mr_cs_bs (σ : SM) (v : Nat → Int32) : m_cs (ms_bs σ v) = m_cs σ := rfl
theorem mr_cs_fo (σ : SM) (v : Nat → Int32) : m_cs (ms_fo σ v) = m_cs σ := rfl
theorem mr_cs_ot (σ : SM) (v : Nat → Int32) : m_cs (ms_ot σ v) = m_cs σ := rfl
theorem mr_cs_le (σ : SM) (v : Nat → Int32) : m_cs (ms_le σ v) = m_cs σ := rfl
theorem mr_cs_st (σ : SM) (v : Nat → Int32) : m_cs (ms_st σ v) = m_cs σ := rfl
theorem mr_cs_sz (σ : SM) (v : Int32) : m_cs (ms_sz σ v) = m_cs σ := rfl
theorem mr_cs_qk (σ : SM) (v : Nat → Int32) : m_cs (ms_qk σ v) = m_cs σ := rfl
theorem mr_cs_qv (σ : SM) (v : Nat → Int64) : m_cs (ms_qv σ v) = m_cs σ := rfl
theorem mr_cs_tk (σ : SM) (v : Int32) : m_cs (ms_tk σ v) = m_cs σ := rfl
theorem mr_cs_fe (σ : SM) (v : Int32) : m_cs (ms_fe σ v) = m_cs σ := rfl
theorem mr_cs_kp (σ : SM) (v : Int32) : m_cs (ms_kp σ v) = m_cs σ := rfl
theorem mr_cs_kk (σ : SM) (v : Nat → Int32) : m_cs (ms_kk σ v) = m_cs σ := rfl
theorem mr_cs_kf (σ : SM) (v : Nat → Int32) : m_cs (ms_kf σ v) = m_cs σ := rfl
theorem mr_cs_kv (σ : SM) (v : Nat → Int64) : m_cs (ms_kv σ v) = m_cs σ := rfl
theorem mr_cs_la (σ : SM) (v : Int32) : m_cs (ms_la σ v) = m_cs σ := rfl
theorem mr_cs_tp (σ : SM) (v : Int32) : m_cs (ms_tp σ v) = m_cs σ := rfl
theorem mr_cs_bg (σ : SM) (v : Int32) : m_cs (ms_bg σ v) = m_cs σ := rfl
theorem mr_cs_wh (σ : SM) (v : Nat → Int32) : m_cs (ms_wh σ v) = m_cs σ := rfl
theorem mr_cs_sg (σ : SM) (v : Nat → Int32) : m_cs (ms_sg σ v) = m_cs σ := rfl
theorem mr_cs_va (σ : SM) (v : Nat → Int64) : m_cs (ms_va σ v) = m_cs σ := rfl
theorem mr_cs_fa (σ : SM) (v : Int32) : m_cs (ms_fa σ v) = m_cs σ := rfl
theorem mw_fo (σ : SM) (v : Nat → Int32) : m_fo (ms_fo σ v) = v := rfl
theorem mr_fo_su (σ : SM) (v : Nat → Int64) : m_fo (ms_su σ v) = m_fo σ := rfl
theorem mr_fo_co (σ : SM) (v : Nat → Int32) : m_fo (ms_co σ v) = m_fo σ := rfl
theorem mr_fo_many (σ : SM) (v : Int32) : m_fo (ms_many σ v) = m_fo σ := rfl
theorem mr_fo_so (σ : SM) (v : Nat → Int32) : m_fo (ms_so σ v) = m_fo σ := rfl
theorem mr_fo_ki (σ : SM) (v : Nat → Int32) : m_fo (ms_ki σ v) = m_fo σ := rfl
theorem mr_fo_as (σ : SM) (v : Nat → Int32) : m_fo (ms_as σ v) = m_fo σ := rfl
theorem mr_fo_bs (σ : SM) (v : Nat → Int32) : m_fo (ms_bs σ v) = m_fo σ := rfl
theorem mr_fo_cs (σ : SM) (v : Nat → Int64) : m_fo (ms_cs σ v) = m_fo σ := rfl
theorem mr_fo_ot (σ : SM) (v : Nat → Int32) : m_fo (ms_ot σ v) = m_fo σ := rfl
theorem mr_fo_le (σ : SM) (v : Nat → Int32) : m_fo (ms_le σ v) = m_fo σ := rfl
theorem mr_fo_st (σ : SM) (v : Nat → Int32) : m_fo (ms_st σ v) = m_fo σ := rfl
theorem mr_fo_sz (σ : SM) (v : Int32) : m_fo (ms_sz σ v) = m_fo σ := rfl
theorem mr_fo_qk (σ : SM) (v : Nat → Int32) : m_fo (ms_qk σ v) = m_fo σ := rfl
theorem mr_fo_qv (σ : SM) (v : Nat → Int64) : m_fo (ms_qv σ v) = m_fo σ := rfl
theorem mr_fo_tk (σ : SM) (v : Int32) : m_fo (ms_tk σ v) = m_fo σ := rfl
theorem mr_fo_fe (σ : SM) (v : Int32) : m_fo (ms_fe σ v) = m_fo σ := rfl
theorem mr_fo_kp (σ : SM) (v : Int32) : m_fo (ms_kp σ v) = m_fo σ := rfl
theorem mr_fo_kk (σ : SM) (v : Nat → Int32) : m_fo (ms_kk σ v) = m_fo σ := rfl
theorem mr_fo_kf (σ : SM) (v : Nat → Int32) : m_fo (ms_kf σ v) = m_fo σ := rfl
theorem mr_fo_kv (σ : SM) (v : Nat → Int64) : m_fo (ms_kv σ v) = m_fo σ := rfl
theorem mr_fo_la (σ : SM) (v : Int32) : m_fo (ms_la σ v) = m_fo σ := rfl
theorem mr_fo_tp (σ : SM) (v : Int32) : m_fo (ms_tp σ v) = m_fo σ := rfl
theorem mr_fo_bg (σ : SM) (v : Int32) : m_fo (ms_bg σ v) = m_fo σ := rfl
theorem mr_fo_wh (σ : SM) (v : Nat → Int32) : m_fo (ms_wh σ v) = m_fo σ := rfl
theorem mr_fo_sg (σ : SM) (v : Nat → Int32) : m_fo (ms_sg σ v) = m_fo σ := rfl
theorem mr_fo_va (σ : SM) (v : Nat → Int64) : m_fo (ms_va σ v) = m_fo σ := rfl
theorem mr_fo_fa (σ : SM) (v : Int32) : m_fo (ms_fa σ v) = m_fo σ := rfl
theorem mw_ot (σ : SM) (v : Nat → Int32) : m_ot (ms_ot σ v) = v := rfl
theorem mr_ot_su (σ : SM) (v : Nat → Int64) : m_ot (ms_su σ v) = m_ot σ := rfl
theorem mr_ot_co (σ : SM) (v : Nat → Int32) : m_ot (ms_co σ v) = m_ot σ := rfl
theorem mr_ot_many (σ : SM) (v : Int32) : m_ot (ms_many σ v) = m_ot σ := rfl
theorem mr_ot_so (σ : SM) (v : Nat → Int32) : m_ot (ms_so σ v) = m_ot σ := rfl
theorem mr_ot_ki (σ : SM) (v : Nat → Int32) : m_ot (ms_ki σ v) = m_ot σ := rfl
theorem mr_ot_as (σ : SM) (v : Nat → Int32) : m_ot (ms_as σ v) = m_ot σ := rfl
theorem mr_ot_bs (σ : SM) (v : Nat → Int32) : m_ot (ms_bs σ v) = m_ot σ := rfl
theorem mr_ot_cs (σ : SM) (v : Nat → Int64) : m_ot (ms_cs σ v) = m_ot σ := rfl
theorem mr_ot_fo (σ : SM) (v : Nat → Int32) : m_ot (ms_fo σ v) = m_ot σ := rfl
theorem mr_ot_le (σ : SM) (v : Nat → Int32) : m_ot (ms_le σ v) = m_ot σ := rfl
theorem mr_ot_st (σ : SM) (v : Nat → Int32) : m_ot (ms_st σ v) = m_ot σ := rfl
theorem mr_ot_sz (σ : SM) (v : Int32) : m_ot (ms_sz σ v) = m_ot σ := rfl
theorem mr_ot_qk (σ : SM) (v : Nat → Int32) : m_ot (ms_qk σ v) = m_ot σ := rfl
theorem mr_ot_qv (σ : SM) (v : Nat → Int64) : m_ot (ms_qv σ v) = m_ot σ := rfl
theorem mr_ot_tk (σ : SM) (v : Int32) : m_ot (ms_tk σ v) = m_ot σ := rfl
theorem mr_ot_fe (σ : SM) (v : Int32) : m_ot (ms_fe σ v) = m_ot σ := rfl
theorem mr_ot_kp (σ : SM) (v : Int32) : m_ot (ms_kp σ v) = m_ot σ := rfl
theorem mr_ot_kk (σ : SM) (v : Nat → Int32) : m_ot (ms_kk σ v) = m_ot σ := rfl
theorem mr_ot_kf (σ : SM) (v : Nat → Int32) : m_ot (ms_kf σ v) = m_ot σ := rfl
theorem mr_ot_kv (σ : SM) (v : Nat → Int64) : m_ot (ms_kv σ v) = m_ot σ := rfl
theorem mr_ot_la (σ : SM) (v : Int32) : m_ot (ms_la σ v) = m_ot σ := rfl
theorem mr_ot_tp (σ : SM) (v : Int32) : m_ot (ms_tp σ v) = m_ot σ := rfl
theorem mr_ot_bg (σ : SM) (v : Int32) : m_ot (ms_bg σ v) = m_ot σ := rfl
theorem mr_ot_wh (σ : SM) (v : Nat → Int32) : m_ot (ms_wh σ v) = m_ot σ := rfl
theorem mr_ot_sg (σ : SM) (v : Nat → Int32) : m_ot (ms_sg σ v) = m_ot σ := rfl
theorem mr_ot_va (σ : SM) (v : Nat → Int64) : m_ot (ms_va σ v) = m_ot σ := rfl
theorem mr_ot_fa (σ : SM) (v : Int32) : m_ot (ms_fa σ v) = m_ot σ := rfl
theorem mw_le (σ : SM) (v : Nat → Int32) : m_le (ms_le σ v) = v := rfl
theorem mr_le_su (σ : SM) (v : Nat → Int64) : m_le (ms_su σ v) = m_le σ := rfl
theorem mr_le_co (σ : SM) (v : Nat → Int32) : m_le (ms_co σ v) = m_le σ := rfl
theorem mr_le_many (σ : SM) (v : Int32) : m_le (ms_many σ v) = m_le σ := rfl
theorem mr_le_so (σ : SM) (v : Nat → Int32) : m_le (ms_so σ v) = m_le σ := rfl
theorem mr_le_ki (σ : SM) (v : Nat → Int32) : m_le (ms_ki σ v) = m_le σ := rfl
theorem mr_le_as (σ : SM) (v : Nat → Int32) : m_le (ms_as σ v) = m_le σ := rfl
theorem mr_le_bs (σ : SM) (v : Nat → Int32) : m_le (ms_bs σ v) = m_le σ := rfl
theorem mr_le_cs (σ : SM) (v : Nat → Int64) : m_le (ms_cs σ v) = m_le σ := rfl
theorem mr_le_fo (σ : SM) (v : Nat → Int32) : m_le (ms_fo σ v) = m_le σ := rfl
theorem mr_le_ot (σ : SM) (v : Nat → Int32) : m_le (ms_ot σ v) = m_le σ := rfl
theorem mr_le_st (σ : SM) (v : Nat → Int32) : m_le (ms_st σ v) = m_le σ := rfl
theorem mr_le_sz (σ : SM) (v : Int32) : m_le (ms_sz σ v) = m_le σ := rfl
theorem mr_le_qk (σ : SM) (v : Nat → Int32) : m_le (ms_qk σ v) = m_le σ := rfl
theorem mr_le_qv (σ : SM) (v : Nat → Int64) : m_le (ms_qv σ v) = m_le σ := rfl
theorem mr_le_tk (σ : SM) (v : Int32) : m_le (ms_tk σ v) = m_le σ := rfl
theorem mr_le_fe (σ : SM) (v : Int32) : m_le (ms_fe σ v) = m_le σ := rfl
theorem mr_le_kp (σ : SM) (v : Int32) : m_le (ms_kp σ v) = m_le σ := rfl
theorem mr_le_kk (σ : SM) (v : Nat → Int32) : m_le (ms_kk σ v) = m_le σ := rfl
theorem mr_le_kf (σ : SM) (v : Nat → Int32) : m_le (ms_kf σ v) = m_le σ := rfl
theorem mr_le_kv (σ : SM) (v : Nat → Int64) : m_le (ms_kv σ v) = m_le σ := rfl
theorem mr_le_la (σ : SM) (v : Int32) : m_le (ms_la σ v) = m_le σ := rfl
theorem mr_le_tp (σ : SM) (v : Int32) : m_le (ms_tp σ v) = m_le σ := rfl
theorem mr_le_bg (σ : SM) (v : Int32) : m_le (ms_bg σ v) = m_le σ := rfl
theorem mr_le_wh (σ : SM) (v : Nat → Int32) : m_le (ms_wh σ v) = m_le σ := rfl
theorem mr_le_sg (σ : SM) (v : Nat → Int32) : m_le (ms_sg σ v) = m_le σ := rfl
theorem mr_le_va (σ : SM) (v : Nat → Int64) : m_le (ms_va σ v) = m_le σ := rfl
theorem mr_le_fa (σ : SM) (v : Int32) : m_le (ms_fa σ v) = m_le σ := rfl
theorem mw_st (σ : SM) (v : Nat → Int32) : m_st (ms_st σ v) = v := rfl
theorem mr_st_su (σ : SM) (v : Nat → Int64) : m_st (ms_su σ v) = m_st σ := rfl
theorem mr_st_co (σ : SM) (v : Nat → Int32) : m_st (ms_co σ v) = m_st σ := rfl
theorem mr_st_many (σ : SM) (v : Int32) : m_st (ms_many σ v) = m_st σ := rfl
theorem mr_st_so (σ : SM) (v : Nat → Int32) : m_st (ms_so σ v) = m_st σ := rfl
theorem mr_st_ki (σ : SM) (v : Nat → Int32) : m_st (ms_ki σ v) = m_st σ := rfl
theorem mr_st_as (σ : SM) (v : Nat → Int32) : m_st (ms_as σ v) = m_st σ := rfl
theorem mr_st_bs (σ : SM) (v : Nat → Int32) : m_st (ms_bs σ v) = m_st σ := rfl
theorem mr_st_cs (σ : SM) (v : Nat → Int64) : m_st (ms_cs σ v) = m_st σ := rfl
theorem mr_st_fo (σ : SM) (v : Nat → Int32) : m_st (ms_fo σ v) = m_st σ := rfl
theorem mr_st_ot (σ : SM) (v : Nat → Int32) : m_st (ms_ot σ v) = m_st σ := rfl
theorem mr_st_le (σ : SM) (v : Nat → Int32) : m_st (ms_le σ v) = m_st σ := rfl
theorem mr_st_sz (σ : SM) (v : Int32) : m_st (ms_sz σ v) = m_st σ := rfl
theorem mr_st_qk (σ : SM) (v : Nat → Int32) : m_st (ms_qk σ v) = m_st σ := rfl
theorem mr_st_qv (σ : SM) (v : Nat → Int64) : m_st (ms_qv σ v) = m_st σ := rfl
theorem mr_st_tk (σ : SM) (v : Int32) : m_st (ms_tk σ v) = m_st σ := rfl
theorem mr_st_fe (σ : SM) (v : Int32) : m_st (ms_fe σ v) = m_st σ := rfl
theorem mr_st_kp (σ : SM) (v : Int32) : m_st (ms_kp σ v) = m_st σ := rfl
theorem mr_st_kk (σ : SM) (v : Nat → Int32) : m_st (ms_kk σ v) = m_st σ := rfl
theorem mr_st_kf (σ : SM) (v : Nat → Int32) : m_st (ms_kf σ v) = m_st σ := rfl
theorem mr_st_kv (σ : SM) (v : Nat → Int64) : m_st (ms_kv σ v) = m_st σ := rfl
theorem mr_st_la (σ : SM) (v : Int32) : m_st (ms_la σ v) = m_st σ := rfl
theorem mr_st_tp (σ : SM) (v : Int32) : m_st (ms_tp σ v) = m_st σ := rfl
theorem mr_st_bg (σ : SM) (v : Int32) : m_st (ms_bg σ v) = m_st σ := rfl
theorem mr_st_wh (σ : SM) (v : Nat → Int32) : m_st (ms_wh σ v) = m_st σ := rfl
theorem mr_st_sg (σ : SM) (v : Nat → Int32) : m_st (ms_sg σ v) = m_st σ := rfl
theorem mr_st_va (σ : SM) (v : Nat → Int64) : m_st (ms_va σ v) = m_st σ := rfl
theorem mr_st_fa (σ : SM) (v : Int32) : m_st (ms_fa σ v) = m_st σ := rfl
theorem mw_sz (σ : SM) (v : Int32) : m_sz (ms_sz σ v) = v := rfl
theorem mr_sz_su (σ : SM) (v : Nat → Int64) : m_sz (ms_su σ v) = m_sz σ := rfl
theorem mr_sz_co (σ : SM) (v : Nat → Int32) : m_sz (ms_co σ v) = m_sz σ := rfl
theorem mr_sz_many (σ : SM) (v : Int32) : m_sz (ms_many σ v) = m_sz σ := rfl
theorem mr_sz_so (σ : SM) (v : Nat → Int32) : m_sz (ms_so σ v) = m_sz σ := rfl
theorem mr_sz_ki (σ : SM) (v : Nat → Int32) : m_sz (ms_ki σ v) = m_sz σ := rfl
theorem mr_sz_as (σ : SM) (v : Nat → Int32) : m_sz (ms_as σ v) = m_sz σ := rfl
theorem mr_sz_bs (σ : SM) (v : Nat → Int32) : m_sz (ms_bs σ v) = m_sz σ := rfl
theorem mr_sz_cs (σ : SM) (v : Nat → Int64) : m_sz (ms_cs σ v) = m_sz σ := rfl
theorem mr_sz_fo (σ : SM) (v : Nat → Int32) : m_sz (ms_fo σ v) = m_sz σ := rfl
theorem mr_sz_ot (σ : SM) (v : Nat → Int32) : m_sz (ms_ot σ v) = m_sz σ := rfl
theorem mr_sz_le (σ : SM) (v : Nat → Int32) : m_sz (ms_le σ v) = m_sz σ := rfl
theorem mr_sz_st (σ : SM) (v : Nat → Int32) : m_sz (ms_st σ v) = m_sz σ := rfl
theorem mr_sz_qk (σ : SM) (v : Nat → Int32) : m_sz (ms_qk σ v) = m_sz σ := rfl
theorem mr_sz_qv (σ : SM) (v : Nat → Int64) : m_sz (ms_qv σ v) = m_sz σ := rfl
theorem mr_sz_tk (σ : SM) (v : Int32) : m_sz (ms_tk σ v) = m_sz σ := rfl
theorem mr_sz_fe (σ : SM) (v : Int32) : m_sz (ms_fe σ v) = m_sz σ := rfl
theorem mr_sz_kp (σ : SM) (v : Int32) : m_sz (ms_kp σ v) = m_sz σ := rfl
theorem mr_sz_kk (σ : SM) (v : Nat → Int32) : m_sz (ms_kk σ v) = m_sz σ := rfl
theorem mr_sz_kf (σ : SM) (v : Nat → Int32) : m_sz (ms_kf σ v) = m_sz σ := rfl
theorem mr_sz_kv (σ : SM) (v : Nat → Int64) : m_sz (ms_kv σ v) = m_sz σ := rfl
theorem mr_sz_la (σ : SM) (v : Int32) : m_sz (ms_la σ v) = m_sz σ := rfl
theorem mr_sz_tp (σ : SM) (v : Int32) : m_sz (ms_tp σ v) = m_sz σ := rfl
theorem mr_sz_bg (σ : SM) (v : Int32) : m_sz (ms_bg σ v) = m_sz σ := rfl
theorem mr_sz_wh (σ : SM) (v : Nat → Int32) : m_sz (ms_wh σ v) = m_sz σ := rfl
theorem mr_sz_sg (σ : SM) (v : Nat → Int32) : m_sz (ms_sg σ v) = m_sz σ := rfl
theorem mr_sz_va (σ : SM) (v : Nat → Int64) : m_sz (ms_va σ v) = m_sz σ := rfl
theorem mr_sz_fa (σ : SM) (v : Int32) : m_sz (ms_fa σ v) = m_sz σ := rfl
theorem mw_qk (σ : SM) (v : Nat → Int32) : m_qk (ms_qk σ v) = v := rfl
theorem mr_qk_su (σ : SM) (v : Nat → Int64) : m_qk (ms_su σ v) = m_qk σ := rfl
theorem mr_qk_co (σ : SM) (v : Nat → Int32) : m_qk (ms_co σ v) = m_qk σ := rfl
theorem mr_qk_many (σ : SM) (v : Int32) : m_qk (ms_many σ v) = m_qk σ := rfl
theorem mr_qk_so (σ : SM) (v : Nat → Int32) : m_qk (ms_so σ v) = m_qk σ := rfl
theorem mr_qk_ki (σ : SM) (v : Nat → Int32) : m_qk (ms_ki σ v) = m_qk σ := rfl
theorem mr_qk_as (σ : SM) (v : Nat → Int32) : m_qk (ms_as σ v) = m_qk σ := rfl
theorem mr_qk_bs (σ : SM) (v : Nat → Int32) : m_qk (ms_bs σ v) = m_qk σ := rfl
theorem mr_qk_cs (σ : SM) (v : Nat → Int64) : m_qk (ms_cs σ v) = m_qk σ := rfl
theorem mr_qk_fo (σ : SM) (v : Nat → Int32) : m_qk (ms_fo σ v) = m_qk σ := rfl
theorem mr_qk_ot (σ : SM) (v : Nat → Int32) : m_qk (ms_ot σ v) = m_qk σ := rfl
theorem mr_qk_le (σ : SM) (v : Nat → Int32) : m_qk (ms_le σ v) = m_qk σ := rfl
theorem mr_qk_st (σ : SM) (v : Nat → Int32) : m_qk (ms_st σ v) = m_qk σ := rfl
theorem mr_qk_sz (σ : SM) (v : Int32) : m_qk (ms_sz σ v) = m_qk σ := rfl
theorem mr_qk_qv (σ : SM) (v : Nat → Int64) : m_qk (ms_qv σ v) = m_qk σ := rfl
theorem mr_qk_tk (σ : SM) (v : Int32) : m_qk (ms_tk σ v) = m_qk σ := rfl
theorem mr_qk_fe (σ : SM) (v : Int32) : m_qk (ms_fe σ v) = m_qk σ := rfl
theorem mr_qk_kp (σ : SM) (v : Int32) : m_qk (ms_kp σ v) = m_qk σ := rfl
theorem mr_qk_kk (σ : SM) (v : Nat → Int32) : m_qk (ms_kk σ v) = m_qk σ := rfl
theorem mr_qk_kf (σ : SM) (v : Nat → Int32) : m_qk (ms_kf σ v) = m_qk σ := rfl
theorem mr_qk_kv (σ : SM) (v : Nat → Int64) : m_qk (ms_kv σ v) = m_qk σ := rfl
theorem mr_qk_la (σ : SM) (v : Int32) : m_qk (ms_la σ v) = m_qk σ := rfl
theorem mr_qk_tp (σ : SM) (v : Int32) : m_qk (ms_tp σ v) = m_qk σ := rfl
theorem mr_qk_bg (σ : SM) (v : Int32) : m_qk (ms_bg σ v) = m_qk σ := rfl
theorem mr_qk_wh (σ : SM) (v : Nat → Int32) : m_qk (ms_wh σ v) = m_qk σ := rfl
theorem mr_qk_sg (σ : SM) (v : Nat → Int32) : m_qk (ms_sg σ v) = m_qk σ := rfl
theorem mr_qk_va (σ : SM) (v : Nat → Int64) : m_qk (ms_va σ v) = m_qk σ := rfl
theorem mr_qk_fa (σ : SM) (v : Int32) : m_qk (ms_fa σ v) = m_qk σ := rfl
theorem mw_qv (σ : SM) (v : Nat → Int64) : m_qv (ms_qv σ v) = v := rfl
theorem mr_qv_su (σ : SM) (v : Nat → Int64) : m_qv (ms_su σ v) = m_qv σ := rfl
theorem mr_qv_co (σ : SM) (v : Nat → Int32) : m_qv (ms_co σ v) = m_qv σ := rfl
theorem mr_qv_many (σ : SM) (v : Int32) : m_qv (ms_many σ v) = m_qv σ := rfl
theorem mr_qv_so (σ : SM) (v : Nat → Int32) : m_qv (ms_so σ v) = m_qv σ := rfl
theorem mr_qv_ki (σ : SM) (v : Nat → Int32) : m_qv (ms_ki σ v) = m_qv σ := rfl
theorem mr_qv_as (σ : SM) (v : Nat → Int32) : m_qv (ms_as σ v) = m_qv σ := rfl
theorem mr_qv_bs (σ : SM) (v : Nat → Int32) : m_qv (ms_bs σ v) = m_qv σ := rfl
theorem mr_qv_cs (σ : SM) (v : Nat → Int64) : m_qv (ms_cs σ v) = m_qv σ := rfl
theorem mr_qv_fo (σ : SM) (v : Nat → Int32) : m_qv (ms_fo σ v) = m_qv σ := rfl
theorem mr_qv_ot (σ : SM) (v : Nat → Int32) : m_qv (ms_ot σ v) = m_qv σ := rfl
theorem mr_qv_le (σ : SM) (v : Nat → Int32) : m_qv (ms_le σ v) = m_qv σ := rfl
theorem mr_qv_st (σ : SM) (v : Nat → Int32) : m_qv (ms_st σ v) = m_qv σ := rfl
theorem mr_qv_sz (σ : SM) (v : Int32) : m_qv (ms_sz σ v) = m_qv σ := rfl
theorem mr_qv_qk (σ : SM) (v : Nat → Int32) : m_qv (ms_qk σ v) = m_qv σ := rfl
theorem mr_qv_tk (σ : SM) (v : Int32) : m_qv (ms_tk σ v) = m_qv σ := rfl
theorem mr_qv_fe (σ : SM) (v : Int32) : m_qv (ms_fe σ v) = m_qv σ := rfl
theorem mr_qv_kp (σ : SM) (v : Int32) : m_qv (ms_kp σ v) = m_qv σ := rfl
theorem mr_qv_kk (σ : SM) (v : Nat → Int32) : m_qv (ms_kk σ v) = m_qv σ := rfl
theorem mr_qv_kf (σ : SM) (v : Nat → Int32) : m_qv (ms_kf σ v) = m_qv σ := rfl
theorem mr_qv_kv (σ : SM) (v : Nat → Int64) : m_qv (ms_kv σ v) = m_qv σ := rfl
theorem mr_qv_la (σ : SM) (v : Int32) : m_qv (ms_la σ v) = m_qv σ := rfl
theorem mr_qv_tp (σ : SM) (v : Int32) : m_qv (ms_tp σ v) = m_qv σ := rfl
theorem mr_qv_bg (σ : SM) (v : Int32) : m_qv (ms_bg σ v) = m_qv σ := rfl
theorem mr_qv_wh (σ : SM) (v : Nat → Int32) : m_qv (ms_wh σ v) = m_qv σ := rfl
theorem mr_qv_sg (σ : SM) (v : Nat → Int32) : m_qv (ms_sg σ v) = m_qv σ := rfl
theorem mr_qv_va (σ : SM) (v : Nat → Int64) : m_qv (ms_va σ v) = m_qv σ := rfl
theorem mr_qv_fa (σ : SM) (v : Int32) : m_qv (ms_fa σ v) = m_qv σ := rfl
theorem mw_tk (σ : SM) (v : Int32) : m_tk (ms_tk σ v) = v := rfl
theorem mr_tk_su (σ : SM) (v : Nat → Int64) : m_tk (ms_su σ v) = m_tk σ := rfl
theorem mr_tk_co (σ : SM) (v : Nat → Int32) : m_tk (ms_co σ v) = m_tk σ := rfl
theorem mr_tk_many (σ : SM) (v : Int32) : m_tk (ms_many σ v) = m_tk σ := rfl
theorem mr_tk_so (σ : SM) (v : Nat → Int32) : m_tk (ms_so σ v) = m_tk σ := rfl
theorem mr_tk_ki (σ : SM) (v : Nat → Int32) : m_tk (ms_ki σ v) = m_tk σ := rfl
theorem mr_tk_as (σ : SM) (v : Nat → Int32) : m_tk (ms_as σ v) = m_tk σ := rfl
theorem mr_tk_bs (σ : SM) (v : Nat → Int32) : m_tk (ms_bs σ v) = m_tk σ := rfl
theorem mr_tk_cs (σ : SM) (v : Nat → Int64) : m_tk (ms_cs σ v) = m_tk σ := rfl
theorem mr_tk_fo (σ : SM) (v : Nat → Int32) : m_tk (ms_fo σ v) = m_tk σ := rfl
theorem mr_tk_ot (σ : SM) (v : Nat → Int32) : m_tk (ms_ot σ v) = m_tk σ := rfl
theorem mr_tk_le (σ : SM) (v : Nat → Int32) : m_tk (ms_le σ v) = m_tk σ := rfl
theorem mr_tk_st (σ : SM) (v : Nat → Int32) : m_tk (ms_st σ v) = m_tk σ := rfl
theorem mr_tk_sz (σ : SM) (v : Int32) : m_tk (ms_sz σ v) = m_tk σ := rfl
theorem mr_tk_qk (σ : SM) (v : Nat → Int32) : m_tk (ms_qk σ v) = m_tk σ := rfl
theorem mr_tk_qv (σ : SM) (v : Nat → Int64) : m_tk (ms_qv σ v) = m_tk σ := rfl
theorem mr_tk_fe (σ : SM) (v : Int32) : m_tk (ms_fe σ v) = m_tk σ := rfl
theorem mr_tk_kp (σ : SM) (v : Int32) : m_tk (ms_kp σ v) = m_tk σ := rfl
theorem mr_tk_kk (σ : SM) (v : Nat → Int32) : m_tk (ms_kk σ v) = m_tk σ := rfl
theorem mr_tk_kf (σ : SM) (v : Nat → Int32) : m_tk (ms_kf σ v) = m_tk σ := rfl
theorem mr_tk_kv (σ : SM) (v : Nat → Int64) : m_tk (ms_kv σ v) = m_tk σ := rfl
theorem mr_tk_la (σ : SM) (v : Int32) : m_tk (ms_la σ v) = m_tk σ := rfl
theorem mr_tk_tp (σ : SM) (v : Int32) : m_tk (ms_tp σ v) = m_tk σ := rfl
theorem mr_tk_bg (σ : SM) (v : Int32) : m_tk (ms_bg σ v) = m_tk σ := rfl
theorem mr_tk_wh (σ : SM) (v : Nat → Int32) : m_tk (ms_wh σ v) = m_tk σ := rfl
theorem mr_tk_sg (σ : SM) (v : Nat → Int32) : m_tk (ms_sg σ v) = m_tk σ := rfl
theorem mr_tk_va (σ : SM) (v : Nat → Int64) : m_tk (ms_va σ v) = m_tk σ := rfl
theorem mr_tk_fa (σ : SM) (v : Int32) : m_tk (ms_fa σ v) = m_tk σ := rfl
theorem mw_fe (σ : SM) (v : Int32) : m_fe (ms_fe σ v) = v := rfl
theorem mr_fe_su (σ : SM) (v : Nat → Int64) : m_fe (ms_su σ v) = m_fe σ := rfl
theorem mr_fe_co (σ : SM) (v : Nat → Int32) : m_fe (ms_co σ v) = m_fe σ := rfl
theorem mr_fe_many (σ : SM) (v : Int32) : m_fe (ms_many σ v) = m_fe σ := rfl
theorem mr_fe_so (σ : SM) (v : Nat → Int32) : m_fe (ms_so σ v) = m_fe σ := rfl
theorem mr_fe_ki (σ : SM) (v : Nat → Int32) : m_fe (ms_ki σ v) = m_fe σ := rfl
theorem mr_fe_as (σ : SM) (v : Nat → Int32) : m_fe (ms_as σ v) = m_fe σ := rfl
theorem mr_fe_bs (σ : SM) (v : Nat → Int32) : m_fe (ms_bs σ v) = m_fe σ := rfl
theorem mr_fe_cs (σ : SM) (v : Nat → Int64) : m_fe (ms_cs σ v) = m_fe σ := rfl
theorem mr_fe_fo (σ : SM) (v : Nat → Int32) : m_fe (ms_fo σ v) = m_fe σ := rfl
theorem mr_fe_ot (σ : SM) (v : Nat → Int32) : m_fe (ms_ot σ v) = m_fe σ := rfl
theorem mr_fe_le (σ : SM) (v : Nat → Int32) : m_fe (ms_le σ v) = m_fe σ := rfl
theorem mr_fe_st (σ : SM) (v : Nat → Int32) : m_fe (ms_st σ v) = m_fe σ := rfl
theorem mr_fe_sz (σ : SM) (v : Int32) : m_fe (ms_sz σ v) = m_fe σ := rfl
theorem mr_fe_qk (σ : SM) (v : Nat → Int32) : m_fe (ms_qk σ v) = m_fe σ := rfl
theorem mr_fe_qv (σ : SM) (v : Nat → Int64) : m_fe (ms_qv σ v) = m_fe σ := rfl
theorem mr_fe_tk (σ : SM) (v : Int32) : m_fe (ms_tk σ v) = m_fe σ := rfl
theorem mr_fe_kp (σ : SM) (v : Int32) : m_fe (ms_kp σ v) = m_fe σ := rfl
theorem mr_fe_kk (σ : SM) (v : Nat → Int32) : m_fe (ms_kk σ v) = m_fe σ := rfl
theorem mr_fe_kf (σ : SM) (v : Nat → Int32) : m_fe (ms_kf σ v) = m_fe σ := rfl
theorem mr_fe_kv (σ : SM) (v : Nat → Int64) : m_fe (ms_kv σ v) = m_fe σ := rfl
theorem mr_fe_la (σ : SM) (v : Int32) : m_fe (ms_la σ v) = m_fe σ := rfl
theorem mr_fe_tp (σ : SM) (v : Int32) : m_fe (ms_tp σ v) = m_fe σ := rfl
theorem mr_fe_bg (σ : SM) (v : Int32) : m_fe (ms_bg σ v) = m_fe σ := rfl
theorem mr_fe_wh (σ : SM) (v : Nat → Int32) : m_fe (ms_wh σ v) = m_fe σ := rfl
theorem mr_fe_sg (σ : SM) (v : Nat → Int32) : m_fe (ms_sg σ v) = m_fe σ := rfl
theorem mr_fe_va (σ : SM) (v : Nat → Int64) : m_fe (ms_va σ v) = m_fe σ := rfl
theorem mr_fe_fa (σ : SM) (v : Int32) : m_fe (ms_fa σ v) = m_fe σ := rfl
theorem mw_kp (σ : SM) (v : Int32) : m_kp (ms_kp σ v) = v := rfl
theorem mr_kp_su (σ : SM) (v : Nat → Int64) : m_kp (ms_su σ v) = m_kp σ := rfl
theorem mr_kp_co (σ : SM) (v : Nat → Int32) : m_kp (ms_co σ v) = m_kp σ := rfl
theorem mr_kp_many (σ : SM) (v : Int32) : m_kp (ms_many σ v) = m_kp σ := rfl
theorem mr_kp_so (σ : SM) (v : Nat → Int32) : m_kp (ms_so σ v) = m_kp σ := rfl
theorem mr_kp_ki (σ : SM) (v : Nat → Int32) : m_kp (ms_ki σ v) = m_kp σ := rfl
theorem mr_kp_as (σ : SM) (v : Nat → Int32) : m_kp (ms_as σ v) = m_kp σ := rfl
theorem mr_kp_bs (σ : SM) (v : Nat → Int32) : m_kp (ms_bs σ v) = m_kp σ := rfl
theorem mr_kp_cs (σ : SM) (v : Nat → Int64) : m_kp (ms_cs σ v) = m_kp σ := rfl
theorem mr_kp_fo (σ : SM) (v : Nat → Int32) : m_kp (ms_fo σ v) = m_kp σ := rfl
theorem mr_kp_ot (σ : SM) (v : Nat → Int32) : m_kp (ms_ot σ v) = m_kp σ := rfl
theorem mr_kp_le (σ : SM) (v : Nat → Int32) : m_kp (ms_le σ v) = m_kp σ := rfl
theorem mr_kp_st (σ : SM) (v : Nat → Int32) : m_kp (ms_st σ v) = m_kp σ := rfl
theorem mr_kp_sz (σ : SM) (v : Int32) : m_kp (ms_sz σ v) = m_kp σ := rfl
theorem mr_kp_qk (σ : SM) (v : Nat → Int32) : m_kp (ms_qk σ v) = m_kp σ := rfl
theorem mr_kp_qv (σ : SM) (v : Nat → Int64) : m_kp (ms_qv σ v) = m_kp σ := rfl
theorem mr_kp_tk (σ : SM) (v : Int32) : m_kp (ms_tk σ v) = m_kp σ := rfl
theorem mr_kp_fe (σ : SM) (v : Int32) : m_kp (ms_fe σ v) = m_kp σ := rfl
theorem mr_kp_kk (σ : SM) (v : Nat → Int32) : m_kp (ms_kk σ v) = m_kp σ := rfl
theorem mr_kp_kf (σ : SM) (v : Nat → Int32) : m_kp (ms_kf σ v) = m_kp σ := rfl
theorem mr_kp_kv (σ : SM) (v : Nat → Int64) : m_kp (ms_kv σ v) = m_kp σ := rfl
theorem mr_kp_la (σ : SM) (v : Int32) : m_kp (ms_la σ v) = m_kp σ := rfl
theorem mr_kp_tp (σ : SM) (v : Int32) : m_kp (ms_tp σ v) = m_kp σ := rfl
theorem mr_kp_bg (σ : SM) (v : Int32) : m_kp (ms_bg σ v) = m_kp σ := rfl
theorem mr_kp_wh (σ : SM) (v : Nat → Int32) : m_kp (ms_wh σ v) = m_kp σ := rfl
theorem mr_kp_sg (σ : SM) (v : Nat → Int32) : m_kp (ms_sg σ v) = m_kp σ := rfl
theorem mr_kp_va (σ : SM) (v : Nat → Int64) : m_kp (ms_va σ v) = m_kp σ := rfl
theorem mr_kp_fa (σ : SM) (v : Int32) : m_kp (ms_fa σ v) = m_kp σ := rfl
theorem mw_kk (σ : SM) (v : Nat → Int32) : m_kk (ms_kk σ v) = v := rfl
theorem mr_kk_su (σ : SM) (v : Nat → Int64) : m_kk (ms_su σ v) = m_kk σ := rfl
theorem mr_kk_co (σ : SM) (v : Nat → Int32) : m_kk (ms_co σ v) = m_kk σ := rfl
theorem mr_kk_many (σ : SM) (v : Int32) : m_kk (ms_many σ v) = m_kk σ := rfl
theorem mr_kk_so (σ : SM) (v : Nat → Int32) : m_kk (ms_so σ v) = m_kk σ := rfl
theorem mr_kk_ki (σ : SM) (v : Nat → Int32) : m_kk (ms_ki σ v) = m_kk σ := rfl
theorem mr_kk_as (σ : SM) (v : Nat → Int32) : m_kk (ms_as σ v) = m_kk σ := rfl
theorem mr_kk_bs (σ : SM) (v : Nat → Int32) : m_kk (ms_bs σ v) = m_kk σ := rfl
theorem mr_kk_cs (σ : SM) (v : Nat → Int64) : m_kk (ms_cs σ v) = m_kk σ := rfl
theorem mr_kk_fo (σ : SM) (v : Nat → Int32) : m_kk (ms_fo σ v) = m_kk σ := rfl
theorem mr_kk_ot (σ : SM) (v : Nat → Int32) : m_kk (ms_ot σ v) = m_kk σ := rfl
theorem mr_kk_le (σ : SM) (v : Nat → Int32) : m_kk (ms_le σ v) = m_kk σ := rfl
theorem mr_kk_st (σ : SM) (v : Nat → Int32) : m_kk (ms_st σ v) = m_kk σ := rfl
theorem mr_kk_sz (σ : SM) (v : Int32) : m_kk (ms_sz σ v) = m_kk σ := rfl
theorem mr_kk_qk (σ : SM) (v : Nat → Int32) : m_kk (ms_qk σ v) = m_kk σ := rfl
theorem mr_kk_qv (σ : SM) (v : Nat → Int64) : m_kk (ms_qv σ v) = m_kk σ := rfl
theorem mr_kk_tk (σ : SM) (v : Int32) : m_kk (ms_tk σ v) = m_kk σ := rfl
theorem mr_kk_fe (σ : SM) (v : Int32) : m_kk (ms_fe σ v) = m_kk σ := rfl
theorem mr_kk_kp (σ : SM) (v : Int32) : m_kk (ms_kp σ v) = m_kk σ := rfl
theorem mr_kk_kf (σ : SM) (v : Nat → Int32) : m_kk (ms_kf σ v) = m_kk σ := rfl
theorem mr_kk_kv (σ : SM) (v : Nat → Int64) : m_kk (ms_kv σ v) = m_kk σ := rfl
theorem mr_kk_la (σ : SM) (v : Int32) : m_kk (ms_la σ v) = m_kk σ := rfl
theorem mr_kk_tp (σ : SM) (v : Int32) : m_kk (ms_tp σ v) = m_kk σ := rfl
theorem mr_kk_bg (σ : SM) (v : Int32) : m_kk (ms_bg σ v) = m_kk σ := rfl
theorem mr_kk_wh (σ : SM) (v : Nat → Int32) : m_kk (ms_wh σ v) = m_kk σ := rfl
theorem mr_kk_sg (σ : SM) (v : Nat → Int32) : m_kk (ms_sg σ v) = m_kk σ := rfl
theorem mr_kk_va (σ : SM) (v : Nat → Int64) : m_kk (ms_va σ v) = m_kk σ := rfl
theorem mr_kk_fa (σ : SM) (v : Int32) : m_kk (ms_fa σ v) = m_kk σ := rfl
theorem mw_kf (σ : SM) (v : Nat → Int32) : m_kf (ms_kf σ v) = v := rfl
theorem mr_kf_su (σ : SM) (v : Nat → Int64) : m_kf (ms_su σ v) = m_kf σ := rfl
theorem mr_kf_co (σ : SM) (v : Nat → Int32) : m_kf (ms_co σ v) = m_kf σ := rfl
theorem mr_kf_many (σ : SM) (v : Int32) : m_kf (ms_many σ v) = m_kf σ := rfl
theorem mr_kf_so (σ : SM) (v : Nat → Int32) : m_kf (ms_so σ v) = m_kf σ := rfl
theorem mr_kf_ki (σ : SM) (v : Nat → Int32) : m_kf (ms_ki σ v) = m_kf σ := rfl
theorem mr_kf_as (σ : SM) (v : Nat → Int32) : m_kf (ms_as σ v) = m_kf σ := rfl
theorem mr_kf_bs (σ : SM) (v : Nat → Int32) : m_kf (ms_bs σ v) = m_kf σ := rfl
theorem mr_kf_cs (σ : SM) (v : Nat → Int64) : m_kf (ms_cs σ v) = m_kf σ := rfl
theorem mr_kf_fo (σ : SM) (v : Nat → Int32) : m_kf (ms_fo σ v) = m_kf σ := rfl
theorem mr_kf_ot (σ : SM) (v : Nat → Int32) : m_kf (ms_ot σ v) = m_kf σ := rfl
theorem mr_kf_le (σ : SM) (v : Nat → Int32) : m_kf (ms_le σ v) = m_kf σ := rfl
theorem mr_kf_st (σ : SM) (v : Nat → Int32) : m_kf (ms_st σ v) = m_kf σ := rfl
theorem mr_kf_sz (σ : SM) (v : Int32) : m_kf (ms_sz σ v) = m_kf σ := rfl
theorem mr_kf_qk (σ : SM) (v : Nat → Int32) : m_kf (ms_qk σ v) = m_kf σ := rfl
theorem mr_kf_qv (σ : SM) (v : Nat → Int64) : m_kf (ms_qv σ v) = m_kf σ := rfl
theorem mr_kf_tk (σ : SM) (v : Int32) : m_kf (ms_tk σ v) = m_kf σ := rfl
theorem mr_kf_fe (σ : SM) (v : Int32) : m_kf (ms_fe σ v) = m_kf σ := rfl
theorem mr_kf_kp (σ : SM) (v : Int32) : m_kf (ms_kp σ v) = m_kf σ := rfl
theorem mr_kf_kk (σ : SM) (v : Nat → Int32) : m_kf (ms_kk σ v) = m_kf σ := rfl
theorem mr_kf_kv (σ : SM) (v : Nat → Int64) : m_kf (ms_kv σ v) = m_kf σ := rfl
theorem mr_kf_la (σ : SM) (v : Int32) : m_kf (ms_la σ v) = m_kf σ := rfl
theorem mr_kf_tp (σ : SM) (v : Int32) : m_kf (ms_tp σ v) = m_kf σ := rfl
theorem mr_kf_bg (σ : SM) (v : Int32) : m_kf (ms_bg σ v) = m_kf σ := rfl
theorem mr_kf_wh (σ : SM) (v : Nat → Int32) : m_kf (ms_wh σ v) = m_kf σ := rfl
theorem mr_kf_sg (σ : SM) (v : Nat → Int32) : m_kf (ms_sg σ v) = m_kf σ := rfl
theorem mr_kf_va (σ : SM) (v : Nat → Int64) : m_kf (ms_va σ v) = m_kf σ := rfl
theorem mr_kf_fa (σ : SM) (v : Int32) : m_kf (ms_fa σ v) = m_kf σ := rfl
theorem mw_kv (σ : SM) (v : Nat → Int64) : m_kv (ms_kv σ v) = v := rfl
theorem mr_kv_su (σ : SM) (v : Nat → Int64) : m_kv (ms_su σ v) = m_kv σ := rfl
theorem mr_kv_co (σ : SM) (v : Nat → Int32) : m_kv (ms_co σ v) = m_kv σ := rfl
theorem mr_kv_many (σ : SM) (v : Int32) : m_kv (ms_many σ v) = m_kv σ := rfl
theorem mr_kv_so (σ : SM) (v : Nat → Int32) : m_kv (ms_so σ v) = m_kv σ := rfl
theorem mr_kv_ki (σ : SM) (v : Nat → Int32) : m_kv (ms_ki σ v) = m_kv σ := rfl
theorem mr_kv_as (σ : SM) (v : Nat → Int32) : m_kv (ms_as σ v) = m_kv σ := rfl
theorem mr_kv_bs (σ : SM) (v : Nat → Int32) : m_kv (ms_bs σ v) = m_kv σ := rfl
theorem mr_kv_cs (σ : SM) (v : Nat → Int64) : m_kv (ms_cs σ v) = m_kv σ := rfl
theorem mr_kv_fo (σ : SM) (v : Nat → Int32) : m_kv (ms_fo σ v) = m_kv σ := rfl
theorem mr_kv_ot (σ : SM) (v : Nat → Int32) : m_kv (ms_ot σ v) = m_kv σ := rfl
theorem mr_kv_le (σ : SM) (v : Nat → Int32) : m_kv (ms_le σ v) = m_kv σ := rfl
theorem mr_kv_st (σ : SM) (v : Nat → Int32) : m_kv (ms_st σ v) = m_kv σ := rfl
theorem mr_kv_sz (σ : SM) (v : Int32) : m_kv (ms_sz σ v) = m_kv σ := rfl
theorem mr_kv_qk (σ : SM) (v : Nat → Int32) : m_kv (ms_qk σ v) = m_kv σ := rfl
theorem mr_kv_qv (σ : SM) (v : Nat → Int64) : m_kv (ms_qv σ v) = m_kv σ := rfl
theorem mr_kv_tk (σ : SM) (v : Int32) : m_kv (ms_tk σ v) = m_kv σ := rfl
theorem mr_kv_fe (σ : SM) (v : Int32) : m_kv (ms_fe σ v) = m_kv σ := rfl
theorem mr_kv_kp (σ : SM) (v : Int32) : m_kv (ms_kp σ v) = m_kv σ := rfl
theorem mr_kv_kk (σ : SM) (v : Nat → Int32) : m_kv (ms_kk σ v) = m_kv σ := rfl
theorem mr_kv_kf (σ : SM) (v : Nat → Int32) : m_kv (ms_kf σ v) = m_kv σ := rfl
theorem mr_kv_la (σ : SM) (v : Int32) : m_kv (ms_la σ v) = m_kv σ := rfl
theorem mr_kv_tp (σ : SM) (v : Int32) : m_kv (ms_tp σ v) = m_kv σ := rfl
theorem mr_kv_bg (σ : SM) (v : Int32) : m_kv (ms_bg σ v) = m_kv σ := rfl
theorem mr_kv_wh (σ : SM) (v : Nat → Int32) : m_kv (ms_wh σ v) = m_kv σ := rfl
theorem mr_kv_sg (σ : SM) (v : Nat → Int32) : m_kv (ms_sg σ v) = m_kv σ := rfl
theorem mr_kv_va (σ : SM) (v : Nat → Int64) : m_kv (ms_va σ v) = m_kv σ := rfl
theorem mr_kv_fa (σ : SM) (v : Int32) : m_kv (ms_fa σ v) = m_kv σ := rfl
theorem mw_la (σ : SM) (v : Int32) : m_la (ms_la σ v) = v := rfl
theorem mr_la_su (σ : SM) (v : Nat → Int64) : m_la (ms_su σ v) = m_la σ := rfl
theorem mr_la_co (σ : SM) (v : Nat → Int32) : m_la (ms_co σ v) = m_la σ := rfl
theorem mr_la_many (σ : SM) (v : Int32) : m_la (ms_many σ v) = m_la σ := rfl
theorem mr_la_so (σ : SM) (v : Nat → Int32) : m_la (ms_so σ v) = m_la σ := rfl
theorem mr_la_ki (σ : SM) (v : Nat → Int32) : m_la (ms_ki σ v) = m_la σ := rfl
theorem mr_la_as (σ : SM) (v : Nat → Int32) : m_la (ms_as σ v) = m_la σ := rfl
theorem mr_la_bs (σ : SM) (v : Nat → Int32) : m_la (ms_bs σ v) = m_la σ := rfl
theorem mr_la_cs (σ : SM) (v : Nat → Int64) : m_la (ms_cs σ v) = m_la σ := rfl
theorem mr_la_fo (σ : SM) (v : Nat → Int32) : m_la (ms_fo σ v) = m_la σ := rfl
theorem mr_la_ot (σ : SM) (v : Nat → Int32) : m_la (ms_ot σ v) = m_la σ := rfl
theorem mr_la_le (σ : SM) (v : Nat → Int32) : m_la (ms_le σ v) = m_la σ := rfl
theorem mr_la_st (σ : SM) (v : Nat → Int32) : m_la (ms_st σ v) = m_la σ := rfl
theorem mr_la_sz (σ : SM) (v : Int32) : m_la (ms_sz σ v) = m_la σ := rfl
theorem mr_la_qk (σ : SM) (v : Nat → Int32) : m_la (ms_qk σ v) = m_la σ := rfl
theorem mr_la_qv (σ : SM) (v : Nat → Int64) : m_la (ms_qv σ v) = m_la σ := rfl
theorem mr_la_tk (σ : SM) (v : Int32) : m_la (ms_tk σ v) = m_la σ := rfl
theorem mr_la_fe (σ : SM) (v : Int32) : m_la (ms_fe σ v) = m_la σ := rfl
theorem mr_la_kp (σ : SM) (v : Int32) : m_la (ms_kp σ v) = m_la σ := rfl
theorem mr_la_kk (σ : SM) (v : Nat → Int32) : m_la (ms_kk σ v) = m_la σ := rfl
theorem mr_la_kf (σ : SM) (v : Nat → Int32) : m_la (ms_kf σ v) = m_la σ := rfl
theorem mr_la_kv (σ : SM) (v : Nat → Int64) : m_la (ms_kv σ v) = m_la σ := rfl
theorem mr_la_tp (σ : SM) (v : Int32) : m_la (ms_tp σ v) = m_la σ := rfl
theorem mr_la_bg (σ : SM) (v : Int32) : m_la (ms_bg σ v) = m_la σ := rfl
theorem mr_la_wh (σ : SM) (v : Nat → Int32) : m_la (ms_wh σ v) = m_la σ := rfl
theorem mr_la_sg (σ : SM) (v : Nat → Int32) : m_la (ms_sg σ v) = m_la σ := rfl
theorem mr_la_va (σ : SM) (v : Nat → Int64) : m_la (ms_va σ v) = m_la σ := rfl
theorem mr_la_fa (σ : SM) (v : Int32) : m_la (ms_fa σ v) = m_la σ := rfl
theorem mw_tp (σ : SM) (v : Int32) : m_tp (ms_tp σ v) = v := rfl
theorem mr_tp_su (σ : SM) (v : Nat → Int64) : m_tp (ms_su σ v) = m_tp σ := rfl
theorem mr_tp_co (σ : SM) (v : Nat → Int32) : m_tp (ms_co σ v) = m_tp σ := rfl
theorem mr_tp_many (σ : SM) (v : Int32) : m_tp (ms_many σ v) = m_tp σ := rfl
theorem mr_tp_so (σ : SM) (v : Nat → Int32) : m_tp (ms_so σ v) = m_tp σ := rfl
theorem mr_tp_ki (σ : SM) (v : Nat → Int32) : m_tp (ms_ki σ v) = m_tp σ := rfl
theorem mr_tp_as (σ : SM) (v : Nat → Int32) : m_tp (ms_as σ v) = m_tp σ := rfl
theorem mr_tp_bs (σ : SM) (v : Nat → Int32) : m_tp (ms_bs σ v) = m_tp σ := rfl
theorem mr_tp_cs (σ : SM) (v : Nat → Int64) : m_tp (ms_cs σ v) = m_tp σ := rfl
theorem mr_tp_fo (σ : SM) (v : Nat → Int32) : m_tp (ms_fo σ v) = m_tp σ := rfl
theorem mr_tp_ot (σ : SM) (v : Nat → Int32) : m_tp (ms_ot σ v) = m_tp σ := rfl
theorem mr_tp_le (σ : SM) (v : Nat → Int32) : m_tp (ms_le σ v) = m_tp σ := rfl
theorem mr_tp_st (σ : SM) (v : Nat → Int32) : m_tp (ms_st σ v) = m_tp σ := rfl
theorem mr_tp_sz (σ : SM) (v : Int32) : m_tp (ms_sz σ v) = m_tp σ := rfl
theorem mr_tp_qk (σ : SM) (v : Nat → Int32) : m_tp (ms_qk σ v) = m_tp σ := rfl
theorem mr_tp_qv (σ : SM) (v : Nat → Int64) : m_tp (ms_qv σ v) = m_tp σ := rfl
theorem mr_tp_tk (σ : SM) (v : Int32) : m_tp (ms_tk σ v) = m_tp σ := rfl
theorem mr_tp_fe (σ : SM) (v : Int32) : m_tp (ms_fe σ v) = m_tp σ := rfl
theorem mr_tp_kp (σ : SM) (v : Int32) : m_tp (ms_kp σ v) = m_tp σ := rfl
theorem mr_tp_kk (σ : SM) (v : Nat → Int32) : m_tp (ms_kk σ v) = m_tp σ := rfl
theorem mr_tp_kf (σ : SM) (v : Nat → Int32) : m_tp (ms_kf σ v) = m_tp σ := rfl
theorem mr_tp_kv (σ : SM) (v : Nat → Int64) : m_tp (ms_kv σ v) = m_tp σ := rfl
theorem mr_tp_la (σ : SM) (v : Int32) : m_tp (ms_la σ v) = m_tp σ := rfl
theorem mr_tp_bg (σ : SM) (v : Int32) : m_tp (ms_bg σ v) = m_tp σ := rfl
theorem mr_tp_wh (σ : SM) (v : Nat → Int32) : m_tp (ms_wh σ v) = m_tp σ := rfl
theorem mr_tp_sg (σ : SM) (v : Nat → Int32) : m_tp (ms_sg σ v) = m_tp σ := rfl
theorem mr_tp_va (σ : SM) (v : Nat → Int64) : m_tp (ms_va σ v) = m_tp σ := rfl
theorem mr_tp_fa (σ : SM) (v : Int32) : m_tp (ms_fa σ v) = m_tp σ := rfl
theorem mw_bg (σ : SM) (v : Int32) : m_bg (ms_bg σ v) = v := rfl
theorem mr_bg_su (σ : SM) (v : Nat → Int64) : m_bg (ms_su σ v) = m_bg σ := rfl
theorem mr_bg_co (σ : SM) (v : Nat → Int32) : m_bg (ms_co σ v) = m_bg σ := rfl
theorem mr_bg_many (σ : SM) (v : Int32) : m_bg (ms_many σ v) = m_bg σ := rfl
theorem mr_bg_so (σ : SM) (v : Nat → Int32) : m_bg (ms_so σ v) = m_bg σ := rfl
theorem mr_bg_ki (σ : SM) (v : Nat → Int32) : m_bg (ms_ki σ v) = m_bg σ := rfl
theorem mr_bg_as (σ : SM) (v : Nat → Int32) : m_bg (ms_as σ v) = m_bg σ := rfl
theorem mr_bg_bs (σ : SM) (v : Nat → Int32) : m_bg (ms_bs σ v) = m_bg σ := rfl
theorem mr_bg_cs (σ : SM) (v : Nat → Int64) : m_bg (ms_cs σ v) = m_bg σ := rfl
theorem mr_bg_fo (σ : SM) (v : Nat → Int32) : m_bg (ms_fo σ v) = m_bg σ := rfl
theorem mr_bg_ot (σ : SM) (v : Nat → Int32) : m_bg (ms_ot σ v) = m_bg σ := rfl
theorem mr_bg_le (σ : SM) (v : Nat → Int32) : m_bg (ms_le σ v) = m_bg σ := rfl
theorem mr_bg_st (σ : SM) (v : Nat → Int32) : m_bg (ms_st σ v) = m_bg σ := rfl
theorem mr_bg_sz (σ : SM) (v : Int32) : m_bg (ms_sz σ v) = m_bg σ := rfl
theorem mr_bg_qk (σ : SM) (v : Nat → Int32) : m_bg (ms_qk σ v) = m_bg σ := rfl
theorem mr_bg_qv (σ : SM) (v : Nat → Int64) : m_bg (ms_qv σ v) = m_bg σ := rfl
theorem mr_bg_tk (σ : SM) (v : Int32) : m_bg (ms_tk σ v) = m_bg σ := rfl
theorem mr_bg_fe (σ : SM) (v : Int32) : m_bg (ms_fe σ v) = m_bg σ := rfl
theorem mr_bg_kp (σ : SM) (v : Int32) : m_bg (ms_kp σ v) = m_bg σ := rfl
theorem mr_bg_kk (σ : SM) (v : Nat → Int32) : m_bg (ms_kk σ v) = m_bg σ := rfl
theorem mr_bg_kf (σ : SM) (v : Nat → Int32) : m_bg (ms_kf σ v) = m_bg σ := rfl
theorem mr_bg_kv (σ : SM) (v : Nat → Int64) : m_bg (ms_kv σ v) = m_bg σ := rfl
theorem mr_bg_la (σ : SM) (v : Int32) : m_bg (ms_la σ v) = m_bg σ := rfl
theorem mr_bg_tp (σ : SM) (v : Int32) : m_bg (ms_tp σ v) = m_bg σ := rfl
theorem mr_bg_wh (σ : SM) (v : Nat → Int32) : m_bg (ms_wh σ v) = m_bg σ := rfl
theorem mr_bg_sg (σ : SM) (v : Nat → Int32) : m_bg (ms_sg σ v) = m_bg σ := rfl
theorem mr_bg_va (σ : SM) (v : Nat → Int64) : m_bg (ms_va σ v) = m_bg σ := rfl
theorem mr_bg_fa (σ : SM) (v : Int32) : m_bg (ms_fa σ v) = m_bg σ := rfl
theorem mw_wh (σ : SM) (v : Nat → Int32) : m_wh (ms_wh σ v) = v := rfl
theorem mr_wh_su (σ : SM) (v : Nat → Int64) : m_wh (ms_su σ v) = m_wh σ := rfl
theorem mr_wh_co (σ : SM) (v : Nat → Int32) : m_wh (ms_co σ v) = m_wh σ := rfl
theorem mr_wh_many (σ : SM) (v : Int32) : m_wh (ms_many σ v) = m_wh σ := rfl
theorem mr_wh_so (σ : SM) (v : Nat → Int32) : m_wh (ms_so σ v) = m_wh σ := rfl
theorem mr_wh_ki (σ : SM) (v : Nat → Int32) : m_wh (ms_ki σ v) = m_wh σ := rfl
theorem mr_wh_as (σ : SM) (v : Nat → Int32) : m_wh (ms_as σ v) = m_wh σ := rfl
theorem mr_wh_bs (σ : SM) (v : Nat → Int32) : m_wh (ms_bs σ v) = m_wh σ := rfl
theorem mr_wh_cs (σ : SM) (v : Nat → Int64) : m_wh (ms_cs σ v) = m_wh σ := rfl
theorem mr_wh_fo (σ : SM) (v : Nat → Int32) : m_wh (ms_fo σ v) = m_wh σ := rfl
theorem mr_wh_ot (σ : SM) (v : Nat → Int32) : m_wh (ms_ot σ v) = m_wh σ := rfl
theorem mr_wh_le (σ : SM) (v : Nat → Int32) : m_wh (ms_le σ v) = m_wh σ := rfl
theorem mr_wh_st (σ : SM) (v : Nat → Int32) : m_wh (ms_st σ v) = m_wh σ := rfl
theorem mr_wh_sz (σ : SM) (v : Int32) : m_wh (ms_sz σ v) = m_wh σ := rfl
theorem mr_wh_qk (σ : SM) (v : Nat → Int32) : m_wh (ms_qk σ v) = m_wh σ := rfl
theorem mr_wh_qv (σ : SM) (v : Nat → Int64) : m_wh (ms_qv σ v) = m_wh σ := rfl
theorem mr_wh_tk (σ : SM) (v : Int32) : m_wh (ms_tk σ v) = m_wh σ := rfl
theorem mr_wh_fe (σ : SM) (v : Int32) : m_wh (ms_fe σ v) = m_wh σ := rfl
theorem mr_wh_kp (σ : SM) (v : Int32) : m_wh (ms_kp σ v) = m_wh σ := rfl
theorem mr_wh_kk (σ : SM) (v : Nat → Int32) : m_wh (ms_kk σ v) = m_wh σ := rfl
theorem mr_wh_kf (σ : SM) (v : Nat → Int32) : m_wh (ms_kf σ v) = m_wh σ := rfl
theorem mr_wh_kv (σ : SM) (v : Nat → Int64) : m_wh (ms_kv σ v) = m_wh σ := rfl
theorem mr_wh_la (σ : SM) (v : Int32) : m_wh (ms_la σ v) = m_wh σ := rfl
theorem mr_wh_tp (σ : SM) (v : Int32) : m_wh (ms_tp σ v) = m_wh σ := rfl
theorem mr_wh_bg (σ : SM) (v : Int32) : m_wh (ms_bg σ v) = m_wh σ := rfl
theorem mr_wh_sg (σ : SM) (v : Nat → Int32) : m_wh (ms_sg σ v) = m_wh σ := rfl
theorem mr_wh_va (σ : SM) (v : Nat → Int64) : m_wh (ms_va σ v) = m_wh σ := rfl
theorem mr_wh_fa (σ : SM) (v : Int32) : m_wh (ms_fa σ v) = m_wh σ := rfl
theorem mw_sg (σ : SM) (v : Nat → Int32) : m_sg (ms_sg σ v) = v := rfl
theorem mr_sg_su (σ : SM) (v : Nat → Int64) : m_sg (ms_su σ v) = m_sg σ := rfl
theorem mr_sg_co (σ : SM) (v : Nat → Int32) : m_sg (ms_co σ v) = m_sg σ := rfl
theorem mr_sg_many (σ : SM) (v : Int32) : m_sg (ms_many σ v) = m_sg σ := rfl
theorem mr_sg_so (σ : SM) (v : Nat → Int32) : m_sg (ms_so σ v) = m_sg σ := rfl
theorem mr_sg_ki (σ : SM) (v : Nat → Int32) : m_sg (ms_ki σ v) = m_sg σ := rfl
theorem mr_sg_as (σ : SM) (v : Nat → Int32) : m_sg (ms_as σ v) = m_sg σ := rfl
theorem mr_sg_bs (σ : SM) (v : Nat → Int32) : m_sg (ms_bs σ v) = m_sg σ := rfl
theorem mr_sg_cs (σ : SM) (v : Nat → Int64) : m_sg (ms_cs σ v) = m_sg σ := rfl
theorem mr_sg_fo (σ : SM) (v : Nat → Int32) : m_sg (ms_fo σ v) = m_sg σ := rfl
theorem mr_sg_ot (σ : SM) (v : Nat → Int32) : m_sg (ms_ot σ v) = m_sg σ := rfl
theorem mr_sg_le (σ : SM) (v : Nat → Int32) : m_sg (ms_le σ v) = m_sg σ := rfl
theorem mr_sg_st (σ : SM) (v : Nat → Int32) : m_sg (ms_st σ v) = m_sg σ := rfl
theorem mr_sg_sz (σ : SM) (v : Int32) : m_sg (ms_sz σ v) = m_sg σ := rfl
theorem mr_sg_qk (σ : SM) (v : Nat → Int32) : m_sg (ms_qk σ v) = m_sg σ := rfl
theorem mr_sg_qv (σ : SM) (v : Nat → Int64) : m_sg (ms_qv σ v) = m_sg σ := rfl
theorem mr_sg_tk (σ : SM) (v : Int32) : m_sg (ms_tk σ v) = m_sg σ := rfl
theorem mr_sg_fe (σ : SM) (v : Int32) : m_sg (ms_fe σ v) = m_sg σ := rfl
theorem mr_sg_kp (σ : SM) (v : Int32) : m_sg (ms_kp σ v) = m_sg σ := rfl
theorem mr_sg_kk (σ : SM) (v : Nat → Int32) : m_sg (ms_kk σ v) = m_sg σ := rfl
theorem mr_sg_kf (σ : SM) (v : Nat → Int32) : m_sg (ms_kf σ v) = m_sg σ := rfl
theorem mr_sg_kv (σ : SM) (v : Nat → Int64) : m_sg (ms_kv σ v) = m_sg σ := rfl
theorem mr_sg_la (σ : SM) (v : Int32) : m_sg (ms_la σ v) = m_sg σ := rfl
theorem mr_sg_tp (σ : SM) (v : Int32) : m_sg (ms_tp σ v) = m_sg σ := rfl
theorem mr_sg_bg (σ : SM) (v : Int32) : m_sg (ms_bg σ v) = m_sg σ := rfl
theorem mr_sg_wh (σ : SM) (v : Nat → Int32) : m_sg (ms_wh σ v) = m_sg σ := rfl
theorem mr_sg_va (σ : SM) (v : Nat → Int64) : m_sg (ms_va σ v) = m_sg σ := rfl
theorem mr_sg_fa (σ : SM) (v : Int32) : m_sg (ms_fa σ v) = m_sg σ := rfl
theorem mw_va (σ : SM) (v : Nat → Int64) : m_va (ms_va σ v) = v := rfl
theorem mr_va_su (σ : SM) (v : Nat → Int64) : m_va (ms_su σ v) = m_va σ := rfl
theorem mr_va_co (σ : SM) (v : Nat → Int32) : m_va (ms_co σ v) = m_va σ := rfl
theorem mr_va_many (σ : SM) (v : Int32) : m_va (ms_many σ v) = m_va σ := rfl
theorem mr_va_so (σ : SM) (v : Nat → Int32) : m_va (ms_so σ v) = m_va σ := rfl
theorem mr_va_ki (σ : SM) (v : Nat → Int32) : m_va (ms_ki σ v) = m_va σ := rfl
theorem mr_va_as (σ : SM) (v : Nat → Int32) : m_va (ms_as σ v) = m_va σ := rfl
theorem mr_va_bs (σ : SM) (v : Nat → Int32) : m_va (ms_bs σ v) = m_va σ := rfl
theorem mr_va_cs (σ : SM) (v : Nat → Int64) : m_va (ms_cs σ v) = m_va σ := rfl
theorem mr_va_fo (σ : SM) (v : Nat → Int32) : m_va (ms_fo σ v) = m_va σ := rfl
theorem mr_va_ot (σ : SM) (v : Nat → Int32) : m_va (ms_ot σ v) = m_va σ := rfl
theorem mr_va_le (σ : SM) (v : Nat → Int32) : m_va (ms_le σ v) = m_va σ := rfl
theorem mr_va_st (σ : SM) (v : Nat → Int32) : m_va (ms_st σ v) = m_va σ := rfl
theorem mr_va_sz (σ : SM) (v : Int32) : m_va (ms_sz σ v) = m_va σ := rfl
theorem mr_va_qk (σ : SM) (v : Nat → Int32) : m_va (ms_qk σ v) = m_va σ := rfl
theorem mr_va_qv (σ : SM) (v : Nat → Int64) : m_va (ms_qv σ v) = m_va σ := rfl
theorem mr_va_tk (σ : SM) (v : Int32) : m_va (ms_tk σ v) = m_va σ := rfl
theorem mr_va_fe (σ : SM) (v : Int32) : m_va (ms_fe σ v) = m_va σ := rfl
theorem mr_va_kp (σ : SM) (v : Int32) : m_va (ms_kp σ v) = m_va σ := rfl
theorem mr_va_kk (σ : SM) (v : Nat → Int32) : m_va (ms_kk σ v) = m_va σ := rfl
theorem mr_va_kf (σ : SM) (v : Nat → Int32) : m_va (ms_kf σ v) = m_va σ := rfl
theorem mr_va_kv (σ : SM) (v : Nat → Int64) : m_va (ms_kv σ v) = m_va σ := rfl
theorem mr_va_la (σ : SM) (v : Int32) : m_va (ms_la σ v) = m_va σ := rfl
theorem mr_va_tp (σ : SM) (v : Int32) : m_va (ms_tp σ v) = m_va σ := rfl
theorem mr_va_bg (σ : SM) (v : Int32) : m_va (ms_bg σ v) = m_va σ := rfl
theorem mr_va_wh (σ : SM) (v : Nat → Int32) : m_va (ms_wh σ v) = m_va σ := rfl
theorem mr_va_sg (σ : SM) (v : Nat → Int32) : m_va (ms_sg σ v) = m_va σ := rfl
theorem mr_va_fa (σ : SM) (v : Int32) : m_va (ms_fa σ v) = m_va σ := rfl
theorem mw_fa (σ : SM) (v : Int32) : m_fa (ms_fa σ v) = v := rfl
theorem mr_fa_su (σ : SM) (v : Nat → Int64) : m_fa (ms_su σ v) = m_fa σ := rfl
theorem mr_fa_co (σ : SM) (v : Nat → Int32) : m_fa (ms_co σ v) = m_fa σ := rfl
theorem mr_fa_many (σ : SM) (v : Int32) : m_fa (ms_many σ v) = m_fa σ := rfl
theorem mr_fa_so (σ : SM) (v : Nat → Int32) : m_fa (ms_so σ v) = m_fa σ := rfl
theorem mr_fa_ki (σ : SM) (v : Nat → Int32) : m_fa (ms_ki σ v) = m_fa σ := rfl
theorem mr_fa_as (σ : SM) (v : Nat → Int32) : m_fa (ms_as σ v) = m_fa σ := rfl
theorem mr_fa_bs (σ : SM) (v : Nat → Int32) : m_fa (ms_bs σ v) = m_fa σ := rfl
theorem mr_fa_cs (σ : SM) (v : Nat → Int64) : m_fa (ms_cs σ v) = m_fa σ := rfl
theorem mr_fa_fo (σ : SM) (v : Nat → Int32) : m_fa (ms_fo σ v) = m_fa σ := rfl
theorem mr_fa_ot (σ : SM) (v : Nat → Int32) : m_fa (ms_ot σ v) = m_fa σ := rfl
theorem mr_fa_le (σ : SM) (v : Nat → Int32) : m_fa (ms_le σ v) = m_fa σ := rfl
theorem mr_fa_st (σ : SM) (v : Nat → Int32) : m_fa (ms_st σ v) = m_fa σ := rfl
theorem mr_fa_sz (σ : SM) (v : Int32) : m_fa (ms_sz σ v) = m_fa σ := rfl
theorem mr_fa_qk (σ : SM) (v : Nat → Int32) : m_fa (ms_qk σ v) = m_fa σ := rfl
theorem mr_fa_qv (σ : SM) (v : Nat → Int64) : m_fa (ms_qv σ v) = m_fa σ := rfl
theorem mr_fa_tk (σ : SM) (v : Int32) : m_fa (ms_tk σ v) = m_fa σ := rfl
theorem mr_fa_fe (σ : SM) (v : Int32) : m_fa (ms_fe σ v) = m_fa σ := rfl
theorem mr_fa_kp (σ : SM) (v : Int32) : m_fa (ms_kp σ v) = m_fa σ := rfl
theorem mr_fa_kk (σ : SM) (v : Nat → Int32) : m_fa (ms_kk σ v) = m_fa σ := rfl
theorem mr_fa_kf (σ : SM) (v : Nat → Int32) : m_fa (ms_kf σ v) = m_fa σ := rfl
theorem mr_fa_kv (σ : SM) (v : Nat → Int64) : m_fa (ms_kv σ v) = m_fa σ := rfl
theorem mr_fa_la (σ : SM) (v : Int32) : m_fa (ms_la σ v) = m_fa σ := rfl
theorem mr_fa_tp (σ : SM) (v : Int32) : m_fa (ms_tp σ v) = m_fa σ := rfl
theorem mr_fa_bg (σ : SM) (v : Int32) : m_fa (ms_bg σ v) = m_fa σ := rfl
theorem mr_fa_wh (σ : SM) (v : Nat → Int32) : m_fa (ms_wh σ v) = m_fa σ := rfl
theorem mr_fa_sg (σ : SM) (v : Nat → Int32) : m_fa (ms_sg σ v) = m_fa σ := rfl
theorem mr_fa_va (σ : SM) (v : Nat → Int64) : m_fa (ms_va σ v) = m_fa σ := rfl
noncomputable def mFs (O : Nat → Nat) (σ : SM) : List Value := [.ref (O 1), .ref (O 2), .int (m_many σ), .ref (O 3), .ref (O 4), .ref (O 5), .ref (O 6), .ref (O 7), .ref (O 8), .ref (O 9), .ref (O 10), .ref (O 11), .int (m_sz σ), .ref (O 12), .ref (O 13), .int (m_tk σ), .int (m_fe σ), .int (m_kp σ), .ref (O 14), .ref (O 15), .ref (O 16), .int (m_la σ), .int (m_tp σ), .int (m_bg σ), .ref (O 17), .ref (O 18), .ref (O 19), .int (m_fa σ)]
noncomputable def mT (K : Nat → ClassId) : List (ClassId × FieldType) := [(K 1, .long), (K 2, .int), (K 3, .int), (K 4, .int), (K 5, .int), (K 6, .int), (K 7, .long), (K 8, .int), (K 9, .int), (K 10, .int), (K 11, .int), (K 12, .int), (K 13, .long), (K 14, .int), (K 15, .int), (K 16, .long), (K 17, .int), (K 18, .int), (K 19, .long)]
noncomputable def mW (O : Nat → Nat) (K : Nat → ClassId) (σ : SM) : va_W := [(O 0, .inr (2, mFs O σ)), (O 1, .inl (K 1, 6, .inr (.inl (m_su σ)))), (O 2, .inl (K 2, 6, .inl (m_co σ))), (O 3, .inl (K 3, 202, .inl (m_so σ))), (O 4, .inl (K 4, 202, .inl (m_ki σ))), (O 5, .inl (K 5, 202, .inl (m_as σ))), (O 6, .inl (K 6, 202, .inl (m_bs σ))), (O 7, .inl (K 7, 202, .inr (.inl (m_cs σ)))), (O 8, .inl (K 8, 202, .inl (m_fo σ))), (O 9, .inl (K 9, 202, .inl (m_ot σ))), (O 10, .inl (K 10, 202, .inl (m_le σ))), (O 11, .inl (K 11, 10, .inl (m_st σ))), (O 12, .inl (K 12, 40, .inl (m_qk σ))), (O 13, .inl (K 13, 40, .inr (.inl (m_qv σ)))), (O 14, .inl (K 14, 30, .inl (m_kk σ))), (O 15, .inl (K 15, 30, .inl (m_kf σ))), (O 16, .inl (K 16, 30, .inr (.inl (m_kv σ)))), (O 17, .inl (K 17, 8, .inl (m_wh σ))), (O 18, .inl (K 18, 8, .inl (m_sg σ))), (O 19, .inl (K 19, 8, .inr (.inl (m_va σ))))]
section MROWS
variable {p : Program} {l : Launch} {e : Env} {R : Room} {s : State} {m : MethodId} {args : Array Value} {below : List Frame} {meth : Method} {c : Code} {H : Heap} {locs : List Loc} {cells slots : Nat} {Q : State → Prop}
variable {cc : ByteArray} {pc : Nat} {ls : Array Slot} {rest : List Value} {D : va_G} {A : Nat → Prop} {H0 : Heap} {O : Nat → Nat} {K : Nat → ClassId} {σ : SM} {index : Nat} {Ts : List Cond} {i x : Int32}
theorem m_ga_1 (hx : p.tables.exec = Jvm.exec) (hb : c.code = cc) (hts : ∀ w ∈ Ts, w.before args s = true) (hin : ∀ w ∈ wsX20, w ∈ Ts) (hown : s.vm.findClass RX2 = some m.cls) (hK : va_K D vwCl (mT K) s) (hP : va_P D vwCl (mW O K σ) H) (hlink : (Cond.fieldLink RX2 index "MailRoomModel" "sums" "[J").before args s = true) (hdg : decode cc pc = .ok (.getfield index, 3)) (kk : W p l e R s m args below meth c H locs cells slots Q (F0 m (pc + 3) ls (.ref (O 1) :: rest))) : W p l e R s m args below meth c H locs cells slots Q (F0 m pc ls (.ref (O 0) :: rest)) :=
  va_get (ci := 2) (C := RX2) (T := TX2) (N := 28) hx hb hts hin hown hK hP 0 rfl rfl 0 (by decide) hlink (fun _ h9 => h9) rfl hdg kk
theorem m_ga_2 (hx : p.tables.exec = Jvm.exec) (hb : c.code = cc) (hts : ∀ w ∈ Ts, w.before args s = true) (hin : ∀ w ∈ wsX20, w ∈ Ts) (hown : s.vm.findClass RX2 = some m.cls) (hK : va_K D vwCl (mT K) s) (hP : va_P D vwCl (mW O K σ) H) (hlink : (Cond.fieldLink RX2 index "MailRoomModel" "counts" "[I").before args s = true) (hdg : decode cc pc = .ok (.getfield index, 3)) (kk : W p l e R s m args below meth c H locs cells slots Q (F0 m (pc + 3) ls (.ref (O 2) :: rest))) : W p l e R s m args below meth c H locs cells slots Q (F0 m pc ls (.ref (O 0) :: rest)) :=
  va_get (ci := 2) (C := RX2) (T := TX2) (N := 28) hx hb hts hin hown hK hP 0 rfl rfl 1 (by decide) hlink (fun _ h9 => h9) rfl hdg kk
theorem m_gi_many (hx : p.tables.exec = Jvm.exec) (hb : c.code = cc) (hts : ∀ w ∈ Ts, w.before args s = true) (hin : ∀ w ∈ wsX20, w ∈ Ts) (hown : s.vm.findClass RX2 = some m.cls) (hK : va_K D vwCl (mT K) s) (hP : va_P D vwCl (mW O K σ) H) {v : Int32} (hv : m_many σ = v) (hlink : (Cond.fieldLink RX2 index "MailRoomModel" "many" "I").before args s = true) (hdg : decode cc pc = .ok (.getfield index, 3)) (kk : W p l e R s m args below meth c H locs cells slots Q (F0 m (pc + 3) ls (.int v :: rest))) : W p l e R s m args below meth c H locs cells slots Q (F0 m pc ls (.ref (O 0) :: rest)) := by
  subst hv
  exact va_get (ci := 2) (C := RX2) (T := TX2) (N := 28) hx hb hts hin hown hK hP 0 rfl rfl 2 (by decide) hlink (fun _ h9 => h9) rfl hdg kk
theorem m_pi_many (hx : p.tables.exec = Jvm.exec) (hb : c.code = cc) (hts : ∀ w ∈ Ts, w.before args s = true) (hin : ∀ w ∈ wsX20, w ∈ Ts) (hown : s.vm.findClass RX2 = some m.cls) (hK : va_K D vwCl (mT K) s) (hP : va_P D vwCl (mW O K σ) H) (hD : va_D A (mW O K σ)) (hS : va_S A H0 H locs) (hlink : (Cond.fieldLink RX2 index "MailRoomModel" "many" "I").before args s = true) (hdg : decode cc pc = .ok (.putfield index, 3)) (kk : ∀ (H1 : Heap) (locs1 : List Loc), va_P D vwCl (mW O K (ms_many σ x)) H1 → va_D A (mW O K (ms_many σ x)) → va_S A H0 H1 locs1 → W p l e R s m args below meth c H1 locs1 cells slots Q (F0 m (pc + 3) ls rest)) : W p l e R s m args below meth c H locs cells slots Q (F0 m pc ls (.int x :: .ref (O 0) :: rest)) :=
  va_put (ci := 2) (C := RX2) (T := TX2) (N := 28) (ty := .int) hx hb hts hin tyX2 tyX2_ok nmX2 hown hK hP hD hS 0 rfl rfl 2 (by decide) hlink (fun _ h9 => h9) rfl rfl rfl rfl (Nat.le_of_ble_eq_true rfl) hdg kk
theorem m_ga_3 (hx : p.tables.exec = Jvm.exec) (hb : c.code = cc) (hts : ∀ w ∈ Ts, w.before args s = true) (hin : ∀ w ∈ wsX20, w ∈ Ts) (hown : s.vm.findClass RX2 = some m.cls) (hK : va_K D vwCl (mT K) s) (hP : va_P D vwCl (mW O K σ) H) (hlink : (Cond.fieldLink RX2 index "MailRoomModel" "sorts" "[I").before args s = true) (hdg : decode cc pc = .ok (.getfield index, 3)) (kk : W p l e R s m args below meth c H locs cells slots Q (F0 m (pc + 3) ls (.ref (O 3) :: rest))) : W p l e R s m args below meth c H locs cells slots Q (F0 m pc ls (.ref (O 0) :: rest)) :=
  va_get (ci := 2) (C := RX2) (T := TX2) (N := 28) hx hb hts hin hown hK hP 0 rfl rfl 3 (by decide) hlink (fun _ h9 => h9) rfl hdg kk
theorem m_ga_4 (hx : p.tables.exec = Jvm.exec) (hb : c.code = cc) (hts : ∀ w ∈ Ts, w.before args s = true) (hin : ∀ w ∈ wsX20, w ∈ Ts) (hown : s.vm.findClass RX2 = some m.cls) (hK : va_K D vwCl (mT K) s) (hP : va_P D vwCl (mW O K σ) H) (hlink : (Cond.fieldLink RX2 index "MailRoomModel" "kinds" "[I").before args s = true) (hdg : decode cc pc = .ok (.getfield index, 3)) (kk : W p l e R s m args below meth c H locs cells slots Q (F0 m (pc + 3) ls (.ref (O 4) :: rest))) : W p l e R s m args below meth c H locs cells slots Q (F0 m pc ls (.ref (O 0) :: rest)) :=
  va_get (ci := 2) (C := RX2) (T := TX2) (N := 28) hx hb hts hin hown hK hP 0 rfl rfl 4 (by decide) hlink (fun _ h9 => h9) rfl hdg kk
theorem m_ga_5 (hx : p.tables.exec = Jvm.exec) (hb : c.code = cc) (hts : ∀ w ∈ Ts, w.before args s = true) (hin : ∀ w ∈ wsX20, w ∈ Ts) (hown : s.vm.findClass RX2 = some m.cls) (hK : va_K D vwCl (mT K) s) (hP : va_P D vwCl (mW O K σ) H) (hlink : (Cond.fieldLink RX2 index "MailRoomModel" "as" "[I").before args s = true) (hdg : decode cc pc = .ok (.getfield index, 3)) (kk : W p l e R s m args below meth c H locs cells slots Q (F0 m (pc + 3) ls (.ref (O 5) :: rest))) : W p l e R s m args below meth c H locs cells slots Q (F0 m pc ls (.ref (O 0) :: rest)) :=
  va_get (ci := 2) (C := RX2) (T := TX2) (N := 28) hx hb hts hin hown hK hP 0 rfl rfl 5 (by decide) hlink (fun _ h9 => h9) rfl hdg kk
theorem m_ga_6 (hx : p.tables.exec = Jvm.exec) (hb : c.code = cc) (hts : ∀ w ∈ Ts, w.before args s = true) (hin : ∀ w ∈ wsX20, w ∈ Ts) (hown : s.vm.findClass RX2 = some m.cls) (hK : va_K D vwCl (mT K) s) (hP : va_P D vwCl (mW O K σ) H) (hlink : (Cond.fieldLink RX2 index "MailRoomModel" "bs" "[I").before args s = true) (hdg : decode cc pc = .ok (.getfield index, 3)) (kk : W p l e R s m args below meth c H locs cells slots Q (F0 m (pc + 3) ls (.ref (O 6) :: rest))) : W p l e R s m args below meth c H locs cells slots Q (F0 m pc ls (.ref (O 0) :: rest)) :=
  va_get (ci := 2) (C := RX2) (T := TX2) (N := 28) hx hb hts hin hown hK hP 0 rfl rfl 6 (by decide) hlink (fun _ h9 => h9) rfl hdg kk
theorem m_ga_7 (hx : p.tables.exec = Jvm.exec) (hb : c.code = cc) (hts : ∀ w ∈ Ts, w.before args s = true) (hin : ∀ w ∈ wsX20, w ∈ Ts) (hown : s.vm.findClass RX2 = some m.cls) (hK : va_K D vwCl (mT K) s) (hP : va_P D vwCl (mW O K σ) H) (hlink : (Cond.fieldLink RX2 index "MailRoomModel" "cs" "[J").before args s = true) (hdg : decode cc pc = .ok (.getfield index, 3)) (kk : W p l e R s m args below meth c H locs cells slots Q (F0 m (pc + 3) ls (.ref (O 7) :: rest))) : W p l e R s m args below meth c H locs cells slots Q (F0 m pc ls (.ref (O 0) :: rest)) :=
  va_get (ci := 2) (C := RX2) (T := TX2) (N := 28) hx hb hts hin hown hK hP 0 rfl rfl 7 (by decide) hlink (fun _ h9 => h9) rfl hdg kk
theorem m_ga_8 (hx : p.tables.exec = Jvm.exec) (hb : c.code = cc) (hts : ∀ w ∈ Ts, w.before args s = true) (hin : ∀ w ∈ wsX20, w ∈ Ts) (hown : s.vm.findClass RX2 = some m.cls) (hK : va_K D vwCl (mT K) s) (hP : va_P D vwCl (mW O K σ) H) (hlink : (Cond.fieldLink RX2 index "MailRoomModel" "formers" "[I").before args s = true) (hdg : decode cc pc = .ok (.getfield index, 3)) (kk : W p l e R s m args below meth c H locs cells slots Q (F0 m (pc + 3) ls (.ref (O 8) :: rest))) : W p l e R s m args below meth c H locs cells slots Q (F0 m pc ls (.ref (O 0) :: rest)) :=
  va_get (ci := 2) (C := RX2) (T := TX2) (N := 28) hx hb hts hin hown hK hP 0 rfl rfl 8 (by decide) hlink (fun _ h9 => h9) rfl hdg kk
theorem m_ga_9 (hx : p.tables.exec = Jvm.exec) (hb : c.code = cc) (hts : ∀ w ∈ Ts, w.before args s = true) (hin : ∀ w ∈ wsX20, w ∈ Ts) (hown : s.vm.findClass RX2 = some m.cls) (hK : va_K D vwCl (mT K) s) (hP : va_P D vwCl (mW O K σ) H) (hlink : (Cond.fieldLink RX2 index "MailRoomModel" "others" "[I").before args s = true) (hdg : decode cc pc = .ok (.getfield index, 3)) (kk : W p l e R s m args below meth c H locs cells slots Q (F0 m (pc + 3) ls (.ref (O 9) :: rest))) : W p l e R s m args below meth c H locs cells slots Q (F0 m pc ls (.ref (O 0) :: rest)) :=
  va_get (ci := 2) (C := RX2) (T := TX2) (N := 28) hx hb hts hin hown hK hP 0 rfl rfl 9 (by decide) hlink (fun _ h9 => h9) rfl hdg kk
theorem m_ga_10 (hx : p.tables.exec = Jvm.exec) (hb : c.code = cc) (hts : ∀ w ∈ Ts, w.before args s = true) (hin : ∀ w ∈ wsX20, w ∈ Ts) (hown : s.vm.findClass RX2 = some m.cls) (hK : va_K D vwCl (mT K) s) (hP : va_P D vwCl (mW O K σ) H) (hlink : (Cond.fieldLink RX2 index "MailRoomModel" "lets" "[I").before args s = true) (hdg : decode cc pc = .ok (.getfield index, 3)) (kk : W p l e R s m args below meth c H locs cells slots Q (F0 m (pc + 3) ls (.ref (O 10) :: rest))) : W p l e R s m args below meth c H locs cells slots Q (F0 m pc ls (.ref (O 0) :: rest)) :=
  va_get (ci := 2) (C := RX2) (T := TX2) (N := 28) hx hb hts hin hown hK hP 0 rfl rfl 10 (by decide) hlink (fun _ h9 => h9) rfl hdg kk
theorem m_ga_11 (hx : p.tables.exec = Jvm.exec) (hb : c.code = cc) (hts : ∀ w ∈ Ts, w.before args s = true) (hin : ∀ w ∈ wsX20, w ∈ Ts) (hown : s.vm.findClass RX2 = some m.cls) (hK : va_K D vwCl (mT K) s) (hP : va_P D vwCl (mW O K σ) H) (hlink : (Cond.fieldLink RX2 index "MailRoomModel" "stands" "[I").before args s = true) (hdg : decode cc pc = .ok (.getfield index, 3)) (kk : W p l e R s m args below meth c H locs cells slots Q (F0 m (pc + 3) ls (.ref (O 11) :: rest))) : W p l e R s m args below meth c H locs cells slots Q (F0 m pc ls (.ref (O 0) :: rest)) :=
  va_get (ci := 2) (C := RX2) (T := TX2) (N := 28) hx hb hts hin hown hK hP 0 rfl rfl 11 (by decide) hlink (fun _ h9 => h9) rfl hdg kk
theorem m_gi_sz (hx : p.tables.exec = Jvm.exec) (hb : c.code = cc) (hts : ∀ w ∈ Ts, w.before args s = true) (hin : ∀ w ∈ wsX20, w ∈ Ts) (hown : s.vm.findClass RX2 = some m.cls) (hK : va_K D vwCl (mT K) s) (hP : va_P D vwCl (mW O K σ) H) {v : Int32} (hv : m_sz σ = v) (hlink : (Cond.fieldLink RX2 index "MailRoomModel" "size" "I").before args s = true) (hdg : decode cc pc = .ok (.getfield index, 3)) (kk : W p l e R s m args below meth c H locs cells slots Q (F0 m (pc + 3) ls (.int v :: rest))) : W p l e R s m args below meth c H locs cells slots Q (F0 m pc ls (.ref (O 0) :: rest)) := by
  subst hv
  exact va_get (ci := 2) (C := RX2) (T := TX2) (N := 28) hx hb hts hin hown hK hP 0 rfl rfl 12 (by decide) hlink (fun _ h9 => h9) rfl hdg kk
theorem m_pi_sz (hx : p.tables.exec = Jvm.exec) (hb : c.code = cc) (hts : ∀ w ∈ Ts, w.before args s = true) (hin : ∀ w ∈ wsX20, w ∈ Ts) (hown : s.vm.findClass RX2 = some m.cls) (hK : va_K D vwCl (mT K) s) (hP : va_P D vwCl (mW O K σ) H) (hD : va_D A (mW O K σ)) (hS : va_S A H0 H locs) (hlink : (Cond.fieldLink RX2 index "MailRoomModel" "size" "I").before args s = true) (hdg : decode cc pc = .ok (.putfield index, 3)) (kk : ∀ (H1 : Heap) (locs1 : List Loc), va_P D vwCl (mW O K (ms_sz σ x)) H1 → va_D A (mW O K (ms_sz σ x)) → va_S A H0 H1 locs1 → W p l e R s m args below meth c H1 locs1 cells slots Q (F0 m (pc + 3) ls rest)) : W p l e R s m args below meth c H locs cells slots Q (F0 m pc ls (.int x :: .ref (O 0) :: rest)) :=
  va_put (ci := 2) (C := RX2) (T := TX2) (N := 28) (ty := .int) hx hb hts hin tyX2 tyX2_ok nmX2 hown hK hP hD hS 0 rfl rfl 12 (by decide) hlink (fun _ h9 => h9) rfl rfl rfl rfl (Nat.le_of_ble_eq_true rfl) hdg kk
theorem m_ga_12 (hx : p.tables.exec = Jvm.exec) (hb : c.code = cc) (hts : ∀ w ∈ Ts, w.before args s = true) (hin : ∀ w ∈ wsX20, w ∈ Ts) (hown : s.vm.findClass RX2 = some m.cls) (hK : va_K D vwCl (mT K) s) (hP : va_P D vwCl (mW O K σ) H) (hlink : (Cond.fieldLink RX2 index "MailRoomModel" "queueKinds" "[I").before args s = true) (hdg : decode cc pc = .ok (.getfield index, 3)) (kk : W p l e R s m args below meth c H locs cells slots Q (F0 m (pc + 3) ls (.ref (O 12) :: rest))) : W p l e R s m args below meth c H locs cells slots Q (F0 m pc ls (.ref (O 0) :: rest)) :=
  va_get (ci := 2) (C := RX2) (T := TX2) (N := 28) hx hb hts hin hown hK hP 0 rfl rfl 13 (by decide) hlink (fun _ h9 => h9) rfl hdg kk
theorem m_ga_13 (hx : p.tables.exec = Jvm.exec) (hb : c.code = cc) (hts : ∀ w ∈ Ts, w.before args s = true) (hin : ∀ w ∈ wsX20, w ∈ Ts) (hown : s.vm.findClass RX2 = some m.cls) (hK : va_K D vwCl (mT K) s) (hP : va_P D vwCl (mW O K σ) H) (hlink : (Cond.fieldLink RX2 index "MailRoomModel" "queueValues" "[J").before args s = true) (hdg : decode cc pc = .ok (.getfield index, 3)) (kk : W p l e R s m args below meth c H locs cells slots Q (F0 m (pc + 3) ls (.ref (O 13) :: rest))) : W p l e R s m args below meth c H locs cells slots Q (F0 m pc ls (.ref (O 0) :: rest)) :=
  va_get (ci := 2) (C := RX2) (T := TX2) (N := 28) hx hb hts hin hown hK hP 0 rfl rfl 14 (by decide) hlink (fun _ h9 => h9) rfl hdg kk
theorem m_gi_tk (hx : p.tables.exec = Jvm.exec) (hb : c.code = cc) (hts : ∀ w ∈ Ts, w.before args s = true) (hin : ∀ w ∈ wsX20, w ∈ Ts) (hown : s.vm.findClass RX2 = some m.cls) (hK : va_K D vwCl (mT K) s) (hP : va_P D vwCl (mW O K σ) H) {v : Int32} (hv : m_tk σ = v) (hlink : (Cond.fieldLink RX2 index "MailRoomModel" "taken" "I").before args s = true) (hdg : decode cc pc = .ok (.getfield index, 3)) (kk : W p l e R s m args below meth c H locs cells slots Q (F0 m (pc + 3) ls (.int v :: rest))) : W p l e R s m args below meth c H locs cells slots Q (F0 m pc ls (.ref (O 0) :: rest)) := by
  subst hv
  exact va_get (ci := 2) (C := RX2) (T := TX2) (N := 28) hx hb hts hin hown hK hP 0 rfl rfl 15 (by decide) hlink (fun _ h9 => h9) rfl hdg kk
theorem m_pi_tk (hx : p.tables.exec = Jvm.exec) (hb : c.code = cc) (hts : ∀ w ∈ Ts, w.before args s = true) (hin : ∀ w ∈ wsX20, w ∈ Ts) (hown : s.vm.findClass RX2 = some m.cls) (hK : va_K D vwCl (mT K) s) (hP : va_P D vwCl (mW O K σ) H) (hD : va_D A (mW O K σ)) (hS : va_S A H0 H locs) (hlink : (Cond.fieldLink RX2 index "MailRoomModel" "taken" "I").before args s = true) (hdg : decode cc pc = .ok (.putfield index, 3)) (kk : ∀ (H1 : Heap) (locs1 : List Loc), va_P D vwCl (mW O K (ms_tk σ x)) H1 → va_D A (mW O K (ms_tk σ x)) → va_S A H0 H1 locs1 → W p l e R s m args below meth c H1 locs1 cells slots Q (F0 m (pc + 3) ls rest)) : W p l e R s m args below meth c H locs cells slots Q (F0 m pc ls (.int x :: .ref (O 0) :: rest)) :=
  va_put (ci := 2) (C := RX2) (T := TX2) (N := 28) (ty := .int) hx hb hts hin tyX2 tyX2_ok nmX2 hown hK hP hD hS 0 rfl rfl 15 (by decide) hlink (fun _ h9 => h9) rfl rfl rfl rfl (Nat.le_of_ble_eq_true rfl) hdg kk
theorem m_gi_fe (hx : p.tables.exec = Jvm.exec) (hb : c.code = cc) (hts : ∀ w ∈ Ts, w.before args s = true) (hin : ∀ w ∈ wsX20, w ∈ Ts) (hown : s.vm.findClass RX2 = some m.cls) (hK : va_K D vwCl (mT K) s) (hP : va_P D vwCl (mW O K σ) H) {v : Int32} (hv : m_fe σ = v) (hlink : (Cond.fieldLink RX2 index "MailRoomModel" "fell" "I").before args s = true) (hdg : decode cc pc = .ok (.getfield index, 3)) (kk : W p l e R s m args below meth c H locs cells slots Q (F0 m (pc + 3) ls (.int v :: rest))) : W p l e R s m args below meth c H locs cells slots Q (F0 m pc ls (.ref (O 0) :: rest)) := by
  subst hv
  exact va_get (ci := 2) (C := RX2) (T := TX2) (N := 28) hx hb hts hin hown hK hP 0 rfl rfl 16 (by decide) hlink (fun _ h9 => h9) rfl hdg kk
theorem m_pi_fe (hx : p.tables.exec = Jvm.exec) (hb : c.code = cc) (hts : ∀ w ∈ Ts, w.before args s = true) (hin : ∀ w ∈ wsX20, w ∈ Ts) (hown : s.vm.findClass RX2 = some m.cls) (hK : va_K D vwCl (mT K) s) (hP : va_P D vwCl (mW O K σ) H) (hD : va_D A (mW O K σ)) (hS : va_S A H0 H locs) (hlink : (Cond.fieldLink RX2 index "MailRoomModel" "fell" "I").before args s = true) (hdg : decode cc pc = .ok (.putfield index, 3)) (kk : ∀ (H1 : Heap) (locs1 : List Loc), va_P D vwCl (mW O K (ms_fe σ x)) H1 → va_D A (mW O K (ms_fe σ x)) → va_S A H0 H1 locs1 → W p l e R s m args below meth c H1 locs1 cells slots Q (F0 m (pc + 3) ls rest)) : W p l e R s m args below meth c H locs cells slots Q (F0 m pc ls (.int x :: .ref (O 0) :: rest)) :=
  va_put (ci := 2) (C := RX2) (T := TX2) (N := 28) (ty := .int) hx hb hts hin tyX2 tyX2_ok nmX2 hown hK hP hD hS 0 rfl rfl 16 (by decide) hlink (fun _ h9 => h9) rfl rfl rfl rfl (Nat.le_of_ble_eq_true rfl) hdg kk
theorem m_gi_kp (hx : p.tables.exec = Jvm.exec) (hb : c.code = cc) (hts : ∀ w ∈ Ts, w.before args s = true) (hin : ∀ w ∈ wsX20, w ∈ Ts) (hown : s.vm.findClass RX2 = some m.cls) (hK : va_K D vwCl (mT K) s) (hP : va_P D vwCl (mW O K σ) H) {v : Int32} (hv : m_kp σ = v) (hlink : (Cond.fieldLink RX2 index "MailRoomModel" "kept" "I").before args s = true) (hdg : decode cc pc = .ok (.getfield index, 3)) (kk : W p l e R s m args below meth c H locs cells slots Q (F0 m (pc + 3) ls (.int v :: rest))) : W p l e R s m args below meth c H locs cells slots Q (F0 m pc ls (.ref (O 0) :: rest)) := by
  subst hv
  exact va_get (ci := 2) (C := RX2) (T := TX2) (N := 28) hx hb hts hin hown hK hP 0 rfl rfl 17 (by decide) hlink (fun _ h9 => h9) rfl hdg kk
theorem m_pi_kp (hx : p.tables.exec = Jvm.exec) (hb : c.code = cc) (hts : ∀ w ∈ Ts, w.before args s = true) (hin : ∀ w ∈ wsX20, w ∈ Ts) (hown : s.vm.findClass RX2 = some m.cls) (hK : va_K D vwCl (mT K) s) (hP : va_P D vwCl (mW O K σ) H) (hD : va_D A (mW O K σ)) (hS : va_S A H0 H locs) (hlink : (Cond.fieldLink RX2 index "MailRoomModel" "kept" "I").before args s = true) (hdg : decode cc pc = .ok (.putfield index, 3)) (kk : ∀ (H1 : Heap) (locs1 : List Loc), va_P D vwCl (mW O K (ms_kp σ x)) H1 → va_D A (mW O K (ms_kp σ x)) → va_S A H0 H1 locs1 → W p l e R s m args below meth c H1 locs1 cells slots Q (F0 m (pc + 3) ls rest)) : W p l e R s m args below meth c H locs cells slots Q (F0 m pc ls (.int x :: .ref (O 0) :: rest)) :=
  va_put (ci := 2) (C := RX2) (T := TX2) (N := 28) (ty := .int) hx hb hts hin tyX2 tyX2_ok nmX2 hown hK hP hD hS 0 rfl rfl 17 (by decide) hlink (fun _ h9 => h9) rfl rfl rfl rfl (Nat.le_of_ble_eq_true rfl) hdg kk
theorem m_ga_14 (hx : p.tables.exec = Jvm.exec) (hb : c.code = cc) (hts : ∀ w ∈ Ts, w.before args s = true) (hin : ∀ w ∈ wsX20, w ∈ Ts) (hown : s.vm.findClass RX2 = some m.cls) (hK : va_K D vwCl (mT K) s) (hP : va_P D vwCl (mW O K σ) H) (hlink : (Cond.fieldLink RX2 index "MailRoomModel" "keptKinds" "[I").before args s = true) (hdg : decode cc pc = .ok (.getfield index, 3)) (kk : W p l e R s m args below meth c H locs cells slots Q (F0 m (pc + 3) ls (.ref (O 14) :: rest))) : W p l e R s m args below meth c H locs cells slots Q (F0 m pc ls (.ref (O 0) :: rest)) :=
  va_get (ci := 2) (C := RX2) (T := TX2) (N := 28) hx hb hts hin hown hK hP 0 rfl rfl 18 (by decide) hlink (fun _ h9 => h9) rfl hdg kk
theorem m_ga_15 (hx : p.tables.exec = Jvm.exec) (hb : c.code = cc) (hts : ∀ w ∈ Ts, w.before args s = true) (hin : ∀ w ∈ wsX20, w ∈ Ts) (hown : s.vm.findClass RX2 = some m.cls) (hK : va_K D vwCl (mT K) s) (hP : va_P D vwCl (mW O K σ) H) (hlink : (Cond.fieldLink RX2 index "MailRoomModel" "keptFailures" "[I").before args s = true) (hdg : decode cc pc = .ok (.getfield index, 3)) (kk : W p l e R s m args below meth c H locs cells slots Q (F0 m (pc + 3) ls (.ref (O 15) :: rest))) : W p l e R s m args below meth c H locs cells slots Q (F0 m pc ls (.ref (O 0) :: rest)) :=
  va_get (ci := 2) (C := RX2) (T := TX2) (N := 28) hx hb hts hin hown hK hP 0 rfl rfl 19 (by decide) hlink (fun _ h9 => h9) rfl hdg kk
theorem m_ga_16 (hx : p.tables.exec = Jvm.exec) (hb : c.code = cc) (hts : ∀ w ∈ Ts, w.before args s = true) (hin : ∀ w ∈ wsX20, w ∈ Ts) (hown : s.vm.findClass RX2 = some m.cls) (hK : va_K D vwCl (mT K) s) (hP : va_P D vwCl (mW O K σ) H) (hlink : (Cond.fieldLink RX2 index "MailRoomModel" "keptValues" "[J").before args s = true) (hdg : decode cc pc = .ok (.getfield index, 3)) (kk : W p l e R s m args below meth c H locs cells slots Q (F0 m (pc + 3) ls (.ref (O 16) :: rest))) : W p l e R s m args below meth c H locs cells slots Q (F0 m pc ls (.ref (O 0) :: rest)) :=
  va_get (ci := 2) (C := RX2) (T := TX2) (N := 28) hx hb hts hin hown hK hP 0 rfl rfl 20 (by decide) hlink (fun _ h9 => h9) rfl hdg kk
theorem m_gi_la (hx : p.tables.exec = Jvm.exec) (hb : c.code = cc) (hts : ∀ w ∈ Ts, w.before args s = true) (hin : ∀ w ∈ wsX20, w ∈ Ts) (hown : s.vm.findClass RX2 = some m.cls) (hK : va_K D vwCl (mT K) s) (hP : va_P D vwCl (mW O K σ) H) {v : Int32} (hv : m_la σ = v) (hlink : (Cond.fieldLink RX2 index "MailRoomModel" "latest" "I").before args s = true) (hdg : decode cc pc = .ok (.getfield index, 3)) (kk : W p l e R s m args below meth c H locs cells slots Q (F0 m (pc + 3) ls (.int v :: rest))) : W p l e R s m args below meth c H locs cells slots Q (F0 m pc ls (.ref (O 0) :: rest)) := by
  subst hv
  exact va_get (ci := 2) (C := RX2) (T := TX2) (N := 28) hx hb hts hin hown hK hP 0 rfl rfl 21 (by decide) hlink (fun _ h9 => h9) rfl hdg kk
theorem m_pi_la (hx : p.tables.exec = Jvm.exec) (hb : c.code = cc) (hts : ∀ w ∈ Ts, w.before args s = true) (hin : ∀ w ∈ wsX20, w ∈ Ts) (hown : s.vm.findClass RX2 = some m.cls) (hK : va_K D vwCl (mT K) s) (hP : va_P D vwCl (mW O K σ) H) (hD : va_D A (mW O K σ)) (hS : va_S A H0 H locs) (hlink : (Cond.fieldLink RX2 index "MailRoomModel" "latest" "I").before args s = true) (hdg : decode cc pc = .ok (.putfield index, 3)) (kk : ∀ (H1 : Heap) (locs1 : List Loc), va_P D vwCl (mW O K (ms_la σ x)) H1 → va_D A (mW O K (ms_la σ x)) → va_S A H0 H1 locs1 → W p l e R s m args below meth c H1 locs1 cells slots Q (F0 m (pc + 3) ls rest)) : W p l e R s m args below meth c H locs cells slots Q (F0 m pc ls (.int x :: .ref (O 0) :: rest)) :=
  va_put (ci := 2) (C := RX2) (T := TX2) (N := 28) (ty := .int) hx hb hts hin tyX2 tyX2_ok nmX2 hown hK hP hD hS 0 rfl rfl 21 (by decide) hlink (fun _ h9 => h9) rfl rfl rfl rfl (Nat.le_of_ble_eq_true rfl) hdg kk
theorem m_gi_tp (hx : p.tables.exec = Jvm.exec) (hb : c.code = cc) (hts : ∀ w ∈ Ts, w.before args s = true) (hin : ∀ w ∈ wsX20, w ∈ Ts) (hown : s.vm.findClass RX2 = some m.cls) (hK : va_K D vwCl (mT K) s) (hP : va_P D vwCl (mW O K σ) H) {v : Int32} (hv : m_tp σ = v) (hlink : (Cond.fieldLink RX2 index "MailRoomModel" "top" "I").before args s = true) (hdg : decode cc pc = .ok (.getfield index, 3)) (kk : W p l e R s m args below meth c H locs cells slots Q (F0 m (pc + 3) ls (.int v :: rest))) : W p l e R s m args below meth c H locs cells slots Q (F0 m pc ls (.ref (O 0) :: rest)) := by
  subst hv
  exact va_get (ci := 2) (C := RX2) (T := TX2) (N := 28) hx hb hts hin hown hK hP 0 rfl rfl 22 (by decide) hlink (fun _ h9 => h9) rfl hdg kk
theorem m_pi_tp (hx : p.tables.exec = Jvm.exec) (hb : c.code = cc) (hts : ∀ w ∈ Ts, w.before args s = true) (hin : ∀ w ∈ wsX20, w ∈ Ts) (hown : s.vm.findClass RX2 = some m.cls) (hK : va_K D vwCl (mT K) s) (hP : va_P D vwCl (mW O K σ) H) (hD : va_D A (mW O K σ)) (hS : va_S A H0 H locs) (hlink : (Cond.fieldLink RX2 index "MailRoomModel" "top" "I").before args s = true) (hdg : decode cc pc = .ok (.putfield index, 3)) (kk : ∀ (H1 : Heap) (locs1 : List Loc), va_P D vwCl (mW O K (ms_tp σ x)) H1 → va_D A (mW O K (ms_tp σ x)) → va_S A H0 H1 locs1 → W p l e R s m args below meth c H1 locs1 cells slots Q (F0 m (pc + 3) ls rest)) : W p l e R s m args below meth c H locs cells slots Q (F0 m pc ls (.int x :: .ref (O 0) :: rest)) :=
  va_put (ci := 2) (C := RX2) (T := TX2) (N := 28) (ty := .int) hx hb hts hin tyX2 tyX2_ok nmX2 hown hK hP hD hS 0 rfl rfl 22 (by decide) hlink (fun _ h9 => h9) rfl rfl rfl rfl (Nat.le_of_ble_eq_true rfl) hdg kk
theorem m_gi_bg (hx : p.tables.exec = Jvm.exec) (hb : c.code = cc) (hts : ∀ w ∈ Ts, w.before args s = true) (hin : ∀ w ∈ wsX20, w ∈ Ts) (hown : s.vm.findClass RX2 = some m.cls) (hK : va_K D vwCl (mT K) s) (hP : va_P D vwCl (mW O K σ) H) {v : Int32} (hv : m_bg σ = v) (hlink : (Cond.fieldLink RX2 index "MailRoomModel" "begun" "I").before args s = true) (hdg : decode cc pc = .ok (.getfield index, 3)) (kk : W p l e R s m args below meth c H locs cells slots Q (F0 m (pc + 3) ls (.int v :: rest))) : W p l e R s m args below meth c H locs cells slots Q (F0 m pc ls (.ref (O 0) :: rest)) := by
  subst hv
  exact va_get (ci := 2) (C := RX2) (T := TX2) (N := 28) hx hb hts hin hown hK hP 0 rfl rfl 23 (by decide) hlink (fun _ h9 => h9) rfl hdg kk
theorem m_pi_bg (hx : p.tables.exec = Jvm.exec) (hb : c.code = cc) (hts : ∀ w ∈ Ts, w.before args s = true) (hin : ∀ w ∈ wsX20, w ∈ Ts) (hown : s.vm.findClass RX2 = some m.cls) (hK : va_K D vwCl (mT K) s) (hP : va_P D vwCl (mW O K σ) H) (hD : va_D A (mW O K σ)) (hS : va_S A H0 H locs) (hlink : (Cond.fieldLink RX2 index "MailRoomModel" "begun" "I").before args s = true) (hdg : decode cc pc = .ok (.putfield index, 3)) (kk : ∀ (H1 : Heap) (locs1 : List Loc), va_P D vwCl (mW O K (ms_bg σ x)) H1 → va_D A (mW O K (ms_bg σ x)) → va_S A H0 H1 locs1 → W p l e R s m args below meth c H1 locs1 cells slots Q (F0 m (pc + 3) ls rest)) : W p l e R s m args below meth c H locs cells slots Q (F0 m pc ls (.int x :: .ref (O 0) :: rest)) :=
  va_put (ci := 2) (C := RX2) (T := TX2) (N := 28) (ty := .int) hx hb hts hin tyX2 tyX2_ok nmX2 hown hK hP hD hS 0 rfl rfl 23 (by decide) hlink (fun _ h9 => h9) rfl rfl rfl rfl (Nat.le_of_ble_eq_true rfl) hdg kk
theorem m_ga_17 (hx : p.tables.exec = Jvm.exec) (hb : c.code = cc) (hts : ∀ w ∈ Ts, w.before args s = true) (hin : ∀ w ∈ wsX20, w ∈ Ts) (hown : s.vm.findClass RX2 = some m.cls) (hK : va_K D vwCl (mT K) s) (hP : va_P D vwCl (mW O K σ) H) (hlink : (Cond.fieldLink RX2 index "MailRoomModel" "which" "[I").before args s = true) (hdg : decode cc pc = .ok (.getfield index, 3)) (kk : W p l e R s m args below meth c H locs cells slots Q (F0 m (pc + 3) ls (.ref (O 17) :: rest))) : W p l e R s m args below meth c H locs cells slots Q (F0 m pc ls (.ref (O 0) :: rest)) :=
  va_get (ci := 2) (C := RX2) (T := TX2) (N := 28) hx hb hts hin hown hK hP 0 rfl rfl 24 (by decide) hlink (fun _ h9 => h9) rfl hdg kk
theorem m_ga_18 (hx : p.tables.exec = Jvm.exec) (hb : c.code = cc) (hts : ∀ w ∈ Ts, w.before args s = true) (hin : ∀ w ∈ wsX20, w ∈ Ts) (hown : s.vm.findClass RX2 = some m.cls) (hK : va_K D vwCl (mT K) s) (hP : va_P D vwCl (mW O K σ) H) (hlink : (Cond.fieldLink RX2 index "MailRoomModel" "stage" "[I").before args s = true) (hdg : decode cc pc = .ok (.getfield index, 3)) (kk : W p l e R s m args below meth c H locs cells slots Q (F0 m (pc + 3) ls (.ref (O 18) :: rest))) : W p l e R s m args below meth c H locs cells slots Q (F0 m pc ls (.ref (O 0) :: rest)) :=
  va_get (ci := 2) (C := RX2) (T := TX2) (N := 28) hx hb hts hin hown hK hP 0 rfl rfl 25 (by decide) hlink (fun _ h9 => h9) rfl hdg kk
theorem m_ga_19 (hx : p.tables.exec = Jvm.exec) (hb : c.code = cc) (hts : ∀ w ∈ Ts, w.before args s = true) (hin : ∀ w ∈ wsX20, w ∈ Ts) (hown : s.vm.findClass RX2 = some m.cls) (hK : va_K D vwCl (mT K) s) (hP : va_P D vwCl (mW O K σ) H) (hlink : (Cond.fieldLink RX2 index "MailRoomModel" "value" "[J").before args s = true) (hdg : decode cc pc = .ok (.getfield index, 3)) (kk : W p l e R s m args below meth c H locs cells slots Q (F0 m (pc + 3) ls (.ref (O 19) :: rest))) : W p l e R s m args below meth c H locs cells slots Q (F0 m pc ls (.ref (O 0) :: rest)) :=
  va_get (ci := 2) (C := RX2) (T := TX2) (N := 28) hx hb hts hin hown hK hP 0 rfl rfl 26 (by decide) hlink (fun _ h9 => h9) rfl hdg kk
theorem m_gi_fa (hx : p.tables.exec = Jvm.exec) (hb : c.code = cc) (hts : ∀ w ∈ Ts, w.before args s = true) (hin : ∀ w ∈ wsX20, w ∈ Ts) (hown : s.vm.findClass RX2 = some m.cls) (hK : va_K D vwCl (mT K) s) (hP : va_P D vwCl (mW O K σ) H) {v : Int32} (hv : m_fa σ = v) (hlink : (Cond.fieldLink RX2 index "MailRoomModel" "failure" "I").before args s = true) (hdg : decode cc pc = .ok (.getfield index, 3)) (kk : W p l e R s m args below meth c H locs cells slots Q (F0 m (pc + 3) ls (.int v :: rest))) : W p l e R s m args below meth c H locs cells slots Q (F0 m pc ls (.ref (O 0) :: rest)) := by
  subst hv
  exact va_get (ci := 2) (C := RX2) (T := TX2) (N := 28) hx hb hts hin hown hK hP 0 rfl rfl 27 (by decide) hlink (fun _ h9 => h9) rfl hdg kk
theorem m_pi_fa (hx : p.tables.exec = Jvm.exec) (hb : c.code = cc) (hts : ∀ w ∈ Ts, w.before args s = true) (hin : ∀ w ∈ wsX20, w ∈ Ts) (hown : s.vm.findClass RX2 = some m.cls) (hK : va_K D vwCl (mT K) s) (hP : va_P D vwCl (mW O K σ) H) (hD : va_D A (mW O K σ)) (hS : va_S A H0 H locs) (hlink : (Cond.fieldLink RX2 index "MailRoomModel" "failure" "I").before args s = true) (hdg : decode cc pc = .ok (.putfield index, 3)) (kk : ∀ (H1 : Heap) (locs1 : List Loc), va_P D vwCl (mW O K (ms_fa σ x)) H1 → va_D A (mW O K (ms_fa σ x)) → va_S A H0 H1 locs1 → W p l e R s m args below meth c H1 locs1 cells slots Q (F0 m (pc + 3) ls rest)) : W p l e R s m args below meth c H locs cells slots Q (F0 m pc ls (.int x :: .ref (O 0) :: rest)) :=
  va_put (ci := 2) (C := RX2) (T := TX2) (N := 28) (ty := .int) hx hb hts hin tyX2 tyX2_ok nmX2 hown hK hP hD hS 0 rfl rfl 27 (by decide) hlink (fun _ h9 => h9) rfl rfl rfl rfl (Nat.le_of_ble_eq_true rfl) hdg kk
theorem m_ld_su (hx : p.tables.exec = Jvm.exec) (hb : c.code = cc) (hK : va_K D vwCl (mT K) s) (hP : va_P D vwCl (mW O K σ) H) {f : Nat → Int64} (hv : m_su σ = f) (hin : vp_in i 6) (hdg : decode cc pc = .ok (.laload, 1)) (kk : W p l e R s m args below meth c H locs cells slots Q (F0 m (pc + 1) ls (.long (f i.toNatClampNeg) :: rest))) : W p l e R s m args below meth c H locs cells slots Q (F0 m pc ls (.int i :: .ref (O 1) :: rest)) := by
  subst hv
  exact va_lald hx hb hK hP 1 0 rfl rfl hin hdg kk
theorem m_st_su (hx : p.tables.exec = Jvm.exec) (hb : c.code = cc) (hK : va_K D vwCl (mT K) s) (hP : va_P D vwCl (mW O K σ) H) (hD : va_D A (mW O K σ)) (hS : va_S A H0 H locs) {f : Nat → Int64} {z : Int64} (hv : m_su σ = f) (hin : vp_in i 6) (hdg : decode cc pc = .ok (.lastore, 1)) (kk : ∀ (H1 : Heap) (locs1 : List Loc), va_P D vwCl (mW O K (ms_su σ (vp_updL f i.toNatClampNeg z))) H1 → va_D A (mW O K (ms_su σ (vp_updL f i.toNatClampNeg z))) → va_S A H0 H1 locs1 → W p l e R s m args below meth c H1 locs1 cells slots Q (F0 m (pc + 1) ls rest)) : W p l e R s m args below meth c H locs cells slots Q (F0 m pc ls (.long z :: .int i :: .ref (O 1) :: rest)) := by
  subst hv
  exact va_last hx hb hK hP hD hS 1 0 rfl rfl hin hdg kk
theorem m_ld_co (hx : p.tables.exec = Jvm.exec) (hb : c.code = cc) (hK : va_K D vwCl (mT K) s) (hP : va_P D vwCl (mW O K σ) H) {f : Nat → Int32} (hv : m_co σ = f) (hin : vp_in i 6) (hdg : decode cc pc = .ok (.iaload, 1)) (kk : W p l e R s m args below meth c H locs cells slots Q (F0 m (pc + 1) ls (.int (f i.toNatClampNeg) :: rest))) : W p l e R s m args below meth c H locs cells slots Q (F0 m pc ls (.int i :: .ref (O 2) :: rest)) := by
  subst hv
  exact va_iald hx hb hK hP 2 1 rfl rfl hin hdg kk
theorem m_st_co (hx : p.tables.exec = Jvm.exec) (hb : c.code = cc) (hK : va_K D vwCl (mT K) s) (hP : va_P D vwCl (mW O K σ) H) (hD : va_D A (mW O K σ)) (hS : va_S A H0 H locs) {f : Nat → Int32} {z : Int32} (hv : m_co σ = f) (hin : vp_in i 6) (hdg : decode cc pc = .ok (.iastore, 1)) (kk : ∀ (H1 : Heap) (locs1 : List Loc), va_P D vwCl (mW O K (ms_co σ (upd f i.toNatClampNeg z))) H1 → va_D A (mW O K (ms_co σ (upd f i.toNatClampNeg z))) → va_S A H0 H1 locs1 → W p l e R s m args below meth c H1 locs1 cells slots Q (F0 m (pc + 1) ls rest)) : W p l e R s m args below meth c H locs cells slots Q (F0 m pc ls (.int z :: .int i :: .ref (O 2) :: rest)) := by
  subst hv
  exact va_iast hx hb hK hP hD hS 2 1 rfl rfl hin hdg kk
theorem m_ld_so (hx : p.tables.exec = Jvm.exec) (hb : c.code = cc) (hK : va_K D vwCl (mT K) s) (hP : va_P D vwCl (mW O K σ) H) {f : Nat → Int32} (hv : m_so σ = f) (hin : vp_in i 202) (hdg : decode cc pc = .ok (.iaload, 1)) (kk : W p l e R s m args below meth c H locs cells slots Q (F0 m (pc + 1) ls (.int (f i.toNatClampNeg) :: rest))) : W p l e R s m args below meth c H locs cells slots Q (F0 m pc ls (.int i :: .ref (O 3) :: rest)) := by
  subst hv
  exact va_iald hx hb hK hP 3 2 rfl rfl hin hdg kk
theorem m_st_so (hx : p.tables.exec = Jvm.exec) (hb : c.code = cc) (hK : va_K D vwCl (mT K) s) (hP : va_P D vwCl (mW O K σ) H) (hD : va_D A (mW O K σ)) (hS : va_S A H0 H locs) {f : Nat → Int32} {z : Int32} (hv : m_so σ = f) (hin : vp_in i 202) (hdg : decode cc pc = .ok (.iastore, 1)) (kk : ∀ (H1 : Heap) (locs1 : List Loc), va_P D vwCl (mW O K (ms_so σ (upd f i.toNatClampNeg z))) H1 → va_D A (mW O K (ms_so σ (upd f i.toNatClampNeg z))) → va_S A H0 H1 locs1 → W p l e R s m args below meth c H1 locs1 cells slots Q (F0 m (pc + 1) ls rest)) : W p l e R s m args below meth c H locs cells slots Q (F0 m pc ls (.int z :: .int i :: .ref (O 3) :: rest)) := by
  subst hv
  exact va_iast hx hb hK hP hD hS 3 2 rfl rfl hin hdg kk
theorem m_ld_ki (hx : p.tables.exec = Jvm.exec) (hb : c.code = cc) (hK : va_K D vwCl (mT K) s) (hP : va_P D vwCl (mW O K σ) H) {f : Nat → Int32} (hv : m_ki σ = f) (hin : vp_in i 202) (hdg : decode cc pc = .ok (.iaload, 1)) (kk : W p l e R s m args below meth c H locs cells slots Q (F0 m (pc + 1) ls (.int (f i.toNatClampNeg) :: rest))) : W p l e R s m args below meth c H locs cells slots Q (F0 m pc ls (.int i :: .ref (O 4) :: rest)) := by
  subst hv
  exact va_iald hx hb hK hP 4 3 rfl rfl hin hdg kk
theorem m_st_ki (hx : p.tables.exec = Jvm.exec) (hb : c.code = cc) (hK : va_K D vwCl (mT K) s) (hP : va_P D vwCl (mW O K σ) H) (hD : va_D A (mW O K σ)) (hS : va_S A H0 H locs) {f : Nat → Int32} {z : Int32} (hv : m_ki σ = f) (hin : vp_in i 202) (hdg : decode cc pc = .ok (.iastore, 1)) (kk : ∀ (H1 : Heap) (locs1 : List Loc), va_P D vwCl (mW O K (ms_ki σ (upd f i.toNatClampNeg z))) H1 → va_D A (mW O K (ms_ki σ (upd f i.toNatClampNeg z))) → va_S A H0 H1 locs1 → W p l e R s m args below meth c H1 locs1 cells slots Q (F0 m (pc + 1) ls rest)) : W p l e R s m args below meth c H locs cells slots Q (F0 m pc ls (.int z :: .int i :: .ref (O 4) :: rest)) := by
  subst hv
  exact va_iast hx hb hK hP hD hS 4 3 rfl rfl hin hdg kk
theorem m_ld_as (hx : p.tables.exec = Jvm.exec) (hb : c.code = cc) (hK : va_K D vwCl (mT K) s) (hP : va_P D vwCl (mW O K σ) H) {f : Nat → Int32} (hv : m_as σ = f) (hin : vp_in i 202) (hdg : decode cc pc = .ok (.iaload, 1)) (kk : W p l e R s m args below meth c H locs cells slots Q (F0 m (pc + 1) ls (.int (f i.toNatClampNeg) :: rest))) : W p l e R s m args below meth c H locs cells slots Q (F0 m pc ls (.int i :: .ref (O 5) :: rest)) := by
  subst hv
  exact va_iald hx hb hK hP 5 4 rfl rfl hin hdg kk
theorem m_st_as (hx : p.tables.exec = Jvm.exec) (hb : c.code = cc) (hK : va_K D vwCl (mT K) s) (hP : va_P D vwCl (mW O K σ) H) (hD : va_D A (mW O K σ)) (hS : va_S A H0 H locs) {f : Nat → Int32} {z : Int32} (hv : m_as σ = f) (hin : vp_in i 202) (hdg : decode cc pc = .ok (.iastore, 1)) (kk : ∀ (H1 : Heap) (locs1 : List Loc), va_P D vwCl (mW O K (ms_as σ (upd f i.toNatClampNeg z))) H1 → va_D A (mW O K (ms_as σ (upd f i.toNatClampNeg z))) → va_S A H0 H1 locs1 → W p l e R s m args below meth c H1 locs1 cells slots Q (F0 m (pc + 1) ls rest)) : W p l e R s m args below meth c H locs cells slots Q (F0 m pc ls (.int z :: .int i :: .ref (O 5) :: rest)) := by
  subst hv
  exact va_iast hx hb hK hP hD hS 5 4 rfl rfl hin hdg kk
theorem m_ld_bs (hx : p.tables.exec = Jvm.exec) (hb : c.code = cc) (hK : va_K D vwCl (mT K) s) (hP : va_P D vwCl (mW O K σ) H) {f : Nat → Int32} (hv : m_bs σ = f) (hin : vp_in i 202) (hdg : decode cc pc = .ok (.iaload, 1)) (kk : W p l e R s m args below meth c H locs cells slots Q (F0 m (pc + 1) ls (.int (f i.toNatClampNeg) :: rest))) : W p l e R s m args below meth c H locs cells slots Q (F0 m pc ls (.int i :: .ref (O 6) :: rest)) := by
  subst hv
  exact va_iald hx hb hK hP 6 5 rfl rfl hin hdg kk
theorem m_st_bs (hx : p.tables.exec = Jvm.exec) (hb : c.code = cc) (hK : va_K D vwCl (mT K) s) (hP : va_P D vwCl (mW O K σ) H) (hD : va_D A (mW O K σ)) (hS : va_S A H0 H locs) {f : Nat → Int32} {z : Int32} (hv : m_bs σ = f) (hin : vp_in i 202) (hdg : decode cc pc = .ok (.iastore, 1)) (kk : ∀ (H1 : Heap) (locs1 : List Loc), va_P D vwCl (mW O K (ms_bs σ (upd f i.toNatClampNeg z))) H1 → va_D A (mW O K (ms_bs σ (upd f i.toNatClampNeg z))) → va_S A H0 H1 locs1 → W p l e R s m args below meth c H1 locs1 cells slots Q (F0 m (pc + 1) ls rest)) : W p l e R s m args below meth c H locs cells slots Q (F0 m pc ls (.int z :: .int i :: .ref (O 6) :: rest)) := by
  subst hv
  exact va_iast hx hb hK hP hD hS 6 5 rfl rfl hin hdg kk
theorem m_ld_cs (hx : p.tables.exec = Jvm.exec) (hb : c.code = cc) (hK : va_K D vwCl (mT K) s) (hP : va_P D vwCl (mW O K σ) H) {f : Nat → Int64} (hv : m_cs σ = f) (hin : vp_in i 202) (hdg : decode cc pc = .ok (.laload, 1)) (kk : W p l e R s m args below meth c H locs cells slots Q (F0 m (pc + 1) ls (.long (f i.toNatClampNeg) :: rest))) : W p l e R s m args below meth c H locs cells slots Q (F0 m pc ls (.int i :: .ref (O 7) :: rest)) := by
  subst hv
  exact va_lald hx hb hK hP 7 6 rfl rfl hin hdg kk
theorem m_st_cs (hx : p.tables.exec = Jvm.exec) (hb : c.code = cc) (hK : va_K D vwCl (mT K) s) (hP : va_P D vwCl (mW O K σ) H) (hD : va_D A (mW O K σ)) (hS : va_S A H0 H locs) {f : Nat → Int64} {z : Int64} (hv : m_cs σ = f) (hin : vp_in i 202) (hdg : decode cc pc = .ok (.lastore, 1)) (kk : ∀ (H1 : Heap) (locs1 : List Loc), va_P D vwCl (mW O K (ms_cs σ (vp_updL f i.toNatClampNeg z))) H1 → va_D A (mW O K (ms_cs σ (vp_updL f i.toNatClampNeg z))) → va_S A H0 H1 locs1 → W p l e R s m args below meth c H1 locs1 cells slots Q (F0 m (pc + 1) ls rest)) : W p l e R s m args below meth c H locs cells slots Q (F0 m pc ls (.long z :: .int i :: .ref (O 7) :: rest)) := by
  subst hv
  exact va_last hx hb hK hP hD hS 7 6 rfl rfl hin hdg kk
theorem m_ld_fo (hx : p.tables.exec = Jvm.exec) (hb : c.code = cc) (hK : va_K D vwCl (mT K) s) (hP : va_P D vwCl (mW O K σ) H) {f : Nat → Int32} (hv : m_fo σ = f) (hin : vp_in i 202) (hdg : decode cc pc = .ok (.iaload, 1)) (kk : W p l e R s m args below meth c H locs cells slots Q (F0 m (pc + 1) ls (.int (f i.toNatClampNeg) :: rest))) : W p l e R s m args below meth c H locs cells slots Q (F0 m pc ls (.int i :: .ref (O 8) :: rest)) := by
  subst hv
  exact va_iald hx hb hK hP 8 7 rfl rfl hin hdg kk
theorem m_st_fo (hx : p.tables.exec = Jvm.exec) (hb : c.code = cc) (hK : va_K D vwCl (mT K) s) (hP : va_P D vwCl (mW O K σ) H) (hD : va_D A (mW O K σ)) (hS : va_S A H0 H locs) {f : Nat → Int32} {z : Int32} (hv : m_fo σ = f) (hin : vp_in i 202) (hdg : decode cc pc = .ok (.iastore, 1)) (kk : ∀ (H1 : Heap) (locs1 : List Loc), va_P D vwCl (mW O K (ms_fo σ (upd f i.toNatClampNeg z))) H1 → va_D A (mW O K (ms_fo σ (upd f i.toNatClampNeg z))) → va_S A H0 H1 locs1 → W p l e R s m args below meth c H1 locs1 cells slots Q (F0 m (pc + 1) ls rest)) : W p l e R s m args below meth c H locs cells slots Q (F0 m pc ls (.int z :: .int i :: .ref (O 8) :: rest)) := by
  subst hv
  exact va_iast hx hb hK hP hD hS 8 7 rfl rfl hin hdg kk
theorem m_ld_ot (hx : p.tables.exec = Jvm.exec) (hb : c.code = cc) (hK : va_K D vwCl (mT K) s) (hP : va_P D vwCl (mW O K σ) H) {f : Nat → Int32} (hv : m_ot σ = f) (hin : vp_in i 202) (hdg : decode cc pc = .ok (.iaload, 1)) (kk : W p l e R s m args below meth c H locs cells slots Q (F0 m (pc + 1) ls (.int (f i.toNatClampNeg) :: rest))) : W p l e R s m args below meth c H locs cells slots Q (F0 m pc ls (.int i :: .ref (O 9) :: rest)) := by
  subst hv
  exact va_iald hx hb hK hP 9 8 rfl rfl hin hdg kk
theorem m_st_ot (hx : p.tables.exec = Jvm.exec) (hb : c.code = cc) (hK : va_K D vwCl (mT K) s) (hP : va_P D vwCl (mW O K σ) H) (hD : va_D A (mW O K σ)) (hS : va_S A H0 H locs) {f : Nat → Int32} {z : Int32} (hv : m_ot σ = f) (hin : vp_in i 202) (hdg : decode cc pc = .ok (.iastore, 1)) (kk : ∀ (H1 : Heap) (locs1 : List Loc), va_P D vwCl (mW O K (ms_ot σ (upd f i.toNatClampNeg z))) H1 → va_D A (mW O K (ms_ot σ (upd f i.toNatClampNeg z))) → va_S A H0 H1 locs1 → W p l e R s m args below meth c H1 locs1 cells slots Q (F0 m (pc + 1) ls rest)) : W p l e R s m args below meth c H locs cells slots Q (F0 m pc ls (.int z :: .int i :: .ref (O 9) :: rest)) := by
  subst hv
  exact va_iast hx hb hK hP hD hS 9 8 rfl rfl hin hdg kk
theorem m_ld_le (hx : p.tables.exec = Jvm.exec) (hb : c.code = cc) (hK : va_K D vwCl (mT K) s) (hP : va_P D vwCl (mW O K σ) H) {f : Nat → Int32} (hv : m_le σ = f) (hin : vp_in i 202) (hdg : decode cc pc = .ok (.iaload, 1)) (kk : W p l e R s m args below meth c H locs cells slots Q (F0 m (pc + 1) ls (.int (f i.toNatClampNeg) :: rest))) : W p l e R s m args below meth c H locs cells slots Q (F0 m pc ls (.int i :: .ref (O 10) :: rest)) := by
  subst hv
  exact va_iald hx hb hK hP 10 9 rfl rfl hin hdg kk
theorem m_st_le (hx : p.tables.exec = Jvm.exec) (hb : c.code = cc) (hK : va_K D vwCl (mT K) s) (hP : va_P D vwCl (mW O K σ) H) (hD : va_D A (mW O K σ)) (hS : va_S A H0 H locs) {f : Nat → Int32} {z : Int32} (hv : m_le σ = f) (hin : vp_in i 202) (hdg : decode cc pc = .ok (.iastore, 1)) (kk : ∀ (H1 : Heap) (locs1 : List Loc), va_P D vwCl (mW O K (ms_le σ (upd f i.toNatClampNeg z))) H1 → va_D A (mW O K (ms_le σ (upd f i.toNatClampNeg z))) → va_S A H0 H1 locs1 → W p l e R s m args below meth c H1 locs1 cells slots Q (F0 m (pc + 1) ls rest)) : W p l e R s m args below meth c H locs cells slots Q (F0 m pc ls (.int z :: .int i :: .ref (O 10) :: rest)) := by
  subst hv
  exact va_iast hx hb hK hP hD hS 10 9 rfl rfl hin hdg kk
theorem m_ld_st (hx : p.tables.exec = Jvm.exec) (hb : c.code = cc) (hK : va_K D vwCl (mT K) s) (hP : va_P D vwCl (mW O K σ) H) {f : Nat → Int32} (hv : m_st σ = f) (hin : vp_in i 10) (hdg : decode cc pc = .ok (.iaload, 1)) (kk : W p l e R s m args below meth c H locs cells slots Q (F0 m (pc + 1) ls (.int (f i.toNatClampNeg) :: rest))) : W p l e R s m args below meth c H locs cells slots Q (F0 m pc ls (.int i :: .ref (O 11) :: rest)) := by
  subst hv
  exact va_iald hx hb hK hP 11 10 rfl rfl hin hdg kk
theorem m_st_st (hx : p.tables.exec = Jvm.exec) (hb : c.code = cc) (hK : va_K D vwCl (mT K) s) (hP : va_P D vwCl (mW O K σ) H) (hD : va_D A (mW O K σ)) (hS : va_S A H0 H locs) {f : Nat → Int32} {z : Int32} (hv : m_st σ = f) (hin : vp_in i 10) (hdg : decode cc pc = .ok (.iastore, 1)) (kk : ∀ (H1 : Heap) (locs1 : List Loc), va_P D vwCl (mW O K (ms_st σ (upd f i.toNatClampNeg z))) H1 → va_D A (mW O K (ms_st σ (upd f i.toNatClampNeg z))) → va_S A H0 H1 locs1 → W p l e R s m args below meth c H1 locs1 cells slots Q (F0 m (pc + 1) ls rest)) : W p l e R s m args below meth c H locs cells slots Q (F0 m pc ls (.int z :: .int i :: .ref (O 11) :: rest)) := by
  subst hv
  exact va_iast hx hb hK hP hD hS 11 10 rfl rfl hin hdg kk
theorem m_ld_qk (hx : p.tables.exec = Jvm.exec) (hb : c.code = cc) (hK : va_K D vwCl (mT K) s) (hP : va_P D vwCl (mW O K σ) H) {f : Nat → Int32} (hv : m_qk σ = f) (hin : vp_in i 40) (hdg : decode cc pc = .ok (.iaload, 1)) (kk : W p l e R s m args below meth c H locs cells slots Q (F0 m (pc + 1) ls (.int (f i.toNatClampNeg) :: rest))) : W p l e R s m args below meth c H locs cells slots Q (F0 m pc ls (.int i :: .ref (O 12) :: rest)) := by
  subst hv
  exact va_iald hx hb hK hP 12 11 rfl rfl hin hdg kk
theorem m_st_qk (hx : p.tables.exec = Jvm.exec) (hb : c.code = cc) (hK : va_K D vwCl (mT K) s) (hP : va_P D vwCl (mW O K σ) H) (hD : va_D A (mW O K σ)) (hS : va_S A H0 H locs) {f : Nat → Int32} {z : Int32} (hv : m_qk σ = f) (hin : vp_in i 40) (hdg : decode cc pc = .ok (.iastore, 1)) (kk : ∀ (H1 : Heap) (locs1 : List Loc), va_P D vwCl (mW O K (ms_qk σ (upd f i.toNatClampNeg z))) H1 → va_D A (mW O K (ms_qk σ (upd f i.toNatClampNeg z))) → va_S A H0 H1 locs1 → W p l e R s m args below meth c H1 locs1 cells slots Q (F0 m (pc + 1) ls rest)) : W p l e R s m args below meth c H locs cells slots Q (F0 m pc ls (.int z :: .int i :: .ref (O 12) :: rest)) := by
  subst hv
  exact va_iast hx hb hK hP hD hS 12 11 rfl rfl hin hdg kk
theorem m_ld_qv (hx : p.tables.exec = Jvm.exec) (hb : c.code = cc) (hK : va_K D vwCl (mT K) s) (hP : va_P D vwCl (mW O K σ) H) {f : Nat → Int64} (hv : m_qv σ = f) (hin : vp_in i 40) (hdg : decode cc pc = .ok (.laload, 1)) (kk : W p l e R s m args below meth c H locs cells slots Q (F0 m (pc + 1) ls (.long (f i.toNatClampNeg) :: rest))) : W p l e R s m args below meth c H locs cells slots Q (F0 m pc ls (.int i :: .ref (O 13) :: rest)) := by
  subst hv
  exact va_lald hx hb hK hP 13 12 rfl rfl hin hdg kk
theorem m_st_qv (hx : p.tables.exec = Jvm.exec) (hb : c.code = cc) (hK : va_K D vwCl (mT K) s) (hP : va_P D vwCl (mW O K σ) H) (hD : va_D A (mW O K σ)) (hS : va_S A H0 H locs) {f : Nat → Int64} {z : Int64} (hv : m_qv σ = f) (hin : vp_in i 40) (hdg : decode cc pc = .ok (.lastore, 1)) (kk : ∀ (H1 : Heap) (locs1 : List Loc), va_P D vwCl (mW O K (ms_qv σ (vp_updL f i.toNatClampNeg z))) H1 → va_D A (mW O K (ms_qv σ (vp_updL f i.toNatClampNeg z))) → va_S A H0 H1 locs1 → W p l e R s m args below meth c H1 locs1 cells slots Q (F0 m (pc + 1) ls rest)) : W p l e R s m args below meth c H locs cells slots Q (F0 m pc ls (.long z :: .int i :: .ref (O 13) :: rest)) := by
  subst hv
  exact va_last hx hb hK hP hD hS 13 12 rfl rfl hin hdg kk
theorem m_ld_kk (hx : p.tables.exec = Jvm.exec) (hb : c.code = cc) (hK : va_K D vwCl (mT K) s) (hP : va_P D vwCl (mW O K σ) H) {f : Nat → Int32} (hv : m_kk σ = f) (hin : vp_in i 30) (hdg : decode cc pc = .ok (.iaload, 1)) (kk : W p l e R s m args below meth c H locs cells slots Q (F0 m (pc + 1) ls (.int (f i.toNatClampNeg) :: rest))) : W p l e R s m args below meth c H locs cells slots Q (F0 m pc ls (.int i :: .ref (O 14) :: rest)) := by
  subst hv
  exact va_iald hx hb hK hP 14 13 rfl rfl hin hdg kk
theorem m_st_kk (hx : p.tables.exec = Jvm.exec) (hb : c.code = cc) (hK : va_K D vwCl (mT K) s) (hP : va_P D vwCl (mW O K σ) H) (hD : va_D A (mW O K σ)) (hS : va_S A H0 H locs) {f : Nat → Int32} {z : Int32} (hv : m_kk σ = f) (hin : vp_in i 30) (hdg : decode cc pc = .ok (.iastore, 1)) (kk : ∀ (H1 : Heap) (locs1 : List Loc), va_P D vwCl (mW O K (ms_kk σ (upd f i.toNatClampNeg z))) H1 → va_D A (mW O K (ms_kk σ (upd f i.toNatClampNeg z))) → va_S A H0 H1 locs1 → W p l e R s m args below meth c H1 locs1 cells slots Q (F0 m (pc + 1) ls rest)) : W p l e R s m args below meth c H locs cells slots Q (F0 m pc ls (.int z :: .int i :: .ref (O 14) :: rest)) := by
  subst hv
  exact va_iast hx hb hK hP hD hS 14 13 rfl rfl hin hdg kk
theorem m_ld_kf (hx : p.tables.exec = Jvm.exec) (hb : c.code = cc) (hK : va_K D vwCl (mT K) s) (hP : va_P D vwCl (mW O K σ) H) {f : Nat → Int32} (hv : m_kf σ = f) (hin : vp_in i 30) (hdg : decode cc pc = .ok (.iaload, 1)) (kk : W p l e R s m args below meth c H locs cells slots Q (F0 m (pc + 1) ls (.int (f i.toNatClampNeg) :: rest))) : W p l e R s m args below meth c H locs cells slots Q (F0 m pc ls (.int i :: .ref (O 15) :: rest)) := by
  subst hv
  exact va_iald hx hb hK hP 15 14 rfl rfl hin hdg kk
theorem m_st_kf (hx : p.tables.exec = Jvm.exec) (hb : c.code = cc) (hK : va_K D vwCl (mT K) s) (hP : va_P D vwCl (mW O K σ) H) (hD : va_D A (mW O K σ)) (hS : va_S A H0 H locs) {f : Nat → Int32} {z : Int32} (hv : m_kf σ = f) (hin : vp_in i 30) (hdg : decode cc pc = .ok (.iastore, 1)) (kk : ∀ (H1 : Heap) (locs1 : List Loc), va_P D vwCl (mW O K (ms_kf σ (upd f i.toNatClampNeg z))) H1 → va_D A (mW O K (ms_kf σ (upd f i.toNatClampNeg z))) → va_S A H0 H1 locs1 → W p l e R s m args below meth c H1 locs1 cells slots Q (F0 m (pc + 1) ls rest)) : W p l e R s m args below meth c H locs cells slots Q (F0 m pc ls (.int z :: .int i :: .ref (O 15) :: rest)) := by
  subst hv
  exact va_iast hx hb hK hP hD hS 15 14 rfl rfl hin hdg kk
theorem m_ld_kv (hx : p.tables.exec = Jvm.exec) (hb : c.code = cc) (hK : va_K D vwCl (mT K) s) (hP : va_P D vwCl (mW O K σ) H) {f : Nat → Int64} (hv : m_kv σ = f) (hin : vp_in i 30) (hdg : decode cc pc = .ok (.laload, 1)) (kk : W p l e R s m args below meth c H locs cells slots Q (F0 m (pc + 1) ls (.long (f i.toNatClampNeg) :: rest))) : W p l e R s m args below meth c H locs cells slots Q (F0 m pc ls (.int i :: .ref (O 16) :: rest)) := by
  subst hv
  exact va_lald hx hb hK hP 16 15 rfl rfl hin hdg kk
theorem m_st_kv (hx : p.tables.exec = Jvm.exec) (hb : c.code = cc) (hK : va_K D vwCl (mT K) s) (hP : va_P D vwCl (mW O K σ) H) (hD : va_D A (mW O K σ)) (hS : va_S A H0 H locs) {f : Nat → Int64} {z : Int64} (hv : m_kv σ = f) (hin : vp_in i 30) (hdg : decode cc pc = .ok (.lastore, 1)) (kk : ∀ (H1 : Heap) (locs1 : List Loc), va_P D vwCl (mW O K (ms_kv σ (vp_updL f i.toNatClampNeg z))) H1 → va_D A (mW O K (ms_kv σ (vp_updL f i.toNatClampNeg z))) → va_S A H0 H1 locs1 → W p l e R s m args below meth c H1 locs1 cells slots Q (F0 m (pc + 1) ls rest)) : W p l e R s m args below meth c H locs cells slots Q (F0 m pc ls (.long z :: .int i :: .ref (O 16) :: rest)) := by
  subst hv
  exact va_last hx hb hK hP hD hS 16 15 rfl rfl hin hdg kk
theorem m_ld_wh (hx : p.tables.exec = Jvm.exec) (hb : c.code = cc) (hK : va_K D vwCl (mT K) s) (hP : va_P D vwCl (mW O K σ) H) {f : Nat → Int32} (hv : m_wh σ = f) (hin : vp_in i 8) (hdg : decode cc pc = .ok (.iaload, 1)) (kk : W p l e R s m args below meth c H locs cells slots Q (F0 m (pc + 1) ls (.int (f i.toNatClampNeg) :: rest))) : W p l e R s m args below meth c H locs cells slots Q (F0 m pc ls (.int i :: .ref (O 17) :: rest)) := by
  subst hv
  exact va_iald hx hb hK hP 17 16 rfl rfl hin hdg kk
theorem m_st_wh (hx : p.tables.exec = Jvm.exec) (hb : c.code = cc) (hK : va_K D vwCl (mT K) s) (hP : va_P D vwCl (mW O K σ) H) (hD : va_D A (mW O K σ)) (hS : va_S A H0 H locs) {f : Nat → Int32} {z : Int32} (hv : m_wh σ = f) (hin : vp_in i 8) (hdg : decode cc pc = .ok (.iastore, 1)) (kk : ∀ (H1 : Heap) (locs1 : List Loc), va_P D vwCl (mW O K (ms_wh σ (upd f i.toNatClampNeg z))) H1 → va_D A (mW O K (ms_wh σ (upd f i.toNatClampNeg z))) → va_S A H0 H1 locs1 → W p l e R s m args below meth c H1 locs1 cells slots Q (F0 m (pc + 1) ls rest)) : W p l e R s m args below meth c H locs cells slots Q (F0 m pc ls (.int z :: .int i :: .ref (O 17) :: rest)) := by
  subst hv
  exact va_iast hx hb hK hP hD hS 17 16 rfl rfl hin hdg kk
theorem m_ld_sg (hx : p.tables.exec = Jvm.exec) (hb : c.code = cc) (hK : va_K D vwCl (mT K) s) (hP : va_P D vwCl (mW O K σ) H) {f : Nat → Int32} (hv : m_sg σ = f) (hin : vp_in i 8) (hdg : decode cc pc = .ok (.iaload, 1)) (kk : W p l e R s m args below meth c H locs cells slots Q (F0 m (pc + 1) ls (.int (f i.toNatClampNeg) :: rest))) : W p l e R s m args below meth c H locs cells slots Q (F0 m pc ls (.int i :: .ref (O 18) :: rest)) := by
  subst hv
  exact va_iald hx hb hK hP 18 17 rfl rfl hin hdg kk
theorem m_st_sg (hx : p.tables.exec = Jvm.exec) (hb : c.code = cc) (hK : va_K D vwCl (mT K) s) (hP : va_P D vwCl (mW O K σ) H) (hD : va_D A (mW O K σ)) (hS : va_S A H0 H locs) {f : Nat → Int32} {z : Int32} (hv : m_sg σ = f) (hin : vp_in i 8) (hdg : decode cc pc = .ok (.iastore, 1)) (kk : ∀ (H1 : Heap) (locs1 : List Loc), va_P D vwCl (mW O K (ms_sg σ (upd f i.toNatClampNeg z))) H1 → va_D A (mW O K (ms_sg σ (upd f i.toNatClampNeg z))) → va_S A H0 H1 locs1 → W p l e R s m args below meth c H1 locs1 cells slots Q (F0 m (pc + 1) ls rest)) : W p l e R s m args below meth c H locs cells slots Q (F0 m pc ls (.int z :: .int i :: .ref (O 18) :: rest)) := by
  subst hv
  exact va_iast hx hb hK hP hD hS 18 17 rfl rfl hin hdg kk
theorem m_ld_va (hx : p.tables.exec = Jvm.exec) (hb : c.code = cc) (hK : va_K D vwCl (mT K) s) (hP : va_P D vwCl (mW O K σ) H) {f : Nat → Int64} (hv : m_va σ = f) (hin : vp_in i 8) (hdg : decode cc pc = .ok (.laload, 1)) (kk : W p l e R s m args below meth c H locs cells slots Q (F0 m (pc + 1) ls (.long (f i.toNatClampNeg) :: rest))) : W p l e R s m args below meth c H locs cells slots Q (F0 m pc ls (.int i :: .ref (O 19) :: rest)) := by
  subst hv
  exact va_lald hx hb hK hP 19 18 rfl rfl hin hdg kk
theorem m_st_va (hx : p.tables.exec = Jvm.exec) (hb : c.code = cc) (hK : va_K D vwCl (mT K) s) (hP : va_P D vwCl (mW O K σ) H) (hD : va_D A (mW O K σ)) (hS : va_S A H0 H locs) {f : Nat → Int64} {z : Int64} (hv : m_va σ = f) (hin : vp_in i 8) (hdg : decode cc pc = .ok (.lastore, 1)) (kk : ∀ (H1 : Heap) (locs1 : List Loc), va_P D vwCl (mW O K (ms_va σ (vp_updL f i.toNatClampNeg z))) H1 → va_D A (mW O K (ms_va σ (vp_updL f i.toNatClampNeg z))) → va_S A H0 H1 locs1 → W p l e R s m args below meth c H1 locs1 cells slots Q (F0 m (pc + 1) ls rest)) : W p l e R s m args below meth c H locs cells slots Q (F0 m pc ls (.long z :: .int i :: .ref (O 19) :: rest)) := by
  subst hv
  exact va_last hx hb hK hP hD hS 19 18 rfl rfl hin hdg kk
end MROWS
end
section
noncomputable def mf_in  (v : Int32) (lo : Int32) (hi : Int32) : Int32 := if v < lo then 0 else (if hi < v then 0 else 1)
set_option maxRecDepth 100000 in
set_option maxHeartbeats 4000000 in
theorem cMM_in (l : Launch) (v : Int32) (lo : Int32) (hi : Int32) : cS l yX2_in wsX2_in { frames := 0, cells := 0, slots := 0, locals := 0 } [.int v, .int lo, .int hi] (mf_in v lo hi) := by
  refine z_startS (cc := cX2_in) (maxL := 3) (ret := (some .boolean)) (by decide) rfl (Nat.le_of_ble_eq_true rfl) ?_
  intro p e s m below meth c X ls hl
  obtain ⟨hx, hb, hr, hml, hts, hown, hlocks, hnm⟩ := X
  have hown : s.vm.findClass RX2 = some m.cls := hown
  have hl : lv_has ls 3 [(0, .int v), (1, .int lo), (2, .int hi)] := hl
  have XX : CallFix p m c cX2_in 3 s _ wsX2_in RX2 := ⟨hx, hb, hml, hown, hts⟩
  refine lv_iload_n hx hb dX2_in_0 rfl (lv_at hl 0 rfl) ?_
  refine lv_iload_n hx hb dX2_in_1 rfl (lv_at hl 1 rfl) ?_
  refine lv_icmp_lt (tgt := 14) hx hb dX2_in_2 (by decide) (fun c2 => ?_) (fun c2 => ?_)
  · refine lv_iconst (v := 0) hx hb dX2_in_14 (by decide) ?_
    exact z_retS hx hb hr hlocks (rfl) (((if_pos c2).trans (rfl)).symm) dX2_in_15
  · refine lv_iload_n hx hb dX2_in_5 rfl (lv_at hl 0 rfl) ?_
    refine lv_iload_n hx hb dX2_in_6 rfl (lv_at hl 2 rfl) ?_
    refine lv_icmp_gt (tgt := 14) hx hb dX2_in_7 (by decide) (fun c7 => ?_) (fun c7 => ?_)
    · refine lv_iconst (v := 0) hx hb dX2_in_14 (by decide) ?_
      exact z_retS hx hb hr hlocks (rfl) (((if_neg c2).trans ((if_pos c7).trans (rfl))).symm) dX2_in_15
    · refine lv_iconst (v := 1) hx hb dX2_in_10 (by decide) ?_
      refine lv_goto (tgt := 15) hx hb dX2_in_11 (by decide) ?_
      exact z_retS hx hb hr hlocks (rfl) (((if_neg c2).trans ((if_neg c7).trans (rfl))).symm) dX2_in_15
theorem nb_mf_in (v : Int32) (lo : Int32) (hi : Int32) : narrow .boolean (.int (mf_in v lo hi)) = .int (mf_in v lo hi) := by
  unfold mf_in
  repeat' split
  all_goals first | rfl | exact nb_mf_in .. | exact nb_mf_isBox .. | exact nb_mf_isKind ..
noncomputable def mf_isKind  (k : Int32) : Int32 := (mf_in k 0 9)
set_option maxRecDepth 100000 in
set_option maxHeartbeats 4000000 in
theorem cMM_isKind (l : Launch) (k : Int32) : cS l yX2_isKind wsX2_isKind { frames := 1, cells := 0, slots := 0, locals := 100 } [.int k] (mf_isKind k) := by
  refine z_startS (cc := cX2_isKind) (maxL := 1) (ret := (some .boolean)) (by decide) rfl (Nat.le_of_ble_eq_true rfl) ?_
  intro p e s m below meth c X ls hl
  obtain ⟨hx, hb, hr, hml, hts, hown, hlocks, hnm⟩ := X
  have hown : s.vm.findClass RX2 = some m.cls := hown
  have hl : lv_has ls 1 [(0, .int k)] := hl
  have XX : CallFix p m c cX2_isKind 1 s _ wsX2_isKind RX2 := ⟨hx, hb, hml, hown, hts⟩
  refine lv_iload_n hx hb dX2_isKind_0 rfl (lv_at hl 0 rfl) ?_
  refine lv_iconst (v := 0) hx hb dX2_isKind_1 (by decide) ?_
  refine lv_bipush (v := 9) hx hb dX2_isKind_2 (by decide) ?_
  refine z_calls (As := [.int k, .int 0, .int 9]) (rest := []) XX (cMM_in l k 0 9) (va_cwS 3 hts gX2_isKind_X2_in rfl rfl rfl qX2_in ⟨by decide, by decide⟩) rfl hl.1 rfl (Nat.le_of_ble_eq_true rfl) dX2_isKind_4 ⟨Nat.zero_le _, Nat.zero_le _⟩ ?_
  exact z_retS hx hb hr hlocks (nb_mf_in ..) ((rfl).symm) dX2_isKind_7
theorem nb_mf_isKind (k : Int32) : narrow .boolean (.int (mf_isKind k)) = .int (mf_isKind k) := by
  unfold mf_isKind
  repeat' split
  all_goals first | rfl | exact nb_mf_in .. | exact nb_mf_isBox .. | exact nb_mf_isKind ..
noncomputable def mf_isBox  (b : Int32) : Int32 := (mf_in b 0 5)
set_option maxRecDepth 100000 in
set_option maxHeartbeats 4000000 in
theorem cMM_isBox (l : Launch) (b : Int32) : cS l yX2_isBox wsX2_isBox { frames := 1, cells := 0, slots := 0, locals := 100 } [.int b] (mf_isBox b) := by
  refine z_startS (cc := cX2_isBox) (maxL := 1) (ret := (some .boolean)) (by decide) rfl (Nat.le_of_ble_eq_true rfl) ?_
  intro p e s m below meth c X ls hl
  obtain ⟨hx, hb, hr, hml, hts, hown, hlocks, hnm⟩ := X
  have hown : s.vm.findClass RX2 = some m.cls := hown
  have hl : lv_has ls 1 [(0, .int b)] := hl
  have XX : CallFix p m c cX2_isBox 1 s _ wsX2_isBox RX2 := ⟨hx, hb, hml, hown, hts⟩
  refine lv_iload_n hx hb dX2_isBox_0 rfl (lv_at hl 0 rfl) ?_
  refine lv_iconst (v := 0) hx hb dX2_isBox_1 (by decide) ?_
  refine lv_iconst (v := 5) hx hb dX2_isBox_2 (by decide) ?_
  refine z_calls (As := [.int b, .int 0, .int 5]) (rest := []) XX (cMM_in l b 0 5) (va_cwS 3 hts gX2_isBox_X2_in rfl rfl rfl qX2_in ⟨by decide, by decide⟩) rfl hl.1 rfl (Nat.le_of_ble_eq_true rfl) dX2_isBox_3 ⟨Nat.zero_le _, Nat.zero_le _⟩ ?_
  exact z_retS hx hb hr hlocks (nb_mf_in ..) ((rfl).symm) dX2_isBox_6
theorem nb_mf_isBox (b : Int32) : narrow .boolean (.int (mf_isBox b)) = .int (mf_isBox b) := by
  unfold mf_isBox
  repeat' split
  all_goals first | rfl | exact nb_mf_in .. | exact nb_mf_isBox .. | exact nb_mf_isKind ..
noncomputable def mf_areKnown  (sort : Int32) (a : Int32) (b : Int32) : Int32 := if sort = 0 then (mf_isBox a) else (if sort = 1 then (mf_isKind a) else (if sort = 2 then (mf_isKind a) else (if sort = 3 then (mf_isKind a) else (if sort = 4 then 1 else (if sort = 5 then 1 else (if sort = 6 then (mf_isBox a) else (if sort = 7 then (mf_isKind a) else (if sort = 8 then (if (mf_isBox a) = 0 then 0 else (if (mf_isBox b) = 0 then 0 else 1)) else (if sort = 9 then 1 else (if sort = 10 then (mf_isBox a) else (if sort = 11 then (mf_isBox a) else 1)))))))))))
set_option maxRecDepth 100000 in
set_option maxHeartbeats 4000000 in
theorem cMM_areKnown (l : Launch) (sort : Int32) (a : Int32) (b : Int32) : cS l yX2_areKnown wsX2_areKnown { frames := 2, cells := 0, slots := 0, locals := 200 } [.int sort, .int a, .int b] (mf_areKnown sort a b) := by
  refine z_startS (cc := cX2_areKnown) (maxL := 3) (ret := (some .boolean)) (by decide) rfl (Nat.le_of_ble_eq_true rfl) ?_
  intro p e s m below meth c X ls hl
  obtain ⟨hx, hb, hr, hml, hts, hown, hlocks, hnm⟩ := X
  have hown : s.vm.findClass RX2 = some m.cls := hown
  have hl : lv_has ls 3 [(0, .int sort), (1, .int a), (2, .int b)] := hl
  have XX : CallFix p m c cX2_areKnown 3 s _ wsX2_areKnown RX2 := ⟨hx, hb, hml, hown, hts⟩
  refine lv_iload_n hx hb dX2_areKnown_0 rfl (lv_at hl 0 rfl) ?_
  by_cases t1_0 : sort = 0
  · refine lv_tableIn (off := 63) (tgt := 64) hx hb dX2_areKnown_1 (by rw [t1_0]; decide) (by rw [t1_0]; decide) (by rw [t1_0]; rfl) (by decide) ?_
    refine lv_iload_n hx hb dX2_areKnown_64 rfl (lv_at hl 1 rfl) ?_
    refine z_calls (As := [.int a]) (rest := []) XX (cMM_isBox l a) (va_cwS 1 hts gX2_areKnown_X2_isBox rfl rfl rfl qX2_isBox ⟨by decide, by decide⟩) rfl hl.1 rfl (Nat.le_of_ble_eq_true rfl) dX2_areKnown_65 ⟨Nat.zero_le _, Nat.zero_le _⟩ ?_
    exact z_retS hx hb hr hlocks (nb_mf_isBox ..) (((if_pos t1_0).trans (rfl)).symm) dX2_areKnown_68
  · by_cases t1_1 : sort = 1
    · refine lv_tableIn (off := 88) (tgt := 89) hx hb dX2_areKnown_1 (by rw [t1_1]; decide) (by rw [t1_1]; decide) (by rw [t1_1]; rfl) (by decide) ?_
      refine lv_iload_n hx hb dX2_areKnown_89 rfl (lv_at hl 1 rfl) ?_
      refine z_calls (As := [.int a]) (rest := []) XX (cMM_isKind l a) (va_cwS 1 hts gX2_areKnown_X2_isKind rfl rfl rfl qX2_isKind ⟨by decide, by decide⟩) rfl hl.1 rfl (Nat.le_of_ble_eq_true rfl) dX2_areKnown_90 ⟨Nat.zero_le _, Nat.zero_le _⟩ ?_
      exact z_retS hx hb hr hlocks (nb_mf_isKind ..) (((if_neg t1_0).trans ((if_pos t1_1).trans (rfl))).symm) dX2_areKnown_93
    · by_cases t1_2 : sort = 2
      · refine lv_tableIn (off := 88) (tgt := 89) hx hb dX2_areKnown_1 (by rw [t1_2]; decide) (by rw [t1_2]; decide) (by rw [t1_2]; rfl) (by decide) ?_
        refine lv_iload_n hx hb dX2_areKnown_89 rfl (lv_at hl 1 rfl) ?_
        refine z_calls (As := [.int a]) (rest := []) XX (cMM_isKind l a) (va_cwS 1 hts gX2_areKnown_X2_isKind rfl rfl rfl qX2_isKind ⟨by decide, by decide⟩) rfl hl.1 rfl (Nat.le_of_ble_eq_true rfl) dX2_areKnown_90 ⟨Nat.zero_le _, Nat.zero_le _⟩ ?_
        exact z_retS hx hb hr hlocks (nb_mf_isKind ..) (((if_neg t1_0).trans ((if_neg t1_1).trans ((if_pos t1_2).trans (rfl)))).symm) dX2_areKnown_93
      · by_cases t1_3 : sort = 3
        · refine lv_tableIn (off := 88) (tgt := 89) hx hb dX2_areKnown_1 (by rw [t1_3]; decide) (by rw [t1_3]; decide) (by rw [t1_3]; rfl) (by decide) ?_
          refine lv_iload_n hx hb dX2_areKnown_89 rfl (lv_at hl 1 rfl) ?_
          refine z_calls (As := [.int a]) (rest := []) XX (cMM_isKind l a) (va_cwS 1 hts gX2_areKnown_X2_isKind rfl rfl rfl qX2_isKind ⟨by decide, by decide⟩) rfl hl.1 rfl (Nat.le_of_ble_eq_true rfl) dX2_areKnown_90 ⟨Nat.zero_le _, Nat.zero_le _⟩ ?_
          exact z_retS hx hb hr hlocks (nb_mf_isKind ..) (((if_neg t1_0).trans ((if_neg t1_1).trans ((if_neg t1_2).trans ((if_pos t1_3).trans (rfl))))).symm) dX2_areKnown_93
        · by_cases t1_4 : sort = 4
          · refine lv_tableIn (off := 93) (tgt := 94) hx hb dX2_areKnown_1 (by rw [t1_4]; decide) (by rw [t1_4]; decide) (by rw [t1_4]; rfl) (by decide) ?_
            refine lv_iconst (v := 1) hx hb dX2_areKnown_94 (by decide) ?_
            exact z_retS hx hb hr hlocks (rfl) (((if_neg t1_0).trans ((if_neg t1_1).trans ((if_neg t1_2).trans ((if_neg t1_3).trans ((if_pos t1_4).trans (rfl)))))).symm) dX2_areKnown_95
          · by_cases t1_5 : sort = 5
            · refine lv_tableIn (off := 93) (tgt := 94) hx hb dX2_areKnown_1 (by rw [t1_5]; decide) (by rw [t1_5]; decide) (by rw [t1_5]; rfl) (by decide) ?_
              refine lv_iconst (v := 1) hx hb dX2_areKnown_94 (by decide) ?_
              exact z_retS hx hb hr hlocks (rfl) (((if_neg t1_0).trans ((if_neg t1_1).trans ((if_neg t1_2).trans ((if_neg t1_3).trans ((if_neg t1_4).trans ((if_pos t1_5).trans (rfl))))))).symm) dX2_areKnown_95
            · by_cases t1_6 : sort = 6
              · refine lv_tableIn (off := 63) (tgt := 64) hx hb dX2_areKnown_1 (by rw [t1_6]; decide) (by rw [t1_6]; decide) (by rw [t1_6]; rfl) (by decide) ?_
                refine lv_iload_n hx hb dX2_areKnown_64 rfl (lv_at hl 1 rfl) ?_
                refine z_calls (As := [.int a]) (rest := []) XX (cMM_isBox l a) (va_cwS 1 hts gX2_areKnown_X2_isBox rfl rfl rfl qX2_isBox ⟨by decide, by decide⟩) rfl hl.1 rfl (Nat.le_of_ble_eq_true rfl) dX2_areKnown_65 ⟨Nat.zero_le _, Nat.zero_le _⟩ ?_
                exact z_retS hx hb hr hlocks (nb_mf_isBox ..) (((if_neg t1_0).trans ((if_neg t1_1).trans ((if_neg t1_2).trans ((if_neg t1_3).trans ((if_neg t1_4).trans ((if_neg t1_5).trans ((if_pos t1_6).trans (rfl)))))))).symm) dX2_areKnown_68
              · by_cases t1_7 : sort = 7
                · refine lv_tableIn (off := 88) (tgt := 89) hx hb dX2_areKnown_1 (by rw [t1_7]; decide) (by rw [t1_7]; decide) (by rw [t1_7]; rfl) (by decide) ?_
                  refine lv_iload_n hx hb dX2_areKnown_89 rfl (lv_at hl 1 rfl) ?_
                  refine z_calls (As := [.int a]) (rest := []) XX (cMM_isKind l a) (va_cwS 1 hts gX2_areKnown_X2_isKind rfl rfl rfl qX2_isKind ⟨by decide, by decide⟩) rfl hl.1 rfl (Nat.le_of_ble_eq_true rfl) dX2_areKnown_90 ⟨Nat.zero_le _, Nat.zero_le _⟩ ?_
                  exact z_retS hx hb hr hlocks (nb_mf_isKind ..) (((if_neg t1_0).trans ((if_neg t1_1).trans ((if_neg t1_2).trans ((if_neg t1_3).trans ((if_neg t1_4).trans ((if_neg t1_5).trans ((if_neg t1_6).trans ((if_pos t1_7).trans (rfl))))))))).symm) dX2_areKnown_93
                · by_cases t1_8 : sort = 8
                  · refine lv_tableIn (off := 68) (tgt := 69) hx hb dX2_areKnown_1 (by rw [t1_8]; decide) (by rw [t1_8]; decide) (by rw [t1_8]; rfl) (by decide) ?_
                    refine lv_iload_n hx hb dX2_areKnown_69 rfl (lv_at hl 1 rfl) ?_
                    refine z_calls (As := [.int a]) (rest := []) XX (cMM_isBox l a) (va_cwS 1 hts gX2_areKnown_X2_isBox rfl rfl rfl qX2_isBox ⟨by decide, by decide⟩) rfl hl.1 rfl (Nat.le_of_ble_eq_true rfl) dX2_areKnown_70 ⟨Nat.zero_le _, Nat.zero_le _⟩ ?_
                    refine lv_if_eq (tgt := 87) hx hb dX2_areKnown_73 (by decide) (fun c73 => ?_) (fun c73 => ?_)
                    · refine lv_iconst (v := 0) hx hb dX2_areKnown_87 (by decide) ?_
                      exact z_retS hx hb hr hlocks (rfl) (((if_neg t1_0).trans ((if_neg t1_1).trans ((if_neg t1_2).trans ((if_neg t1_3).trans ((if_neg t1_4).trans ((if_neg t1_5).trans ((if_neg t1_6).trans ((if_neg t1_7).trans ((if_pos t1_8).trans ((if_pos c73).trans (rfl))))))))))).symm) dX2_areKnown_88
                    · refine lv_iload_n hx hb dX2_areKnown_76 rfl (lv_at hl 2 rfl) ?_
                      refine z_calls (As := [.int b]) (rest := []) XX (cMM_isBox l b) (va_cwS 1 hts gX2_areKnown_X2_isBox rfl rfl rfl qX2_isBox ⟨by decide, by decide⟩) rfl hl.1 rfl (Nat.le_of_ble_eq_true rfl) dX2_areKnown_77 ⟨Nat.zero_le _, Nat.zero_le _⟩ ?_
                      refine lv_if_eq (tgt := 87) hx hb dX2_areKnown_80 (by decide) (fun c80 => ?_) (fun c80 => ?_)
                      · refine lv_iconst (v := 0) hx hb dX2_areKnown_87 (by decide) ?_
                        exact z_retS hx hb hr hlocks (rfl) (((if_neg t1_0).trans ((if_neg t1_1).trans ((if_neg t1_2).trans ((if_neg t1_3).trans ((if_neg t1_4).trans ((if_neg t1_5).trans ((if_neg t1_6).trans ((if_neg t1_7).trans ((if_pos t1_8).trans ((if_neg c73).trans ((if_pos c80).trans (rfl)))))))))))).symm) dX2_areKnown_88
                      · refine lv_iconst (v := 1) hx hb dX2_areKnown_83 (by decide) ?_
                        refine lv_goto (tgt := 88) hx hb dX2_areKnown_84 (by decide) ?_
                        exact z_retS hx hb hr hlocks (rfl) (((if_neg t1_0).trans ((if_neg t1_1).trans ((if_neg t1_2).trans ((if_neg t1_3).trans ((if_neg t1_4).trans ((if_neg t1_5).trans ((if_neg t1_6).trans ((if_neg t1_7).trans ((if_pos t1_8).trans ((if_neg c73).trans ((if_neg c80).trans (rfl)))))))))))).symm) dX2_areKnown_88
                  · by_cases t1_9 : sort = 9
                    · refine lv_tableIn (off := 93) (tgt := 94) hx hb dX2_areKnown_1 (by rw [t1_9]; decide) (by rw [t1_9]; decide) (by rw [t1_9]; rfl) (by decide) ?_
                      refine lv_iconst (v := 1) hx hb dX2_areKnown_94 (by decide) ?_
                      exact z_retS hx hb hr hlocks (rfl) (((if_neg t1_0).trans ((if_neg t1_1).trans ((if_neg t1_2).trans ((if_neg t1_3).trans ((if_neg t1_4).trans ((if_neg t1_5).trans ((if_neg t1_6).trans ((if_neg t1_7).trans ((if_neg t1_8).trans ((if_pos t1_9).trans (rfl))))))))))).symm) dX2_areKnown_95
                    · by_cases t1_10 : sort = 10
                      · refine lv_tableIn (off := 63) (tgt := 64) hx hb dX2_areKnown_1 (by rw [t1_10]; decide) (by rw [t1_10]; decide) (by rw [t1_10]; rfl) (by decide) ?_
                        refine lv_iload_n hx hb dX2_areKnown_64 rfl (lv_at hl 1 rfl) ?_
                        refine z_calls (As := [.int a]) (rest := []) XX (cMM_isBox l a) (va_cwS 1 hts gX2_areKnown_X2_isBox rfl rfl rfl qX2_isBox ⟨by decide, by decide⟩) rfl hl.1 rfl (Nat.le_of_ble_eq_true rfl) dX2_areKnown_65 ⟨Nat.zero_le _, Nat.zero_le _⟩ ?_
                        exact z_retS hx hb hr hlocks (nb_mf_isBox ..) (((if_neg t1_0).trans ((if_neg t1_1).trans ((if_neg t1_2).trans ((if_neg t1_3).trans ((if_neg t1_4).trans ((if_neg t1_5).trans ((if_neg t1_6).trans ((if_neg t1_7).trans ((if_neg t1_8).trans ((if_neg t1_9).trans ((if_pos t1_10).trans (rfl)))))))))))).symm) dX2_areKnown_68
                      · by_cases t1_11 : sort = 11
                        · refine lv_tableIn (off := 63) (tgt := 64) hx hb dX2_areKnown_1 (by rw [t1_11]; decide) (by rw [t1_11]; decide) (by rw [t1_11]; rfl) (by decide) ?_
                          refine lv_iload_n hx hb dX2_areKnown_64 rfl (lv_at hl 1 rfl) ?_
                          refine z_calls (As := [.int a]) (rest := []) XX (cMM_isBox l a) (va_cwS 1 hts gX2_areKnown_X2_isBox rfl rfl rfl qX2_isBox ⟨by decide, by decide⟩) rfl hl.1 rfl (Nat.le_of_ble_eq_true rfl) dX2_areKnown_65 ⟨Nat.zero_le _, Nat.zero_le _⟩ ?_
                          exact z_retS hx hb hr hlocks (nb_mf_isBox ..) (((if_neg t1_0).trans ((if_neg t1_1).trans ((if_neg t1_2).trans ((if_neg t1_3).trans ((if_neg t1_4).trans ((if_neg t1_5).trans ((if_neg t1_6).trans ((if_neg t1_7).trans ((if_neg t1_8).trans ((if_neg t1_9).trans ((if_neg t1_10).trans ((if_pos t1_11).trans (rfl))))))))))))).symm) dX2_areKnown_68
                        · refine lv_tableOut (tgt := 94) hx hb dX2_areKnown_1 (z_out 11 (by decide) (fun k hk => match k, hk with | 0, _ => t1_0 | 1, _ => t1_1 | 2, _ => t1_2 | 3, _ => t1_3 | 4, _ => t1_4 | 5, _ => t1_5 | 6, _ => t1_6 | 7, _ => t1_7 | 8, _ => t1_8 | 9, _ => t1_9 | 10, _ => t1_10 | 11, _ => t1_11 | (k + 12), hk => absurd hk (by omega))) (by decide) ?_
                          refine lv_iconst (v := 1) hx hb dX2_areKnown_94 (by decide) ?_
                          exact z_retS hx hb hr hlocks (rfl) (((if_neg t1_0).trans ((if_neg t1_1).trans ((if_neg t1_2).trans ((if_neg t1_3).trans ((if_neg t1_4).trans ((if_neg t1_5).trans ((if_neg t1_6).trans ((if_neg t1_7).trans ((if_neg t1_8).trans ((if_neg t1_9).trans ((if_neg t1_10).trans ((if_neg t1_11).trans (rfl))))))))))))).symm) dX2_areKnown_95
theorem nb_mf_areKnown (sort : Int32) (a : Int32) (b : Int32) : narrow .boolean (.int (mf_areKnown sort a b)) = .int (mf_areKnown sort a b) := by
  unfold mf_areKnown
  repeat' split
  all_goals first | rfl | exact nb_mf_in .. | exact nb_mf_isBox .. | exact nb_mf_isKind ..
theorem m_inE {v lo hi : Int32} (h : ¬ mf_in v lo hi = 0) : ¬ v < lo ∧ ¬ hi < v := by
  unfold mf_in at h
  by_cases h0 : v < lo
  · rw [if_pos h0] at h; exact absurd rfl h
  · rw [if_neg h0] at h
    by_cases h1 : hi < v
    · rw [if_pos h1] at h; exact absurd rfl h
    · exact ⟨h0, h1⟩
theorem m_inR {v hi : Int32} {n : Nat} (hn : n < 2 ^ 31) (e : hi.toInt + 1 = n) (h : ¬ mf_in v 0 hi = 0) : vp_in v n := by
  obtain ⟨h0, h1⟩ := m_inE h
  rw [vp_in_iff]
  rw [Int32.lt_iff_toInt_lt] at h0 h1
  have e0 : (0 : Int32).toInt = 0 := by decide
  omega
theorem mkind_in {k : Int32} (h : ¬ mf_isKind k = 0) : vp_in k 10 := m_inR (by decide) (by decide) h
theorem mbox_in {k : Int32} (h : ¬ mf_isBox k = 0) : vp_in k 6 := m_inR (by decide) (by decide) h
theorem mfk_in {i kp : Int32} (hk : ∃ n, n ≤ 30 ∧ kp = nI n) (h : ¬ mf_in i 0 (kp - 1) = 0) : vp_in i 30 := by
  obtain ⟨n, hn, rfl⟩ := hk
  obtain ⟨h0, h1⟩ := m_inE h
  rw [vp_in_iff]
  rw [Int32.lt_iff_toInt_lt] at h0 h1
  have e0 : (0 : Int32).toInt = 0 := by decide
  have e1 : (nI n - 1).toInt = (n : Int) - 1 := pk_sub_toInt (a := n) (b := 1) (by omega) (by omega)
  omega
theorem mak_in {sort a b : Int32} (h : ¬ mf_areKnown sort a b = 0) (hs : sort = 2 ∨ sort = 7) : vp_in a 10 := by
  rcases hs with rfl | rfl
  · exact mkind_in h
  · exact mkind_in h
theorem z_v16 : vp_in (1 : Int32) 6 := vp_in_nI (n := 1) (by decide) (by decide)
end
section
noncomputable def mf_has  (k : Int32) (σ : SM) : Int32 := if (mf_isKind k) = 0 then (-2) else (if ((m_st σ) k.toNatClampNeg) < 0 then 0 else 1)
set_option maxRecDepth 100000 in
set_option maxHeartbeats 4000000 in
theorem cMM_has (l : Launch) (D : va_G) (O : Nat → Nat) (K : Nat → ClassId) (k : Int32) (σ : SM)  : cI l yX2_has wsX2_has { frames := 2, cells := 0, slots := 0, locals := 200 } 0 0 D (mT K) (mW O K) σ [.ref (O 0), .int k] ((mf_has k σ), σ) := by
  intro sz
  refine z_start (cc := cX2_has) (maxL := 2) (ret := (some .int)) (Qc := fun A => va_Qi (fun r9 u9 => r9 = ((mf_has k σ), σ).1 ∧ u9 = ((mf_has k σ), σ).2) (zB D (mT K) (mW O K) A) A) sz (by decide) rfl (Nat.le_of_ble_eq_true rfl) ?_
  intro p e s m below meth c A X hA hK hP hD hS ls hl
  obtain ⟨hx, hb, hr, hml, hts, hown, hlocks, hnm⟩ := X
  have hown : s.vm.findClass RX2 = some m.cls := hown
  have hl : lv_has ls 2 [(0, .ref (O 0)), (1, .int k)] := hl
  have inW : ∀ w ∈ wsX20, w ∈ wsX2_has := fun w h => List.mem_cons_of_mem _ (List.mem_append_right _ h)
  have XX : CallFix p m c cX2_has 2 s _ wsX2_has RX2 := ⟨hx, hb, hml, hown, hts⟩
  have k41 := hts (.fieldLink RX2 41 "MailRoomModel" "stands" "[I") (List.mem_of_getElem? (i := 1) rfl)
  refine lv_iload_n hx hb dX2_has_0 rfl (lv_at hl 1 rfl) ?_
  refine z_calls (As := [.int k]) (rest := []) XX (cMM_isKind l k) (va_cwS 1 hts gX2_has_X2_isKind rfl rfl rfl qX2_isKind ⟨by decide, by decide⟩) rfl hl.1 rfl (Nat.le_of_ble_eq_true rfl) dX2_has_1 ⟨Nat.zero_le _, Nat.zero_le _⟩ ?_
  refine lv_if_ne (tgt := 12) hx hb dX2_has_4 (by decide) (fun c4 => ?_) (fun c4 => ?_)
  · refine lv_aload_n hx hb dX2_has_12 rfl (lv_at hl 0 rfl) ?_
    refine m_ga_11 hx hb hts inW hown hK hP k41 dX2_has_13 ?_
    refine lv_iload_n hx hb dX2_has_16 rfl (lv_at hl 1 rfl) ?_
    refine m_ld_st (f := (m_st σ)) (i := k) hx hb hK hP (rfl) (mkind_in (by assumption)) dX2_has_17 ?_
    refine lv_if_lt (tgt := 25) hx hb dX2_has_18 (by decide) (fun c18 => ?_) (fun c18 => ?_)
    · refine lv_iconst (v := 0) hx hb dX2_has_25 (by decide) ?_
      exact z_reti hx hb hr hlocks rfl hK hP hD hS (congrArg (fun x => (x, σ)) ((if_neg c4).trans ((if_pos c18).trans (rfl)))) dX2_has_26
    · refine lv_iconst (v := 1) hx hb dX2_has_21 (by decide) ?_
      refine lv_goto (tgt := 26) hx hb dX2_has_22 (by decide) ?_
      exact z_reti hx hb hr hlocks rfl hK hP hD hS (congrArg (fun x => (x, σ)) ((if_neg c4).trans ((if_neg c18).trans (rfl)))) dX2_has_26
  · refine lv_bipush (v := (-2)) hx hb dX2_has_7 (by decide) ?_
    refine lv_goto (tgt := 26) hx hb dX2_has_9 (by decide) ?_
    exact z_reti hx hb hr hlocks rfl hK hP hD hS (congrArg (fun x => (x, σ)) ((if_pos c4).trans (rfl))) dX2_has_26
noncomputable def mf_sum  (b : Int32) (σ : SM) : Int64 := if (mf_isBox b) = 0 then 0 else ((m_su σ) b.toNatClampNeg)
set_option maxRecDepth 100000 in
set_option maxHeartbeats 4000000 in
theorem cMM_sum (l : Launch) (D : va_G) (O : Nat → Nat) (K : Nat → ClassId) (b : Int32) (σ : SM)  : cL l yX2_sum wsX2_sum { frames := 2, cells := 0, slots := 0, locals := 200 } 0 0 D (mT K) (mW O K) σ [.ref (O 0), .int b] ((mf_sum b σ), σ) := by
  intro sz
  refine z_start (cc := cX2_sum) (maxL := 2) (ret := (some .long)) (Qc := fun A => va_Ql (fun r9 u9 => r9 = ((mf_sum b σ), σ).1 ∧ u9 = ((mf_sum b σ), σ).2) (zB D (mT K) (mW O K) A) A) sz (by decide) rfl (Nat.le_of_ble_eq_true rfl) ?_
  intro p e s m below meth c A X hA hK hP hD hS ls hl
  obtain ⟨hx, hb, hr, hml, hts, hown, hlocks, hnm⟩ := X
  have hown : s.vm.findClass RX2 = some m.cls := hown
  have hl : lv_has ls 2 [(0, .ref (O 0)), (1, .int b)] := hl
  have inW : ∀ w ∈ wsX20, w ∈ wsX2_sum := fun w h => List.mem_cons_of_mem _ (List.mem_append_right _ h)
  have XX : CallFix p m c cX2_sum 2 s _ wsX2_sum RX2 := ⟨hx, hb, hml, hown, hts⟩
  have k7 := hts (.fieldLink RX2 7 "MailRoomModel" "sums" "[J") (List.mem_of_getElem? (i := 1) rfl)
  refine lv_iload_n hx hb dX2_sum_0 rfl (lv_at hl 1 rfl) ?_
  refine z_calls (As := [.int b]) (rest := []) XX (cMM_isBox l b) (va_cwS 1 hts gX2_sum_X2_isBox rfl rfl rfl qX2_isBox ⟨by decide, by decide⟩) rfl hl.1 rfl (Nat.le_of_ble_eq_true rfl) dX2_sum_1 ⟨Nat.zero_le _, Nat.zero_le _⟩ ?_
  refine lv_if_eq (tgt := 16) hx hb dX2_sum_4 (by decide) (fun c4 => ?_) (fun c4 => ?_)
  · refine lv_lconst (v := 0) hx hb dX2_sum_16 (by decide) ?_
    exact z_retl hx hb hr hlocks hK hP hD hS (congrArg (fun x => (x, σ)) ((if_pos c4).trans (rfl))) dX2_sum_17
  · refine lv_aload_n hx hb dX2_sum_7 rfl (lv_at hl 0 rfl) ?_
    refine m_ga_1 hx hb hts inW hown hK hP k7 dX2_sum_8 ?_
    refine lv_iload_n hx hb dX2_sum_11 rfl (lv_at hl 1 rfl) ?_
    refine m_ld_su (f := (m_su σ)) (i := b) hx hb hK hP (rfl) (mbox_in (by assumption)) dX2_sum_12 ?_
    refine lv_goto (tgt := 17) hx hb dX2_sum_13 (by decide) ?_
    exact z_retl hx hb hr hlocks hK hP hD hS (congrArg (fun x => (x, σ)) ((if_neg c4).trans (rfl))) dX2_sum_17
noncomputable def mf_counted  (b : Int32) (σ : SM) : Int32 := if (mf_isBox b) = 0 then (-2) else ((m_co σ) b.toNatClampNeg)
set_option maxRecDepth 100000 in
set_option maxHeartbeats 4000000 in
theorem cMM_counted (l : Launch) (D : va_G) (O : Nat → Nat) (K : Nat → ClassId) (b : Int32) (σ : SM)  : cI l yX2_counted wsX2_counted { frames := 2, cells := 0, slots := 0, locals := 200 } 0 0 D (mT K) (mW O K) σ [.ref (O 0), .int b] ((mf_counted b σ), σ) := by
  intro sz
  refine z_start (cc := cX2_counted) (maxL := 2) (ret := (some .int)) (Qc := fun A => va_Qi (fun r9 u9 => r9 = ((mf_counted b σ), σ).1 ∧ u9 = ((mf_counted b σ), σ).2) (zB D (mT K) (mW O K) A) A) sz (by decide) rfl (Nat.le_of_ble_eq_true rfl) ?_
  intro p e s m below meth c A X hA hK hP hD hS ls hl
  obtain ⟨hx, hb, hr, hml, hts, hown, hlocks, hnm⟩ := X
  have hown : s.vm.findClass RX2 = some m.cls := hown
  have hl : lv_has ls 2 [(0, .ref (O 0)), (1, .int b)] := hl
  have inW : ∀ w ∈ wsX20, w ∈ wsX2_counted := fun w h => List.mem_cons_of_mem _ (List.mem_append_right _ h)
  have XX : CallFix p m c cX2_counted 2 s _ wsX2_counted RX2 := ⟨hx, hb, hml, hown, hts⟩
  have k13 := hts (.fieldLink RX2 13 "MailRoomModel" "counts" "[I") (List.mem_of_getElem? (i := 1) rfl)
  refine lv_iload_n hx hb dX2_counted_0 rfl (lv_at hl 1 rfl) ?_
  refine z_calls (As := [.int b]) (rest := []) XX (cMM_isBox l b) (va_cwS 1 hts gX2_counted_X2_isBox rfl rfl rfl qX2_isBox ⟨by decide, by decide⟩) rfl hl.1 rfl (Nat.le_of_ble_eq_true rfl) dX2_counted_1 ⟨Nat.zero_le _, Nat.zero_le _⟩ ?_
  refine lv_if_eq (tgt := 16) hx hb dX2_counted_4 (by decide) (fun c4 => ?_) (fun c4 => ?_)
  · refine lv_bipush (v := (-2)) hx hb dX2_counted_16 (by decide) ?_
    exact z_reti hx hb hr hlocks rfl hK hP hD hS (congrArg (fun x => (x, σ)) ((if_pos c4).trans (rfl))) dX2_counted_18
  · refine lv_aload_n hx hb dX2_counted_7 rfl (lv_at hl 0 rfl) ?_
    refine m_ga_2 hx hb hts inW hown hK hP k13 dX2_counted_8 ?_
    refine lv_iload_n hx hb dX2_counted_11 rfl (lv_at hl 1 rfl) ?_
    refine m_ld_co (f := (m_co σ)) (i := b) hx hb hK hP (rfl) (mbox_in (by assumption)) dX2_counted_12 ?_
    refine lv_goto (tgt := 18) hx hb dX2_counted_13 (by decide) ?_
    exact z_reti hx hb hr hlocks rfl hK hP hD hS (congrArg (fun x => (x, σ)) ((if_neg c4).trans (rfl))) dX2_counted_18
noncomputable def mf_failed  (i : Int32) (what : Int32) (σ : SM) : Int32 := if (mf_in what 0 1) = 0 then (-3) else (if (mf_in i 0 ((m_kp σ) - 1)) = 0 then (-1) else (if what = 0 then ((m_kk σ) i.toNatClampNeg) else ((m_kf σ) i.toNatClampNeg)))
set_option maxRecDepth 100000 in
set_option maxHeartbeats 4000000 in
theorem cMM_failed (l : Launch) (D : va_G) (O : Nat → Nat) (K : Nat → ClassId) (i : Int32) (what : Int32) (σ : SM) (hk : ∃ n, n ≤ 30 ∧ m_kp σ = nI n) : cI l yX2_failed wsX2_failed { frames := 2, cells := 0, slots := 0, locals := 200 } 0 0 D (mT K) (mW O K) σ [.ref (O 0), .int i, .int what] ((mf_failed i what σ), σ) := by
  intro sz
  refine z_start (cc := cX2_failed) (maxL := 3) (ret := (some .int)) (Qc := fun A => va_Qi (fun r9 u9 => r9 = ((mf_failed i what σ), σ).1 ∧ u9 = ((mf_failed i what σ), σ).2) (zB D (mT K) (mW O K) A) A) sz (by decide) rfl (Nat.le_of_ble_eq_true rfl) ?_
  intro p e s m below meth c A X hA hK hP hD hS ls hl
  obtain ⟨hx, hb, hr, hml, hts, hown, hlocks, hnm⟩ := X
  have hown : s.vm.findClass RX2 = some m.cls := hown
  have hl : lv_has ls 3 [(0, .ref (O 0)), (1, .int i), (2, .int what)] := hl
  have inW : ∀ w ∈ wsX20, w ∈ wsX2_failed := fun w h => List.mem_cons_of_mem _ (List.mem_append_right _ h)
  have XX : CallFix p m c cX2_failed 3 s _ wsX2_failed RX2 := ⟨hx, hb, hml, hown, hts⟩
  have k144 := hts (.fieldLink RX2 144 "MailRoomModel" "kept" "I") (List.mem_of_getElem? (i := 1) rfl)
  have k53 := hts (.fieldLink RX2 53 "MailRoomModel" "keptFailures" "[I") (List.mem_of_getElem? (i := 3) rfl)
  have k50 := hts (.fieldLink RX2 50 "MailRoomModel" "keptKinds" "[I") (List.mem_of_getElem? (i := 2) rfl)
  refine lv_iload_n hx hb dX2_failed_0 rfl (lv_at hl 2 rfl) ?_
  refine lv_iconst (v := 0) hx hb dX2_failed_1 (by decide) ?_
  refine lv_iconst (v := 1) hx hb dX2_failed_2 (by decide) ?_
  refine z_calls (As := [.int what, .int 0, .int 1]) (rest := []) XX (cMM_in l what 0 1) (va_cwS 3 hts gX2_failed_X2_in rfl rfl rfl qX2_in ⟨by decide, by decide⟩) rfl hl.1 rfl (Nat.le_of_ble_eq_true rfl) dX2_failed_3 ⟨Nat.zero_le _, Nat.zero_le _⟩ ?_
  refine lv_if_ne (tgt := 12) hx hb dX2_failed_6 (by decide) (fun c6 => ?_) (fun c6 => ?_)
  · refine lv_iload_n hx hb dX2_failed_12 rfl (lv_at hl 1 rfl) ?_
    refine lv_iconst (v := 0) hx hb dX2_failed_13 (by decide) ?_
    refine lv_aload_n hx hb dX2_failed_14 rfl (lv_at hl 0 rfl) ?_
    refine m_gi_kp (v := (m_kp σ)) hx hb hts inW hown hK hP (rfl) k144 dX2_failed_15 ?_
    refine lv_iconst (v := 1) hx hb dX2_failed_18 (by decide) ?_
    refine lv_isub hx hb dX2_failed_19 ?_
    refine z_calls (As := [.int i, .int 0, .int ((m_kp σ) - 1)]) (rest := []) XX (cMM_in l i 0 ((m_kp σ) - 1)) (va_cwS 3 hts gX2_failed_X2_in rfl rfl rfl qX2_in ⟨by decide, by decide⟩) rfl hl.1 rfl (Nat.le_of_ble_eq_true rfl) dX2_failed_20 ⟨Nat.zero_le _, Nat.zero_le _⟩ ?_
    refine lv_if_ne (tgt := 28) hx hb dX2_failed_23 (by decide) (fun c23 => ?_) (fun c23 => ?_)
    · refine lv_iload_n hx hb dX2_failed_28 rfl (lv_at hl 2 rfl) ?_
      refine lv_if_ne (tgt := 41) hx hb dX2_failed_29 (by decide) (fun c29 => ?_) (fun c29 => ?_)
      · refine lv_aload_n hx hb dX2_failed_41 rfl (lv_at hl 0 rfl) ?_
        refine m_ga_15 hx hb hts inW hown hK hP k53 dX2_failed_42 ?_
        refine lv_iload_n hx hb dX2_failed_45 rfl (lv_at hl 1 rfl) ?_
        refine m_ld_kf (f := (m_kf σ)) (i := i) hx hb hK hP (rfl) (mfk_in hk (by assumption)) dX2_failed_46 ?_
        exact z_reti hx hb hr hlocks rfl hK hP hD hS (congrArg (fun x => (x, σ)) ((if_neg c6).trans ((if_neg c23).trans ((if_neg c29).trans (rfl))))) dX2_failed_47
      · refine lv_aload_n hx hb dX2_failed_32 rfl (lv_at hl 0 rfl) ?_
        refine m_ga_14 hx hb hts inW hown hK hP k50 dX2_failed_33 ?_
        refine lv_iload_n hx hb dX2_failed_36 rfl (lv_at hl 1 rfl) ?_
        refine m_ld_kk (f := (m_kk σ)) (i := i) hx hb hK hP (rfl) (mfk_in hk (by assumption)) dX2_failed_37 ?_
        refine lv_goto (tgt := 47) hx hb dX2_failed_38 (by decide) ?_
        exact z_reti hx hb hr hlocks rfl hK hP hD hS (congrArg (fun x => (x, σ)) ((if_neg c6).trans ((if_neg c23).trans ((if_pos c29).trans (rfl))))) dX2_failed_47
    · refine lv_iconst (v := (-1)) hx hb dX2_failed_26 (by decide) ?_
      exact z_reti hx hb hr hlocks rfl hK hP hD hS (congrArg (fun x => (x, σ)) ((if_neg c6).trans ((if_pos c23).trans (rfl)))) dX2_failed_27
  · refine lv_bipush (v := (-3)) hx hb dX2_failed_9 (by decide) ?_
    exact z_reti hx hb hr hlocks rfl hK hP hD hS (congrArg (fun x => (x, σ)) ((if_pos c6).trans (rfl))) dX2_failed_11
noncomputable def mf_value  (i : Int32) (σ : SM) : Int64 := if (mf_in i 0 ((m_kp σ) - 1)) = 0 then 0 else ((m_kv σ) i.toNatClampNeg)
set_option maxRecDepth 100000 in
set_option maxHeartbeats 4000000 in
theorem cMM_value (l : Launch) (D : va_G) (O : Nat → Nat) (K : Nat → ClassId) (i : Int32) (σ : SM) (hk : ∃ n, n ≤ 30 ∧ m_kp σ = nI n) : cL l yX2_value wsX2_value { frames := 2, cells := 0, slots := 0, locals := 200 } 0 0 D (mT K) (mW O K) σ [.ref (O 0), .int i] ((mf_value i σ), σ) := by
  intro sz
  refine z_start (cc := cX2_value) (maxL := 2) (ret := (some .long)) (Qc := fun A => va_Ql (fun r9 u9 => r9 = ((mf_value i σ), σ).1 ∧ u9 = ((mf_value i σ), σ).2) (zB D (mT K) (mW O K) A) A) sz (by decide) rfl (Nat.le_of_ble_eq_true rfl) ?_
  intro p e s m below meth c A X hA hK hP hD hS ls hl
  obtain ⟨hx, hb, hr, hml, hts, hown, hlocks, hnm⟩ := X
  have hown : s.vm.findClass RX2 = some m.cls := hown
  have hl : lv_has ls 2 [(0, .ref (O 0)), (1, .int i)] := hl
  have inW : ∀ w ∈ wsX20, w ∈ wsX2_value := fun w h => List.mem_cons_of_mem _ (List.mem_append_right _ h)
  have XX : CallFix p m c cX2_value 2 s _ wsX2_value RX2 := ⟨hx, hb, hml, hown, hts⟩
  have k144 := hts (.fieldLink RX2 144 "MailRoomModel" "kept" "I") (List.mem_of_getElem? (i := 1) rfl)
  have k56 := hts (.fieldLink RX2 56 "MailRoomModel" "keptValues" "[J") (List.mem_of_getElem? (i := 2) rfl)
  refine lv_iload_n hx hb dX2_value_0 rfl (lv_at hl 1 rfl) ?_
  refine lv_iconst (v := 0) hx hb dX2_value_1 (by decide) ?_
  refine lv_aload_n hx hb dX2_value_2 rfl (lv_at hl 0 rfl) ?_
  refine m_gi_kp (v := (m_kp σ)) hx hb hts inW hown hK hP (rfl) k144 dX2_value_3 ?_
  refine lv_iconst (v := 1) hx hb dX2_value_6 (by decide) ?_
  refine lv_isub hx hb dX2_value_7 ?_
  refine z_calls (As := [.int i, .int 0, .int ((m_kp σ) - 1)]) (rest := []) XX (cMM_in l i 0 ((m_kp σ) - 1)) (va_cwS 3 hts gX2_value_X2_in rfl rfl rfl qX2_in ⟨by decide, by decide⟩) rfl hl.1 rfl (Nat.le_of_ble_eq_true rfl) dX2_value_8 ⟨Nat.zero_le _, Nat.zero_le _⟩ ?_
  refine lv_if_eq (tgt := 23) hx hb dX2_value_11 (by decide) (fun c11 => ?_) (fun c11 => ?_)
  · refine lv_lconst (v := 0) hx hb dX2_value_23 (by decide) ?_
    exact z_retl hx hb hr hlocks hK hP hD hS (congrArg (fun x => (x, σ)) ((if_pos c11).trans (rfl))) dX2_value_24
  · refine lv_aload_n hx hb dX2_value_14 rfl (lv_at hl 0 rfl) ?_
    refine m_ga_16 hx hb hts inW hown hK hP k56 dX2_value_15 ?_
    refine lv_iload_n hx hb dX2_value_18 rfl (lv_at hl 1 rfl) ?_
    refine m_ld_kv (f := (m_kv σ)) (i := i) hx hb hK hP (rfl) (mfk_in hk (by assumption)) dX2_value_19 ?_
    refine lv_goto (tgt := 24) hx hb dX2_value_20 (by decide) ?_
    exact z_retl hx hb hr hlocks hK hP hD hS (congrArg (fun x => (x, σ)) ((if_neg c11).trans (rfl))) dX2_value_24
noncomputable def mf_count  (what : Int32) (σ : SM) : Int32 := if what = 0 then (m_sz σ) else (if what = 1 then (m_tk σ) else (if what = 2 then ((m_many σ) - 2) else (if what = 3 then (m_fe σ) else (if what = 4 then (m_la σ) else (-3)))))
set_option maxRecDepth 100000 in
set_option maxHeartbeats 4000000 in
theorem cMM_count (l : Launch) (D : va_G) (O : Nat → Nat) (K : Nat → ClassId) (what : Int32) (σ : SM)  : cI l yX2_count wsX2_count { frames := 0, cells := 0, slots := 0, locals := 0 } 0 0 D (mT K) (mW O K) σ [.ref (O 0), .int what] ((mf_count what σ), σ) := by
  intro sz
  refine z_start (cc := cX2_count) (maxL := 2) (ret := (some .int)) (Qc := fun A => va_Qi (fun r9 u9 => r9 = ((mf_count what σ), σ).1 ∧ u9 = ((mf_count what σ), σ).2) (zB D (mT K) (mW O K) A) A) sz (by decide) rfl (Nat.le_of_ble_eq_true rfl) ?_
  intro p e s m below meth c A X hA hK hP hD hS ls hl
  obtain ⟨hx, hb, hr, hml, hts, hown, hlocks, hnm⟩ := X
  have hown : s.vm.findClass RX2 = some m.cls := hown
  have hl : lv_has ls 2 [(0, .ref (O 0)), (1, .int what)] := hl
  have inW : ∀ w ∈ wsX20, w ∈ wsX2_count := fun w h => List.mem_cons_of_mem _ (List.mem_append_right _ h)
  have XX : CallFix p m c cX2_count 2 s _ wsX2_count RX2 := ⟨hx, hb, hml, hown, hts⟩
  have k86 := hts (.fieldLink RX2 86 "MailRoomModel" "size" "I") (List.mem_of_getElem? (i := 1) rfl)
  have k132 := hts (.fieldLink RX2 132 "MailRoomModel" "taken" "I") (List.mem_of_getElem? (i := 2) rfl)
  have k68 := hts (.fieldLink RX2 68 "MailRoomModel" "many" "I") (List.mem_of_getElem? (i := 3) rfl)
  have k141 := hts (.fieldLink RX2 141 "MailRoomModel" "fell" "I") (List.mem_of_getElem? (i := 4) rfl)
  have k112 := hts (.fieldLink RX2 112 "MailRoomModel" "latest" "I") (List.mem_of_getElem? (i := 5) rfl)
  refine lv_iload_n hx hb dX2_count_0 rfl (lv_at hl 1 rfl) ?_
  by_cases t1_0 : what = 0
  · refine lv_tableIn (off := 35) (tgt := 36) hx hb dX2_count_1 (by rw [t1_0]; decide) (by rw [t1_0]; decide) (by rw [t1_0]; rfl) (by decide) ?_
    refine lv_aload_n hx hb dX2_count_36 rfl (lv_at hl 0 rfl) ?_
    refine m_gi_sz (v := (m_sz σ)) hx hb hts inW hown hK hP (rfl) k86 dX2_count_37 ?_
    exact z_reti hx hb hr hlocks rfl hK hP hD hS (congrArg (fun x => (x, σ)) ((if_pos t1_0).trans (rfl))) dX2_count_40
  · by_cases t1_1 : what = 1
    · refine lv_tableIn (off := 40) (tgt := 41) hx hb dX2_count_1 (by rw [t1_1]; decide) (by rw [t1_1]; decide) (by rw [t1_1]; rfl) (by decide) ?_
      refine lv_aload_n hx hb dX2_count_41 rfl (lv_at hl 0 rfl) ?_
      refine m_gi_tk (v := (m_tk σ)) hx hb hts inW hown hK hP (rfl) k132 dX2_count_42 ?_
      exact z_reti hx hb hr hlocks rfl hK hP hD hS (congrArg (fun x => (x, σ)) ((if_neg t1_0).trans ((if_pos t1_1).trans (rfl)))) dX2_count_45
    · by_cases t1_2 : what = 2
      · refine lv_tableIn (off := 45) (tgt := 46) hx hb dX2_count_1 (by rw [t1_2]; decide) (by rw [t1_2]; decide) (by rw [t1_2]; rfl) (by decide) ?_
        refine lv_aload_n hx hb dX2_count_46 rfl (lv_at hl 0 rfl) ?_
        refine m_gi_many (v := (m_many σ)) hx hb hts inW hown hK hP (rfl) k68 dX2_count_47 ?_
        refine lv_iconst (v := 2) hx hb dX2_count_50 (by decide) ?_
        refine lv_isub hx hb dX2_count_51 ?_
        exact z_reti hx hb hr hlocks rfl hK hP hD hS (congrArg (fun x => (x, σ)) ((if_neg t1_0).trans ((if_neg t1_1).trans ((if_pos t1_2).trans (rfl))))) dX2_count_52
      · by_cases t1_3 : what = 3
        · refine lv_tableIn (off := 52) (tgt := 53) hx hb dX2_count_1 (by rw [t1_3]; decide) (by rw [t1_3]; decide) (by rw [t1_3]; rfl) (by decide) ?_
          refine lv_aload_n hx hb dX2_count_53 rfl (lv_at hl 0 rfl) ?_
          refine m_gi_fe (v := (m_fe σ)) hx hb hts inW hown hK hP (rfl) k141 dX2_count_54 ?_
          exact z_reti hx hb hr hlocks rfl hK hP hD hS (congrArg (fun x => (x, σ)) ((if_neg t1_0).trans ((if_neg t1_1).trans ((if_neg t1_2).trans ((if_pos t1_3).trans (rfl)))))) dX2_count_57
        · by_cases t1_4 : what = 4
          · refine lv_tableIn (off := 57) (tgt := 58) hx hb dX2_count_1 (by rw [t1_4]; decide) (by rw [t1_4]; decide) (by rw [t1_4]; rfl) (by decide) ?_
            refine lv_aload_n hx hb dX2_count_58 rfl (lv_at hl 0 rfl) ?_
            refine m_gi_la (v := (m_la σ)) hx hb hts inW hown hK hP (rfl) k112 dX2_count_59 ?_
            exact z_reti hx hb hr hlocks rfl hK hP hD hS (congrArg (fun x => (x, σ)) ((if_neg t1_0).trans ((if_neg t1_1).trans ((if_neg t1_2).trans ((if_neg t1_3).trans ((if_pos t1_4).trans (rfl))))))) dX2_count_62
          · refine lv_tableOut (tgt := 63) hx hb dX2_count_1 (z_out 4 (by decide) (fun k hk => match k, hk with | 0, _ => t1_0 | 1, _ => t1_1 | 2, _ => t1_2 | 3, _ => t1_3 | 4, _ => t1_4 | (k + 5), hk => absurd hk (by omega))) (by decide) ?_
            refine lv_bipush (v := (-3)) hx hb dX2_count_63 (by decide) ?_
            exact z_reti hx hb hr hlocks rfl hK hP hD hS (congrArg (fun x => (x, σ)) ((if_neg t1_0).trans ((if_neg t1_1).trans ((if_neg t1_2).trans ((if_neg t1_3).trans ((if_neg t1_4).trans (rfl))))))) dX2_count_65
noncomputable def mf_drop  (k : Int32) (σ : SM) : Int32 × SM := if (mf_isKind k) = 0 then ((-2), σ) else (if ((m_st σ) k.toNatClampNeg) < 0 then (0, ms_st σ (upd (m_st σ) k.toNatClampNeg (-1))) else (1, ms_st σ (upd (m_st σ) k.toNatClampNeg (-1))))
set_option maxRecDepth 100000 in
set_option maxHeartbeats 4000000 in
theorem cMM_drop (l : Launch) (D : va_G) (O : Nat → Nat) (K : Nat → ClassId) (k : Int32) (σ : SM)  : cI l yX2_drop wsX2_drop { frames := 2, cells := 0, slots := 0, locals := 200 } 0 0 D (mT K) (mW O K) σ [.ref (O 0), .int k] (mf_drop k σ) := by
  intro sz
  refine z_start (cc := cX2_drop) (maxL := 3) (ret := (some .int)) (Qc := fun A => va_Qi (fun r9 u9 => r9 = (mf_drop k σ).1 ∧ u9 = (mf_drop k σ).2) (zB D (mT K) (mW O K) A) A) sz (by decide) rfl (Nat.le_of_ble_eq_true rfl) ?_
  intro p e s m below meth c A X hA hK hP hD hS ls hl
  obtain ⟨hx, hb, hr, hml, hts, hown, hlocks, hnm⟩ := X
  have hown : s.vm.findClass RX2 = some m.cls := hown
  have hl : lv_has ls 3 [(0, .ref (O 0)), (1, .int k)] := hl
  have inW : ∀ w ∈ wsX20, w ∈ wsX2_drop := fun w h => List.mem_cons_of_mem _ (List.mem_append_right _ h)
  have XX : CallFix p m c cX2_drop 3 s _ wsX2_drop RX2 := ⟨hx, hb, hml, hown, hts⟩
  have k41 := hts (.fieldLink RX2 41 "MailRoomModel" "stands" "[I") (List.mem_of_getElem? (i := 1) rfl)
  refine lv_iload_n hx hb dX2_drop_0 rfl (lv_at hl 1 rfl) ?_
  refine z_calls (As := [.int k]) (rest := []) XX (cMM_isKind l k) (va_cwS 1 hts gX2_drop_X2_isKind rfl rfl rfl qX2_isKind ⟨by decide, by decide⟩) rfl hl.1 rfl (Nat.le_of_ble_eq_true rfl) dX2_drop_1 ⟨Nat.zero_le _, Nat.zero_le _⟩ ?_
  refine lv_if_ne (tgt := 10) hx hb dX2_drop_4 (by decide) (fun c4 => ?_) (fun c4 => ?_)
  · refine lv_aload_n hx hb dX2_drop_10 rfl (lv_at hl 0 rfl) ?_
    refine m_ga_11 hx hb hts inW hown hK hP k41 dX2_drop_11 ?_
    refine lv_iload_n hx hb dX2_drop_14 rfl (lv_at hl 1 rfl) ?_
    refine m_ld_st (f := (m_st σ)) (i := k) hx hb hK hP (rfl) (mkind_in (by assumption)) dX2_drop_15 ?_
    refine lv_if_lt (tgt := 23) hx hb dX2_drop_16 (by decide) (fun c16 => ?_) (fun c16 => ?_)
    · refine lv_iconst (v := 0) hx hb dX2_drop_23 (by decide) ?_
      refine lv_istore_n (lv' := [(2, .int 0), (0, .ref (O 0)), (1, .int k)]) hx hb dX2_drop_24 rfl hl (by decide) rfl (fun ls hl => ?_)
      refine lv_aload_n hx hb dX2_drop_25 rfl (lv_at hl 1 rfl) ?_
      refine m_ga_11 hx hb hts inW hown hK hP k41 dX2_drop_26 ?_
      refine lv_iload_n hx hb dX2_drop_29 rfl (lv_at hl 2 rfl) ?_
      refine lv_iconst (v := (-1)) hx hb dX2_drop_30 (by decide) ?_
      refine m_st_st (f := (m_st σ)) (i := k) hx hb hK hP hD hS (rfl) (mkind_in (by assumption)) dX2_drop_31 (fun H locs hP hD hS => ?_)
      refine lv_iload_n hx hb dX2_drop_32 rfl (lv_at hl 0 rfl) ?_
      exact z_reti hx hb hr hlocks rfl hK hP hD hS ((if_neg c4).trans ((if_pos c16).trans (rfl))) dX2_drop_33
    · refine lv_iconst (v := 1) hx hb dX2_drop_19 (by decide) ?_
      refine lv_goto (tgt := 24) hx hb dX2_drop_20 (by decide) ?_
      refine lv_istore_n (lv' := [(2, .int 1), (0, .ref (O 0)), (1, .int k)]) hx hb dX2_drop_24 rfl hl (by decide) rfl (fun ls hl => ?_)
      refine lv_aload_n hx hb dX2_drop_25 rfl (lv_at hl 1 rfl) ?_
      refine m_ga_11 hx hb hts inW hown hK hP k41 dX2_drop_26 ?_
      refine lv_iload_n hx hb dX2_drop_29 rfl (lv_at hl 2 rfl) ?_
      refine lv_iconst (v := (-1)) hx hb dX2_drop_30 (by decide) ?_
      refine m_st_st (f := (m_st σ)) (i := k) hx hb hK hP hD hS (rfl) (mkind_in (by assumption)) dX2_drop_31 (fun H locs hP hD hS => ?_)
      refine lv_iload_n hx hb dX2_drop_32 rfl (lv_at hl 0 rfl) ?_
      exact z_reti hx hb hr hlocks rfl hK hP hD hS ((if_neg c4).trans ((if_neg c16).trans (rfl))) dX2_drop_33
  · refine lv_bipush (v := (-2)) hx hb dX2_drop_7 (by decide) ?_
    exact z_reti hx hb hr hlocks rfl hK hP hD hS ((if_pos c4).trans (rfl)) dX2_drop_9
end
section
noncomputable def mf_comes  (k : Int32) (v : Int64) (σ : SM) : SM := ms_sz (ms_qv (ms_qk σ (upd (m_qk σ) ((m_sz σ).toNatClampNeg) k)) (vp_updL (m_qv σ) ((m_sz σ).toNatClampNeg) v)) ((m_sz σ) + 1)
set_option maxRecDepth 100000 in
set_option maxHeartbeats 4000000 in
theorem cMM_comes (l : Launch) (D : va_G) (O : Nat → Nat) (K : Nat → ClassId) (k : Int32) (v : Int64) (σ : SM) (h1 : vp_in (m_sz σ) 40) : cV l yX2_comes wsX2_comes { frames := 0, cells := 0, slots := 0, locals := 0 } 0 0 D (mT K) (mW O K) σ [.ref (O 0), .int k, .long v] (mf_comes k v σ) := by
  intro sz
  refine z_start (cc := cX2_comes) (maxL := 4) (ret := none) (Qc := fun A => va_Qv (fun u9 => u9 = (mf_comes k v σ)) (zB D (mT K) (mW O K) A) A) sz (by decide) rfl (Nat.le_of_ble_eq_true rfl) ?_
  intro p e s m below meth c A X hA hK hP hD hS ls hl
  obtain ⟨hx, hb, hr, hml, hts, hown, hlocks, hnm⟩ := X
  have hown : s.vm.findClass RX2 = some m.cls := hown
  have hl : lv_has ls 4 [(0, .ref (O 0)), (1, .int k), (2, .long v)] := hl
  have inW : ∀ w ∈ wsX20, w ∈ wsX2_comes := fun w h => List.mem_cons_of_mem _ (List.mem_append_right _ h)
  have XX : CallFix p m c cX2_comes 4 s _ wsX2_comes RX2 := ⟨hx, hb, hml, hown, hts⟩
  have k44 := hts (.fieldLink RX2 44 "MailRoomModel" "queueKinds" "[I") (List.mem_of_getElem? (i := 1) rfl)
  have k86 := hts (.fieldLink RX2 86 "MailRoomModel" "size" "I") (List.mem_of_getElem? (i := 2) rfl)
  have k47 := hts (.fieldLink RX2 47 "MailRoomModel" "queueValues" "[J") (List.mem_of_getElem? (i := 3) rfl)
  refine lv_aload_n hx hb dX2_comes_0 rfl (lv_at hl 0 rfl) ?_
  refine m_ga_12 hx hb hts inW hown hK hP k44 dX2_comes_1 ?_
  refine lv_aload_n hx hb dX2_comes_4 rfl (lv_at hl 0 rfl) ?_
  refine m_gi_sz (v := (m_sz σ)) hx hb hts inW hown hK hP (rfl) k86 dX2_comes_5 ?_
  refine lv_iload_n hx hb dX2_comes_8 rfl (lv_at hl 1 rfl) ?_
  refine m_st_qk (f := (m_qk σ)) (i := (m_sz σ)) hx hb hK hP hD hS (rfl) (h1) dX2_comes_9 (fun H locs hP hD hS => ?_)
  refine lv_aload_n hx hb dX2_comes_10 rfl (lv_at hl 0 rfl) ?_
  refine m_ga_13 hx hb hts inW hown hK hP k47 dX2_comes_11 ?_
  refine lv_aload_n hx hb dX2_comes_14 rfl (lv_at hl 0 rfl) ?_
  refine m_gi_sz (v := (m_sz σ)) hx hb hts inW hown hK hP (mr_sz_qk _ _) k86 dX2_comes_15 ?_
  refine lv_lload_n hx hb dX2_comes_18 rfl (lv_at hl 2 rfl) ?_
  refine m_st_qv (f := (m_qv σ)) (i := (m_sz σ)) hx hb hK hP hD hS (mr_qv_qk _ _) (h1) dX2_comes_19 (fun H locs hP hD hS => ?_)
  refine lv_aload_n hx hb dX2_comes_20 rfl (lv_at hl 0 rfl) ?_
  refine lv_dup hx hb dX2_comes_21 rfl ?_
  refine m_gi_sz (v := (m_sz σ)) hx hb hts inW hown hK hP ((mr_sz_qv _ _).trans (mr_sz_qk _ _)) k86 dX2_comes_22 ?_
  refine lv_iconst (v := 1) hx hb dX2_comes_25 (by decide) ?_
  refine lv_iadd hx hb dX2_comes_26 ?_
  refine m_pi_sz hx hb hts inW hown hK hP hD hS k86 dX2_comes_27 (fun H locs hP hD hS => ?_)
  exact z_retv hx hb hr hlocks hK hP hD hS (rfl) dX2_comes_30
noncomputable def mf_keep  (b : Int32) (v : Int64) (σ : SM) : SM := ms_co (ms_su σ (vp_updL (m_su σ) b.toNatClampNeg (((m_su σ) b.toNatClampNeg) + v))) (upd (m_co σ) b.toNatClampNeg (((m_co σ) b.toNatClampNeg) + 1))
set_option maxRecDepth 100000 in
set_option maxHeartbeats 4000000 in
theorem cMM_keep (l : Launch) (D : va_G) (O : Nat → Nat) (K : Nat → ClassId) (b : Int32) (v : Int64) (σ : SM) (h1 : vp_in b 6) : cV l yX2_keep wsX2_keep { frames := 0, cells := 0, slots := 0, locals := 0 } 0 0 D (mT K) (mW O K) σ [.ref (O 0), .int b, .long v] (mf_keep b v σ) := by
  intro sz
  refine z_start (cc := cX2_keep) (maxL := 4) (ret := none) (Qc := fun A => va_Qv (fun u9 => u9 = (mf_keep b v σ)) (zB D (mT K) (mW O K) A) A) sz (by decide) rfl (Nat.le_of_ble_eq_true rfl) ?_
  intro p e s m below meth c A X hA hK hP hD hS ls hl
  obtain ⟨hx, hb, hr, hml, hts, hown, hlocks, hnm⟩ := X
  have hown : s.vm.findClass RX2 = some m.cls := hown
  have hl : lv_has ls 4 [(0, .ref (O 0)), (1, .int b), (2, .long v)] := hl
  have inW : ∀ w ∈ wsX20, w ∈ wsX2_keep := fun w h => List.mem_cons_of_mem _ (List.mem_append_right _ h)
  have XX : CallFix p m c cX2_keep 4 s _ wsX2_keep RX2 := ⟨hx, hb, hml, hown, hts⟩
  have k7 := hts (.fieldLink RX2 7 "MailRoomModel" "sums" "[J") (List.mem_of_getElem? (i := 1) rfl)
  have k13 := hts (.fieldLink RX2 13 "MailRoomModel" "counts" "[I") (List.mem_of_getElem? (i := 2) rfl)
  refine lv_aload_n hx hb dX2_keep_0 rfl (lv_at hl 0 rfl) ?_
  refine m_ga_1 hx hb hts inW hown hK hP k7 dX2_keep_1 ?_
  refine lv_iload_n hx hb dX2_keep_4 rfl (lv_at hl 1 rfl) ?_
  refine lv_dup2_11 hx hb dX2_keep_5 rfl rfl ?_
  refine m_ld_su (f := (m_su σ)) (i := b) hx hb hK hP (rfl) (h1) dX2_keep_6 ?_
  refine lv_lload_n hx hb dX2_keep_7 rfl (lv_at hl 2 rfl) ?_
  refine lv_ladd hx hb dX2_keep_8 ?_
  refine m_st_su (f := (m_su σ)) (i := b) hx hb hK hP hD hS (rfl) (h1) dX2_keep_9 (fun H locs hP hD hS => ?_)
  refine lv_aload_n hx hb dX2_keep_10 rfl (lv_at hl 0 rfl) ?_
  refine m_ga_2 hx hb hts inW hown hK hP k13 dX2_keep_11 ?_
  refine lv_iload_n hx hb dX2_keep_14 rfl (lv_at hl 1 rfl) ?_
  refine lv_dup2_11 hx hb dX2_keep_15 rfl rfl ?_
  refine m_ld_co (f := (m_co σ)) (i := b) hx hb hK hP (mr_co_su _ _) (h1) dX2_keep_16 ?_
  refine lv_iconst (v := 1) hx hb dX2_keep_17 (by decide) ?_
  refine lv_iadd hx hb dX2_keep_18 ?_
  refine m_st_co (f := (m_co σ)) (i := b) hx hb hK hP hD hS (mr_co_su _ _) (h1) dX2_keep_19 (fun H locs hP hD hS => ?_)
  exact z_retv hx hb hr hlocks hK hP hD hS (rfl) dX2_keep_20
noncomputable def mf_post  (k : Int32) (v : Int64) (σ : SM) : Int32 × SM := if (mf_isKind k) = 0 then ((-2), σ) else (if (m_sz σ) = 40 then ((-4), σ) else ((m_sz (mf_comes k v σ)), (mf_comes k v σ)))
set_option maxRecDepth 100000 in
set_option maxHeartbeats 4000000 in
theorem cMM_post (l : Launch) (D : va_G) (O : Nat → Nat) (K : Nat → ClassId) (k : Int32) (v : Int64) (σ : SM) (h1 : ¬ m_sz σ = 40 → vp_in (m_sz σ) 40) : cI l yX2_post wsX2_post { frames := 2, cells := 0, slots := 0, locals := 200 } 0 0 D (mT K) (mW O K) σ [.ref (O 0), .int k, .long v] (mf_post k v σ) := by
  intro sz
  refine z_start (cc := cX2_post) (maxL := 4) (ret := (some .int)) (Qc := fun A => va_Qi (fun r9 u9 => r9 = (mf_post k v σ).1 ∧ u9 = (mf_post k v σ).2) (zB D (mT K) (mW O K) A) A) sz (by decide) rfl (Nat.le_of_ble_eq_true rfl) ?_
  intro p e s m below meth c A X hA hK hP hD hS ls hl
  obtain ⟨hx, hb, hr, hml, hts, hown, hlocks, hnm⟩ := X
  have hown : s.vm.findClass RX2 = some m.cls := hown
  have hl : lv_has ls 4 [(0, .ref (O 0)), (1, .int k), (2, .long v)] := hl
  have inW : ∀ w ∈ wsX20, w ∈ wsX2_post := fun w h => List.mem_cons_of_mem _ (List.mem_append_right _ h)
  have XX : CallFix p m c cX2_post 4 s _ wsX2_post RX2 := ⟨hx, hb, hml, hown, hts⟩
  have k86 := hts (.fieldLink RX2 86 "MailRoomModel" "size" "I") (List.mem_of_getElem? (i := 1) rfl)
  refine lv_iload_n hx hb dX2_post_0 rfl (lv_at hl 1 rfl) ?_
  refine z_calls (As := [.int k]) (rest := []) XX (cMM_isKind l k) (va_cwS 1 hts gX2_post_X2_isKind rfl rfl rfl qX2_isKind ⟨by decide, by decide⟩) rfl hl.1 rfl (Nat.le_of_ble_eq_true rfl) dX2_post_1 ⟨Nat.zero_le _, Nat.zero_le _⟩ ?_
  refine lv_if_ne (tgt := 10) hx hb dX2_post_4 (by decide) (fun c4 => ?_) (fun c4 => ?_)
  · refine lv_aload_n hx hb dX2_post_10 rfl (lv_at hl 0 rfl) ?_
    refine m_gi_sz (v := (m_sz σ)) hx hb hts inW hown hK hP (rfl) k86 dX2_post_11 ?_
    refine lv_bipush (v := 40) hx hb dX2_post_14 (by decide) ?_
    refine lv_icmp_ne (tgt := 22) hx hb dX2_post_16 (by decide) (fun c16 => ?_) (fun c16 => ?_)
    · refine lv_aload_n hx hb dX2_post_22 rfl (lv_at hl 0 rfl) ?_
      refine lv_iload_n hx hb dX2_post_23 rfl (lv_at hl 1 rfl) ?_
      refine lv_lload_n hx hb dX2_post_24 rfl (lv_at hl 2 rfl) ?_
      refine z_callv (As := [.int k, .long v]) (rest := []) XX (cMM_comes l D O K k v σ (h1 c16)) (cwV 2 hts gX2_post_X2_comes rfl rfl rfl qX2_comes ⟨by decide, by decide⟩) (va_recv hK hP (ci := 2) (q0 := 0) rfl rfl) hK hP hD hS hA rfl hl.1 rfl (Nat.le_of_ble_eq_true rfl) dX2_post_25 ⟨Nat.zero_le _, Nat.zero_le _⟩ (fun H locs hP hD hS => ?_)
      refine lv_aload_n hx hb dX2_post_28 rfl (lv_at hl 0 rfl) ?_
      refine m_gi_sz (v := (m_sz (mf_comes k v σ))) hx hb hts inW hown hK hP (rfl) k86 dX2_post_29 ?_
      exact z_reti hx hb hr hlocks rfl hK hP hD hS ((if_neg c4).trans ((if_neg c16).trans (rfl))) dX2_post_32
    · refine lv_bipush (v := (-4)) hx hb dX2_post_19 (by decide) ?_
      exact z_reti hx hb hr hlocks rfl hK hP hD hS ((if_neg c4).trans ((if_pos c16).trans (rfl))) dX2_post_21
  · refine lv_bipush (v := (-2)) hx hb dX2_post_7 (by decide) ?_
    exact z_reti hx hb hr hlocks rfl hK hP hD hS ((if_pos c4).trans (rfl)) dX2_post_9
noncomputable def mf_call  (h : Int32) (v : Int64) (σ : SM) : SM := if (m_tp σ) = 8 then (ms_fa (ms_fa σ 0) 6) else (if (m_bg σ) = 16 then (ms_fa (ms_fa σ 0) 6) else (if 0 ≤ h then (ms_tp (ms_va (ms_sg (ms_wh (ms_bg (ms_fa σ 0) ((m_bg σ) + 1)) (upd (m_wh σ) ((m_tp σ).toNatClampNeg) h)) (upd (m_sg σ) ((m_tp σ).toNatClampNeg) 0)) (vp_updL (m_va σ) ((m_tp σ).toNatClampNeg) v)) ((m_tp σ) + 1)) else (ms_fa (ms_bg (ms_fa σ 0) ((m_bg σ) + 1)) 1)))
set_option maxRecDepth 100000 in
set_option maxHeartbeats 4000000 in
theorem cMM_call (l : Launch) (D : va_G) (O : Nat → Nat) (K : Nat → ClassId) (h : Int32) (v : Int64) (σ : SM) (h1 : ¬ m_tp σ = 8 → vp_in (m_tp σ) 8) : cV l yX2_call wsX2_call { frames := 0, cells := 0, slots := 0, locals := 0 } 0 0 D (mT K) (mW O K) σ [.ref (O 0), .int h, .long v] (mf_call h v σ) := by
  intro sz
  refine z_start (cc := cX2_call) (maxL := 4) (ret := none) (Qc := fun A => va_Qv (fun u9 => u9 = (mf_call h v σ)) (zB D (mT K) (mW O K) A) A) sz (by decide) rfl (Nat.le_of_ble_eq_true rfl) ?_
  intro p e s m below meth c A X hA hK hP hD hS ls hl
  obtain ⟨hx, hb, hr, hml, hts, hown, hlocks, hnm⟩ := X
  have hown : s.vm.findClass RX2 = some m.cls := hown
  have hl : lv_has ls 4 [(0, .ref (O 0)), (1, .int h), (2, .long v)] := hl
  have inW : ∀ w ∈ wsX20, w ∈ wsX2_call := fun w h => List.mem_cons_of_mem _ (List.mem_append_right _ h)
  have XX : CallFix p m c cX2_call 4 s _ wsX2_call RX2 := ⟨hx, hb, hml, hown, hts⟩
  have k93 := hts (.fieldLink RX2 93 "MailRoomModel" "failure" "I") (List.mem_of_getElem? (i := 1) rfl)
  have k96 := hts (.fieldLink RX2 96 "MailRoomModel" "top" "I") (List.mem_of_getElem? (i := 2) rfl)
  have k99 := hts (.fieldLink RX2 99 "MailRoomModel" "begun" "I") (List.mem_of_getElem? (i := 3) rfl)
  have k59 := hts (.fieldLink RX2 59 "MailRoomModel" "which" "[I") (List.mem_of_getElem? (i := 4) rfl)
  have k62 := hts (.fieldLink RX2 62 "MailRoomModel" "stage" "[I") (List.mem_of_getElem? (i := 5) rfl)
  have k65 := hts (.fieldLink RX2 65 "MailRoomModel" "value" "[J") (List.mem_of_getElem? (i := 6) rfl)
  refine lv_aload_n hx hb dX2_call_0 rfl (lv_at hl 0 rfl) ?_
  refine lv_iconst (v := 0) hx hb dX2_call_1 (by decide) ?_
  refine m_pi_fa hx hb hts inW hown hK hP hD hS k93 dX2_call_2 (fun H locs hP hD hS => ?_)
  refine lv_aload_n hx hb dX2_call_5 rfl (lv_at hl 0 rfl) ?_
  refine m_gi_tp (v := (m_tp σ)) hx hb hts inW hown hK hP (mr_tp_fa _ _) k96 dX2_call_6 ?_
  refine lv_bipush (v := 8) hx hb dX2_call_9 (by decide) ?_
  refine lv_icmp_eq (tgt := 23) hx hb dX2_call_11 (by decide) (fun c11 => ?_) (fun c11 => ?_)
  · refine lv_aload_n hx hb dX2_call_23 rfl (lv_at hl 0 rfl) ?_
    refine lv_bipush (v := 6) hx hb dX2_call_24 (by decide) ?_
    refine m_pi_fa hx hb hts inW hown hK hP hD hS k93 dX2_call_26 (fun H locs hP hD hS => ?_)
    exact z_retv hx hb hr hlocks hK hP hD hS ((if_pos c11).trans (rfl)) dX2_call_29
  · refine lv_aload_n hx hb dX2_call_14 rfl (lv_at hl 0 rfl) ?_
    refine m_gi_bg (v := (m_bg σ)) hx hb hts inW hown hK hP (mr_bg_fa _ _) k99 dX2_call_15 ?_
    refine lv_bipush (v := 16) hx hb dX2_call_18 (by decide) ?_
    refine lv_icmp_ne (tgt := 30) hx hb dX2_call_20 (by decide) (fun c20 => ?_) (fun c20 => ?_)
    · refine lv_aload_n hx hb dX2_call_30 rfl (lv_at hl 0 rfl) ?_
      refine lv_dup hx hb dX2_call_31 rfl ?_
      refine m_gi_bg (v := (m_bg σ)) hx hb hts inW hown hK hP (mr_bg_fa _ _) k99 dX2_call_32 ?_
      refine lv_iconst (v := 1) hx hb dX2_call_35 (by decide) ?_
      refine lv_iadd hx hb dX2_call_36 ?_
      refine m_pi_bg hx hb hts inW hown hK hP hD hS k99 dX2_call_37 (fun H locs hP hD hS => ?_)
      refine lv_iload_n hx hb dX2_call_40 rfl (lv_at hl 1 rfl) ?_
      refine lv_if_ge (tgt := 50) hx hb dX2_call_41 (by decide) (fun c41 => ?_) (fun c41 => ?_)
      · refine lv_aload_n hx hb dX2_call_50 rfl (lv_at hl 0 rfl) ?_
        refine m_ga_17 hx hb hts inW hown hK hP k59 dX2_call_51 ?_
        refine lv_aload_n hx hb dX2_call_54 rfl (lv_at hl 0 rfl) ?_
        refine m_gi_tp (v := (m_tp σ)) hx hb hts inW hown hK hP ((mr_tp_bg _ _).trans (mr_tp_fa _ _)) k96 dX2_call_55 ?_
        refine lv_iload_n hx hb dX2_call_58 rfl (lv_at hl 1 rfl) ?_
        refine m_st_wh (f := (m_wh σ)) (i := (m_tp σ)) hx hb hK hP hD hS ((mr_wh_bg _ _).trans (mr_wh_fa _ _)) (h1 c11) dX2_call_59 (fun H locs hP hD hS => ?_)
        refine lv_aload_n hx hb dX2_call_60 rfl (lv_at hl 0 rfl) ?_
        refine m_ga_18 hx hb hts inW hown hK hP k62 dX2_call_61 ?_
        refine lv_aload_n hx hb dX2_call_64 rfl (lv_at hl 0 rfl) ?_
        refine m_gi_tp (v := (m_tp σ)) hx hb hts inW hown hK hP ((mr_tp_wh _ _).trans ((mr_tp_bg _ _).trans (mr_tp_fa _ _))) k96 dX2_call_65 ?_
        refine lv_iconst (v := 0) hx hb dX2_call_68 (by decide) ?_
        refine m_st_sg (f := (m_sg σ)) (i := (m_tp σ)) hx hb hK hP hD hS ((mr_sg_wh _ _).trans ((mr_sg_bg _ _).trans (mr_sg_fa _ _))) (h1 c11) dX2_call_69 (fun H locs hP hD hS => ?_)
        refine lv_aload_n hx hb dX2_call_70 rfl (lv_at hl 0 rfl) ?_
        refine m_ga_19 hx hb hts inW hown hK hP k65 dX2_call_71 ?_
        refine lv_aload_n hx hb dX2_call_74 rfl (lv_at hl 0 rfl) ?_
        refine m_gi_tp (v := (m_tp σ)) hx hb hts inW hown hK hP ((mr_tp_sg _ _).trans ((mr_tp_wh _ _).trans ((mr_tp_bg _ _).trans (mr_tp_fa _ _)))) k96 dX2_call_75 ?_
        refine lv_lload_n hx hb dX2_call_78 rfl (lv_at hl 2 rfl) ?_
        refine m_st_va (f := (m_va σ)) (i := (m_tp σ)) hx hb hK hP hD hS ((mr_va_sg _ _).trans ((mr_va_wh _ _).trans ((mr_va_bg _ _).trans (mr_va_fa _ _)))) (h1 c11) dX2_call_79 (fun H locs hP hD hS => ?_)
        refine lv_aload_n hx hb dX2_call_80 rfl (lv_at hl 0 rfl) ?_
        refine lv_dup hx hb dX2_call_81 rfl ?_
        refine m_gi_tp (v := (m_tp σ)) hx hb hts inW hown hK hP ((mr_tp_va _ _).trans ((mr_tp_sg _ _).trans ((mr_tp_wh _ _).trans ((mr_tp_bg _ _).trans (mr_tp_fa _ _))))) k96 dX2_call_82 ?_
        refine lv_iconst (v := 1) hx hb dX2_call_85 (by decide) ?_
        refine lv_iadd hx hb dX2_call_86 ?_
        refine m_pi_tp hx hb hts inW hown hK hP hD hS k96 dX2_call_87 (fun H locs hP hD hS => ?_)
        exact z_retv hx hb hr hlocks hK hP hD hS ((if_neg c11).trans ((if_neg c20).trans ((if_pos c41).trans (rfl)))) dX2_call_90
      · refine lv_aload_n hx hb dX2_call_44 rfl (lv_at hl 0 rfl) ?_
        refine lv_iconst (v := 1) hx hb dX2_call_45 (by decide) ?_
        refine m_pi_fa hx hb hts inW hown hK hP hD hS k93 dX2_call_46 (fun H locs hP hD hS => ?_)
        exact z_retv hx hb hr hlocks hK hP hD hS ((if_neg c11).trans ((if_neg c20).trans ((if_neg c41).trans (rfl)))) dX2_call_49
    · refine lv_aload_n hx hb dX2_call_23 rfl (lv_at hl 0 rfl) ?_
      refine lv_bipush (v := 6) hx hb dX2_call_24 (by decide) ?_
      refine m_pi_fa hx hb hts inW hown hK hP hD hS k93 dX2_call_26 (fun H locs hP hD hS => ?_)
      exact z_retv hx hb hr hlocks hK hP hD hS ((if_neg c11).trans ((if_pos c20).trans (rfl))) dX2_call_29
noncomputable def mf_ends  (f : Int32) (σ : SM) : SM := ms_fa (ms_tp σ ((m_tp σ) - 1)) f
set_option maxRecDepth 100000 in
set_option maxHeartbeats 4000000 in
theorem cMM_ends (l : Launch) (D : va_G) (O : Nat → Nat) (K : Nat → ClassId) (f : Int32) (σ : SM)  : cV l yX2_ends wsX2_ends { frames := 0, cells := 0, slots := 0, locals := 0 } 0 0 D (mT K) (mW O K) σ [.ref (O 0), .int f] (mf_ends f σ) := by
  intro sz
  refine z_start (cc := cX2_ends) (maxL := 2) (ret := none) (Qc := fun A => va_Qv (fun u9 => u9 = (mf_ends f σ)) (zB D (mT K) (mW O K) A) A) sz (by decide) rfl (Nat.le_of_ble_eq_true rfl) ?_
  intro p e s m below meth c A X hA hK hP hD hS ls hl
  obtain ⟨hx, hb, hr, hml, hts, hown, hlocks, hnm⟩ := X
  have hown : s.vm.findClass RX2 = some m.cls := hown
  have hl : lv_has ls 2 [(0, .ref (O 0)), (1, .int f)] := hl
  have inW : ∀ w ∈ wsX20, w ∈ wsX2_ends := fun w h => List.mem_cons_of_mem _ (List.mem_append_right _ h)
  have XX : CallFix p m c cX2_ends 2 s _ wsX2_ends RX2 := ⟨hx, hb, hml, hown, hts⟩
  have k96 := hts (.fieldLink RX2 96 "MailRoomModel" "top" "I") (List.mem_of_getElem? (i := 1) rfl)
  have k93 := hts (.fieldLink RX2 93 "MailRoomModel" "failure" "I") (List.mem_of_getElem? (i := 2) rfl)
  refine lv_aload_n hx hb dX2_ends_0 rfl (lv_at hl 0 rfl) ?_
  refine lv_dup hx hb dX2_ends_1 rfl ?_
  refine m_gi_tp (v := (m_tp σ)) hx hb hts inW hown hK hP (rfl) k96 dX2_ends_2 ?_
  refine lv_iconst (v := 1) hx hb dX2_ends_5 (by decide) ?_
  refine lv_isub hx hb dX2_ends_6 ?_
  refine m_pi_tp hx hb hts inW hown hK hP hD hS k96 dX2_ends_7 (fun H locs hP hD hS => ?_)
  refine lv_aload_n hx hb dX2_ends_10 rfl (lv_at hl 0 rfl) ?_
  refine lv_iload_n hx hb dX2_ends_11 rfl (lv_at hl 1 rfl) ?_
  refine m_pi_fa hx hb hts inW hown hK hP hD hS k93 dX2_ends_12 (fun H locs hP hD hS => ?_)
  exact z_retv hx hb hr hlocks hK hP hD hS (rfl) dX2_ends_15
noncomputable def mf_goOn  (ix : Int32) (h : Int32) (v : Int64) (σ : SM) : SM := (mf_call h v (ms_sg σ (upd (m_sg σ) ix.toNatClampNeg (((m_sg σ) ix.toNatClampNeg) + 1))))
set_option maxRecDepth 100000 in
set_option maxHeartbeats 4000000 in
theorem cMM_goOn (l : Launch) (D : va_G) (O : Nat → Nat) (K : Nat → ClassId) (ix : Int32) (h : Int32) (v : Int64) (σ : SM) (h2 : vp_in ix 8) (h4 : ¬ m_tp σ = 8 → vp_in (m_tp σ) 8) : cV l yX2_goOn wsX2_goOn { frames := 1, cells := 0, slots := 0, locals := 100 } 0 0 D (mT K) (mW O K) σ [.ref (O 0), .int ix, .int h, .long v] (mf_goOn ix h v σ) := by
  intro sz
  refine z_start (cc := cX2_goOn) (maxL := 5) (ret := none) (Qc := fun A => va_Qv (fun u9 => u9 = (mf_goOn ix h v σ)) (zB D (mT K) (mW O K) A) A) sz (by decide) rfl (Nat.le_of_ble_eq_true rfl) ?_
  intro p e s m below meth c A X hA hK hP hD hS ls hl
  obtain ⟨hx, hb, hr, hml, hts, hown, hlocks, hnm⟩ := X
  have hown : s.vm.findClass RX2 = some m.cls := hown
  have hl : lv_has ls 5 [(0, .ref (O 0)), (1, .int ix), (2, .int h), (3, .long v)] := hl
  have inW : ∀ w ∈ wsX20, w ∈ wsX2_goOn := fun w h => List.mem_cons_of_mem _ (List.mem_append_right _ h)
  have XX : CallFix p m c cX2_goOn 5 s _ wsX2_goOn RX2 := ⟨hx, hb, hml, hown, hts⟩
  have k62 := hts (.fieldLink RX2 62 "MailRoomModel" "stage" "[I") (List.mem_of_getElem? (i := 1) rfl)
  refine lv_aload_n hx hb dX2_goOn_0 rfl (lv_at hl 0 rfl) ?_
  refine m_ga_18 hx hb hts inW hown hK hP k62 dX2_goOn_1 ?_
  refine lv_iload_n hx hb dX2_goOn_4 rfl (lv_at hl 1 rfl) ?_
  refine lv_dup2_11 hx hb dX2_goOn_5 rfl rfl ?_
  refine m_ld_sg (f := (m_sg σ)) (i := ix) hx hb hK hP (rfl) (h2) dX2_goOn_6 ?_
  refine lv_iconst (v := 1) hx hb dX2_goOn_7 (by decide) ?_
  refine lv_iadd hx hb dX2_goOn_8 ?_
  refine m_st_sg (f := (m_sg σ)) (i := ix) hx hb hK hP hD hS (rfl) (h2) dX2_goOn_9 (fun H locs hP hD hS => ?_)
  refine lv_aload_n hx hb dX2_goOn_10 rfl (lv_at hl 0 rfl) ?_
  refine lv_iload_n hx hb dX2_goOn_11 rfl (lv_at hl 2 rfl) ?_
  refine lv_lload_n hx hb dX2_goOn_12 rfl (lv_at hl 3 rfl) ?_
  refine z_callv (As := [.int h, .long v]) (rest := []) XX (cMM_call l D O K h v (ms_sg σ (upd (m_sg σ) ix.toNatClampNeg (((m_sg σ) ix.toNatClampNeg) + 1))) (by rw [mr_tp_sg]; exact h4)) (cwV 2 hts gX2_goOn_X2_call rfl rfl rfl qX2_call ⟨by decide, by decide⟩) (va_recv hK hP (ci := 2) (q0 := 0) rfl rfl) hK hP hD hS hA rfl hl.1 rfl (Nat.le_of_ble_eq_true rfl) dX2_goOn_13 ⟨Nat.zero_le _, Nat.zero_le _⟩ (fun H locs hP hD hS => ?_)
  exact z_retv hx hb hr hlocks hK hP hD hS (rfl) dX2_goOn_16
noncomputable def mf_sends  (k : Int32) (v : Int64) (σ : SM) : SM := if (m_sz σ) = 40 then (mf_ends 5 σ) else (mf_ends 0 (mf_comes k v σ))
set_option maxRecDepth 100000 in
set_option maxHeartbeats 4000000 in
theorem cMM_sends (l : Launch) (D : va_G) (O : Nat → Nat) (K : Nat → ClassId) (k : Int32) (v : Int64) (σ : SM) (h1 : ¬ m_sz σ = 40 → vp_in (m_sz σ) 40) : cV l yX2_sends wsX2_sends { frames := 1, cells := 0, slots := 0, locals := 100 } 0 0 D (mT K) (mW O K) σ [.ref (O 0), .int k, .long v] (mf_sends k v σ) := by
  intro sz
  refine z_start (cc := cX2_sends) (maxL := 4) (ret := none) (Qc := fun A => va_Qv (fun u9 => u9 = (mf_sends k v σ)) (zB D (mT K) (mW O K) A) A) sz (by decide) rfl (Nat.le_of_ble_eq_true rfl) ?_
  intro p e s m below meth c A X hA hK hP hD hS ls hl
  obtain ⟨hx, hb, hr, hml, hts, hown, hlocks, hnm⟩ := X
  have hown : s.vm.findClass RX2 = some m.cls := hown
  have hl : lv_has ls 4 [(0, .ref (O 0)), (1, .int k), (2, .long v)] := hl
  have inW : ∀ w ∈ wsX20, w ∈ wsX2_sends := fun w h => List.mem_cons_of_mem _ (List.mem_append_right _ h)
  have XX : CallFix p m c cX2_sends 4 s _ wsX2_sends RX2 := ⟨hx, hb, hml, hown, hts⟩
  have k86 := hts (.fieldLink RX2 86 "MailRoomModel" "size" "I") (List.mem_of_getElem? (i := 1) rfl)
  refine lv_aload_n hx hb dX2_sends_0 rfl (lv_at hl 0 rfl) ?_
  refine m_gi_sz (v := (m_sz σ)) hx hb hts inW hown hK hP (rfl) k86 dX2_sends_1 ?_
  refine lv_bipush (v := 40) hx hb dX2_sends_4 (by decide) ?_
  refine lv_icmp_ne (tgt := 17) hx hb dX2_sends_6 (by decide) (fun c6 => ?_) (fun c6 => ?_)
  · refine lv_aload_n hx hb dX2_sends_17 rfl (lv_at hl 0 rfl) ?_
    refine lv_iload_n hx hb dX2_sends_18 rfl (lv_at hl 1 rfl) ?_
    refine lv_lload_n hx hb dX2_sends_19 rfl (lv_at hl 2 rfl) ?_
    refine z_callv (As := [.int k, .long v]) (rest := []) XX (cMM_comes l D O K k v σ (h1 c6)) (cwV 2 hts gX2_sends_X2_comes rfl rfl rfl qX2_comes ⟨by decide, by decide⟩) (va_recv hK hP (ci := 2) (q0 := 0) rfl rfl) hK hP hD hS hA rfl hl.1 rfl (Nat.le_of_ble_eq_true rfl) dX2_sends_20 ⟨Nat.zero_le _, Nat.zero_le _⟩ (fun H locs hP hD hS => ?_)
    refine lv_aload_n hx hb dX2_sends_23 rfl (lv_at hl 0 rfl) ?_
    refine lv_iconst (v := 0) hx hb dX2_sends_24 (by decide) ?_
    refine z_callv (As := [.int 0]) (rest := []) XX (cMM_ends l D O K 0 (mf_comes k v σ)) (cwV 1 hts gX2_sends_X2_ends rfl rfl rfl qX2_ends ⟨by decide, by decide⟩) (va_recv hK hP (ci := 2) (q0 := 0) rfl rfl) hK hP hD hS hA rfl hl.1 rfl (Nat.le_of_ble_eq_true rfl) dX2_sends_25 ⟨Nat.zero_le _, Nat.zero_le _⟩ (fun H locs hP hD hS => ?_)
    exact z_retv hx hb hr hlocks hK hP hD hS ((if_neg c6).trans (rfl)) dX2_sends_28
  · refine lv_aload_n hx hb dX2_sends_9 rfl (lv_at hl 0 rfl) ?_
    refine lv_iconst (v := 5) hx hb dX2_sends_10 (by decide) ?_
    refine z_callv (As := [.int 5]) (rest := []) XX (cMM_ends l D O K 5 σ) (cwV 1 hts gX2_sends_X2_ends rfl rfl rfl qX2_ends ⟨by decide, by decide⟩) (va_recv hK hP (ci := 2) (q0 := 0) rfl rfl) hK hP hD hS hA rfl hl.1 rfl (Nat.le_of_ble_eq_true rfl) dX2_sends_11 ⟨Nat.zero_le _, Nat.zero_le _⟩ (fun H locs hP hD hS => ?_)
    refine lv_goto (tgt := 28) hx hb dX2_sends_14 (by decide) ?_
    exact z_retv hx hb hr hlocks hK hP hD hS ((if_pos c6).trans (rfl)) dX2_sends_28
noncomputable def mf_shares  (a : Int32) (b : Int32) (v : Int64) (w : Int64) (σ : SM) : SM := if (lg_cmp w 0) = 0 then (mf_ends 2 σ) else (mf_ends 0 (mf_keep b (v - v / w * w) (mf_keep a (v / w) σ)))
set_option maxRecDepth 100000 in
set_option maxHeartbeats 4000000 in
theorem cMM_shares (l : Launch) (D : va_G) (O : Nat → Nat) (K : Nat → ClassId) (a : Int32) (b : Int32) (v : Int64) (w : Int64) (σ : SM) (h1 : vp_in a 6) (h2 : vp_in b 6) : cV l yX2_shares wsX2_shares { frames := 1, cells := 0, slots := 0, locals := 100 } 0 0 D (mT K) (mW O K) σ [.ref (O 0), .int a, .int b, .long v, .long w] (mf_shares a b v w σ) := by
  intro sz
  refine z_start (cc := cX2_shares) (maxL := 7) (ret := none) (Qc := fun A => va_Qv (fun u9 => u9 = (mf_shares a b v w σ)) (zB D (mT K) (mW O K) A) A) sz (by decide) rfl (Nat.le_of_ble_eq_true rfl) ?_
  intro p e s m below meth c A X hA hK hP hD hS ls hl
  obtain ⟨hx, hb, hr, hml, hts, hown, hlocks, hnm⟩ := X
  have hown : s.vm.findClass RX2 = some m.cls := hown
  have hl : lv_has ls 7 [(0, .ref (O 0)), (1, .int a), (2, .int b), (3, .long v), (5, .long w)] := hl
  have inW : ∀ w ∈ wsX20, w ∈ wsX2_shares := fun w h => List.mem_cons_of_mem _ (List.mem_append_right _ h)
  have XX : CallFix p m c cX2_shares 7 s _ wsX2_shares RX2 := ⟨hx, hb, hml, hown, hts⟩
  refine lv_lload hx hb dX2_shares_0 (lv_at hl 4 rfl) ?_
  refine lv_lconst (v := 0) hx hb dX2_shares_2 (by decide) ?_
  refine W.lcmp hx hb dX2_shares_3 ?_
  refine lv_if_ne (tgt := 15) hx hb dX2_shares_4 (by decide) (fun c4 => ?_) (fun c4 => ?_)
  · refine lv_aload_n hx hb dX2_shares_15 rfl (lv_at hl 0 rfl) ?_
    refine lv_iload_n hx hb dX2_shares_16 rfl (lv_at hl 1 rfl) ?_
    refine lv_lload_n hx hb dX2_shares_17 rfl (lv_at hl 3 rfl) ?_
    refine lv_lload hx hb dX2_shares_18 (lv_at hl 4 rfl) ?_
    refine lv_ldiv hx hb dX2_shares_20 (z_l0 c4) ?_
    refine z_callv (As := [.int a, .long (v / w)]) (rest := []) XX (cMM_keep l D O K a (v / w) σ (h1)) (cwV 2 hts gX2_shares_X2_keep rfl rfl rfl qX2_keep ⟨by decide, by decide⟩) (va_recv hK hP (ci := 2) (q0 := 0) rfl rfl) hK hP hD hS hA rfl hl.1 rfl (Nat.le_of_ble_eq_true rfl) dX2_shares_21 ⟨Nat.zero_le _, Nat.zero_le _⟩ (fun H locs hP hD hS => ?_)
    refine lv_aload_n hx hb dX2_shares_24 rfl (lv_at hl 0 rfl) ?_
    refine lv_iload_n hx hb dX2_shares_25 rfl (lv_at hl 2 rfl) ?_
    refine lv_lload_n hx hb dX2_shares_26 rfl (lv_at hl 3 rfl) ?_
    refine lv_lload hx hb dX2_shares_27 (lv_at hl 4 rfl) ?_
    refine lv_lrem hx hb dX2_shares_29 (z_l0 c4) ?_
    refine z_callv (As := [.int b, .long (v - v / w * w)]) (rest := []) XX (cMM_keep l D O K b (v - v / w * w) (mf_keep a (v / w) σ) (h2)) (cwV 2 hts gX2_shares_X2_keep rfl rfl rfl qX2_keep ⟨by decide, by decide⟩) (va_recv hK hP (ci := 2) (q0 := 0) rfl rfl) hK hP hD hS hA rfl hl.1 rfl (Nat.le_of_ble_eq_true rfl) dX2_shares_30 ⟨Nat.zero_le _, Nat.zero_le _⟩ (fun H locs hP hD hS => ?_)
    refine lv_aload_n hx hb dX2_shares_33 rfl (lv_at hl 0 rfl) ?_
    refine lv_iconst (v := 0) hx hb dX2_shares_34 (by decide) ?_
    refine z_callv (As := [.int 0]) (rest := []) XX (cMM_ends l D O K 0 (mf_keep b (v - v / w * w) (mf_keep a (v / w) σ))) (cwV 1 hts gX2_shares_X2_ends rfl rfl rfl qX2_ends ⟨by decide, by decide⟩) (va_recv hK hP (ci := 2) (q0 := 0) rfl rfl) hK hP hD hS hA rfl hl.1 rfl (Nat.le_of_ble_eq_true rfl) dX2_shares_35 ⟨Nat.zero_le _, Nat.zero_le _⟩ (fun H locs hP hD hS => ?_)
    exact z_retv hx hb hr hlocks hK hP hD hS ((if_neg c4).trans (rfl)) dX2_shares_38
  · refine lv_aload_n hx hb dX2_shares_7 rfl (lv_at hl 0 rfl) ?_
    refine lv_iconst (v := 2) hx hb dX2_shares_8 (by decide) ?_
    refine z_callv (As := [.int 2]) (rest := []) XX (cMM_ends l D O K 2 σ) (cwV 1 hts gX2_shares_X2_ends rfl rfl rfl qX2_ends ⟨by decide, by decide⟩) (va_recv hK hP (ci := 2) (q0 := 0) rfl rfl) hK hP hD hS hA rfl hl.1 rfl (Nat.le_of_ble_eq_true rfl) dX2_shares_9 ⟨Nat.zero_le _, Nat.zero_le _⟩ (fun H locs hP hD hS => ?_)
    refine lv_goto (tgt := 38) hx hb dX2_shares_12 (by decide) ?_
    exact z_retv hx hb hr hlocks hK hP hD hS ((if_pos c4).trans (rfl)) dX2_shares_38
noncomputable def mf_falls  (k : Int32) (v : Int64) (σ : SM) : SM := if 30 ≤ (m_kp σ) then (ms_fe σ ((m_fe σ) + 1)) else (ms_kp (ms_kv (ms_kf (ms_kk (ms_fe σ ((m_fe σ) + 1)) (upd (m_kk σ) ((m_kp σ).toNatClampNeg) k)) (upd (m_kf σ) ((m_kp σ).toNatClampNeg) (m_fa σ))) (vp_updL (m_kv σ) ((m_kp σ).toNatClampNeg) v)) ((m_kp σ) + 1))
set_option maxRecDepth 100000 in
set_option maxHeartbeats 4000000 in
theorem cMM_falls (l : Launch) (D : va_G) (O : Nat → Nat) (K : Nat → ClassId) (k : Int32) (v : Int64) (σ : SM) (h1 : ¬ 30 ≤ m_kp σ → vp_in (m_kp σ) 30) : cV l yX2_falls wsX2_falls { frames := 0, cells := 0, slots := 0, locals := 0 } 0 0 D (mT K) (mW O K) σ [.ref (O 0), .int k, .long v] (mf_falls k v σ) := by
  intro sz
  refine z_start (cc := cX2_falls) (maxL := 4) (ret := none) (Qc := fun A => va_Qv (fun u9 => u9 = (mf_falls k v σ)) (zB D (mT K) (mW O K) A) A) sz (by decide) rfl (Nat.le_of_ble_eq_true rfl) ?_
  intro p e s m below meth c A X hA hK hP hD hS ls hl
  obtain ⟨hx, hb, hr, hml, hts, hown, hlocks, hnm⟩ := X
  have hown : s.vm.findClass RX2 = some m.cls := hown
  have hl : lv_has ls 4 [(0, .ref (O 0)), (1, .int k), (2, .long v)] := hl
  have inW : ∀ w ∈ wsX20, w ∈ wsX2_falls := fun w h => List.mem_cons_of_mem _ (List.mem_append_right _ h)
  have XX : CallFix p m c cX2_falls 4 s _ wsX2_falls RX2 := ⟨hx, hb, hml, hown, hts⟩
  have k141 := hts (.fieldLink RX2 141 "MailRoomModel" "fell" "I") (List.mem_of_getElem? (i := 1) rfl)
  have k144 := hts (.fieldLink RX2 144 "MailRoomModel" "kept" "I") (List.mem_of_getElem? (i := 2) rfl)
  have k50 := hts (.fieldLink RX2 50 "MailRoomModel" "keptKinds" "[I") (List.mem_of_getElem? (i := 3) rfl)
  have k53 := hts (.fieldLink RX2 53 "MailRoomModel" "keptFailures" "[I") (List.mem_of_getElem? (i := 4) rfl)
  have k93 := hts (.fieldLink RX2 93 "MailRoomModel" "failure" "I") (List.mem_of_getElem? (i := 5) rfl)
  have k56 := hts (.fieldLink RX2 56 "MailRoomModel" "keptValues" "[J") (List.mem_of_getElem? (i := 6) rfl)
  refine lv_aload_n hx hb dX2_falls_0 rfl (lv_at hl 0 rfl) ?_
  refine lv_dup hx hb dX2_falls_1 rfl ?_
  refine m_gi_fe (v := (m_fe σ)) hx hb hts inW hown hK hP (rfl) k141 dX2_falls_2 ?_
  refine lv_iconst (v := 1) hx hb dX2_falls_5 (by decide) ?_
  refine lv_iadd hx hb dX2_falls_6 ?_
  refine m_pi_fe hx hb hts inW hown hK hP hD hS k141 dX2_falls_7 (fun H locs hP hD hS => ?_)
  refine lv_aload_n hx hb dX2_falls_10 rfl (lv_at hl 0 rfl) ?_
  refine m_gi_kp (v := (m_kp σ)) hx hb hts inW hown hK hP (mr_kp_fe _ _) k144 dX2_falls_11 ?_
  refine lv_bipush (v := 30) hx hb dX2_falls_14 (by decide) ?_
  refine lv_icmp_ge (tgt := 62) hx hb dX2_falls_16 (by decide) (fun c16 => ?_) (fun c16 => ?_)
  · exact z_retv hx hb hr hlocks hK hP hD hS ((if_pos c16).trans (rfl)) dX2_falls_62
  · refine lv_aload_n hx hb dX2_falls_19 rfl (lv_at hl 0 rfl) ?_
    refine m_ga_14 hx hb hts inW hown hK hP k50 dX2_falls_20 ?_
    refine lv_aload_n hx hb dX2_falls_23 rfl (lv_at hl 0 rfl) ?_
    refine m_gi_kp (v := (m_kp σ)) hx hb hts inW hown hK hP (mr_kp_fe _ _) k144 dX2_falls_24 ?_
    refine lv_iload_n hx hb dX2_falls_27 rfl (lv_at hl 1 rfl) ?_
    refine m_st_kk (f := (m_kk σ)) (i := (m_kp σ)) hx hb hK hP hD hS (mr_kk_fe _ _) (h1 c16) dX2_falls_28 (fun H locs hP hD hS => ?_)
    refine lv_aload_n hx hb dX2_falls_29 rfl (lv_at hl 0 rfl) ?_
    refine m_ga_15 hx hb hts inW hown hK hP k53 dX2_falls_30 ?_
    refine lv_aload_n hx hb dX2_falls_33 rfl (lv_at hl 0 rfl) ?_
    refine m_gi_kp (v := (m_kp σ)) hx hb hts inW hown hK hP ((mr_kp_kk _ _).trans (mr_kp_fe _ _)) k144 dX2_falls_34 ?_
    refine lv_aload_n hx hb dX2_falls_37 rfl (lv_at hl 0 rfl) ?_
    refine m_gi_fa (v := (m_fa σ)) hx hb hts inW hown hK hP ((mr_fa_kk _ _).trans (mr_fa_fe _ _)) k93 dX2_falls_38 ?_
    refine m_st_kf (f := (m_kf σ)) (i := (m_kp σ)) hx hb hK hP hD hS ((mr_kf_kk _ _).trans (mr_kf_fe _ _)) (h1 c16) dX2_falls_41 (fun H locs hP hD hS => ?_)
    refine lv_aload_n hx hb dX2_falls_42 rfl (lv_at hl 0 rfl) ?_
    refine m_ga_16 hx hb hts inW hown hK hP k56 dX2_falls_43 ?_
    refine lv_aload_n hx hb dX2_falls_46 rfl (lv_at hl 0 rfl) ?_
    refine m_gi_kp (v := (m_kp σ)) hx hb hts inW hown hK hP ((mr_kp_kf _ _).trans ((mr_kp_kk _ _).trans (mr_kp_fe _ _))) k144 dX2_falls_47 ?_
    refine lv_lload_n hx hb dX2_falls_50 rfl (lv_at hl 2 rfl) ?_
    refine m_st_kv (f := (m_kv σ)) (i := (m_kp σ)) hx hb hK hP hD hS ((mr_kv_kf _ _).trans ((mr_kv_kk _ _).trans (mr_kv_fe _ _))) (h1 c16) dX2_falls_51 (fun H locs hP hD hS => ?_)
    refine lv_aload_n hx hb dX2_falls_52 rfl (lv_at hl 0 rfl) ?_
    refine lv_dup hx hb dX2_falls_53 rfl ?_
    refine m_gi_kp (v := (m_kp σ)) hx hb hts inW hown hK hP ((mr_kp_kv _ _).trans ((mr_kp_kf _ _).trans ((mr_kp_kk _ _).trans (mr_kp_fe _ _)))) k144 dX2_falls_54 ?_
    refine lv_iconst (v := 1) hx hb dX2_falls_57 (by decide) ?_
    refine lv_iadd hx hb dX2_falls_58 ?_
    refine m_pi_kp hx hb hts inW hown hK hP hD hS k144 dX2_falls_59 (fun H locs hP hD hS => ?_)
    exact z_retv hx hb hr hlocks hK hP hD hS ((if_neg c16).trans (rfl)) dX2_falls_62
theorem mq_ki_keep (b : Int32) (v : Int64) (σ : SM) : m_ki (mf_keep b v σ) = m_ki σ := (mr_ki_co _ _).trans (mr_ki_su _ _)
theorem mq_tp_keep (b : Int32) (v : Int64) (σ : SM) : m_tp (mf_keep b v σ) = m_tp σ := (mr_tp_co _ _).trans (mr_tp_su _ _)
theorem mq_sz_keep (b : Int32) (v : Int64) (σ : SM) : m_sz (mf_keep b v σ) = m_sz σ := (mr_sz_co _ _).trans (mr_sz_su _ _)
end
section
noncomputable def mf_behind  (ix : Int32) (h : Int32) (v : Int64) (σ : SM) : SM := if ((m_so σ) h.toNatClampNeg) = 10 then (if (m_fa σ) = 0 then (if ((m_so σ) h.toNatClampNeg) = 7 then (if ((m_sg σ) ix.toNatClampNeg) = 1 then (if (m_fa σ) = 0 then (mf_goOn ix ((m_ot σ) h.toNatClampNeg) v σ) else (ms_tp σ ((m_tp σ) - 1))) else (ms_tp σ ((m_tp σ) - 1))) else (ms_tp σ ((m_tp σ) - 1))) else (if (m_fa σ) = 6 then (if ((m_so σ) h.toNatClampNeg) = 7 then (if ((m_sg σ) ix.toNatClampNeg) = 1 then (if (m_fa σ) = 0 then (mf_goOn ix ((m_ot σ) h.toNatClampNeg) v σ) else (ms_tp σ ((m_tp σ) - 1))) else (ms_tp σ ((m_tp σ) - 1))) else (ms_tp σ ((m_tp σ) - 1))) else (mf_ends 0 (mf_keep ((m_as σ) h.toNatClampNeg) (((m_fa σ)).toInt64) σ)))) else (if ((m_so σ) h.toNatClampNeg) = 7 then (if ((m_sg σ) ix.toNatClampNeg) = 1 then (if (m_fa σ) = 0 then (mf_goOn ix ((m_ot σ) h.toNatClampNeg) v σ) else (ms_tp σ ((m_tp σ) - 1))) else (ms_tp σ ((m_tp σ) - 1))) else (ms_tp σ ((m_tp σ) - 1)))
set_option maxRecDepth 100000 in
set_option maxHeartbeats 4000000 in
theorem cMM_behind (l : Launch) (D : va_G) (O : Nat → Nat) (K : Nat → ClassId) (ix : Int32) (h : Int32) (v : Int64) (σ : SM) (h1 : vp_in h 202) (h2 : vp_in ix 8) (h4 : ¬ m_tp σ = 8 → vp_in (m_tp σ) 8) (h3 : m_so σ h.toNatClampNeg = 10 → vp_in (m_as σ h.toNatClampNeg) 6) : cV l yX2_behind wsX2_behind { frames := 2, cells := 0, slots := 0, locals := 200 } 0 0 D (mT K) (mW O K) σ [.ref (O 0), .int ix, .int h, .long v] (mf_behind ix h v σ) := by
  intro sz
  refine z_start (cc := cX2_behind) (maxL := 5) (ret := none) (Qc := fun A => va_Qv (fun u9 => u9 = (mf_behind ix h v σ)) (zB D (mT K) (mW O K) A) A) sz (by decide) rfl (Nat.le_of_ble_eq_true rfl) ?_
  intro p e s m below meth c A X hA hK hP hD hS ls hl
  obtain ⟨hx, hb, hr, hml, hts, hown, hlocks, hnm⟩ := X
  have hown : s.vm.findClass RX2 = some m.cls := hown
  have hl : lv_has ls 5 [(0, .ref (O 0)), (1, .int ix), (2, .int h), (3, .long v)] := hl
  have inW : ∀ w ∈ wsX20, w ∈ wsX2_behind := fun w h => List.mem_cons_of_mem _ (List.mem_append_right _ h)
  have XX : CallFix p m c cX2_behind 5 s _ wsX2_behind RX2 := ⟨hx, hb, hml, hown, hts⟩
  have k17 := hts (.fieldLink RX2 17 "MailRoomModel" "sorts" "[I") (List.mem_of_getElem? (i := 1) rfl)
  have k96 := hts (.fieldLink RX2 96 "MailRoomModel" "top" "I") (List.mem_of_getElem? (i := 6) rfl)
  have k62 := hts (.fieldLink RX2 62 "MailRoomModel" "stage" "[I") (List.mem_of_getElem? (i := 4) rfl)
  have k93 := hts (.fieldLink RX2 93 "MailRoomModel" "failure" "I") (List.mem_of_getElem? (i := 2) rfl)
  have k35 := hts (.fieldLink RX2 35 "MailRoomModel" "others" "[I") (List.mem_of_getElem? (i := 5) rfl)
  have k23 := hts (.fieldLink RX2 23 "MailRoomModel" "as" "[I") (List.mem_of_getElem? (i := 3) rfl)
  refine lv_aload_n hx hb dX2_behind_0 rfl (lv_at hl 0 rfl) ?_
  refine m_ga_3 hx hb hts inW hown hK hP k17 dX2_behind_1 ?_
  refine lv_iload_n hx hb dX2_behind_4 rfl (lv_at hl 2 rfl) ?_
  refine m_ld_so (f := (m_so σ)) (i := h) hx hb hK hP (rfl) (h1) dX2_behind_5 ?_
  refine lv_bipush (v := 10) hx hb dX2_behind_6 (by decide) ?_
  refine lv_icmp_ne (tgt := 50) hx hb dX2_behind_8 (by decide) (fun c8 => ?_) (fun c8 => ?_)
  · refine lv_aload_n hx hb dX2_behind_50 rfl (lv_at hl 0 rfl) ?_
    refine m_ga_3 hx hb hts inW hown hK hP k17 dX2_behind_51 ?_
    refine lv_iload_n hx hb dX2_behind_54 rfl (lv_at hl 2 rfl) ?_
    refine m_ld_so (f := (m_so σ)) (i := h) hx hb hK hP (rfl) (h1) dX2_behind_55 ?_
    refine lv_bipush (v := 7) hx hb dX2_behind_56 (by decide) ?_
    refine lv_icmp_ne (tgt := 93) hx hb dX2_behind_58 (by decide) (fun c58 => ?_) (fun c58 => ?_)
    · refine lv_aload_n hx hb dX2_behind_93 rfl (lv_at hl 0 rfl) ?_
      refine lv_dup hx hb dX2_behind_94 rfl ?_
      refine m_gi_tp (v := (m_tp σ)) hx hb hts inW hown hK hP (rfl) k96 dX2_behind_95 ?_
      refine lv_iconst (v := 1) hx hb dX2_behind_98 (by decide) ?_
      refine lv_isub hx hb dX2_behind_99 ?_
      refine m_pi_tp hx hb hts inW hown hK hP hD hS k96 dX2_behind_100 (fun H locs hP hD hS => ?_)
      exact z_retv hx hb hr hlocks hK hP hD hS ((if_neg c8).trans ((if_neg c58).trans (rfl))) dX2_behind_103
    · refine lv_aload_n hx hb dX2_behind_61 rfl (lv_at hl 0 rfl) ?_
      refine m_ga_18 hx hb hts inW hown hK hP k62 dX2_behind_62 ?_
      refine lv_iload_n hx hb dX2_behind_65 rfl (lv_at hl 1 rfl) ?_
      refine m_ld_sg (f := (m_sg σ)) (i := ix) hx hb hK hP (rfl) (h2) dX2_behind_66 ?_
      refine lv_iconst (v := 1) hx hb dX2_behind_67 (by decide) ?_
      refine lv_icmp_ne (tgt := 93) hx hb dX2_behind_68 (by decide) (fun c68 => ?_) (fun c68 => ?_)
      · refine lv_aload_n hx hb dX2_behind_93 rfl (lv_at hl 0 rfl) ?_
        refine lv_dup hx hb dX2_behind_94 rfl ?_
        refine m_gi_tp (v := (m_tp σ)) hx hb hts inW hown hK hP (rfl) k96 dX2_behind_95 ?_
        refine lv_iconst (v := 1) hx hb dX2_behind_98 (by decide) ?_
        refine lv_isub hx hb dX2_behind_99 ?_
        refine m_pi_tp hx hb hts inW hown hK hP hD hS k96 dX2_behind_100 (fun H locs hP hD hS => ?_)
        exact z_retv hx hb hr hlocks hK hP hD hS ((if_neg c8).trans ((if_pos c58).trans ((if_neg c68).trans (rfl)))) dX2_behind_103
      · refine lv_aload_n hx hb dX2_behind_71 rfl (lv_at hl 0 rfl) ?_
        refine m_gi_fa (v := (m_fa σ)) hx hb hts inW hown hK hP (rfl) k93 dX2_behind_72 ?_
        refine lv_if_ne (tgt := 93) hx hb dX2_behind_75 (by decide) (fun c75 => ?_) (fun c75 => ?_)
        · refine lv_aload_n hx hb dX2_behind_93 rfl (lv_at hl 0 rfl) ?_
          refine lv_dup hx hb dX2_behind_94 rfl ?_
          refine m_gi_tp (v := (m_tp σ)) hx hb hts inW hown hK hP (rfl) k96 dX2_behind_95 ?_
          refine lv_iconst (v := 1) hx hb dX2_behind_98 (by decide) ?_
          refine lv_isub hx hb dX2_behind_99 ?_
          refine m_pi_tp hx hb hts inW hown hK hP hD hS k96 dX2_behind_100 (fun H locs hP hD hS => ?_)
          exact z_retv hx hb hr hlocks hK hP hD hS ((if_neg c8).trans ((if_pos c58).trans ((if_pos c68).trans ((if_neg c75).trans (rfl))))) dX2_behind_103
        · refine lv_aload_n hx hb dX2_behind_78 rfl (lv_at hl 0 rfl) ?_
          refine lv_iload_n hx hb dX2_behind_79 rfl (lv_at hl 1 rfl) ?_
          refine lv_aload_n hx hb dX2_behind_80 rfl (lv_at hl 0 rfl) ?_
          refine m_ga_9 hx hb hts inW hown hK hP k35 dX2_behind_81 ?_
          refine lv_iload_n hx hb dX2_behind_84 rfl (lv_at hl 2 rfl) ?_
          refine m_ld_ot (f := (m_ot σ)) (i := h) hx hb hK hP (rfl) (h1) dX2_behind_85 ?_
          refine lv_lload_n hx hb dX2_behind_86 rfl (lv_at hl 3 rfl) ?_
          refine z_callv (As := [.int ix, .int ((m_ot σ) h.toNatClampNeg), .long v]) (rest := []) XX (cMM_goOn l D O K ix ((m_ot σ) h.toNatClampNeg) v σ (h2) (h4)) (cwV 3 hts gX2_behind_X2_goOn rfl rfl rfl qX2_goOn ⟨by decide, by decide⟩) (va_recv hK hP (ci := 2) (q0 := 0) rfl rfl) hK hP hD hS hA rfl hl.1 rfl (Nat.le_of_ble_eq_true rfl) dX2_behind_87 ⟨Nat.zero_le _, Nat.zero_le _⟩ (fun H locs hP hD hS => ?_)
          refine lv_goto (tgt := 103) hx hb dX2_behind_90 (by decide) ?_
          exact z_retv hx hb hr hlocks hK hP hD hS ((if_neg c8).trans ((if_pos c58).trans ((if_pos c68).trans ((if_pos c75).trans (rfl))))) dX2_behind_103
  · refine lv_aload_n hx hb dX2_behind_11 rfl (lv_at hl 0 rfl) ?_
    refine m_gi_fa (v := (m_fa σ)) hx hb hts inW hown hK hP (rfl) k93 dX2_behind_12 ?_
    refine lv_if_eq (tgt := 50) hx hb dX2_behind_15 (by decide) (fun c15 => ?_) (fun c15 => ?_)
    · refine lv_aload_n hx hb dX2_behind_50 rfl (lv_at hl 0 rfl) ?_
      refine m_ga_3 hx hb hts inW hown hK hP k17 dX2_behind_51 ?_
      refine lv_iload_n hx hb dX2_behind_54 rfl (lv_at hl 2 rfl) ?_
      refine m_ld_so (f := (m_so σ)) (i := h) hx hb hK hP (rfl) (h1) dX2_behind_55 ?_
      refine lv_bipush (v := 7) hx hb dX2_behind_56 (by decide) ?_
      refine lv_icmp_ne (tgt := 93) hx hb dX2_behind_58 (by decide) (fun c58 => ?_) (fun c58 => ?_)
      · refine lv_aload_n hx hb dX2_behind_93 rfl (lv_at hl 0 rfl) ?_
        refine lv_dup hx hb dX2_behind_94 rfl ?_
        refine m_gi_tp (v := (m_tp σ)) hx hb hts inW hown hK hP (rfl) k96 dX2_behind_95 ?_
        refine lv_iconst (v := 1) hx hb dX2_behind_98 (by decide) ?_
        refine lv_isub hx hb dX2_behind_99 ?_
        refine m_pi_tp hx hb hts inW hown hK hP hD hS k96 dX2_behind_100 (fun H locs hP hD hS => ?_)
        exact z_retv hx hb hr hlocks hK hP hD hS ((if_pos c8).trans ((if_pos c15).trans ((if_neg c58).trans (rfl)))) dX2_behind_103
      · refine lv_aload_n hx hb dX2_behind_61 rfl (lv_at hl 0 rfl) ?_
        refine m_ga_18 hx hb hts inW hown hK hP k62 dX2_behind_62 ?_
        refine lv_iload_n hx hb dX2_behind_65 rfl (lv_at hl 1 rfl) ?_
        refine m_ld_sg (f := (m_sg σ)) (i := ix) hx hb hK hP (rfl) (h2) dX2_behind_66 ?_
        refine lv_iconst (v := 1) hx hb dX2_behind_67 (by decide) ?_
        refine lv_icmp_ne (tgt := 93) hx hb dX2_behind_68 (by decide) (fun c68 => ?_) (fun c68 => ?_)
        · refine lv_aload_n hx hb dX2_behind_93 rfl (lv_at hl 0 rfl) ?_
          refine lv_dup hx hb dX2_behind_94 rfl ?_
          refine m_gi_tp (v := (m_tp σ)) hx hb hts inW hown hK hP (rfl) k96 dX2_behind_95 ?_
          refine lv_iconst (v := 1) hx hb dX2_behind_98 (by decide) ?_
          refine lv_isub hx hb dX2_behind_99 ?_
          refine m_pi_tp hx hb hts inW hown hK hP hD hS k96 dX2_behind_100 (fun H locs hP hD hS => ?_)
          exact z_retv hx hb hr hlocks hK hP hD hS ((if_pos c8).trans ((if_pos c15).trans ((if_pos c58).trans ((if_neg c68).trans (rfl))))) dX2_behind_103
        · refine lv_aload_n hx hb dX2_behind_71 rfl (lv_at hl 0 rfl) ?_
          refine m_gi_fa (v := (m_fa σ)) hx hb hts inW hown hK hP (rfl) k93 dX2_behind_72 ?_
          refine lv_if_ne (tgt := 93) hx hb dX2_behind_75 (by decide) (fun c75 => ?_) (fun c75 => ?_)
          · refine lv_aload_n hx hb dX2_behind_93 rfl (lv_at hl 0 rfl) ?_
            refine lv_dup hx hb dX2_behind_94 rfl ?_
            refine m_gi_tp (v := (m_tp σ)) hx hb hts inW hown hK hP (rfl) k96 dX2_behind_95 ?_
            refine lv_iconst (v := 1) hx hb dX2_behind_98 (by decide) ?_
            refine lv_isub hx hb dX2_behind_99 ?_
            refine m_pi_tp hx hb hts inW hown hK hP hD hS k96 dX2_behind_100 (fun H locs hP hD hS => ?_)
            exact z_retv hx hb hr hlocks hK hP hD hS ((if_pos c8).trans ((if_pos c15).trans ((if_pos c58).trans ((if_pos c68).trans ((if_neg c75).trans (rfl)))))) dX2_behind_103
          · refine lv_aload_n hx hb dX2_behind_78 rfl (lv_at hl 0 rfl) ?_
            refine lv_iload_n hx hb dX2_behind_79 rfl (lv_at hl 1 rfl) ?_
            refine lv_aload_n hx hb dX2_behind_80 rfl (lv_at hl 0 rfl) ?_
            refine m_ga_9 hx hb hts inW hown hK hP k35 dX2_behind_81 ?_
            refine lv_iload_n hx hb dX2_behind_84 rfl (lv_at hl 2 rfl) ?_
            refine m_ld_ot (f := (m_ot σ)) (i := h) hx hb hK hP (rfl) (h1) dX2_behind_85 ?_
            refine lv_lload_n hx hb dX2_behind_86 rfl (lv_at hl 3 rfl) ?_
            refine z_callv (As := [.int ix, .int ((m_ot σ) h.toNatClampNeg), .long v]) (rest := []) XX (cMM_goOn l D O K ix ((m_ot σ) h.toNatClampNeg) v σ (h2) (h4)) (cwV 3 hts gX2_behind_X2_goOn rfl rfl rfl qX2_goOn ⟨by decide, by decide⟩) (va_recv hK hP (ci := 2) (q0 := 0) rfl rfl) hK hP hD hS hA rfl hl.1 rfl (Nat.le_of_ble_eq_true rfl) dX2_behind_87 ⟨Nat.zero_le _, Nat.zero_le _⟩ (fun H locs hP hD hS => ?_)
            refine lv_goto (tgt := 103) hx hb dX2_behind_90 (by decide) ?_
            exact z_retv hx hb hr hlocks hK hP hD hS ((if_pos c8).trans ((if_pos c15).trans ((if_pos c58).trans ((if_pos c68).trans ((if_pos c75).trans (rfl)))))) dX2_behind_103
    · refine lv_aload_n hx hb dX2_behind_18 rfl (lv_at hl 0 rfl) ?_
      refine m_gi_fa (v := (m_fa σ)) hx hb hts inW hown hK hP (rfl) k93 dX2_behind_19 ?_
      refine lv_bipush (v := 6) hx hb dX2_behind_22 (by decide) ?_
      refine lv_icmp_eq (tgt := 50) hx hb dX2_behind_24 (by decide) (fun c24 => ?_) (fun c24 => ?_)
      · refine lv_aload_n hx hb dX2_behind_50 rfl (lv_at hl 0 rfl) ?_
        refine m_ga_3 hx hb hts inW hown hK hP k17 dX2_behind_51 ?_
        refine lv_iload_n hx hb dX2_behind_54 rfl (lv_at hl 2 rfl) ?_
        refine m_ld_so (f := (m_so σ)) (i := h) hx hb hK hP (rfl) (h1) dX2_behind_55 ?_
        refine lv_bipush (v := 7) hx hb dX2_behind_56 (by decide) ?_
        refine lv_icmp_ne (tgt := 93) hx hb dX2_behind_58 (by decide) (fun c58 => ?_) (fun c58 => ?_)
        · refine lv_aload_n hx hb dX2_behind_93 rfl (lv_at hl 0 rfl) ?_
          refine lv_dup hx hb dX2_behind_94 rfl ?_
          refine m_gi_tp (v := (m_tp σ)) hx hb hts inW hown hK hP (rfl) k96 dX2_behind_95 ?_
          refine lv_iconst (v := 1) hx hb dX2_behind_98 (by decide) ?_
          refine lv_isub hx hb dX2_behind_99 ?_
          refine m_pi_tp hx hb hts inW hown hK hP hD hS k96 dX2_behind_100 (fun H locs hP hD hS => ?_)
          exact z_retv hx hb hr hlocks hK hP hD hS ((if_pos c8).trans ((if_neg c15).trans ((if_pos c24).trans ((if_neg c58).trans (rfl))))) dX2_behind_103
        · refine lv_aload_n hx hb dX2_behind_61 rfl (lv_at hl 0 rfl) ?_
          refine m_ga_18 hx hb hts inW hown hK hP k62 dX2_behind_62 ?_
          refine lv_iload_n hx hb dX2_behind_65 rfl (lv_at hl 1 rfl) ?_
          refine m_ld_sg (f := (m_sg σ)) (i := ix) hx hb hK hP (rfl) (h2) dX2_behind_66 ?_
          refine lv_iconst (v := 1) hx hb dX2_behind_67 (by decide) ?_
          refine lv_icmp_ne (tgt := 93) hx hb dX2_behind_68 (by decide) (fun c68 => ?_) (fun c68 => ?_)
          · refine lv_aload_n hx hb dX2_behind_93 rfl (lv_at hl 0 rfl) ?_
            refine lv_dup hx hb dX2_behind_94 rfl ?_
            refine m_gi_tp (v := (m_tp σ)) hx hb hts inW hown hK hP (rfl) k96 dX2_behind_95 ?_
            refine lv_iconst (v := 1) hx hb dX2_behind_98 (by decide) ?_
            refine lv_isub hx hb dX2_behind_99 ?_
            refine m_pi_tp hx hb hts inW hown hK hP hD hS k96 dX2_behind_100 (fun H locs hP hD hS => ?_)
            exact z_retv hx hb hr hlocks hK hP hD hS ((if_pos c8).trans ((if_neg c15).trans ((if_pos c24).trans ((if_pos c58).trans ((if_neg c68).trans (rfl)))))) dX2_behind_103
          · refine lv_aload_n hx hb dX2_behind_71 rfl (lv_at hl 0 rfl) ?_
            refine m_gi_fa (v := (m_fa σ)) hx hb hts inW hown hK hP (rfl) k93 dX2_behind_72 ?_
            refine lv_if_ne (tgt := 93) hx hb dX2_behind_75 (by decide) (fun c75 => ?_) (fun c75 => ?_)
            · refine lv_aload_n hx hb dX2_behind_93 rfl (lv_at hl 0 rfl) ?_
              refine lv_dup hx hb dX2_behind_94 rfl ?_
              refine m_gi_tp (v := (m_tp σ)) hx hb hts inW hown hK hP (rfl) k96 dX2_behind_95 ?_
              refine lv_iconst (v := 1) hx hb dX2_behind_98 (by decide) ?_
              refine lv_isub hx hb dX2_behind_99 ?_
              refine m_pi_tp hx hb hts inW hown hK hP hD hS k96 dX2_behind_100 (fun H locs hP hD hS => ?_)
              exact z_retv hx hb hr hlocks hK hP hD hS ((if_pos c8).trans ((if_neg c15).trans ((if_pos c24).trans ((if_pos c58).trans ((if_pos c68).trans ((if_neg c75).trans (rfl))))))) dX2_behind_103
            · refine lv_aload_n hx hb dX2_behind_78 rfl (lv_at hl 0 rfl) ?_
              refine lv_iload_n hx hb dX2_behind_79 rfl (lv_at hl 1 rfl) ?_
              refine lv_aload_n hx hb dX2_behind_80 rfl (lv_at hl 0 rfl) ?_
              refine m_ga_9 hx hb hts inW hown hK hP k35 dX2_behind_81 ?_
              refine lv_iload_n hx hb dX2_behind_84 rfl (lv_at hl 2 rfl) ?_
              refine m_ld_ot (f := (m_ot σ)) (i := h) hx hb hK hP (rfl) (h1) dX2_behind_85 ?_
              refine lv_lload_n hx hb dX2_behind_86 rfl (lv_at hl 3 rfl) ?_
              refine z_callv (As := [.int ix, .int ((m_ot σ) h.toNatClampNeg), .long v]) (rest := []) XX (cMM_goOn l D O K ix ((m_ot σ) h.toNatClampNeg) v σ (h2) (h4)) (cwV 3 hts gX2_behind_X2_goOn rfl rfl rfl qX2_goOn ⟨by decide, by decide⟩) (va_recv hK hP (ci := 2) (q0 := 0) rfl rfl) hK hP hD hS hA rfl hl.1 rfl (Nat.le_of_ble_eq_true rfl) dX2_behind_87 ⟨Nat.zero_le _, Nat.zero_le _⟩ (fun H locs hP hD hS => ?_)
              refine lv_goto (tgt := 103) hx hb dX2_behind_90 (by decide) ?_
              exact z_retv hx hb hr hlocks hK hP hD hS ((if_pos c8).trans ((if_neg c15).trans ((if_pos c24).trans ((if_pos c58).trans ((if_pos c68).trans ((if_pos c75).trans (rfl))))))) dX2_behind_103
      · refine lv_aload_n hx hb dX2_behind_27 rfl (lv_at hl 0 rfl) ?_
        refine lv_aload_n hx hb dX2_behind_28 rfl (lv_at hl 0 rfl) ?_
        refine m_ga_5 hx hb hts inW hown hK hP k23 dX2_behind_29 ?_
        refine lv_iload_n hx hb dX2_behind_32 rfl (lv_at hl 2 rfl) ?_
        refine m_ld_as (f := (m_as σ)) (i := h) hx hb hK hP (rfl) (h1) dX2_behind_33 ?_
        refine lv_aload_n hx hb dX2_behind_34 rfl (lv_at hl 0 rfl) ?_
        refine m_gi_fa (v := (m_fa σ)) hx hb hts inW hown hK hP (rfl) k93 dX2_behind_35 ?_
        refine lv_i2l (v := ((m_fa σ)).toInt64) hx hb dX2_behind_38 rfl ?_
        refine z_callv (As := [.int ((m_as σ) h.toNatClampNeg), .long (((m_fa σ)).toInt64)]) (rest := []) XX (cMM_keep l D O K ((m_as σ) h.toNatClampNeg) (((m_fa σ)).toInt64) σ (h3 c8)) (cwV 2 hts gX2_behind_X2_keep rfl rfl rfl qX2_keep ⟨by decide, by decide⟩) (va_recv hK hP (ci := 2) (q0 := 0) rfl rfl) hK hP hD hS hA rfl hl.1 rfl (Nat.le_of_ble_eq_true rfl) dX2_behind_39 ⟨Nat.zero_le _, Nat.zero_le _⟩ (fun H locs hP hD hS => ?_)
        refine lv_aload_n hx hb dX2_behind_42 rfl (lv_at hl 0 rfl) ?_
        refine lv_iconst (v := 0) hx hb dX2_behind_43 (by decide) ?_
        refine z_callv (As := [.int 0]) (rest := []) XX (cMM_ends l D O K 0 (mf_keep ((m_as σ) h.toNatClampNeg) (((m_fa σ)).toInt64) σ)) (cwV 1 hts gX2_behind_X2_ends rfl rfl rfl qX2_ends ⟨by decide, by decide⟩) (va_recv hK hP (ci := 2) (q0 := 0) rfl rfl) hK hP hD hS hA rfl hl.1 rfl (Nat.le_of_ble_eq_true rfl) dX2_behind_44 ⟨Nat.zero_le _, Nat.zero_le _⟩ (fun H locs hP hD hS => ?_)
        refine lv_goto (tgt := 103) hx hb dX2_behind_47 (by decide) ?_
        exact z_retv hx hb hr hlocks hK hP hD hS ((if_pos c8).trans ((if_neg c15).trans ((if_neg c24).trans (rfl)))) dX2_behind_103
noncomputable def mf_begins  (ix : Int32) (h : Int32) (v : Int64) (σ : SM) : SM := if ((m_so σ) h.toNatClampNeg) = 0 then (mf_ends 0 (mf_keep ((m_as σ) h.toNatClampNeg) v σ)) else (if ((m_so σ) h.toNatClampNeg) = 1 then (mf_sends ((m_as σ) h.toNatClampNeg) (v + ((m_cs σ) h.toNatClampNeg)) σ) else (if ((m_so σ) h.toNatClampNeg) = 2 then (mf_goOn ix ((m_ot σ) h.toNatClampNeg) (v + ((m_cs σ) h.toNatClampNeg)) σ) else (if ((m_so σ) h.toNatClampNeg) = 3 then (mf_goOn ix ((m_st σ) ((m_as σ) h.toNatClampNeg).toNatClampNeg) (v + ((m_cs σ) h.toNatClampNeg)) σ) else (if ((m_so σ) h.toNatClampNeg) = 4 then (if (lg_cmp ((m_cs σ) h.toNatClampNeg) 0) = 0 then (mf_ends 2 σ) else (if (lg_cmp (v - v / ((m_cs σ) h.toNatClampNeg) * ((m_cs σ) h.toNatClampNeg)) ((((m_as σ) h.toNatClampNeg)).toInt64)) = 0 then (mf_goOn ix ((m_fo σ) h.toNatClampNeg) v σ) else (mf_ends 0 σ))) else (if ((m_so σ) h.toNatClampNeg) = 5 then (if ((m_le σ) h.toNatClampNeg) = ((m_bs σ) h.toNatClampNeg) then (mf_ends 4 σ) else (mf_goOn ix ((m_fo σ) h.toNatClampNeg) v (ms_le σ (upd (m_le σ) h.toNatClampNeg (((m_le σ) h.toNatClampNeg) + 1))))) else (if ((m_so σ) h.toNatClampNeg) = 6 then (mf_ends 0 (ms_st (mf_keep ((m_as σ) h.toNatClampNeg) v σ) (upd (m_st (mf_keep ((m_as σ) h.toNatClampNeg) v σ)) (((m_ki (mf_keep ((m_as σ) h.toNatClampNeg) v σ)) h.toNatClampNeg).toNatClampNeg) ((m_fo (mf_keep ((m_as σ) h.toNatClampNeg) v σ)) h.toNatClampNeg)))) else (if ((m_so σ) h.toNatClampNeg) = 7 then (mf_goOn ix ((m_fo σ) h.toNatClampNeg) v σ) else (if ((m_so σ) h.toNatClampNeg) = 8 then (mf_shares ((m_as σ) h.toNatClampNeg) ((m_bs σ) h.toNatClampNeg) v ((m_cs σ) h.toNatClampNeg) σ) else (if ((m_so σ) h.toNatClampNeg) = 9 then (if (mf_isBox ((v).toInt32)) = 0 then (if (mf_isBox ((v).toInt32)) = 0 then (mf_ends 3 σ) else (mf_ends 0 σ)) else (if (mf_isBox ((v).toInt32)) = 0 then (mf_ends 3 (mf_keep ((v).toInt32) 1 σ)) else (mf_ends 0 (mf_keep ((v).toInt32) 1 σ)))) else (if ((m_so σ) h.toNatClampNeg) = 10 then (mf_goOn ix ((m_fo σ) h.toNatClampNeg) v σ) else (if ((m_so σ) h.toNatClampNeg) = 11 then (if 0 ≤ ((m_fo (mf_keep ((m_as σ) h.toNatClampNeg) v σ)) h.toNatClampNeg) then (mf_goOn ix ((m_fo (mf_keep ((m_as σ) h.toNatClampNeg) v σ)) h.toNatClampNeg) (((m_su (mf_keep ((m_as σ) h.toNatClampNeg) v σ)) ((m_as σ) h.toNatClampNeg).toNatClampNeg) / (((m_co (mf_keep ((m_as σ) h.toNatClampNeg) v σ)) ((m_as σ) h.toNatClampNeg).toNatClampNeg)).toInt64) (mf_keep ((m_as σ) h.toNatClampNeg) v σ)) else (mf_ends 0 (mf_keep ((m_as σ) h.toNatClampNeg) v σ))) else (if ((m_so σ) h.toNatClampNeg) = 12 then (if (lg_cmp v 1) ≤ 0 then (mf_ends 0 (mf_keep 1 v σ)) else (mf_sends 0 (v - 1) (mf_keep 1 v σ))) else (mf_goOn ix ((m_fo σ) h.toNatClampNeg) v σ)))))))))))))
set_option maxRecDepth 100000 in
set_option maxHeartbeats 4000000 in
theorem cMM_begins (l : Launch) (D : va_G) (O : Nat → Nat) (K : Nat → ClassId) (ix : Int32) (h : Int32) (v : Int64) (σ : SM) (h1 : vp_in h 202) (h2 : vp_in ix 8) (h4 : ¬ m_tp σ = 8 → vp_in (m_tp σ) 8) (h5 : ¬ m_sz σ = 40 → vp_in (m_sz σ) 40) (h0 : m_so σ h.toNatClampNeg = 0 → vp_in (m_as σ h.toNatClampNeg) 6) (h3 : m_so σ h.toNatClampNeg = 3 → vp_in (m_as σ h.toNatClampNeg) 10) (h6 : m_so σ h.toNatClampNeg = 6 → vp_in (m_as σ h.toNatClampNeg) 6 ∧ vp_in (m_ki σ h.toNatClampNeg) 10) (h8 : m_so σ h.toNatClampNeg = 8 → vp_in (m_as σ h.toNatClampNeg) 6 ∧ vp_in (m_bs σ h.toNatClampNeg) 6) (h11 : m_so σ h.toNatClampNeg = 11 → vp_in (m_as σ h.toNatClampNeg) 6 ∧ ¬ (m_co (mf_keep (m_as σ h.toNatClampNeg) v σ) (m_as σ h.toNatClampNeg).toNatClampNeg).toInt64 = 0) : cV l yX2_begins wsX2_begins { frames := 2, cells := 0, slots := 0, locals := 200 } 0 0 D (mT K) (mW O K) σ [.ref (O 0), .int ix, .int h, .long v] (mf_begins ix h v σ) := by
  intro sz
  refine z_start (cc := cX2_begins) (maxL := 9) (ret := none) (Qc := fun A => va_Qv (fun u9 => u9 = (mf_begins ix h v σ)) (zB D (mT K) (mW O K) A) A) sz (by decide) rfl (Nat.le_of_ble_eq_true rfl) ?_
  intro p e s m below meth c A X hA hK hP hD hS ls hl
  obtain ⟨hx, hb, hr, hml, hts, hown, hlocks, hnm⟩ := X
  have hown : s.vm.findClass RX2 = some m.cls := hown
  have hl : lv_has ls 9 [(0, .ref (O 0)), (1, .int ix), (2, .int h), (3, .long v)] := hl
  have inW : ∀ w ∈ wsX20, w ∈ wsX2_begins := fun w h => List.mem_cons_of_mem _ (List.mem_append_right _ h)
  have XX : CallFix p m c cX2_begins 9 s _ wsX2_begins RX2 := ⟨hx, hb, hml, hown, hts⟩
  have k23 := hts (.fieldLink RX2 23 "MailRoomModel" "as" "[I") (List.mem_of_getElem? (i := 1) rfl)
  have k29 := hts (.fieldLink RX2 29 "MailRoomModel" "cs" "[J") (List.mem_of_getElem? (i := 2) rfl)
  have k17 := hts (.fieldLink RX2 17 "MailRoomModel" "sorts" "[I") (List.mem_of_getElem? (i := 3) rfl)
  have k35 := hts (.fieldLink RX2 35 "MailRoomModel" "others" "[I") (List.mem_of_getElem? (i := 4) rfl)
  have k41 := hts (.fieldLink RX2 41 "MailRoomModel" "stands" "[I") (List.mem_of_getElem? (i := 5) rfl)
  have k32 := hts (.fieldLink RX2 32 "MailRoomModel" "formers" "[I") (List.mem_of_getElem? (i := 6) rfl)
  have k38 := hts (.fieldLink RX2 38 "MailRoomModel" "lets" "[I") (List.mem_of_getElem? (i := 7) rfl)
  have k26 := hts (.fieldLink RX2 26 "MailRoomModel" "bs" "[I") (List.mem_of_getElem? (i := 8) rfl)
  have k20 := hts (.fieldLink RX2 20 "MailRoomModel" "kinds" "[I") (List.mem_of_getElem? (i := 9) rfl)
  have k7 := hts (.fieldLink RX2 7 "MailRoomModel" "sums" "[J") (List.mem_of_getElem? (i := 10) rfl)
  have k13 := hts (.fieldLink RX2 13 "MailRoomModel" "counts" "[I") (List.mem_of_getElem? (i := 11) rfl)
  refine lv_aload_n hx hb dX2_begins_0 rfl (lv_at hl 0 rfl) ?_
  refine m_ga_5 hx hb hts inW hown hK hP k23 dX2_begins_1 ?_
  refine lv_iload_n hx hb dX2_begins_4 rfl (lv_at hl 2 rfl) ?_
  refine m_ld_as (f := (m_as σ)) (i := h) hx hb hK hP (rfl) (h1) dX2_begins_5 ?_
  refine lv_istore (lv' := [(5, .int ((m_as σ) h.toNatClampNeg)), (0, .ref (O 0)), (1, .int ix), (2, .int h), (3, .long v)]) hx hb dX2_begins_6 hl (by decide) rfl (fun ls hl => ?_)
  refine lv_aload_n hx hb dX2_begins_8 rfl (lv_at hl 1 rfl) ?_
  refine m_ga_7 hx hb hts inW hown hK hP k29 dX2_begins_9 ?_
  refine lv_iload_n hx hb dX2_begins_12 rfl (lv_at hl 3 rfl) ?_
  refine m_ld_cs (f := (m_cs σ)) (i := h) hx hb hK hP (rfl) (h1) dX2_begins_13 ?_
  refine lv_lstore (lv' := [(6, .long ((m_cs σ) h.toNatClampNeg)), (5, .int ((m_as σ) h.toNatClampNeg)), (0, .ref (O 0)), (1, .int ix), (2, .int h), (3, .long v)]) hx hb dX2_begins_14 hl (by decide) rfl (fun ls hl => ?_)
  refine lv_aload_n hx hb dX2_begins_16 rfl (lv_at hl 2 rfl) ?_
  refine m_ga_3 hx hb hts inW hown hK hP k17 dX2_begins_17 ?_
  refine lv_iload_n hx hb dX2_begins_20 rfl (lv_at hl 4 rfl) ?_
  refine m_ld_so (f := (m_so σ)) (i := h) hx hb hK hP (rfl) (h1) dX2_begins_21 ?_
  by_cases t22_0 : ((m_so σ) h.toNatClampNeg) = 0
  · refine lv_tableIn (off := 66) (tgt := 88) hx hb dX2_begins_22 (by rw [t22_0]; decide) (by rw [t22_0]; decide) (by rw [t22_0]; rfl) (by decide) ?_
    refine lv_aload_n hx hb dX2_begins_88 rfl (lv_at hl 2 rfl) ?_
    refine lv_iload hx hb dX2_begins_89 (lv_at hl 1 rfl) ?_
    refine lv_lload_n hx hb dX2_begins_91 rfl (lv_at hl 5 rfl) ?_
    refine z_callv (As := [.int ((m_as σ) h.toNatClampNeg), .long v]) (rest := []) XX (cMM_keep l D O K ((m_as σ) h.toNatClampNeg) v σ (h0 t22_0)) (cwV 2 hts gX2_begins_X2_keep rfl rfl rfl qX2_keep ⟨by decide, by decide⟩) (va_recv hK hP (ci := 2) (q0 := 0) rfl rfl) hK hP hD hS hA rfl hl.1 rfl (Nat.le_of_ble_eq_true rfl) dX2_begins_92 ⟨Nat.zero_le _, Nat.zero_le _⟩ (fun H locs hP hD hS => ?_)
    refine lv_aload_n hx hb dX2_begins_95 rfl (lv_at hl 2 rfl) ?_
    refine lv_iconst (v := 0) hx hb dX2_begins_96 (by decide) ?_
    refine z_callv (As := [.int 0]) (rest := []) XX (cMM_ends l D O K 0 (mf_keep ((m_as σ) h.toNatClampNeg) v σ)) (cwV 1 hts gX2_begins_X2_ends rfl rfl rfl qX2_ends ⟨by decide, by decide⟩) (va_recv hK hP (ci := 2) (q0 := 0) rfl rfl) hK hP hD hS hA rfl hl.1 rfl (Nat.le_of_ble_eq_true rfl) dX2_begins_97 ⟨Nat.zero_le _, Nat.zero_le _⟩ (fun H locs hP hD hS => ?_)
    refine lv_goto (tgt := 436) hx hb dX2_begins_100 (by decide) ?_
    exact z_retv hx hb hr hlocks hK hP hD hS ((if_pos t22_0).trans (rfl)) dX2_begins_436
  · by_cases t22_1 : ((m_so σ) h.toNatClampNeg) = 1
    · refine lv_tableIn (off := 81) (tgt := 103) hx hb dX2_begins_22 (by rw [t22_1]; decide) (by rw [t22_1]; decide) (by rw [t22_1]; rfl) (by decide) ?_
      refine lv_aload_n hx hb dX2_begins_103 rfl (lv_at hl 2 rfl) ?_
      refine lv_iload hx hb dX2_begins_104 (lv_at hl 1 rfl) ?_
      refine lv_lload_n hx hb dX2_begins_106 rfl (lv_at hl 5 rfl) ?_
      refine lv_lload hx hb dX2_begins_107 (lv_at hl 0 rfl) ?_
      refine lv_ladd hx hb dX2_begins_109 ?_
      refine z_callv (As := [.int ((m_as σ) h.toNatClampNeg), .long (v + ((m_cs σ) h.toNatClampNeg))]) (rest := []) XX (cMM_sends l D O K ((m_as σ) h.toNatClampNeg) (v + ((m_cs σ) h.toNatClampNeg)) σ (h5)) (cwV 2 hts gX2_begins_X2_sends rfl rfl rfl qX2_sends ⟨by decide, by decide⟩) (va_recv hK hP (ci := 2) (q0 := 0) rfl rfl) hK hP hD hS hA rfl hl.1 rfl (Nat.le_of_ble_eq_true rfl) dX2_begins_110 ⟨Nat.zero_le _, Nat.zero_le _⟩ (fun H locs hP hD hS => ?_)
      refine lv_goto (tgt := 436) hx hb dX2_begins_113 (by decide) ?_
      exact z_retv hx hb hr hlocks hK hP hD hS ((if_neg t22_0).trans ((if_pos t22_1).trans (rfl))) dX2_begins_436
    · by_cases t22_2 : ((m_so σ) h.toNatClampNeg) = 2
      · refine lv_tableIn (off := 94) (tgt := 116) hx hb dX2_begins_22 (by rw [t22_2]; decide) (by rw [t22_2]; decide) (by rw [t22_2]; rfl) (by decide) ?_
        refine lv_aload_n hx hb dX2_begins_116 rfl (lv_at hl 2 rfl) ?_
        refine lv_iload_n hx hb dX2_begins_117 rfl (lv_at hl 3 rfl) ?_
        refine lv_aload_n hx hb dX2_begins_118 rfl (lv_at hl 2 rfl) ?_
        refine m_ga_9 hx hb hts inW hown hK hP k35 dX2_begins_119 ?_
        refine lv_iload_n hx hb dX2_begins_122 rfl (lv_at hl 4 rfl) ?_
        refine m_ld_ot (f := (m_ot σ)) (i := h) hx hb hK hP (rfl) (h1) dX2_begins_123 ?_
        refine lv_lload_n hx hb dX2_begins_124 rfl (lv_at hl 5 rfl) ?_
        refine lv_lload hx hb dX2_begins_125 (lv_at hl 0 rfl) ?_
        refine lv_ladd hx hb dX2_begins_127 ?_
        refine z_callv (As := [.int ix, .int ((m_ot σ) h.toNatClampNeg), .long (v + ((m_cs σ) h.toNatClampNeg))]) (rest := []) XX (cMM_goOn l D O K ix ((m_ot σ) h.toNatClampNeg) (v + ((m_cs σ) h.toNatClampNeg)) σ (h2) (h4)) (cwV 3 hts gX2_begins_X2_goOn rfl rfl rfl qX2_goOn ⟨by decide, by decide⟩) (va_recv hK hP (ci := 2) (q0 := 0) rfl rfl) hK hP hD hS hA rfl hl.1 rfl (Nat.le_of_ble_eq_true rfl) dX2_begins_128 ⟨Nat.zero_le _, Nat.zero_le _⟩ (fun H locs hP hD hS => ?_)
        refine lv_goto (tgt := 436) hx hb dX2_begins_131 (by decide) ?_
        exact z_retv hx hb hr hlocks hK hP hD hS ((if_neg t22_0).trans ((if_neg t22_1).trans ((if_pos t22_2).trans (rfl)))) dX2_begins_436
      · by_cases t22_3 : ((m_so σ) h.toNatClampNeg) = 3
        · refine lv_tableIn (off := 112) (tgt := 134) hx hb dX2_begins_22 (by rw [t22_3]; decide) (by rw [t22_3]; decide) (by rw [t22_3]; rfl) (by decide) ?_
          refine lv_aload_n hx hb dX2_begins_134 rfl (lv_at hl 2 rfl) ?_
          refine lv_iload_n hx hb dX2_begins_135 rfl (lv_at hl 3 rfl) ?_
          refine lv_aload_n hx hb dX2_begins_136 rfl (lv_at hl 2 rfl) ?_
          refine m_ga_11 hx hb hts inW hown hK hP k41 dX2_begins_137 ?_
          refine lv_iload hx hb dX2_begins_140 (lv_at hl 1 rfl) ?_
          refine m_ld_st (f := (m_st σ)) (i := ((m_as σ) h.toNatClampNeg)) hx hb hK hP (rfl) (h3 t22_3) dX2_begins_142 ?_
          refine lv_lload_n hx hb dX2_begins_143 rfl (lv_at hl 5 rfl) ?_
          refine lv_lload hx hb dX2_begins_144 (lv_at hl 0 rfl) ?_
          refine lv_ladd hx hb dX2_begins_146 ?_
          refine z_callv (As := [.int ix, .int ((m_st σ) ((m_as σ) h.toNatClampNeg).toNatClampNeg), .long (v + ((m_cs σ) h.toNatClampNeg))]) (rest := []) XX (cMM_goOn l D O K ix ((m_st σ) ((m_as σ) h.toNatClampNeg).toNatClampNeg) (v + ((m_cs σ) h.toNatClampNeg)) σ (h2) (h4)) (cwV 3 hts gX2_begins_X2_goOn rfl rfl rfl qX2_goOn ⟨by decide, by decide⟩) (va_recv hK hP (ci := 2) (q0 := 0) rfl rfl) hK hP hD hS hA rfl hl.1 rfl (Nat.le_of_ble_eq_true rfl) dX2_begins_147 ⟨Nat.zero_le _, Nat.zero_le _⟩ (fun H locs hP hD hS => ?_)
          refine lv_goto (tgt := 436) hx hb dX2_begins_150 (by decide) ?_
          exact z_retv hx hb hr hlocks hK hP hD hS ((if_neg t22_0).trans ((if_neg t22_1).trans ((if_neg t22_2).trans ((if_pos t22_3).trans (rfl))))) dX2_begins_436
        · by_cases t22_4 : ((m_so σ) h.toNatClampNeg) = 4
          · refine lv_tableIn (off := 131) (tgt := 153) hx hb dX2_begins_22 (by rw [t22_4]; decide) (by rw [t22_4]; decide) (by rw [t22_4]; rfl) (by decide) ?_
            refine lv_lload hx hb dX2_begins_153 (lv_at hl 0 rfl) ?_
            refine lv_lconst (v := 0) hx hb dX2_begins_155 (by decide) ?_
            refine W.lcmp hx hb dX2_begins_156 ?_
            refine lv_if_ne (tgt := 168) hx hb dX2_begins_157 (by decide) (fun c157 => ?_) (fun c157 => ?_)
            · refine lv_lload_n hx hb dX2_begins_168 rfl (lv_at hl 5 rfl) ?_
              refine lv_lload hx hb dX2_begins_169 (lv_at hl 0 rfl) ?_
              refine lv_lrem hx hb dX2_begins_171 (z_l0 c157) ?_
              refine lv_iload hx hb dX2_begins_172 (lv_at hl 1 rfl) ?_
              refine lv_i2l (v := (((m_as σ) h.toNatClampNeg)).toInt64) hx hb dX2_begins_174 rfl ?_
              refine W.lcmp hx hb dX2_begins_175 ?_
              refine lv_if_ne (tgt := 194) hx hb dX2_begins_176 (by decide) (fun c176 => ?_) (fun c176 => ?_)
              · refine lv_aload_n hx hb dX2_begins_194 rfl (lv_at hl 2 rfl) ?_
                refine lv_iconst (v := 0) hx hb dX2_begins_195 (by decide) ?_
                refine z_callv (As := [.int 0]) (rest := []) XX (cMM_ends l D O K 0 σ) (cwV 1 hts gX2_begins_X2_ends rfl rfl rfl qX2_ends ⟨by decide, by decide⟩) (va_recv hK hP (ci := 2) (q0 := 0) rfl rfl) hK hP hD hS hA rfl hl.1 rfl (Nat.le_of_ble_eq_true rfl) dX2_begins_196 ⟨Nat.zero_le _, Nat.zero_le _⟩ (fun H locs hP hD hS => ?_)
                refine lv_goto (tgt := 436) hx hb dX2_begins_199 (by decide) ?_
                exact z_retv hx hb hr hlocks hK hP hD hS ((if_neg t22_0).trans ((if_neg t22_1).trans ((if_neg t22_2).trans ((if_neg t22_3).trans ((if_pos t22_4).trans ((if_neg c157).trans ((if_neg c176).trans (rfl)))))))) dX2_begins_436
              · refine lv_aload_n hx hb dX2_begins_179 rfl (lv_at hl 2 rfl) ?_
                refine lv_iload_n hx hb dX2_begins_180 rfl (lv_at hl 3 rfl) ?_
                refine lv_aload_n hx hb dX2_begins_181 rfl (lv_at hl 2 rfl) ?_
                refine m_ga_8 hx hb hts inW hown hK hP k32 dX2_begins_182 ?_
                refine lv_iload_n hx hb dX2_begins_185 rfl (lv_at hl 4 rfl) ?_
                refine m_ld_fo (f := (m_fo σ)) (i := h) hx hb hK hP (rfl) (h1) dX2_begins_186 ?_
                refine lv_lload_n hx hb dX2_begins_187 rfl (lv_at hl 5 rfl) ?_
                refine z_callv (As := [.int ix, .int ((m_fo σ) h.toNatClampNeg), .long v]) (rest := []) XX (cMM_goOn l D O K ix ((m_fo σ) h.toNatClampNeg) v σ (h2) (h4)) (cwV 3 hts gX2_begins_X2_goOn rfl rfl rfl qX2_goOn ⟨by decide, by decide⟩) (va_recv hK hP (ci := 2) (q0 := 0) rfl rfl) hK hP hD hS hA rfl hl.1 rfl (Nat.le_of_ble_eq_true rfl) dX2_begins_188 ⟨Nat.zero_le _, Nat.zero_le _⟩ (fun H locs hP hD hS => ?_)
                refine lv_goto (tgt := 436) hx hb dX2_begins_191 (by decide) ?_
                exact z_retv hx hb hr hlocks hK hP hD hS ((if_neg t22_0).trans ((if_neg t22_1).trans ((if_neg t22_2).trans ((if_neg t22_3).trans ((if_pos t22_4).trans ((if_neg c157).trans ((if_pos c176).trans (rfl)))))))) dX2_begins_436
            · refine lv_aload_n hx hb dX2_begins_160 rfl (lv_at hl 2 rfl) ?_
              refine lv_iconst (v := 2) hx hb dX2_begins_161 (by decide) ?_
              refine z_callv (As := [.int 2]) (rest := []) XX (cMM_ends l D O K 2 σ) (cwV 1 hts gX2_begins_X2_ends rfl rfl rfl qX2_ends ⟨by decide, by decide⟩) (va_recv hK hP (ci := 2) (q0 := 0) rfl rfl) hK hP hD hS hA rfl hl.1 rfl (Nat.le_of_ble_eq_true rfl) dX2_begins_162 ⟨Nat.zero_le _, Nat.zero_le _⟩ (fun H locs hP hD hS => ?_)
              refine lv_goto (tgt := 436) hx hb dX2_begins_165 (by decide) ?_
              exact z_retv hx hb hr hlocks hK hP hD hS ((if_neg t22_0).trans ((if_neg t22_1).trans ((if_neg t22_2).trans ((if_neg t22_3).trans ((if_pos t22_4).trans ((if_pos c157).trans (rfl))))))) dX2_begins_436
          · by_cases t22_5 : ((m_so σ) h.toNatClampNeg) = 5
            · refine lv_tableIn (off := 180) (tgt := 202) hx hb dX2_begins_22 (by rw [t22_5]; decide) (by rw [t22_5]; decide) (by rw [t22_5]; rfl) (by decide) ?_
              refine lv_aload_n hx hb dX2_begins_202 rfl (lv_at hl 2 rfl) ?_
              refine m_ga_10 hx hb hts inW hown hK hP k38 dX2_begins_203 ?_
              refine lv_iload_n hx hb dX2_begins_206 rfl (lv_at hl 4 rfl) ?_
              refine m_ld_le (f := (m_le σ)) (i := h) hx hb hK hP (rfl) (h1) dX2_begins_207 ?_
              refine lv_aload_n hx hb dX2_begins_208 rfl (lv_at hl 2 rfl) ?_
              refine m_ga_6 hx hb hts inW hown hK hP k26 dX2_begins_209 ?_
              refine lv_iload_n hx hb dX2_begins_212 rfl (lv_at hl 4 rfl) ?_
              refine m_ld_bs (f := (m_bs σ)) (i := h) hx hb hK hP (rfl) (h1) dX2_begins_213 ?_
              refine lv_icmp_ne (tgt := 225) hx hb dX2_begins_214 (by decide) (fun c214 => ?_) (fun c214 => ?_)
              · refine lv_aload_n hx hb dX2_begins_225 rfl (lv_at hl 2 rfl) ?_
                refine m_ga_10 hx hb hts inW hown hK hP k38 dX2_begins_226 ?_
                refine lv_iload_n hx hb dX2_begins_229 rfl (lv_at hl 4 rfl) ?_
                refine lv_dup2_11 hx hb dX2_begins_230 rfl rfl ?_
                refine m_ld_le (f := (m_le σ)) (i := h) hx hb hK hP (rfl) (h1) dX2_begins_231 ?_
                refine lv_iconst (v := 1) hx hb dX2_begins_232 (by decide) ?_
                refine lv_iadd hx hb dX2_begins_233 ?_
                refine m_st_le (f := (m_le σ)) (i := h) hx hb hK hP hD hS (rfl) (h1) dX2_begins_234 (fun H locs hP hD hS => ?_)
                refine lv_aload_n hx hb dX2_begins_235 rfl (lv_at hl 2 rfl) ?_
                refine lv_iload_n hx hb dX2_begins_236 rfl (lv_at hl 3 rfl) ?_
                refine lv_aload_n hx hb dX2_begins_237 rfl (lv_at hl 2 rfl) ?_
                refine m_ga_8 hx hb hts inW hown hK hP k32 dX2_begins_238 ?_
                refine lv_iload_n hx hb dX2_begins_241 rfl (lv_at hl 4 rfl) ?_
                refine m_ld_fo (f := (m_fo σ)) (i := h) hx hb hK hP (mr_fo_le _ _) (h1) dX2_begins_242 ?_
                refine lv_lload_n hx hb dX2_begins_243 rfl (lv_at hl 5 rfl) ?_
                refine z_callv (As := [.int ix, .int ((m_fo σ) h.toNatClampNeg), .long v]) (rest := []) XX (cMM_goOn l D O K ix ((m_fo σ) h.toNatClampNeg) v (ms_le σ (upd (m_le σ) h.toNatClampNeg (((m_le σ) h.toNatClampNeg) + 1))) (h2) (by rw [mr_tp_le]; exact h4)) (cwV 3 hts gX2_begins_X2_goOn rfl rfl rfl qX2_goOn ⟨by decide, by decide⟩) (va_recv hK hP (ci := 2) (q0 := 0) rfl rfl) hK hP hD hS hA rfl hl.1 rfl (Nat.le_of_ble_eq_true rfl) dX2_begins_244 ⟨Nat.zero_le _, Nat.zero_le _⟩ (fun H locs hP hD hS => ?_)
                refine lv_goto (tgt := 436) hx hb dX2_begins_247 (by decide) ?_
                exact z_retv hx hb hr hlocks hK hP hD hS ((if_neg t22_0).trans ((if_neg t22_1).trans ((if_neg t22_2).trans ((if_neg t22_3).trans ((if_neg t22_4).trans ((if_pos t22_5).trans ((if_neg c214).trans (rfl)))))))) dX2_begins_436
              · refine lv_aload_n hx hb dX2_begins_217 rfl (lv_at hl 2 rfl) ?_
                refine lv_iconst (v := 4) hx hb dX2_begins_218 (by decide) ?_
                refine z_callv (As := [.int 4]) (rest := []) XX (cMM_ends l D O K 4 σ) (cwV 1 hts gX2_begins_X2_ends rfl rfl rfl qX2_ends ⟨by decide, by decide⟩) (va_recv hK hP (ci := 2) (q0 := 0) rfl rfl) hK hP hD hS hA rfl hl.1 rfl (Nat.le_of_ble_eq_true rfl) dX2_begins_219 ⟨Nat.zero_le _, Nat.zero_le _⟩ (fun H locs hP hD hS => ?_)
                refine lv_goto (tgt := 436) hx hb dX2_begins_222 (by decide) ?_
                exact z_retv hx hb hr hlocks hK hP hD hS ((if_neg t22_0).trans ((if_neg t22_1).trans ((if_neg t22_2).trans ((if_neg t22_3).trans ((if_neg t22_4).trans ((if_pos t22_5).trans ((if_pos c214).trans (rfl)))))))) dX2_begins_436
            · by_cases t22_6 : ((m_so σ) h.toNatClampNeg) = 6
              · refine lv_tableIn (off := 228) (tgt := 250) hx hb dX2_begins_22 (by rw [t22_6]; decide) (by rw [t22_6]; decide) (by rw [t22_6]; rfl) (by decide) ?_
                refine lv_aload_n hx hb dX2_begins_250 rfl (lv_at hl 2 rfl) ?_
                refine lv_iload hx hb dX2_begins_251 (lv_at hl 1 rfl) ?_
                refine lv_lload_n hx hb dX2_begins_253 rfl (lv_at hl 5 rfl) ?_
                refine z_callv (As := [.int ((m_as σ) h.toNatClampNeg), .long v]) (rest := []) XX (cMM_keep l D O K ((m_as σ) h.toNatClampNeg) v σ ((h6 t22_6).1)) (cwV 2 hts gX2_begins_X2_keep rfl rfl rfl qX2_keep ⟨by decide, by decide⟩) (va_recv hK hP (ci := 2) (q0 := 0) rfl rfl) hK hP hD hS hA rfl hl.1 rfl (Nat.le_of_ble_eq_true rfl) dX2_begins_254 ⟨Nat.zero_le _, Nat.zero_le _⟩ (fun H locs hP hD hS => ?_)
                refine lv_aload_n hx hb dX2_begins_257 rfl (lv_at hl 2 rfl) ?_
                refine m_ga_11 hx hb hts inW hown hK hP k41 dX2_begins_258 ?_
                refine lv_aload_n hx hb dX2_begins_261 rfl (lv_at hl 2 rfl) ?_
                refine m_ga_4 hx hb hts inW hown hK hP k20 dX2_begins_262 ?_
                refine lv_iload_n hx hb dX2_begins_265 rfl (lv_at hl 4 rfl) ?_
                refine m_ld_ki (f := (m_ki (mf_keep ((m_as σ) h.toNatClampNeg) v σ))) (i := h) hx hb hK hP (rfl) (h1) dX2_begins_266 ?_
                refine lv_aload_n hx hb dX2_begins_267 rfl (lv_at hl 2 rfl) ?_
                refine m_ga_8 hx hb hts inW hown hK hP k32 dX2_begins_268 ?_
                refine lv_iload_n hx hb dX2_begins_271 rfl (lv_at hl 4 rfl) ?_
                refine m_ld_fo (f := (m_fo (mf_keep ((m_as σ) h.toNatClampNeg) v σ))) (i := h) hx hb hK hP (rfl) (h1) dX2_begins_272 ?_
                refine m_st_st (f := (m_st (mf_keep ((m_as σ) h.toNatClampNeg) v σ))) (i := ((m_ki (mf_keep ((m_as σ) h.toNatClampNeg) v σ)) h.toNatClampNeg)) hx hb hK hP hD hS (rfl) (by rw [mq_ki_keep]; exact (h6 t22_6).2) dX2_begins_273 (fun H locs hP hD hS => ?_)
                refine lv_aload_n hx hb dX2_begins_274 rfl (lv_at hl 2 rfl) ?_
                refine lv_iconst (v := 0) hx hb dX2_begins_275 (by decide) ?_
                refine z_callv (As := [.int 0]) (rest := []) XX (cMM_ends l D O K 0 (ms_st (mf_keep ((m_as σ) h.toNatClampNeg) v σ) (upd (m_st (mf_keep ((m_as σ) h.toNatClampNeg) v σ)) (((m_ki (mf_keep ((m_as σ) h.toNatClampNeg) v σ)) h.toNatClampNeg).toNatClampNeg) ((m_fo (mf_keep ((m_as σ) h.toNatClampNeg) v σ)) h.toNatClampNeg)))) (cwV 1 hts gX2_begins_X2_ends rfl rfl rfl qX2_ends ⟨by decide, by decide⟩) (va_recv hK hP (ci := 2) (q0 := 0) rfl rfl) hK hP hD hS hA rfl hl.1 rfl (Nat.le_of_ble_eq_true rfl) dX2_begins_276 ⟨Nat.zero_le _, Nat.zero_le _⟩ (fun H locs hP hD hS => ?_)
                refine lv_goto (tgt := 436) hx hb dX2_begins_279 (by decide) ?_
                exact z_retv hx hb hr hlocks hK hP hD hS ((if_neg t22_0).trans ((if_neg t22_1).trans ((if_neg t22_2).trans ((if_neg t22_3).trans ((if_neg t22_4).trans ((if_neg t22_5).trans ((if_pos t22_6).trans (rfl)))))))) dX2_begins_436
              · by_cases t22_7 : ((m_so σ) h.toNatClampNeg) = 7
                · refine lv_tableIn (off := 402) (tgt := 424) hx hb dX2_begins_22 (by rw [t22_7]; decide) (by rw [t22_7]; decide) (by rw [t22_7]; rfl) (by decide) ?_
                  refine lv_aload_n hx hb dX2_begins_424 rfl (lv_at hl 2 rfl) ?_
                  refine lv_iload_n hx hb dX2_begins_425 rfl (lv_at hl 3 rfl) ?_
                  refine lv_aload_n hx hb dX2_begins_426 rfl (lv_at hl 2 rfl) ?_
                  refine m_ga_8 hx hb hts inW hown hK hP k32 dX2_begins_427 ?_
                  refine lv_iload_n hx hb dX2_begins_430 rfl (lv_at hl 4 rfl) ?_
                  refine m_ld_fo (f := (m_fo σ)) (i := h) hx hb hK hP (rfl) (h1) dX2_begins_431 ?_
                  refine lv_lload_n hx hb dX2_begins_432 rfl (lv_at hl 5 rfl) ?_
                  refine z_callv (As := [.int ix, .int ((m_fo σ) h.toNatClampNeg), .long v]) (rest := []) XX (cMM_goOn l D O K ix ((m_fo σ) h.toNatClampNeg) v σ (h2) (h4)) (cwV 3 hts gX2_begins_X2_goOn rfl rfl rfl qX2_goOn ⟨by decide, by decide⟩) (va_recv hK hP (ci := 2) (q0 := 0) rfl rfl) hK hP hD hS hA rfl hl.1 rfl (Nat.le_of_ble_eq_true rfl) dX2_begins_433 ⟨Nat.zero_le _, Nat.zero_le _⟩ (fun H locs hP hD hS => ?_)
                  exact z_retv hx hb hr hlocks hK hP hD hS ((if_neg t22_0).trans ((if_neg t22_1).trans ((if_neg t22_2).trans ((if_neg t22_3).trans ((if_neg t22_4).trans ((if_neg t22_5).trans ((if_neg t22_6).trans ((if_pos t22_7).trans (rfl))))))))) dX2_begins_436
                · by_cases t22_8 : ((m_so σ) h.toNatClampNeg) = 8
                  · refine lv_tableIn (off := 260) (tgt := 282) hx hb dX2_begins_22 (by rw [t22_8]; decide) (by rw [t22_8]; decide) (by rw [t22_8]; rfl) (by decide) ?_
                    refine lv_aload_n hx hb dX2_begins_282 rfl (lv_at hl 2 rfl) ?_
                    refine lv_iload hx hb dX2_begins_283 (lv_at hl 1 rfl) ?_
                    refine lv_aload_n hx hb dX2_begins_285 rfl (lv_at hl 2 rfl) ?_
                    refine m_ga_6 hx hb hts inW hown hK hP k26 dX2_begins_286 ?_
                    refine lv_iload_n hx hb dX2_begins_289 rfl (lv_at hl 4 rfl) ?_
                    refine m_ld_bs (f := (m_bs σ)) (i := h) hx hb hK hP (rfl) (h1) dX2_begins_290 ?_
                    refine lv_lload_n hx hb dX2_begins_291 rfl (lv_at hl 5 rfl) ?_
                    refine lv_lload hx hb dX2_begins_292 (lv_at hl 0 rfl) ?_
                    refine z_callv (As := [.int ((m_as σ) h.toNatClampNeg), .int ((m_bs σ) h.toNatClampNeg), .long v, .long ((m_cs σ) h.toNatClampNeg)]) (rest := []) XX (cMM_shares l D O K ((m_as σ) h.toNatClampNeg) ((m_bs σ) h.toNatClampNeg) v ((m_cs σ) h.toNatClampNeg) σ ((h8 t22_8).1) ((h8 t22_8).2)) (cwV 4 hts gX2_begins_X2_shares rfl rfl rfl qX2_shares ⟨by decide, by decide⟩) (va_recv hK hP (ci := 2) (q0 := 0) rfl rfl) hK hP hD hS hA rfl hl.1 rfl (Nat.le_of_ble_eq_true rfl) dX2_begins_294 ⟨Nat.zero_le _, Nat.zero_le _⟩ (fun H locs hP hD hS => ?_)
                    refine lv_goto (tgt := 436) hx hb dX2_begins_297 (by decide) ?_
                    exact z_retv hx hb hr hlocks hK hP hD hS ((if_neg t22_0).trans ((if_neg t22_1).trans ((if_neg t22_2).trans ((if_neg t22_3).trans ((if_neg t22_4).trans ((if_neg t22_5).trans ((if_neg t22_6).trans ((if_neg t22_7).trans ((if_pos t22_8).trans (rfl)))))))))) dX2_begins_436
                  · by_cases t22_9 : ((m_so σ) h.toNatClampNeg) = 9
                    · refine lv_tableIn (off := 278) (tgt := 300) hx hb dX2_begins_22 (by rw [t22_9]; decide) (by rw [t22_9]; decide) (by rw [t22_9]; rfl) (by decide) ?_
                      refine lv_lload_n hx hb dX2_begins_300 rfl (lv_at hl 5 rfl) ?_
                      refine lv_l2i (v := (v).toInt32) hx hb dX2_begins_301 rfl ?_
                      refine lv_istore (lv' := [(8, .int ((v).toInt32)), (6, .long ((m_cs σ) h.toNatClampNeg)), (5, .int ((m_as σ) h.toNatClampNeg)), (0, .ref (O 0)), (1, .int ix), (2, .int h), (3, .long v)]) hx hb dX2_begins_302 hl (by decide) rfl (fun ls hl => ?_)
                      refine lv_iload hx hb dX2_begins_304 (lv_at hl 0 rfl) ?_
                      refine z_calls (As := [.int ((v).toInt32)]) (rest := []) XX (cMM_isBox l ((v).toInt32)) (va_cwS 1 hts gX2_begins_X2_isBox rfl rfl rfl qX2_isBox ⟨by decide, by decide⟩) rfl hl.1 rfl (Nat.le_of_ble_eq_true rfl) dX2_begins_306 ⟨Nat.zero_le _, Nat.zero_le _⟩ ?_
                      refine lv_if_eq (tgt := 319) hx hb dX2_begins_309 (by decide) (fun c309 => ?_) (fun c309 => ?_)
                      · refine lv_aload_n hx hb dX2_begins_319 rfl (lv_at hl 3 rfl) ?_
                        refine lv_iload hx hb dX2_begins_320 (lv_at hl 0 rfl) ?_
                        refine z_calls (As := [.int ((v).toInt32)]) (rest := [.ref (O 0)]) XX (cMM_isBox l ((v).toInt32)) (va_cwS 1 hts gX2_begins_X2_isBox rfl rfl rfl qX2_isBox ⟨by decide, by decide⟩) rfl hl.1 rfl (Nat.le_of_ble_eq_true rfl) dX2_begins_322 ⟨Nat.zero_le _, Nat.zero_le _⟩ ?_
                        refine lv_if_eq (tgt := 332) hx hb dX2_begins_325 (by decide) (fun c325 => ?_) (fun c325 => ?_)
                        · refine lv_iconst (v := 3) hx hb dX2_begins_332 (by decide) ?_
                          refine z_callv (As := [.int 3]) (rest := []) XX (cMM_ends l D O K 3 σ) (cwV 1 hts gX2_begins_X2_ends rfl rfl rfl qX2_ends ⟨by decide, by decide⟩) (va_recv hK hP (ci := 2) (q0 := 0) rfl rfl) hK hP hD hS hA rfl hl.1 rfl (Nat.le_of_ble_eq_true rfl) dX2_begins_333 ⟨Nat.zero_le _, Nat.zero_le _⟩ (fun H locs hP hD hS => ?_)
                          refine lv_goto (tgt := 436) hx hb dX2_begins_336 (by decide) ?_
                          exact z_retv hx hb hr hlocks hK hP hD hS ((if_neg t22_0).trans ((if_neg t22_1).trans ((if_neg t22_2).trans ((if_neg t22_3).trans ((if_neg t22_4).trans ((if_neg t22_5).trans ((if_neg t22_6).trans ((if_neg t22_7).trans ((if_neg t22_8).trans ((if_pos t22_9).trans ((if_pos c309).trans ((if_pos c325).trans (rfl))))))))))))) dX2_begins_436
                        · refine lv_iconst (v := 0) hx hb dX2_begins_328 (by decide) ?_
                          refine lv_goto (tgt := 333) hx hb dX2_begins_329 (by decide) ?_
                          refine z_callv (As := [.int 0]) (rest := []) XX (cMM_ends l D O K 0 σ) (cwV 1 hts gX2_begins_X2_ends rfl rfl rfl qX2_ends ⟨by decide, by decide⟩) (va_recv hK hP (ci := 2) (q0 := 0) rfl rfl) hK hP hD hS hA rfl hl.1 rfl (Nat.le_of_ble_eq_true rfl) dX2_begins_333 ⟨Nat.zero_le _, Nat.zero_le _⟩ (fun H locs hP hD hS => ?_)
                          refine lv_goto (tgt := 436) hx hb dX2_begins_336 (by decide) ?_
                          exact z_retv hx hb hr hlocks hK hP hD hS ((if_neg t22_0).trans ((if_neg t22_1).trans ((if_neg t22_2).trans ((if_neg t22_3).trans ((if_neg t22_4).trans ((if_neg t22_5).trans ((if_neg t22_6).trans ((if_neg t22_7).trans ((if_neg t22_8).trans ((if_pos t22_9).trans ((if_pos c309).trans ((if_neg c325).trans (rfl))))))))))))) dX2_begins_436
                      · refine lv_aload_n hx hb dX2_begins_312 rfl (lv_at hl 3 rfl) ?_
                        refine lv_iload hx hb dX2_begins_313 (lv_at hl 0 rfl) ?_
                        refine lv_lconst (v := 1) hx hb dX2_begins_315 (by decide) ?_
                        refine z_callv (As := [.int ((v).toInt32), .long 1]) (rest := []) XX (cMM_keep l D O K ((v).toInt32) 1 σ (mbox_in c309)) (cwV 2 hts gX2_begins_X2_keep rfl rfl rfl qX2_keep ⟨by decide, by decide⟩) (va_recv hK hP (ci := 2) (q0 := 0) rfl rfl) hK hP hD hS hA rfl hl.1 rfl (Nat.le_of_ble_eq_true rfl) dX2_begins_316 ⟨Nat.zero_le _, Nat.zero_le _⟩ (fun H locs hP hD hS => ?_)
                        refine lv_aload_n hx hb dX2_begins_319 rfl (lv_at hl 3 rfl) ?_
                        refine lv_iload hx hb dX2_begins_320 (lv_at hl 0 rfl) ?_
                        refine z_calls (As := [.int ((v).toInt32)]) (rest := [.ref (O 0)]) XX (cMM_isBox l ((v).toInt32)) (va_cwS 1 hts gX2_begins_X2_isBox rfl rfl rfl qX2_isBox ⟨by decide, by decide⟩) rfl hl.1 rfl (Nat.le_of_ble_eq_true rfl) dX2_begins_322 ⟨Nat.zero_le _, Nat.zero_le _⟩ ?_
                        refine lv_if_eq (tgt := 332) hx hb dX2_begins_325 (by decide) (fun c325 => ?_) (fun c325 => ?_)
                        · refine lv_iconst (v := 3) hx hb dX2_begins_332 (by decide) ?_
                          refine z_callv (As := [.int 3]) (rest := []) XX (cMM_ends l D O K 3 (mf_keep ((v).toInt32) 1 σ)) (cwV 1 hts gX2_begins_X2_ends rfl rfl rfl qX2_ends ⟨by decide, by decide⟩) (va_recv hK hP (ci := 2) (q0 := 0) rfl rfl) hK hP hD hS hA rfl hl.1 rfl (Nat.le_of_ble_eq_true rfl) dX2_begins_333 ⟨Nat.zero_le _, Nat.zero_le _⟩ (fun H locs hP hD hS => ?_)
                          refine lv_goto (tgt := 436) hx hb dX2_begins_336 (by decide) ?_
                          exact z_retv hx hb hr hlocks hK hP hD hS ((if_neg t22_0).trans ((if_neg t22_1).trans ((if_neg t22_2).trans ((if_neg t22_3).trans ((if_neg t22_4).trans ((if_neg t22_5).trans ((if_neg t22_6).trans ((if_neg t22_7).trans ((if_neg t22_8).trans ((if_pos t22_9).trans ((if_neg c309).trans ((if_pos c325).trans (rfl))))))))))))) dX2_begins_436
                        · refine lv_iconst (v := 0) hx hb dX2_begins_328 (by decide) ?_
                          refine lv_goto (tgt := 333) hx hb dX2_begins_329 (by decide) ?_
                          refine z_callv (As := [.int 0]) (rest := []) XX (cMM_ends l D O K 0 (mf_keep ((v).toInt32) 1 σ)) (cwV 1 hts gX2_begins_X2_ends rfl rfl rfl qX2_ends ⟨by decide, by decide⟩) (va_recv hK hP (ci := 2) (q0 := 0) rfl rfl) hK hP hD hS hA rfl hl.1 rfl (Nat.le_of_ble_eq_true rfl) dX2_begins_333 ⟨Nat.zero_le _, Nat.zero_le _⟩ (fun H locs hP hD hS => ?_)
                          refine lv_goto (tgt := 436) hx hb dX2_begins_336 (by decide) ?_
                          exact z_retv hx hb hr hlocks hK hP hD hS ((if_neg t22_0).trans ((if_neg t22_1).trans ((if_neg t22_2).trans ((if_neg t22_3).trans ((if_neg t22_4).trans ((if_neg t22_5).trans ((if_neg t22_6).trans ((if_neg t22_7).trans ((if_neg t22_8).trans ((if_pos t22_9).trans ((if_neg c309).trans ((if_neg c325).trans (rfl))))))))))))) dX2_begins_436
                    · by_cases t22_10 : ((m_so σ) h.toNatClampNeg) = 10
                      · refine lv_tableIn (off := 402) (tgt := 424) hx hb dX2_begins_22 (by rw [t22_10]; decide) (by rw [t22_10]; decide) (by rw [t22_10]; rfl) (by decide) ?_
                        refine lv_aload_n hx hb dX2_begins_424 rfl (lv_at hl 2 rfl) ?_
                        refine lv_iload_n hx hb dX2_begins_425 rfl (lv_at hl 3 rfl) ?_
                        refine lv_aload_n hx hb dX2_begins_426 rfl (lv_at hl 2 rfl) ?_
                        refine m_ga_8 hx hb hts inW hown hK hP k32 dX2_begins_427 ?_
                        refine lv_iload_n hx hb dX2_begins_430 rfl (lv_at hl 4 rfl) ?_
                        refine m_ld_fo (f := (m_fo σ)) (i := h) hx hb hK hP (rfl) (h1) dX2_begins_431 ?_
                        refine lv_lload_n hx hb dX2_begins_432 rfl (lv_at hl 5 rfl) ?_
                        refine z_callv (As := [.int ix, .int ((m_fo σ) h.toNatClampNeg), .long v]) (rest := []) XX (cMM_goOn l D O K ix ((m_fo σ) h.toNatClampNeg) v σ (h2) (h4)) (cwV 3 hts gX2_begins_X2_goOn rfl rfl rfl qX2_goOn ⟨by decide, by decide⟩) (va_recv hK hP (ci := 2) (q0 := 0) rfl rfl) hK hP hD hS hA rfl hl.1 rfl (Nat.le_of_ble_eq_true rfl) dX2_begins_433 ⟨Nat.zero_le _, Nat.zero_le _⟩ (fun H locs hP hD hS => ?_)
                        exact z_retv hx hb hr hlocks hK hP hD hS ((if_neg t22_0).trans ((if_neg t22_1).trans ((if_neg t22_2).trans ((if_neg t22_3).trans ((if_neg t22_4).trans ((if_neg t22_5).trans ((if_neg t22_6).trans ((if_neg t22_7).trans ((if_neg t22_8).trans ((if_neg t22_9).trans ((if_pos t22_10).trans (rfl)))))))))))) dX2_begins_436
                      · by_cases t22_11 : ((m_so σ) h.toNatClampNeg) = 11
                        · refine lv_tableIn (off := 317) (tgt := 339) hx hb dX2_begins_22 (by rw [t22_11]; decide) (by rw [t22_11]; decide) (by rw [t22_11]; rfl) (by decide) ?_
                          refine lv_aload_n hx hb dX2_begins_339 rfl (lv_at hl 2 rfl) ?_
                          refine lv_iload hx hb dX2_begins_340 (lv_at hl 1 rfl) ?_
                          refine lv_lload_n hx hb dX2_begins_342 rfl (lv_at hl 5 rfl) ?_
                          refine z_callv (As := [.int ((m_as σ) h.toNatClampNeg), .long v]) (rest := []) XX (cMM_keep l D O K ((m_as σ) h.toNatClampNeg) v σ ((h11 t22_11).1)) (cwV 2 hts gX2_begins_X2_keep rfl rfl rfl qX2_keep ⟨by decide, by decide⟩) (va_recv hK hP (ci := 2) (q0 := 0) rfl rfl) hK hP hD hS hA rfl hl.1 rfl (Nat.le_of_ble_eq_true rfl) dX2_begins_343 ⟨Nat.zero_le _, Nat.zero_le _⟩ (fun H locs hP hD hS => ?_)
                          refine lv_aload_n hx hb dX2_begins_346 rfl (lv_at hl 2 rfl) ?_
                          refine m_ga_8 hx hb hts inW hown hK hP k32 dX2_begins_347 ?_
                          refine lv_iload_n hx hb dX2_begins_350 rfl (lv_at hl 4 rfl) ?_
                          refine m_ld_fo (f := (m_fo (mf_keep ((m_as σ) h.toNatClampNeg) v σ))) (i := h) hx hb hK hP (rfl) (h1) dX2_begins_351 ?_
                          refine lv_if_ge (tgt := 363) hx hb dX2_begins_352 (by decide) (fun c352 => ?_) (fun c352 => ?_)
                          · refine lv_aload_n hx hb dX2_begins_363 rfl (lv_at hl 2 rfl) ?_
                            refine lv_iload_n hx hb dX2_begins_364 rfl (lv_at hl 3 rfl) ?_
                            refine lv_aload_n hx hb dX2_begins_365 rfl (lv_at hl 2 rfl) ?_
                            refine m_ga_8 hx hb hts inW hown hK hP k32 dX2_begins_366 ?_
                            refine lv_iload_n hx hb dX2_begins_369 rfl (lv_at hl 4 rfl) ?_
                            refine m_ld_fo (f := (m_fo (mf_keep ((m_as σ) h.toNatClampNeg) v σ))) (i := h) hx hb hK hP (rfl) (h1) dX2_begins_370 ?_
                            refine lv_aload_n hx hb dX2_begins_371 rfl (lv_at hl 2 rfl) ?_
                            refine m_ga_1 hx hb hts inW hown hK hP k7 dX2_begins_372 ?_
                            refine lv_iload hx hb dX2_begins_375 (lv_at hl 1 rfl) ?_
                            refine m_ld_su (f := (m_su (mf_keep ((m_as σ) h.toNatClampNeg) v σ))) (i := ((m_as σ) h.toNatClampNeg)) hx hb hK hP (rfl) ((h11 t22_11).1) dX2_begins_377 ?_
                            refine lv_aload_n hx hb dX2_begins_378 rfl (lv_at hl 2 rfl) ?_
                            refine m_ga_2 hx hb hts inW hown hK hP k13 dX2_begins_379 ?_
                            refine lv_iload hx hb dX2_begins_382 (lv_at hl 1 rfl) ?_
                            refine m_ld_co (f := (m_co (mf_keep ((m_as σ) h.toNatClampNeg) v σ))) (i := ((m_as σ) h.toNatClampNeg)) hx hb hK hP (rfl) ((h11 t22_11).1) dX2_begins_384 ?_
                            refine lv_i2l (v := (((m_co (mf_keep ((m_as σ) h.toNatClampNeg) v σ)) ((m_as σ) h.toNatClampNeg).toNatClampNeg)).toInt64) hx hb dX2_begins_385 rfl ?_
                            refine lv_ldiv hx hb dX2_begins_386 ((h11 t22_11).2) ?_
                            refine z_callv (As := [.int ix, .int ((m_fo (mf_keep ((m_as σ) h.toNatClampNeg) v σ)) h.toNatClampNeg), .long (((m_su (mf_keep ((m_as σ) h.toNatClampNeg) v σ)) ((m_as σ) h.toNatClampNeg).toNatClampNeg) / (((m_co (mf_keep ((m_as σ) h.toNatClampNeg) v σ)) ((m_as σ) h.toNatClampNeg).toNatClampNeg)).toInt64)]) (rest := []) XX (cMM_goOn l D O K ix ((m_fo (mf_keep ((m_as σ) h.toNatClampNeg) v σ)) h.toNatClampNeg) (((m_su (mf_keep ((m_as σ) h.toNatClampNeg) v σ)) ((m_as σ) h.toNatClampNeg).toNatClampNeg) / (((m_co (mf_keep ((m_as σ) h.toNatClampNeg) v σ)) ((m_as σ) h.toNatClampNeg).toNatClampNeg)).toInt64) (mf_keep ((m_as σ) h.toNatClampNeg) v σ) (h2) (by rw [mq_tp_keep]; exact h4)) (cwV 3 hts gX2_begins_X2_goOn rfl rfl rfl qX2_goOn ⟨by decide, by decide⟩) (va_recv hK hP (ci := 2) (q0 := 0) rfl rfl) hK hP hD hS hA rfl hl.1 rfl (Nat.le_of_ble_eq_true rfl) dX2_begins_387 ⟨Nat.zero_le _, Nat.zero_le _⟩ (fun H locs hP hD hS => ?_)
                            refine lv_goto (tgt := 436) hx hb dX2_begins_390 (by decide) ?_
                            exact z_retv hx hb hr hlocks hK hP hD hS ((if_neg t22_0).trans ((if_neg t22_1).trans ((if_neg t22_2).trans ((if_neg t22_3).trans ((if_neg t22_4).trans ((if_neg t22_5).trans ((if_neg t22_6).trans ((if_neg t22_7).trans ((if_neg t22_8).trans ((if_neg t22_9).trans ((if_neg t22_10).trans ((if_pos t22_11).trans ((if_pos c352).trans (rfl)))))))))))))) dX2_begins_436
                          · refine lv_aload_n hx hb dX2_begins_355 rfl (lv_at hl 2 rfl) ?_
                            refine lv_iconst (v := 0) hx hb dX2_begins_356 (by decide) ?_
                            refine z_callv (As := [.int 0]) (rest := []) XX (cMM_ends l D O K 0 (mf_keep ((m_as σ) h.toNatClampNeg) v σ)) (cwV 1 hts gX2_begins_X2_ends rfl rfl rfl qX2_ends ⟨by decide, by decide⟩) (va_recv hK hP (ci := 2) (q0 := 0) rfl rfl) hK hP hD hS hA rfl hl.1 rfl (Nat.le_of_ble_eq_true rfl) dX2_begins_357 ⟨Nat.zero_le _, Nat.zero_le _⟩ (fun H locs hP hD hS => ?_)
                            refine lv_goto (tgt := 436) hx hb dX2_begins_360 (by decide) ?_
                            exact z_retv hx hb hr hlocks hK hP hD hS ((if_neg t22_0).trans ((if_neg t22_1).trans ((if_neg t22_2).trans ((if_neg t22_3).trans ((if_neg t22_4).trans ((if_neg t22_5).trans ((if_neg t22_6).trans ((if_neg t22_7).trans ((if_neg t22_8).trans ((if_neg t22_9).trans ((if_neg t22_10).trans ((if_pos t22_11).trans ((if_neg c352).trans (rfl)))))))))))))) dX2_begins_436
                        · by_cases t22_12 : ((m_so σ) h.toNatClampNeg) = 12
                          · refine lv_tableIn (off := 371) (tgt := 393) hx hb dX2_begins_22 (by rw [t22_12]; decide) (by rw [t22_12]; decide) (by rw [t22_12]; rfl) (by decide) ?_
                            refine lv_aload_n hx hb dX2_begins_393 rfl (lv_at hl 2 rfl) ?_
                            refine lv_iconst (v := 1) hx hb dX2_begins_394 (by decide) ?_
                            refine lv_lload_n hx hb dX2_begins_395 rfl (lv_at hl 5 rfl) ?_
                            refine z_callv (As := [.int 1, .long v]) (rest := []) XX (cMM_keep l D O K 1 v σ (z_v16)) (cwV 2 hts gX2_begins_X2_keep rfl rfl rfl qX2_keep ⟨by decide, by decide⟩) (va_recv hK hP (ci := 2) (q0 := 0) rfl rfl) hK hP hD hS hA rfl hl.1 rfl (Nat.le_of_ble_eq_true rfl) dX2_begins_396 ⟨Nat.zero_le _, Nat.zero_le _⟩ (fun H locs hP hD hS => ?_)
                            refine lv_lload_n hx hb dX2_begins_399 rfl (lv_at hl 5 rfl) ?_
                            refine lv_lconst (v := 1) hx hb dX2_begins_400 (by decide) ?_
                            refine W.lcmp hx hb dX2_begins_401 ?_
                            refine lv_if_le (tgt := 416) hx hb dX2_begins_402 (by decide) (fun c402 => ?_) (fun c402 => ?_)
                            · refine lv_aload_n hx hb dX2_begins_416 rfl (lv_at hl 2 rfl) ?_
                              refine lv_iconst (v := 0) hx hb dX2_begins_417 (by decide) ?_
                              refine z_callv (As := [.int 0]) (rest := []) XX (cMM_ends l D O K 0 (mf_keep 1 v σ)) (cwV 1 hts gX2_begins_X2_ends rfl rfl rfl qX2_ends ⟨by decide, by decide⟩) (va_recv hK hP (ci := 2) (q0 := 0) rfl rfl) hK hP hD hS hA rfl hl.1 rfl (Nat.le_of_ble_eq_true rfl) dX2_begins_418 ⟨Nat.zero_le _, Nat.zero_le _⟩ (fun H locs hP hD hS => ?_)
                              refine lv_goto (tgt := 436) hx hb dX2_begins_421 (by decide) ?_
                              exact z_retv hx hb hr hlocks hK hP hD hS ((if_neg t22_0).trans ((if_neg t22_1).trans ((if_neg t22_2).trans ((if_neg t22_3).trans ((if_neg t22_4).trans ((if_neg t22_5).trans ((if_neg t22_6).trans ((if_neg t22_7).trans ((if_neg t22_8).trans ((if_neg t22_9).trans ((if_neg t22_10).trans ((if_neg t22_11).trans ((if_pos t22_12).trans ((if_pos c402).trans (rfl))))))))))))))) dX2_begins_436
                            · refine lv_aload_n hx hb dX2_begins_405 rfl (lv_at hl 2 rfl) ?_
                              refine lv_iconst (v := 0) hx hb dX2_begins_406 (by decide) ?_
                              refine lv_lload_n hx hb dX2_begins_407 rfl (lv_at hl 5 rfl) ?_
                              refine lv_lconst (v := 1) hx hb dX2_begins_408 (by decide) ?_
                              refine lv_lsub hx hb dX2_begins_409 ?_
                              refine z_callv (As := [.int 0, .long (v - 1)]) (rest := []) XX (cMM_sends l D O K 0 (v - 1) (mf_keep 1 v σ) (by rw [mq_sz_keep]; exact h5)) (cwV 2 hts gX2_begins_X2_sends rfl rfl rfl qX2_sends ⟨by decide, by decide⟩) (va_recv hK hP (ci := 2) (q0 := 0) rfl rfl) hK hP hD hS hA rfl hl.1 rfl (Nat.le_of_ble_eq_true rfl) dX2_begins_410 ⟨Nat.zero_le _, Nat.zero_le _⟩ (fun H locs hP hD hS => ?_)
                              refine lv_goto (tgt := 436) hx hb dX2_begins_413 (by decide) ?_
                              exact z_retv hx hb hr hlocks hK hP hD hS ((if_neg t22_0).trans ((if_neg t22_1).trans ((if_neg t22_2).trans ((if_neg t22_3).trans ((if_neg t22_4).trans ((if_neg t22_5).trans ((if_neg t22_6).trans ((if_neg t22_7).trans ((if_neg t22_8).trans ((if_neg t22_9).trans ((if_neg t22_10).trans ((if_neg t22_11).trans ((if_pos t22_12).trans ((if_neg c402).trans (rfl))))))))))))))) dX2_begins_436
                          · refine lv_tableOut (tgt := 424) hx hb dX2_begins_22 (z_out 12 (by decide) (fun k hk => match k, hk with | 0, _ => t22_0 | 1, _ => t22_1 | 2, _ => t22_2 | 3, _ => t22_3 | 4, _ => t22_4 | 5, _ => t22_5 | 6, _ => t22_6 | 7, _ => t22_7 | 8, _ => t22_8 | 9, _ => t22_9 | 10, _ => t22_10 | 11, _ => t22_11 | 12, _ => t22_12 | (k + 13), hk => absurd hk (by omega))) (by decide) ?_
                            refine lv_aload_n hx hb dX2_begins_424 rfl (lv_at hl 2 rfl) ?_
                            refine lv_iload_n hx hb dX2_begins_425 rfl (lv_at hl 3 rfl) ?_
                            refine lv_aload_n hx hb dX2_begins_426 rfl (lv_at hl 2 rfl) ?_
                            refine m_ga_8 hx hb hts inW hown hK hP k32 dX2_begins_427 ?_
                            refine lv_iload_n hx hb dX2_begins_430 rfl (lv_at hl 4 rfl) ?_
                            refine m_ld_fo (f := (m_fo σ)) (i := h) hx hb hK hP (rfl) (h1) dX2_begins_431 ?_
                            refine lv_lload_n hx hb dX2_begins_432 rfl (lv_at hl 5 rfl) ?_
                            refine z_callv (As := [.int ix, .int ((m_fo σ) h.toNatClampNeg), .long v]) (rest := []) XX (cMM_goOn l D O K ix ((m_fo σ) h.toNatClampNeg) v σ (h2) (h4)) (cwV 3 hts gX2_begins_X2_goOn rfl rfl rfl qX2_goOn ⟨by decide, by decide⟩) (va_recv hK hP (ci := 2) (q0 := 0) rfl rfl) hK hP hD hS hA rfl hl.1 rfl (Nat.le_of_ble_eq_true rfl) dX2_begins_433 ⟨Nat.zero_le _, Nat.zero_le _⟩ (fun H locs hP hD hS => ?_)
                            exact z_retv hx hb hr hlocks hK hP hD hS ((if_neg t22_0).trans ((if_neg t22_1).trans ((if_neg t22_2).trans ((if_neg t22_3).trans ((if_neg t22_4).trans ((if_neg t22_5).trans ((if_neg t22_6).trans ((if_neg t22_7).trans ((if_neg t22_8).trans ((if_neg t22_9).trans ((if_neg t22_10).trans ((if_neg t22_11).trans ((if_neg t22_12).trans (rfl)))))))))))))) dX2_begins_436
end
section
noncomputable def mf_handle  (k : Int32) (sort : Int32) (a : Int32) (b : Int32) (w : Int64) (σ : SM) : Int32 × SM := if (mf_in sort 0 11) = 0 then ((-3), σ) else (if (mf_isKind k) = 0 then ((-2), σ) else (if (mf_areKnown sort a b) = 0 then ((-2), σ) else (if sort = 5 then (if (mf_in b 0 100) = 0 then ((-3), σ) else (if (m_many σ) = 202 then ((-4), σ) else (if sort = 2 then (if ((upd (m_fo σ) ((m_many σ).toNatClampNeg) ((m_st σ) k.toNatClampNeg)) (m_many σ).toNatClampNeg) < 0 then (0, ms_many (ms_st (ms_le (ms_ot (ms_fo (ms_cs (ms_bs (ms_as (ms_ki (ms_so σ (upd (m_so σ) ((m_many σ).toNatClampNeg) sort)) (upd (m_ki σ) ((m_many σ).toNatClampNeg) k)) (upd (m_as σ) ((m_many σ).toNatClampNeg) a)) (upd (m_bs σ) ((m_many σ).toNatClampNeg) b)) (vp_updL (m_cs σ) ((m_many σ).toNatClampNeg) w)) (upd (m_fo σ) ((m_many σ).toNatClampNeg) ((m_st σ) k.toNatClampNeg))) (upd (m_ot σ) ((m_many σ).toNatClampNeg) ((m_st σ) a.toNatClampNeg))) (upd (m_le σ) ((m_many σ).toNatClampNeg) 0)) (upd (m_st σ) k.toNatClampNeg (m_many σ))) ((m_many σ) + 1)) else (1, ms_many (ms_st (ms_le (ms_ot (ms_fo (ms_cs (ms_bs (ms_as (ms_ki (ms_so σ (upd (m_so σ) ((m_many σ).toNatClampNeg) sort)) (upd (m_ki σ) ((m_many σ).toNatClampNeg) k)) (upd (m_as σ) ((m_many σ).toNatClampNeg) a)) (upd (m_bs σ) ((m_many σ).toNatClampNeg) b)) (vp_updL (m_cs σ) ((m_many σ).toNatClampNeg) w)) (upd (m_fo σ) ((m_many σ).toNatClampNeg) ((m_st σ) k.toNatClampNeg))) (upd (m_ot σ) ((m_many σ).toNatClampNeg) ((m_st σ) a.toNatClampNeg))) (upd (m_le σ) ((m_many σ).toNatClampNeg) 0)) (upd (m_st σ) k.toNatClampNeg (m_many σ))) ((m_many σ) + 1))) else (if sort = 7 then (if ((upd (m_fo σ) ((m_many σ).toNatClampNeg) ((m_st σ) k.toNatClampNeg)) (m_many σ).toNatClampNeg) < 0 then (0, ms_many (ms_st (ms_le (ms_ot (ms_fo (ms_cs (ms_bs (ms_as (ms_ki (ms_so σ (upd (m_so σ) ((m_many σ).toNatClampNeg) sort)) (upd (m_ki σ) ((m_many σ).toNatClampNeg) k)) (upd (m_as σ) ((m_many σ).toNatClampNeg) a)) (upd (m_bs σ) ((m_many σ).toNatClampNeg) b)) (vp_updL (m_cs σ) ((m_many σ).toNatClampNeg) w)) (upd (m_fo σ) ((m_many σ).toNatClampNeg) ((m_st σ) k.toNatClampNeg))) (upd (m_ot σ) ((m_many σ).toNatClampNeg) ((m_st σ) a.toNatClampNeg))) (upd (m_le σ) ((m_many σ).toNatClampNeg) 0)) (upd (m_st σ) k.toNatClampNeg (m_many σ))) ((m_many σ) + 1)) else (1, ms_many (ms_st (ms_le (ms_ot (ms_fo (ms_cs (ms_bs (ms_as (ms_ki (ms_so σ (upd (m_so σ) ((m_many σ).toNatClampNeg) sort)) (upd (m_ki σ) ((m_many σ).toNatClampNeg) k)) (upd (m_as σ) ((m_many σ).toNatClampNeg) a)) (upd (m_bs σ) ((m_many σ).toNatClampNeg) b)) (vp_updL (m_cs σ) ((m_many σ).toNatClampNeg) w)) (upd (m_fo σ) ((m_many σ).toNatClampNeg) ((m_st σ) k.toNatClampNeg))) (upd (m_ot σ) ((m_many σ).toNatClampNeg) ((m_st σ) a.toNatClampNeg))) (upd (m_le σ) ((m_many σ).toNatClampNeg) 0)) (upd (m_st σ) k.toNatClampNeg (m_many σ))) ((m_many σ) + 1))) else (if ((upd (m_fo σ) ((m_many σ).toNatClampNeg) ((m_st σ) k.toNatClampNeg)) (m_many σ).toNatClampNeg) < 0 then (0, ms_many (ms_st (ms_le (ms_ot (ms_fo (ms_cs (ms_bs (ms_as (ms_ki (ms_so σ (upd (m_so σ) ((m_many σ).toNatClampNeg) sort)) (upd (m_ki σ) ((m_many σ).toNatClampNeg) k)) (upd (m_as σ) ((m_many σ).toNatClampNeg) a)) (upd (m_bs σ) ((m_many σ).toNatClampNeg) b)) (vp_updL (m_cs σ) ((m_many σ).toNatClampNeg) w)) (upd (m_fo σ) ((m_many σ).toNatClampNeg) ((m_st σ) k.toNatClampNeg))) (upd (m_ot σ) ((m_many σ).toNatClampNeg) (-1))) (upd (m_le σ) ((m_many σ).toNatClampNeg) 0)) (upd (m_st σ) k.toNatClampNeg (m_many σ))) ((m_many σ) + 1)) else (1, ms_many (ms_st (ms_le (ms_ot (ms_fo (ms_cs (ms_bs (ms_as (ms_ki (ms_so σ (upd (m_so σ) ((m_many σ).toNatClampNeg) sort)) (upd (m_ki σ) ((m_many σ).toNatClampNeg) k)) (upd (m_as σ) ((m_many σ).toNatClampNeg) a)) (upd (m_bs σ) ((m_many σ).toNatClampNeg) b)) (vp_updL (m_cs σ) ((m_many σ).toNatClampNeg) w)) (upd (m_fo σ) ((m_many σ).toNatClampNeg) ((m_st σ) k.toNatClampNeg))) (upd (m_ot σ) ((m_many σ).toNatClampNeg) (-1))) (upd (m_le σ) ((m_many σ).toNatClampNeg) 0)) (upd (m_st σ) k.toNatClampNeg (m_many σ))) ((m_many σ) + 1))))))) else (if (m_many σ) = 202 then ((-4), σ) else (if sort = 2 then (if ((upd (m_fo σ) ((m_many σ).toNatClampNeg) ((m_st σ) k.toNatClampNeg)) (m_many σ).toNatClampNeg) < 0 then (0, ms_many (ms_st (ms_le (ms_ot (ms_fo (ms_cs (ms_bs (ms_as (ms_ki (ms_so σ (upd (m_so σ) ((m_many σ).toNatClampNeg) sort)) (upd (m_ki σ) ((m_many σ).toNatClampNeg) k)) (upd (m_as σ) ((m_many σ).toNatClampNeg) a)) (upd (m_bs σ) ((m_many σ).toNatClampNeg) b)) (vp_updL (m_cs σ) ((m_many σ).toNatClampNeg) w)) (upd (m_fo σ) ((m_many σ).toNatClampNeg) ((m_st σ) k.toNatClampNeg))) (upd (m_ot σ) ((m_many σ).toNatClampNeg) ((m_st σ) a.toNatClampNeg))) (upd (m_le σ) ((m_many σ).toNatClampNeg) 0)) (upd (m_st σ) k.toNatClampNeg (m_many σ))) ((m_many σ) + 1)) else (1, ms_many (ms_st (ms_le (ms_ot (ms_fo (ms_cs (ms_bs (ms_as (ms_ki (ms_so σ (upd (m_so σ) ((m_many σ).toNatClampNeg) sort)) (upd (m_ki σ) ((m_many σ).toNatClampNeg) k)) (upd (m_as σ) ((m_many σ).toNatClampNeg) a)) (upd (m_bs σ) ((m_many σ).toNatClampNeg) b)) (vp_updL (m_cs σ) ((m_many σ).toNatClampNeg) w)) (upd (m_fo σ) ((m_many σ).toNatClampNeg) ((m_st σ) k.toNatClampNeg))) (upd (m_ot σ) ((m_many σ).toNatClampNeg) ((m_st σ) a.toNatClampNeg))) (upd (m_le σ) ((m_many σ).toNatClampNeg) 0)) (upd (m_st σ) k.toNatClampNeg (m_many σ))) ((m_many σ) + 1))) else (if sort = 7 then (if ((upd (m_fo σ) ((m_many σ).toNatClampNeg) ((m_st σ) k.toNatClampNeg)) (m_many σ).toNatClampNeg) < 0 then (0, ms_many (ms_st (ms_le (ms_ot (ms_fo (ms_cs (ms_bs (ms_as (ms_ki (ms_so σ (upd (m_so σ) ((m_many σ).toNatClampNeg) sort)) (upd (m_ki σ) ((m_many σ).toNatClampNeg) k)) (upd (m_as σ) ((m_many σ).toNatClampNeg) a)) (upd (m_bs σ) ((m_many σ).toNatClampNeg) b)) (vp_updL (m_cs σ) ((m_many σ).toNatClampNeg) w)) (upd (m_fo σ) ((m_many σ).toNatClampNeg) ((m_st σ) k.toNatClampNeg))) (upd (m_ot σ) ((m_many σ).toNatClampNeg) ((m_st σ) a.toNatClampNeg))) (upd (m_le σ) ((m_many σ).toNatClampNeg) 0)) (upd (m_st σ) k.toNatClampNeg (m_many σ))) ((m_many σ) + 1)) else (1, ms_many (ms_st (ms_le (ms_ot (ms_fo (ms_cs (ms_bs (ms_as (ms_ki (ms_so σ (upd (m_so σ) ((m_many σ).toNatClampNeg) sort)) (upd (m_ki σ) ((m_many σ).toNatClampNeg) k)) (upd (m_as σ) ((m_many σ).toNatClampNeg) a)) (upd (m_bs σ) ((m_many σ).toNatClampNeg) b)) (vp_updL (m_cs σ) ((m_many σ).toNatClampNeg) w)) (upd (m_fo σ) ((m_many σ).toNatClampNeg) ((m_st σ) k.toNatClampNeg))) (upd (m_ot σ) ((m_many σ).toNatClampNeg) ((m_st σ) a.toNatClampNeg))) (upd (m_le σ) ((m_many σ).toNatClampNeg) 0)) (upd (m_st σ) k.toNatClampNeg (m_many σ))) ((m_many σ) + 1))) else (if ((upd (m_fo σ) ((m_many σ).toNatClampNeg) ((m_st σ) k.toNatClampNeg)) (m_many σ).toNatClampNeg) < 0 then (0, ms_many (ms_st (ms_le (ms_ot (ms_fo (ms_cs (ms_bs (ms_as (ms_ki (ms_so σ (upd (m_so σ) ((m_many σ).toNatClampNeg) sort)) (upd (m_ki σ) ((m_many σ).toNatClampNeg) k)) (upd (m_as σ) ((m_many σ).toNatClampNeg) a)) (upd (m_bs σ) ((m_many σ).toNatClampNeg) b)) (vp_updL (m_cs σ) ((m_many σ).toNatClampNeg) w)) (upd (m_fo σ) ((m_many σ).toNatClampNeg) ((m_st σ) k.toNatClampNeg))) (upd (m_ot σ) ((m_many σ).toNatClampNeg) (-1))) (upd (m_le σ) ((m_many σ).toNatClampNeg) 0)) (upd (m_st σ) k.toNatClampNeg (m_many σ))) ((m_many σ) + 1)) else (1, ms_many (ms_st (ms_le (ms_ot (ms_fo (ms_cs (ms_bs (ms_as (ms_ki (ms_so σ (upd (m_so σ) ((m_many σ).toNatClampNeg) sort)) (upd (m_ki σ) ((m_many σ).toNatClampNeg) k)) (upd (m_as σ) ((m_many σ).toNatClampNeg) a)) (upd (m_bs σ) ((m_many σ).toNatClampNeg) b)) (vp_updL (m_cs σ) ((m_many σ).toNatClampNeg) w)) (upd (m_fo σ) ((m_many σ).toNatClampNeg) ((m_st σ) k.toNatClampNeg))) (upd (m_ot σ) ((m_many σ).toNatClampNeg) (-1))) (upd (m_le σ) ((m_many σ).toNatClampNeg) 0)) (upd (m_st σ) k.toNatClampNeg (m_many σ))) ((m_many σ) + 1)))))))))
set_option maxRecDepth 100000 in
set_option maxHeartbeats 4000000 in
theorem cMM_handle (l : Launch) (D : va_G) (O : Nat → Nat) (K : Nat → ClassId) (k : Int32) (sort : Int32) (a : Int32) (b : Int32) (w : Int64) (σ : SM) (hm : ¬ m_many σ = 202 → vp_in (m_many σ) 202) : cI l yX2_handle wsX2_handle { frames := 3, cells := 0, slots := 0, locals := 300 } 0 0 D (mT K) (mW O K) σ [.ref (O 0), .int k, .int sort, .int a, .int b, .long w] (mf_handle k sort a b w σ) := by
  intro sz
  refine z_start (cc := cX2_handle) (maxL := 8) (ret := (some .int)) (Qc := fun A => va_Qi (fun r9 u9 => r9 = (mf_handle k sort a b w σ).1 ∧ u9 = (mf_handle k sort a b w σ).2) (zB D (mT K) (mW O K) A) A) sz (by decide) rfl (Nat.le_of_ble_eq_true rfl) ?_
  intro p e s m below meth c A X hA hK hP hD hS ls hl
  obtain ⟨hx, hb, hr, hml, hts, hown, hlocks, hnm⟩ := X
  have hown : s.vm.findClass RX2 = some m.cls := hown
  have hl : lv_has ls 8 [(0, .ref (O 0)), (1, .int k), (2, .int sort), (3, .int a), (4, .int b), (5, .long w)] := hl
  have inW : ∀ w ∈ wsX20, w ∈ wsX2_handle := fun w h => List.mem_cons_of_mem _ (List.mem_append_right _ h)
  have XX : CallFix p m c cX2_handle 8 s _ wsX2_handle RX2 := ⟨hx, hb, hml, hown, hts⟩
  have k68 := hts (.fieldLink RX2 68 "MailRoomModel" "many" "I") (List.mem_of_getElem? (i := 1) rfl)
  have k17 := hts (.fieldLink RX2 17 "MailRoomModel" "sorts" "[I") (List.mem_of_getElem? (i := 2) rfl)
  have k20 := hts (.fieldLink RX2 20 "MailRoomModel" "kinds" "[I") (List.mem_of_getElem? (i := 3) rfl)
  have k23 := hts (.fieldLink RX2 23 "MailRoomModel" "as" "[I") (List.mem_of_getElem? (i := 4) rfl)
  have k26 := hts (.fieldLink RX2 26 "MailRoomModel" "bs" "[I") (List.mem_of_getElem? (i := 5) rfl)
  have k29 := hts (.fieldLink RX2 29 "MailRoomModel" "cs" "[J") (List.mem_of_getElem? (i := 6) rfl)
  have k32 := hts (.fieldLink RX2 32 "MailRoomModel" "formers" "[I") (List.mem_of_getElem? (i := 7) rfl)
  have k41 := hts (.fieldLink RX2 41 "MailRoomModel" "stands" "[I") (List.mem_of_getElem? (i := 8) rfl)
  have k35 := hts (.fieldLink RX2 35 "MailRoomModel" "others" "[I") (List.mem_of_getElem? (i := 9) rfl)
  have k38 := hts (.fieldLink RX2 38 "MailRoomModel" "lets" "[I") (List.mem_of_getElem? (i := 10) rfl)
  refine lv_iload_n hx hb dX2_handle_0 rfl (lv_at hl 2 rfl) ?_
  refine lv_iconst (v := 0) hx hb dX2_handle_1 (by decide) ?_
  refine lv_bipush (v := 11) hx hb dX2_handle_2 (by decide) ?_
  refine z_calls (As := [.int sort, .int 0, .int 11]) (rest := []) XX (cMM_in l sort 0 11) (va_cwS 3 hts gX2_handle_X2_in rfl rfl rfl qX2_in ⟨by decide, by decide⟩) rfl hl.1 rfl (Nat.le_of_ble_eq_true rfl) dX2_handle_4 ⟨Nat.zero_le _, Nat.zero_le _⟩ ?_
  refine lv_if_ne (tgt := 13) hx hb dX2_handle_7 (by decide) (fun c7 => ?_) (fun c7 => ?_)
  · refine lv_iload_n hx hb dX2_handle_13 rfl (lv_at hl 1 rfl) ?_
    refine z_calls (As := [.int k]) (rest := []) XX (cMM_isKind l k) (va_cwS 1 hts gX2_handle_X2_isKind rfl rfl rfl qX2_isKind ⟨by decide, by decide⟩) rfl hl.1 rfl (Nat.le_of_ble_eq_true rfl) dX2_handle_14 ⟨Nat.zero_le _, Nat.zero_le _⟩ ?_
    refine lv_if_eq (tgt := 30) hx hb dX2_handle_17 (by decide) (fun c17 => ?_) (fun c17 => ?_)
    · refine lv_bipush (v := (-2)) hx hb dX2_handle_30 (by decide) ?_
      exact z_reti hx hb hr hlocks rfl hK hP hD hS ((if_neg c7).trans ((if_pos c17).trans (rfl))) dX2_handle_32
    · refine lv_iload_n hx hb dX2_handle_20 rfl (lv_at hl 2 rfl) ?_
      refine lv_iload_n hx hb dX2_handle_21 rfl (lv_at hl 3 rfl) ?_
      refine lv_iload hx hb dX2_handle_22 (lv_at hl 4 rfl) ?_
      refine z_calls (As := [.int sort, .int a, .int b]) (rest := []) XX (cMM_areKnown l sort a b) (va_cwS 3 hts gX2_handle_X2_areKnown rfl rfl rfl qX2_areKnown ⟨by decide, by decide⟩) rfl hl.1 rfl (Nat.le_of_ble_eq_true rfl) dX2_handle_24 ⟨Nat.zero_le _, Nat.zero_le _⟩ ?_
      refine lv_if_ne (tgt := 33) hx hb dX2_handle_27 (by decide) (fun c27 => ?_) (fun c27 => ?_)
      · refine lv_iload_n hx hb dX2_handle_33 rfl (lv_at hl 2 rfl) ?_
        refine lv_iconst (v := 5) hx hb dX2_handle_34 (by decide) ?_
        refine lv_icmp_ne (tgt := 52) hx hb dX2_handle_35 (by decide) (fun c35 => ?_) (fun c35 => ?_)
        · refine lv_aload_n hx hb dX2_handle_52 rfl (lv_at hl 0 rfl) ?_
          refine m_gi_many (v := (m_many σ)) hx hb hts inW hown hK hP (rfl) k68 dX2_handle_53 ?_
          refine lv_sipush (v := 202) hx hb dX2_handle_56 (by decide) ?_
          refine lv_icmp_ne (tgt := 65) hx hb dX2_handle_59 (by decide) (fun c59 => ?_) (fun c59 => ?_)
          · refine lv_aload_n hx hb dX2_handle_65 rfl (lv_at hl 0 rfl) ?_
            refine m_gi_many (v := (m_many σ)) hx hb hts inW hown hK hP (rfl) k68 dX2_handle_66 ?_
            refine lv_istore (lv' := [(7, .int (m_many σ)), (0, .ref (O 0)), (1, .int k), (2, .int sort), (3, .int a), (4, .int b), (5, .long w)]) hx hb dX2_handle_69 hl (by decide) rfl (fun ls hl => ?_)
            refine lv_aload_n hx hb dX2_handle_71 rfl (lv_at hl 1 rfl) ?_
            refine m_ga_3 hx hb hts inW hown hK hP k17 dX2_handle_72 ?_
            refine lv_iload hx hb dX2_handle_75 (lv_at hl 0 rfl) ?_
            refine lv_iload_n hx hb dX2_handle_77 rfl (lv_at hl 3 rfl) ?_
            refine m_st_so (f := (m_so σ)) (i := (m_many σ)) hx hb hK hP hD hS (rfl) (hm c59) dX2_handle_78 (fun H locs hP hD hS => ?_)
            refine lv_aload_n hx hb dX2_handle_79 rfl (lv_at hl 1 rfl) ?_
            refine m_ga_4 hx hb hts inW hown hK hP k20 dX2_handle_80 ?_
            refine lv_iload hx hb dX2_handle_83 (lv_at hl 0 rfl) ?_
            refine lv_iload_n hx hb dX2_handle_85 rfl (lv_at hl 2 rfl) ?_
            refine m_st_ki (f := (m_ki σ)) (i := (m_many σ)) hx hb hK hP hD hS (mr_ki_so _ _) (hm c59) dX2_handle_86 (fun H locs hP hD hS => ?_)
            refine lv_aload_n hx hb dX2_handle_87 rfl (lv_at hl 1 rfl) ?_
            refine m_ga_5 hx hb hts inW hown hK hP k23 dX2_handle_88 ?_
            refine lv_iload hx hb dX2_handle_91 (lv_at hl 0 rfl) ?_
            refine lv_iload_n hx hb dX2_handle_93 rfl (lv_at hl 4 rfl) ?_
            refine m_st_as (f := (m_as σ)) (i := (m_many σ)) hx hb hK hP hD hS ((mr_as_ki _ _).trans (mr_as_so _ _)) (hm c59) dX2_handle_94 (fun H locs hP hD hS => ?_)
            refine lv_aload_n hx hb dX2_handle_95 rfl (lv_at hl 1 rfl) ?_
            refine m_ga_6 hx hb hts inW hown hK hP k26 dX2_handle_96 ?_
            refine lv_iload hx hb dX2_handle_99 (lv_at hl 0 rfl) ?_
            refine lv_iload hx hb dX2_handle_101 (lv_at hl 5 rfl) ?_
            refine m_st_bs (f := (m_bs σ)) (i := (m_many σ)) hx hb hK hP hD hS ((mr_bs_as _ _).trans ((mr_bs_ki _ _).trans (mr_bs_so _ _))) (hm c59) dX2_handle_103 (fun H locs hP hD hS => ?_)
            refine lv_aload_n hx hb dX2_handle_104 rfl (lv_at hl 1 rfl) ?_
            refine m_ga_7 hx hb hts inW hown hK hP k29 dX2_handle_105 ?_
            refine lv_iload hx hb dX2_handle_108 (lv_at hl 0 rfl) ?_
            refine lv_lload hx hb dX2_handle_110 (lv_at hl 6 rfl) ?_
            refine m_st_cs (f := (m_cs σ)) (i := (m_many σ)) hx hb hK hP hD hS ((mr_cs_bs _ _).trans ((mr_cs_as _ _).trans ((mr_cs_ki _ _).trans (mr_cs_so _ _)))) (hm c59) dX2_handle_112 (fun H locs hP hD hS => ?_)
            refine lv_aload_n hx hb dX2_handle_113 rfl (lv_at hl 1 rfl) ?_
            refine m_ga_8 hx hb hts inW hown hK hP k32 dX2_handle_114 ?_
            refine lv_iload hx hb dX2_handle_117 (lv_at hl 0 rfl) ?_
            refine lv_aload_n hx hb dX2_handle_119 rfl (lv_at hl 1 rfl) ?_
            refine m_ga_11 hx hb hts inW hown hK hP k41 dX2_handle_120 ?_
            refine lv_iload_n hx hb dX2_handle_123 rfl (lv_at hl 2 rfl) ?_
            refine m_ld_st (f := (m_st σ)) (i := k) hx hb hK hP ((mr_st_cs _ _).trans ((mr_st_bs _ _).trans ((mr_st_as _ _).trans ((mr_st_ki _ _).trans (mr_st_so _ _))))) (mkind_in c17) dX2_handle_124 ?_
            refine m_st_fo (f := (m_fo σ)) (i := (m_many σ)) hx hb hK hP hD hS ((mr_fo_cs _ _).trans ((mr_fo_bs _ _).trans ((mr_fo_as _ _).trans ((mr_fo_ki _ _).trans (mr_fo_so _ _))))) (hm c59) dX2_handle_125 (fun H locs hP hD hS => ?_)
            refine lv_aload_n hx hb dX2_handle_126 rfl (lv_at hl 1 rfl) ?_
            refine m_ga_9 hx hb hts inW hown hK hP k35 dX2_handle_127 ?_
            refine lv_iload hx hb dX2_handle_130 (lv_at hl 0 rfl) ?_
            refine lv_iload_n hx hb dX2_handle_132 rfl (lv_at hl 3 rfl) ?_
            refine lv_iconst (v := 2) hx hb dX2_handle_133 (by decide) ?_
            refine lv_icmp_eq (tgt := 143) hx hb dX2_handle_134 (by decide) (fun c134 => ?_) (fun c134 => ?_)
            · refine lv_aload_n hx hb dX2_handle_143 rfl (lv_at hl 1 rfl) ?_
              refine m_ga_11 hx hb hts inW hown hK hP k41 dX2_handle_144 ?_
              refine lv_iload_n hx hb dX2_handle_147 rfl (lv_at hl 4 rfl) ?_
              refine m_ld_st (f := (m_st σ)) (i := a) hx hb hK hP ((mr_st_fo _ _).trans ((mr_st_cs _ _).trans ((mr_st_bs _ _).trans ((mr_st_as _ _).trans ((mr_st_ki _ _).trans (mr_st_so _ _)))))) (mak_in c27 (by first | exact Or.inl c134 | exact Or.inr c140)) dX2_handle_148 ?_
              refine lv_goto (tgt := 153) hx hb dX2_handle_149 (by decide) ?_
              refine m_st_ot (f := (m_ot σ)) (i := (m_many σ)) hx hb hK hP hD hS ((mr_ot_fo _ _).trans ((mr_ot_cs _ _).trans ((mr_ot_bs _ _).trans ((mr_ot_as _ _).trans ((mr_ot_ki _ _).trans (mr_ot_so _ _)))))) (hm c59) dX2_handle_153 (fun H locs hP hD hS => ?_)
              refine lv_aload_n hx hb dX2_handle_154 rfl (lv_at hl 1 rfl) ?_
              refine m_ga_10 hx hb hts inW hown hK hP k38 dX2_handle_155 ?_
              refine lv_iload hx hb dX2_handle_158 (lv_at hl 0 rfl) ?_
              refine lv_iconst (v := 0) hx hb dX2_handle_160 (by decide) ?_
              refine m_st_le (f := (m_le σ)) (i := (m_many σ)) hx hb hK hP hD hS ((mr_le_ot _ _).trans ((mr_le_fo _ _).trans ((mr_le_cs _ _).trans ((mr_le_bs _ _).trans ((mr_le_as _ _).trans ((mr_le_ki _ _).trans (mr_le_so _ _))))))) (hm c59) dX2_handle_161 (fun H locs hP hD hS => ?_)
              refine lv_aload_n hx hb dX2_handle_162 rfl (lv_at hl 1 rfl) ?_
              refine m_ga_11 hx hb hts inW hown hK hP k41 dX2_handle_163 ?_
              refine lv_iload_n hx hb dX2_handle_166 rfl (lv_at hl 2 rfl) ?_
              refine lv_iload hx hb dX2_handle_167 (lv_at hl 0 rfl) ?_
              refine m_st_st (f := (m_st σ)) (i := k) hx hb hK hP hD hS ((mr_st_le _ _).trans ((mr_st_ot _ _).trans ((mr_st_fo _ _).trans ((mr_st_cs _ _).trans ((mr_st_bs _ _).trans ((mr_st_as _ _).trans ((mr_st_ki _ _).trans (mr_st_so _ _)))))))) (mkind_in c17) dX2_handle_169 (fun H locs hP hD hS => ?_)
              refine lv_aload_n hx hb dX2_handle_170 rfl (lv_at hl 1 rfl) ?_
              refine lv_dup hx hb dX2_handle_171 rfl ?_
              refine m_gi_many (v := (m_many σ)) hx hb hts inW hown hK hP ((mr_many_st _ _).trans ((mr_many_le _ _).trans ((mr_many_ot _ _).trans ((mr_many_fo _ _).trans ((mr_many_cs _ _).trans ((mr_many_bs _ _).trans ((mr_many_as _ _).trans ((mr_many_ki _ _).trans (mr_many_so _ _))))))))) k68 dX2_handle_172 ?_
              refine lv_iconst (v := 1) hx hb dX2_handle_175 (by decide) ?_
              refine lv_iadd hx hb dX2_handle_176 ?_
              refine m_pi_many hx hb hts inW hown hK hP hD hS k68 dX2_handle_177 (fun H locs hP hD hS => ?_)
              refine lv_aload_n hx hb dX2_handle_180 rfl (lv_at hl 1 rfl) ?_
              refine m_ga_8 hx hb hts inW hown hK hP k32 dX2_handle_181 ?_
              refine lv_iload hx hb dX2_handle_184 (lv_at hl 0 rfl) ?_
              refine m_ld_fo (f := (upd (m_fo σ) ((m_many σ).toNatClampNeg) ((m_st σ) k.toNatClampNeg))) (i := (m_many σ)) hx hb hK hP ((mr_fo_many _ _).trans ((mr_fo_st _ _).trans ((mr_fo_le _ _).trans ((mr_fo_ot _ _).trans (mw_fo _ _))))) (hm c59) dX2_handle_186 ?_
              refine lv_if_lt (tgt := 194) hx hb dX2_handle_187 (by decide) (fun c187 => ?_) (fun c187 => ?_)
              · refine lv_iconst (v := 0) hx hb dX2_handle_194 (by decide) ?_
                exact z_reti hx hb hr hlocks rfl hK hP hD hS ((if_neg c7).trans ((if_neg c17).trans ((if_neg c27).trans ((if_neg c35).trans ((if_neg c59).trans ((if_pos c134).trans ((if_pos c187).trans (rfl)))))))) dX2_handle_195
              · refine lv_iconst (v := 1) hx hb dX2_handle_190 (by decide) ?_
                refine lv_goto (tgt := 195) hx hb dX2_handle_191 (by decide) ?_
                exact z_reti hx hb hr hlocks rfl hK hP hD hS ((if_neg c7).trans ((if_neg c17).trans ((if_neg c27).trans ((if_neg c35).trans ((if_neg c59).trans ((if_pos c134).trans ((if_neg c187).trans (rfl)))))))) dX2_handle_195
            · refine lv_iload_n hx hb dX2_handle_137 rfl (lv_at hl 3 rfl) ?_
              refine lv_bipush (v := 7) hx hb dX2_handle_138 (by decide) ?_
              refine lv_icmp_ne (tgt := 152) hx hb dX2_handle_140 (by decide) (fun c140 => ?_) (fun c140 => ?_)
              · refine lv_iconst (v := (-1)) hx hb dX2_handle_152 (by decide) ?_
                refine m_st_ot (f := (m_ot σ)) (i := (m_many σ)) hx hb hK hP hD hS ((mr_ot_fo _ _).trans ((mr_ot_cs _ _).trans ((mr_ot_bs _ _).trans ((mr_ot_as _ _).trans ((mr_ot_ki _ _).trans (mr_ot_so _ _)))))) (hm c59) dX2_handle_153 (fun H locs hP hD hS => ?_)
                refine lv_aload_n hx hb dX2_handle_154 rfl (lv_at hl 1 rfl) ?_
                refine m_ga_10 hx hb hts inW hown hK hP k38 dX2_handle_155 ?_
                refine lv_iload hx hb dX2_handle_158 (lv_at hl 0 rfl) ?_
                refine lv_iconst (v := 0) hx hb dX2_handle_160 (by decide) ?_
                refine m_st_le (f := (m_le σ)) (i := (m_many σ)) hx hb hK hP hD hS ((mr_le_ot _ _).trans ((mr_le_fo _ _).trans ((mr_le_cs _ _).trans ((mr_le_bs _ _).trans ((mr_le_as _ _).trans ((mr_le_ki _ _).trans (mr_le_so _ _))))))) (hm c59) dX2_handle_161 (fun H locs hP hD hS => ?_)
                refine lv_aload_n hx hb dX2_handle_162 rfl (lv_at hl 1 rfl) ?_
                refine m_ga_11 hx hb hts inW hown hK hP k41 dX2_handle_163 ?_
                refine lv_iload_n hx hb dX2_handle_166 rfl (lv_at hl 2 rfl) ?_
                refine lv_iload hx hb dX2_handle_167 (lv_at hl 0 rfl) ?_
                refine m_st_st (f := (m_st σ)) (i := k) hx hb hK hP hD hS ((mr_st_le _ _).trans ((mr_st_ot _ _).trans ((mr_st_fo _ _).trans ((mr_st_cs _ _).trans ((mr_st_bs _ _).trans ((mr_st_as _ _).trans ((mr_st_ki _ _).trans (mr_st_so _ _)))))))) (mkind_in c17) dX2_handle_169 (fun H locs hP hD hS => ?_)
                refine lv_aload_n hx hb dX2_handle_170 rfl (lv_at hl 1 rfl) ?_
                refine lv_dup hx hb dX2_handle_171 rfl ?_
                refine m_gi_many (v := (m_many σ)) hx hb hts inW hown hK hP ((mr_many_st _ _).trans ((mr_many_le _ _).trans ((mr_many_ot _ _).trans ((mr_many_fo _ _).trans ((mr_many_cs _ _).trans ((mr_many_bs _ _).trans ((mr_many_as _ _).trans ((mr_many_ki _ _).trans (mr_many_so _ _))))))))) k68 dX2_handle_172 ?_
                refine lv_iconst (v := 1) hx hb dX2_handle_175 (by decide) ?_
                refine lv_iadd hx hb dX2_handle_176 ?_
                refine m_pi_many hx hb hts inW hown hK hP hD hS k68 dX2_handle_177 (fun H locs hP hD hS => ?_)
                refine lv_aload_n hx hb dX2_handle_180 rfl (lv_at hl 1 rfl) ?_
                refine m_ga_8 hx hb hts inW hown hK hP k32 dX2_handle_181 ?_
                refine lv_iload hx hb dX2_handle_184 (lv_at hl 0 rfl) ?_
                refine m_ld_fo (f := (upd (m_fo σ) ((m_many σ).toNatClampNeg) ((m_st σ) k.toNatClampNeg))) (i := (m_many σ)) hx hb hK hP ((mr_fo_many _ _).trans ((mr_fo_st _ _).trans ((mr_fo_le _ _).trans ((mr_fo_ot _ _).trans (mw_fo _ _))))) (hm c59) dX2_handle_186 ?_
                refine lv_if_lt (tgt := 194) hx hb dX2_handle_187 (by decide) (fun c187 => ?_) (fun c187 => ?_)
                · refine lv_iconst (v := 0) hx hb dX2_handle_194 (by decide) ?_
                  exact z_reti hx hb hr hlocks rfl hK hP hD hS ((if_neg c7).trans ((if_neg c17).trans ((if_neg c27).trans ((if_neg c35).trans ((if_neg c59).trans ((if_neg c134).trans ((if_neg c140).trans ((if_pos c187).trans (rfl))))))))) dX2_handle_195
                · refine lv_iconst (v := 1) hx hb dX2_handle_190 (by decide) ?_
                  refine lv_goto (tgt := 195) hx hb dX2_handle_191 (by decide) ?_
                  exact z_reti hx hb hr hlocks rfl hK hP hD hS ((if_neg c7).trans ((if_neg c17).trans ((if_neg c27).trans ((if_neg c35).trans ((if_neg c59).trans ((if_neg c134).trans ((if_neg c140).trans ((if_neg c187).trans (rfl))))))))) dX2_handle_195
              · refine lv_aload_n hx hb dX2_handle_143 rfl (lv_at hl 1 rfl) ?_
                refine m_ga_11 hx hb hts inW hown hK hP k41 dX2_handle_144 ?_
                refine lv_iload_n hx hb dX2_handle_147 rfl (lv_at hl 4 rfl) ?_
                refine m_ld_st (f := (m_st σ)) (i := a) hx hb hK hP ((mr_st_fo _ _).trans ((mr_st_cs _ _).trans ((mr_st_bs _ _).trans ((mr_st_as _ _).trans ((mr_st_ki _ _).trans (mr_st_so _ _)))))) (mak_in c27 (by first | exact Or.inl c134 | exact Or.inr c140)) dX2_handle_148 ?_
                refine lv_goto (tgt := 153) hx hb dX2_handle_149 (by decide) ?_
                refine m_st_ot (f := (m_ot σ)) (i := (m_many σ)) hx hb hK hP hD hS ((mr_ot_fo _ _).trans ((mr_ot_cs _ _).trans ((mr_ot_bs _ _).trans ((mr_ot_as _ _).trans ((mr_ot_ki _ _).trans (mr_ot_so _ _)))))) (hm c59) dX2_handle_153 (fun H locs hP hD hS => ?_)
                refine lv_aload_n hx hb dX2_handle_154 rfl (lv_at hl 1 rfl) ?_
                refine m_ga_10 hx hb hts inW hown hK hP k38 dX2_handle_155 ?_
                refine lv_iload hx hb dX2_handle_158 (lv_at hl 0 rfl) ?_
                refine lv_iconst (v := 0) hx hb dX2_handle_160 (by decide) ?_
                refine m_st_le (f := (m_le σ)) (i := (m_many σ)) hx hb hK hP hD hS ((mr_le_ot _ _).trans ((mr_le_fo _ _).trans ((mr_le_cs _ _).trans ((mr_le_bs _ _).trans ((mr_le_as _ _).trans ((mr_le_ki _ _).trans (mr_le_so _ _))))))) (hm c59) dX2_handle_161 (fun H locs hP hD hS => ?_)
                refine lv_aload_n hx hb dX2_handle_162 rfl (lv_at hl 1 rfl) ?_
                refine m_ga_11 hx hb hts inW hown hK hP k41 dX2_handle_163 ?_
                refine lv_iload_n hx hb dX2_handle_166 rfl (lv_at hl 2 rfl) ?_
                refine lv_iload hx hb dX2_handle_167 (lv_at hl 0 rfl) ?_
                refine m_st_st (f := (m_st σ)) (i := k) hx hb hK hP hD hS ((mr_st_le _ _).trans ((mr_st_ot _ _).trans ((mr_st_fo _ _).trans ((mr_st_cs _ _).trans ((mr_st_bs _ _).trans ((mr_st_as _ _).trans ((mr_st_ki _ _).trans (mr_st_so _ _)))))))) (mkind_in c17) dX2_handle_169 (fun H locs hP hD hS => ?_)
                refine lv_aload_n hx hb dX2_handle_170 rfl (lv_at hl 1 rfl) ?_
                refine lv_dup hx hb dX2_handle_171 rfl ?_
                refine m_gi_many (v := (m_many σ)) hx hb hts inW hown hK hP ((mr_many_st _ _).trans ((mr_many_le _ _).trans ((mr_many_ot _ _).trans ((mr_many_fo _ _).trans ((mr_many_cs _ _).trans ((mr_many_bs _ _).trans ((mr_many_as _ _).trans ((mr_many_ki _ _).trans (mr_many_so _ _))))))))) k68 dX2_handle_172 ?_
                refine lv_iconst (v := 1) hx hb dX2_handle_175 (by decide) ?_
                refine lv_iadd hx hb dX2_handle_176 ?_
                refine m_pi_many hx hb hts inW hown hK hP hD hS k68 dX2_handle_177 (fun H locs hP hD hS => ?_)
                refine lv_aload_n hx hb dX2_handle_180 rfl (lv_at hl 1 rfl) ?_
                refine m_ga_8 hx hb hts inW hown hK hP k32 dX2_handle_181 ?_
                refine lv_iload hx hb dX2_handle_184 (lv_at hl 0 rfl) ?_
                refine m_ld_fo (f := (upd (m_fo σ) ((m_many σ).toNatClampNeg) ((m_st σ) k.toNatClampNeg))) (i := (m_many σ)) hx hb hK hP ((mr_fo_many _ _).trans ((mr_fo_st _ _).trans ((mr_fo_le _ _).trans ((mr_fo_ot _ _).trans (mw_fo _ _))))) (hm c59) dX2_handle_186 ?_
                refine lv_if_lt (tgt := 194) hx hb dX2_handle_187 (by decide) (fun c187 => ?_) (fun c187 => ?_)
                · refine lv_iconst (v := 0) hx hb dX2_handle_194 (by decide) ?_
                  exact z_reti hx hb hr hlocks rfl hK hP hD hS ((if_neg c7).trans ((if_neg c17).trans ((if_neg c27).trans ((if_neg c35).trans ((if_neg c59).trans ((if_neg c134).trans ((if_pos c140).trans ((if_pos c187).trans (rfl))))))))) dX2_handle_195
                · refine lv_iconst (v := 1) hx hb dX2_handle_190 (by decide) ?_
                  refine lv_goto (tgt := 195) hx hb dX2_handle_191 (by decide) ?_
                  exact z_reti hx hb hr hlocks rfl hK hP hD hS ((if_neg c7).trans ((if_neg c17).trans ((if_neg c27).trans ((if_neg c35).trans ((if_neg c59).trans ((if_neg c134).trans ((if_pos c140).trans ((if_neg c187).trans (rfl))))))))) dX2_handle_195
          · refine lv_bipush (v := (-4)) hx hb dX2_handle_62 (by decide) ?_
            exact z_reti hx hb hr hlocks rfl hK hP hD hS ((if_neg c7).trans ((if_neg c17).trans ((if_neg c27).trans ((if_neg c35).trans ((if_pos c59).trans (rfl)))))) dX2_handle_64
        · refine lv_iload hx hb dX2_handle_38 (lv_at hl 4 rfl) ?_
          refine lv_iconst (v := 0) hx hb dX2_handle_40 (by decide) ?_
          refine lv_bipush (v := 100) hx hb dX2_handle_41 (by decide) ?_
          refine z_calls (As := [.int b, .int 0, .int 100]) (rest := []) XX (cMM_in l b 0 100) (va_cwS 3 hts gX2_handle_X2_in rfl rfl rfl qX2_in ⟨by decide, by decide⟩) rfl hl.1 rfl (Nat.le_of_ble_eq_true rfl) dX2_handle_43 ⟨Nat.zero_le _, Nat.zero_le _⟩ ?_
          refine lv_if_ne (tgt := 52) hx hb dX2_handle_46 (by decide) (fun c46 => ?_) (fun c46 => ?_)
          · refine lv_aload_n hx hb dX2_handle_52 rfl (lv_at hl 0 rfl) ?_
            refine m_gi_many (v := (m_many σ)) hx hb hts inW hown hK hP (rfl) k68 dX2_handle_53 ?_
            refine lv_sipush (v := 202) hx hb dX2_handle_56 (by decide) ?_
            refine lv_icmp_ne (tgt := 65) hx hb dX2_handle_59 (by decide) (fun c59 => ?_) (fun c59 => ?_)
            · refine lv_aload_n hx hb dX2_handle_65 rfl (lv_at hl 0 rfl) ?_
              refine m_gi_many (v := (m_many σ)) hx hb hts inW hown hK hP (rfl) k68 dX2_handle_66 ?_
              refine lv_istore (lv' := [(7, .int (m_many σ)), (0, .ref (O 0)), (1, .int k), (2, .int sort), (3, .int a), (4, .int b), (5, .long w)]) hx hb dX2_handle_69 hl (by decide) rfl (fun ls hl => ?_)
              refine lv_aload_n hx hb dX2_handle_71 rfl (lv_at hl 1 rfl) ?_
              refine m_ga_3 hx hb hts inW hown hK hP k17 dX2_handle_72 ?_
              refine lv_iload hx hb dX2_handle_75 (lv_at hl 0 rfl) ?_
              refine lv_iload_n hx hb dX2_handle_77 rfl (lv_at hl 3 rfl) ?_
              refine m_st_so (f := (m_so σ)) (i := (m_many σ)) hx hb hK hP hD hS (rfl) (hm c59) dX2_handle_78 (fun H locs hP hD hS => ?_)
              refine lv_aload_n hx hb dX2_handle_79 rfl (lv_at hl 1 rfl) ?_
              refine m_ga_4 hx hb hts inW hown hK hP k20 dX2_handle_80 ?_
              refine lv_iload hx hb dX2_handle_83 (lv_at hl 0 rfl) ?_
              refine lv_iload_n hx hb dX2_handle_85 rfl (lv_at hl 2 rfl) ?_
              refine m_st_ki (f := (m_ki σ)) (i := (m_many σ)) hx hb hK hP hD hS (mr_ki_so _ _) (hm c59) dX2_handle_86 (fun H locs hP hD hS => ?_)
              refine lv_aload_n hx hb dX2_handle_87 rfl (lv_at hl 1 rfl) ?_
              refine m_ga_5 hx hb hts inW hown hK hP k23 dX2_handle_88 ?_
              refine lv_iload hx hb dX2_handle_91 (lv_at hl 0 rfl) ?_
              refine lv_iload_n hx hb dX2_handle_93 rfl (lv_at hl 4 rfl) ?_
              refine m_st_as (f := (m_as σ)) (i := (m_many σ)) hx hb hK hP hD hS ((mr_as_ki _ _).trans (mr_as_so _ _)) (hm c59) dX2_handle_94 (fun H locs hP hD hS => ?_)
              refine lv_aload_n hx hb dX2_handle_95 rfl (lv_at hl 1 rfl) ?_
              refine m_ga_6 hx hb hts inW hown hK hP k26 dX2_handle_96 ?_
              refine lv_iload hx hb dX2_handle_99 (lv_at hl 0 rfl) ?_
              refine lv_iload hx hb dX2_handle_101 (lv_at hl 5 rfl) ?_
              refine m_st_bs (f := (m_bs σ)) (i := (m_many σ)) hx hb hK hP hD hS ((mr_bs_as _ _).trans ((mr_bs_ki _ _).trans (mr_bs_so _ _))) (hm c59) dX2_handle_103 (fun H locs hP hD hS => ?_)
              refine lv_aload_n hx hb dX2_handle_104 rfl (lv_at hl 1 rfl) ?_
              refine m_ga_7 hx hb hts inW hown hK hP k29 dX2_handle_105 ?_
              refine lv_iload hx hb dX2_handle_108 (lv_at hl 0 rfl) ?_
              refine lv_lload hx hb dX2_handle_110 (lv_at hl 6 rfl) ?_
              refine m_st_cs (f := (m_cs σ)) (i := (m_many σ)) hx hb hK hP hD hS ((mr_cs_bs _ _).trans ((mr_cs_as _ _).trans ((mr_cs_ki _ _).trans (mr_cs_so _ _)))) (hm c59) dX2_handle_112 (fun H locs hP hD hS => ?_)
              refine lv_aload_n hx hb dX2_handle_113 rfl (lv_at hl 1 rfl) ?_
              refine m_ga_8 hx hb hts inW hown hK hP k32 dX2_handle_114 ?_
              refine lv_iload hx hb dX2_handle_117 (lv_at hl 0 rfl) ?_
              refine lv_aload_n hx hb dX2_handle_119 rfl (lv_at hl 1 rfl) ?_
              refine m_ga_11 hx hb hts inW hown hK hP k41 dX2_handle_120 ?_
              refine lv_iload_n hx hb dX2_handle_123 rfl (lv_at hl 2 rfl) ?_
              refine m_ld_st (f := (m_st σ)) (i := k) hx hb hK hP ((mr_st_cs _ _).trans ((mr_st_bs _ _).trans ((mr_st_as _ _).trans ((mr_st_ki _ _).trans (mr_st_so _ _))))) (mkind_in c17) dX2_handle_124 ?_
              refine m_st_fo (f := (m_fo σ)) (i := (m_many σ)) hx hb hK hP hD hS ((mr_fo_cs _ _).trans ((mr_fo_bs _ _).trans ((mr_fo_as _ _).trans ((mr_fo_ki _ _).trans (mr_fo_so _ _))))) (hm c59) dX2_handle_125 (fun H locs hP hD hS => ?_)
              refine lv_aload_n hx hb dX2_handle_126 rfl (lv_at hl 1 rfl) ?_
              refine m_ga_9 hx hb hts inW hown hK hP k35 dX2_handle_127 ?_
              refine lv_iload hx hb dX2_handle_130 (lv_at hl 0 rfl) ?_
              refine lv_iload_n hx hb dX2_handle_132 rfl (lv_at hl 3 rfl) ?_
              refine lv_iconst (v := 2) hx hb dX2_handle_133 (by decide) ?_
              refine lv_icmp_eq (tgt := 143) hx hb dX2_handle_134 (by decide) (fun c134 => ?_) (fun c134 => ?_)
              · refine lv_aload_n hx hb dX2_handle_143 rfl (lv_at hl 1 rfl) ?_
                refine m_ga_11 hx hb hts inW hown hK hP k41 dX2_handle_144 ?_
                refine lv_iload_n hx hb dX2_handle_147 rfl (lv_at hl 4 rfl) ?_
                refine m_ld_st (f := (m_st σ)) (i := a) hx hb hK hP ((mr_st_fo _ _).trans ((mr_st_cs _ _).trans ((mr_st_bs _ _).trans ((mr_st_as _ _).trans ((mr_st_ki _ _).trans (mr_st_so _ _)))))) (mak_in c27 (by first | exact Or.inl c134 | exact Or.inr c140)) dX2_handle_148 ?_
                refine lv_goto (tgt := 153) hx hb dX2_handle_149 (by decide) ?_
                refine m_st_ot (f := (m_ot σ)) (i := (m_many σ)) hx hb hK hP hD hS ((mr_ot_fo _ _).trans ((mr_ot_cs _ _).trans ((mr_ot_bs _ _).trans ((mr_ot_as _ _).trans ((mr_ot_ki _ _).trans (mr_ot_so _ _)))))) (hm c59) dX2_handle_153 (fun H locs hP hD hS => ?_)
                refine lv_aload_n hx hb dX2_handle_154 rfl (lv_at hl 1 rfl) ?_
                refine m_ga_10 hx hb hts inW hown hK hP k38 dX2_handle_155 ?_
                refine lv_iload hx hb dX2_handle_158 (lv_at hl 0 rfl) ?_
                refine lv_iconst (v := 0) hx hb dX2_handle_160 (by decide) ?_
                refine m_st_le (f := (m_le σ)) (i := (m_many σ)) hx hb hK hP hD hS ((mr_le_ot _ _).trans ((mr_le_fo _ _).trans ((mr_le_cs _ _).trans ((mr_le_bs _ _).trans ((mr_le_as _ _).trans ((mr_le_ki _ _).trans (mr_le_so _ _))))))) (hm c59) dX2_handle_161 (fun H locs hP hD hS => ?_)
                refine lv_aload_n hx hb dX2_handle_162 rfl (lv_at hl 1 rfl) ?_
                refine m_ga_11 hx hb hts inW hown hK hP k41 dX2_handle_163 ?_
                refine lv_iload_n hx hb dX2_handle_166 rfl (lv_at hl 2 rfl) ?_
                refine lv_iload hx hb dX2_handle_167 (lv_at hl 0 rfl) ?_
                refine m_st_st (f := (m_st σ)) (i := k) hx hb hK hP hD hS ((mr_st_le _ _).trans ((mr_st_ot _ _).trans ((mr_st_fo _ _).trans ((mr_st_cs _ _).trans ((mr_st_bs _ _).trans ((mr_st_as _ _).trans ((mr_st_ki _ _).trans (mr_st_so _ _)))))))) (mkind_in c17) dX2_handle_169 (fun H locs hP hD hS => ?_)
                refine lv_aload_n hx hb dX2_handle_170 rfl (lv_at hl 1 rfl) ?_
                refine lv_dup hx hb dX2_handle_171 rfl ?_
                refine m_gi_many (v := (m_many σ)) hx hb hts inW hown hK hP ((mr_many_st _ _).trans ((mr_many_le _ _).trans ((mr_many_ot _ _).trans ((mr_many_fo _ _).trans ((mr_many_cs _ _).trans ((mr_many_bs _ _).trans ((mr_many_as _ _).trans ((mr_many_ki _ _).trans (mr_many_so _ _))))))))) k68 dX2_handle_172 ?_
                refine lv_iconst (v := 1) hx hb dX2_handle_175 (by decide) ?_
                refine lv_iadd hx hb dX2_handle_176 ?_
                refine m_pi_many hx hb hts inW hown hK hP hD hS k68 dX2_handle_177 (fun H locs hP hD hS => ?_)
                refine lv_aload_n hx hb dX2_handle_180 rfl (lv_at hl 1 rfl) ?_
                refine m_ga_8 hx hb hts inW hown hK hP k32 dX2_handle_181 ?_
                refine lv_iload hx hb dX2_handle_184 (lv_at hl 0 rfl) ?_
                refine m_ld_fo (f := (upd (m_fo σ) ((m_many σ).toNatClampNeg) ((m_st σ) k.toNatClampNeg))) (i := (m_many σ)) hx hb hK hP ((mr_fo_many _ _).trans ((mr_fo_st _ _).trans ((mr_fo_le _ _).trans ((mr_fo_ot _ _).trans (mw_fo _ _))))) (hm c59) dX2_handle_186 ?_
                refine lv_if_lt (tgt := 194) hx hb dX2_handle_187 (by decide) (fun c187 => ?_) (fun c187 => ?_)
                · refine lv_iconst (v := 0) hx hb dX2_handle_194 (by decide) ?_
                  exact z_reti hx hb hr hlocks rfl hK hP hD hS ((if_neg c7).trans ((if_neg c17).trans ((if_neg c27).trans ((if_pos c35).trans ((if_neg c46).trans ((if_neg c59).trans ((if_pos c134).trans ((if_pos c187).trans (rfl))))))))) dX2_handle_195
                · refine lv_iconst (v := 1) hx hb dX2_handle_190 (by decide) ?_
                  refine lv_goto (tgt := 195) hx hb dX2_handle_191 (by decide) ?_
                  exact z_reti hx hb hr hlocks rfl hK hP hD hS ((if_neg c7).trans ((if_neg c17).trans ((if_neg c27).trans ((if_pos c35).trans ((if_neg c46).trans ((if_neg c59).trans ((if_pos c134).trans ((if_neg c187).trans (rfl))))))))) dX2_handle_195
              · refine lv_iload_n hx hb dX2_handle_137 rfl (lv_at hl 3 rfl) ?_
                refine lv_bipush (v := 7) hx hb dX2_handle_138 (by decide) ?_
                refine lv_icmp_ne (tgt := 152) hx hb dX2_handle_140 (by decide) (fun c140 => ?_) (fun c140 => ?_)
                · refine lv_iconst (v := (-1)) hx hb dX2_handle_152 (by decide) ?_
                  refine m_st_ot (f := (m_ot σ)) (i := (m_many σ)) hx hb hK hP hD hS ((mr_ot_fo _ _).trans ((mr_ot_cs _ _).trans ((mr_ot_bs _ _).trans ((mr_ot_as _ _).trans ((mr_ot_ki _ _).trans (mr_ot_so _ _)))))) (hm c59) dX2_handle_153 (fun H locs hP hD hS => ?_)
                  refine lv_aload_n hx hb dX2_handle_154 rfl (lv_at hl 1 rfl) ?_
                  refine m_ga_10 hx hb hts inW hown hK hP k38 dX2_handle_155 ?_
                  refine lv_iload hx hb dX2_handle_158 (lv_at hl 0 rfl) ?_
                  refine lv_iconst (v := 0) hx hb dX2_handle_160 (by decide) ?_
                  refine m_st_le (f := (m_le σ)) (i := (m_many σ)) hx hb hK hP hD hS ((mr_le_ot _ _).trans ((mr_le_fo _ _).trans ((mr_le_cs _ _).trans ((mr_le_bs _ _).trans ((mr_le_as _ _).trans ((mr_le_ki _ _).trans (mr_le_so _ _))))))) (hm c59) dX2_handle_161 (fun H locs hP hD hS => ?_)
                  refine lv_aload_n hx hb dX2_handle_162 rfl (lv_at hl 1 rfl) ?_
                  refine m_ga_11 hx hb hts inW hown hK hP k41 dX2_handle_163 ?_
                  refine lv_iload_n hx hb dX2_handle_166 rfl (lv_at hl 2 rfl) ?_
                  refine lv_iload hx hb dX2_handle_167 (lv_at hl 0 rfl) ?_
                  refine m_st_st (f := (m_st σ)) (i := k) hx hb hK hP hD hS ((mr_st_le _ _).trans ((mr_st_ot _ _).trans ((mr_st_fo _ _).trans ((mr_st_cs _ _).trans ((mr_st_bs _ _).trans ((mr_st_as _ _).trans ((mr_st_ki _ _).trans (mr_st_so _ _)))))))) (mkind_in c17) dX2_handle_169 (fun H locs hP hD hS => ?_)
                  refine lv_aload_n hx hb dX2_handle_170 rfl (lv_at hl 1 rfl) ?_
                  refine lv_dup hx hb dX2_handle_171 rfl ?_
                  refine m_gi_many (v := (m_many σ)) hx hb hts inW hown hK hP ((mr_many_st _ _).trans ((mr_many_le _ _).trans ((mr_many_ot _ _).trans ((mr_many_fo _ _).trans ((mr_many_cs _ _).trans ((mr_many_bs _ _).trans ((mr_many_as _ _).trans ((mr_many_ki _ _).trans (mr_many_so _ _))))))))) k68 dX2_handle_172 ?_
                  refine lv_iconst (v := 1) hx hb dX2_handle_175 (by decide) ?_
                  refine lv_iadd hx hb dX2_handle_176 ?_
                  refine m_pi_many hx hb hts inW hown hK hP hD hS k68 dX2_handle_177 (fun H locs hP hD hS => ?_)
                  refine lv_aload_n hx hb dX2_handle_180 rfl (lv_at hl 1 rfl) ?_
                  refine m_ga_8 hx hb hts inW hown hK hP k32 dX2_handle_181 ?_
                  refine lv_iload hx hb dX2_handle_184 (lv_at hl 0 rfl) ?_
                  refine m_ld_fo (f := (upd (m_fo σ) ((m_many σ).toNatClampNeg) ((m_st σ) k.toNatClampNeg))) (i := (m_many σ)) hx hb hK hP ((mr_fo_many _ _).trans ((mr_fo_st _ _).trans ((mr_fo_le _ _).trans ((mr_fo_ot _ _).trans (mw_fo _ _))))) (hm c59) dX2_handle_186 ?_
                  refine lv_if_lt (tgt := 194) hx hb dX2_handle_187 (by decide) (fun c187 => ?_) (fun c187 => ?_)
                  · refine lv_iconst (v := 0) hx hb dX2_handle_194 (by decide) ?_
                    exact z_reti hx hb hr hlocks rfl hK hP hD hS ((if_neg c7).trans ((if_neg c17).trans ((if_neg c27).trans ((if_pos c35).trans ((if_neg c46).trans ((if_neg c59).trans ((if_neg c134).trans ((if_neg c140).trans ((if_pos c187).trans (rfl)))))))))) dX2_handle_195
                  · refine lv_iconst (v := 1) hx hb dX2_handle_190 (by decide) ?_
                    refine lv_goto (tgt := 195) hx hb dX2_handle_191 (by decide) ?_
                    exact z_reti hx hb hr hlocks rfl hK hP hD hS ((if_neg c7).trans ((if_neg c17).trans ((if_neg c27).trans ((if_pos c35).trans ((if_neg c46).trans ((if_neg c59).trans ((if_neg c134).trans ((if_neg c140).trans ((if_neg c187).trans (rfl)))))))))) dX2_handle_195
                · refine lv_aload_n hx hb dX2_handle_143 rfl (lv_at hl 1 rfl) ?_
                  refine m_ga_11 hx hb hts inW hown hK hP k41 dX2_handle_144 ?_
                  refine lv_iload_n hx hb dX2_handle_147 rfl (lv_at hl 4 rfl) ?_
                  refine m_ld_st (f := (m_st σ)) (i := a) hx hb hK hP ((mr_st_fo _ _).trans ((mr_st_cs _ _).trans ((mr_st_bs _ _).trans ((mr_st_as _ _).trans ((mr_st_ki _ _).trans (mr_st_so _ _)))))) (mak_in c27 (by first | exact Or.inl c134 | exact Or.inr c140)) dX2_handle_148 ?_
                  refine lv_goto (tgt := 153) hx hb dX2_handle_149 (by decide) ?_
                  refine m_st_ot (f := (m_ot σ)) (i := (m_many σ)) hx hb hK hP hD hS ((mr_ot_fo _ _).trans ((mr_ot_cs _ _).trans ((mr_ot_bs _ _).trans ((mr_ot_as _ _).trans ((mr_ot_ki _ _).trans (mr_ot_so _ _)))))) (hm c59) dX2_handle_153 (fun H locs hP hD hS => ?_)
                  refine lv_aload_n hx hb dX2_handle_154 rfl (lv_at hl 1 rfl) ?_
                  refine m_ga_10 hx hb hts inW hown hK hP k38 dX2_handle_155 ?_
                  refine lv_iload hx hb dX2_handle_158 (lv_at hl 0 rfl) ?_
                  refine lv_iconst (v := 0) hx hb dX2_handle_160 (by decide) ?_
                  refine m_st_le (f := (m_le σ)) (i := (m_many σ)) hx hb hK hP hD hS ((mr_le_ot _ _).trans ((mr_le_fo _ _).trans ((mr_le_cs _ _).trans ((mr_le_bs _ _).trans ((mr_le_as _ _).trans ((mr_le_ki _ _).trans (mr_le_so _ _))))))) (hm c59) dX2_handle_161 (fun H locs hP hD hS => ?_)
                  refine lv_aload_n hx hb dX2_handle_162 rfl (lv_at hl 1 rfl) ?_
                  refine m_ga_11 hx hb hts inW hown hK hP k41 dX2_handle_163 ?_
                  refine lv_iload_n hx hb dX2_handle_166 rfl (lv_at hl 2 rfl) ?_
                  refine lv_iload hx hb dX2_handle_167 (lv_at hl 0 rfl) ?_
                  refine m_st_st (f := (m_st σ)) (i := k) hx hb hK hP hD hS ((mr_st_le _ _).trans ((mr_st_ot _ _).trans ((mr_st_fo _ _).trans ((mr_st_cs _ _).trans ((mr_st_bs _ _).trans ((mr_st_as _ _).trans ((mr_st_ki _ _).trans (mr_st_so _ _)))))))) (mkind_in c17) dX2_handle_169 (fun H locs hP hD hS => ?_)
                  refine lv_aload_n hx hb dX2_handle_170 rfl (lv_at hl 1 rfl) ?_
                  refine lv_dup hx hb dX2_handle_171 rfl ?_
                  refine m_gi_many (v := (m_many σ)) hx hb hts inW hown hK hP ((mr_many_st _ _).trans ((mr_many_le _ _).trans ((mr_many_ot _ _).trans ((mr_many_fo _ _).trans ((mr_many_cs _ _).trans ((mr_many_bs _ _).trans ((mr_many_as _ _).trans ((mr_many_ki _ _).trans (mr_many_so _ _))))))))) k68 dX2_handle_172 ?_
                  refine lv_iconst (v := 1) hx hb dX2_handle_175 (by decide) ?_
                  refine lv_iadd hx hb dX2_handle_176 ?_
                  refine m_pi_many hx hb hts inW hown hK hP hD hS k68 dX2_handle_177 (fun H locs hP hD hS => ?_)
                  refine lv_aload_n hx hb dX2_handle_180 rfl (lv_at hl 1 rfl) ?_
                  refine m_ga_8 hx hb hts inW hown hK hP k32 dX2_handle_181 ?_
                  refine lv_iload hx hb dX2_handle_184 (lv_at hl 0 rfl) ?_
                  refine m_ld_fo (f := (upd (m_fo σ) ((m_many σ).toNatClampNeg) ((m_st σ) k.toNatClampNeg))) (i := (m_many σ)) hx hb hK hP ((mr_fo_many _ _).trans ((mr_fo_st _ _).trans ((mr_fo_le _ _).trans ((mr_fo_ot _ _).trans (mw_fo _ _))))) (hm c59) dX2_handle_186 ?_
                  refine lv_if_lt (tgt := 194) hx hb dX2_handle_187 (by decide) (fun c187 => ?_) (fun c187 => ?_)
                  · refine lv_iconst (v := 0) hx hb dX2_handle_194 (by decide) ?_
                    exact z_reti hx hb hr hlocks rfl hK hP hD hS ((if_neg c7).trans ((if_neg c17).trans ((if_neg c27).trans ((if_pos c35).trans ((if_neg c46).trans ((if_neg c59).trans ((if_neg c134).trans ((if_pos c140).trans ((if_pos c187).trans (rfl)))))))))) dX2_handle_195
                  · refine lv_iconst (v := 1) hx hb dX2_handle_190 (by decide) ?_
                    refine lv_goto (tgt := 195) hx hb dX2_handle_191 (by decide) ?_
                    exact z_reti hx hb hr hlocks rfl hK hP hD hS ((if_neg c7).trans ((if_neg c17).trans ((if_neg c27).trans ((if_pos c35).trans ((if_neg c46).trans ((if_neg c59).trans ((if_neg c134).trans ((if_pos c140).trans ((if_neg c187).trans (rfl)))))))))) dX2_handle_195
            · refine lv_bipush (v := (-4)) hx hb dX2_handle_62 (by decide) ?_
              exact z_reti hx hb hr hlocks rfl hK hP hD hS ((if_neg c7).trans ((if_neg c17).trans ((if_neg c27).trans ((if_pos c35).trans ((if_neg c46).trans ((if_pos c59).trans (rfl))))))) dX2_handle_64
          · refine lv_bipush (v := (-3)) hx hb dX2_handle_49 (by decide) ?_
            exact z_reti hx hb hr hlocks rfl hK hP hD hS ((if_neg c7).trans ((if_neg c17).trans ((if_neg c27).trans ((if_pos c35).trans ((if_pos c46).trans (rfl)))))) dX2_handle_51
      · refine lv_bipush (v := (-2)) hx hb dX2_handle_30 (by decide) ?_
        exact z_reti hx hb hr hlocks rfl hK hP hD hS ((if_neg c7).trans ((if_neg c17).trans ((if_pos c27).trans (rfl)))) dX2_handle_32
  · refine lv_bipush (v := (-3)) hx hb dX2_handle_10 (by decide) ?_
    exact z_reti hx hb hr hlocks rfl hK hP hD hS ((if_pos c7).trans (rfl)) dX2_handle_12
end
section
noncomputable def mStep (σ : SM) : SM := if m_sg σ (m_tp σ - 1).toNatClampNeg = 0 then mf_begins (m_tp σ - 1) (m_wh σ (m_tp σ - 1).toNatClampNeg) (m_va σ (m_tp σ - 1).toNatClampNeg) σ else mf_behind (m_tp σ - 1) (m_wh σ (m_tp σ - 1).toNatClampNeg) (m_va σ (m_tp σ - 1).toNatClampNeg) σ
def mBOK (ix h : Int32) (v : Int64) (σ : SM) : Prop :=
  vp_in h 202 ∧ vp_in ix 8 ∧ (¬ m_tp σ = 8 → vp_in (m_tp σ) 8) ∧ (¬ m_sz σ = 40 → vp_in (m_sz σ) 40) ∧ (m_so σ h.toNatClampNeg = 0 → vp_in (m_as σ h.toNatClampNeg) 6) ∧ (m_so σ h.toNatClampNeg = 3 → vp_in (m_as σ h.toNatClampNeg) 10) ∧ (m_so σ h.toNatClampNeg = 6 → vp_in (m_as σ h.toNatClampNeg) 6 ∧ vp_in (m_ki σ h.toNatClampNeg) 10) ∧ (m_so σ h.toNatClampNeg = 8 → vp_in (m_as σ h.toNatClampNeg) 6 ∧ vp_in (m_bs σ h.toNatClampNeg) 6) ∧ (m_so σ h.toNatClampNeg = 11 → vp_in (m_as σ h.toNatClampNeg) 6 ∧ ¬ (m_co (mf_keep (m_as σ h.toNatClampNeg) v σ) (m_as σ h.toNatClampNeg).toNatClampNeg).toInt64 = 0) ∧ (m_so σ h.toNatClampNeg = 10 → vp_in (m_as σ h.toNatClampNeg) 6)
def mLOK (σ : SM) : Prop := ¬ m_tp σ ≤ 0 ∧ mBOK (m_tp σ - 1) (m_wh σ (m_tp σ - 1).toNatClampNeg) (m_va σ (m_tp σ - 1).toNatClampNeg) σ
/-- the reference's own loop comes from one state to the other -/
def mReach (σ τ : SM) : Prop := ∀ P : SM → Prop, (∀ σ, mLOK σ → P (mStep σ) → P σ) → P τ → P σ
theorem mReach.refl (σ : SM) : mReach σ σ := fun _ _ h => h
theorem mReach.trans {a b c : SM} (h : mReach a b) (k : mReach b c) : mReach a c := fun P hs hc => h P hs (k P hs hc)
theorem mReach.step {a b : SM} (h : mLOK a) (k : mReach (mStep a) b) : mReach a b := fun P hs hb => hs a h (k P hs hb)
theorem z_v08 : vp_in (0 : Int32) 8 := vp_in_nI (n := 0) (by decide) (by decide)
/-- give, of the reference -/
def mGv (k : Int32) (v : Int64) (σ : SM) (RR : Int32 × SM) : Prop :=
  (mf_isKind k = 0 → RR = (-2, σ)) ∧ (¬ mf_isKind k = 0 → ∃ τ, mReach (mf_call (m_st σ k.toNatClampNeg) v (ms_bg (ms_tp (ms_la σ 0) 0) 0)) τ ∧ m_tp τ ≤ 0 ∧ RR = (if m_fa τ = 0 then (1, ms_la τ (m_la τ + m_bg τ)) else (-10 - m_fa τ, ms_la τ (m_la τ + m_bg τ))))
set_option maxRecDepth 100000 in
set_option maxHeartbeats 4000000 in
theorem cMM_goL {p : Program} {l : Launch} {e : Env} {s : State} {m : MethodId} {args : Array Value} {below : List Frame} {meth : Method} {c : Code} {A : Nat → Prop} {D : va_G} {O : Nat → Nat} {K : Nat → ClassId} (XX : CallFix p m c cX2_go 5 s args wsX2_go RX2) (hr : meth.sig.returnType = none) (hlocks : meth.locks = false) (hA : ∀ q : Nat, s.heap.size ≤ q → A q) (hK : va_K D vwCl (mT K) s) (τ : SM) (ht : m_tp τ ≤ 0) : ∀ σ : SM, mReach σ τ → ∀ (H : Heap) (locs : List Loc) (ls : Array Slot), va_P D vwCl (mW O K σ) H → va_D A (mW O K σ) → va_S A s.heap H locs → lv_has ls 5 [(0, .ref (O 0))] → W p l e { frames := 3, cells := 0, slots := 0, locals := 300 } s m args below meth c H locs 0 0 (MQ below (va_Qv (fun u9 => u9 = ms_la τ (m_la τ + m_bg τ)) (zB D (mT K) (mW O K) A) A) args s 0 0 A) (F0 m 16 ls []) := by
  obtain ⟨hx, hb, hml, hown, hts⟩ := id XX
  have inW : ∀ w ∈ wsX20, w ∈ wsX2_go := fun w h => List.mem_cons_of_mem _ (List.mem_append_right _ h)
  have k96 := hts (.fieldLink RX2 96 "MailRoomModel" "top" "I") (List.mem_of_getElem? (i := 1) rfl)
  have k62 := hts (.fieldLink RX2 62 "MailRoomModel" "stage" "[I") (List.mem_of_getElem? (i := 3) rfl)
  have k59 := hts (.fieldLink RX2 59 "MailRoomModel" "which" "[I") (List.mem_of_getElem? (i := 4) rfl)
  have k65 := hts (.fieldLink RX2 65 "MailRoomModel" "value" "[J") (List.mem_of_getElem? (i := 5) rfl)
  have k112 := hts (.fieldLink RX2 112 "MailRoomModel" "latest" "I") (List.mem_of_getElem? (i := 6) rfl)
  have k99 := hts (.fieldLink RX2 99 "MailRoomModel" "begun" "I") (List.mem_of_getElem? (i := 2) rfl)
  intro σ hR
  refine hR (fun σ => ∀ (H : Heap) (locs : List Loc) (ls : Array Slot), va_P D vwCl (mW O K σ) H → va_D A (mW O K σ) → va_S A s.heap H locs → lv_has ls 5 [(0, .ref (O 0))] → W p l e { frames := 3, cells := 0, slots := 0, locals := 300 } s m args below meth c H locs 0 0 (MQ below (va_Qv (fun u9 => u9 = ms_la τ (m_la τ + m_bg τ)) (zB D (mT K) (mW O K) A) A) args s 0 0 A) (F0 m 16 ls [])) ?_ ?_
  · intro σ hL kk H locs ls hP hD hS hl
    obtain ⟨hc, h1, h2, h4, h5, h0, h3, h6, h8, h11, h10⟩ := hL
    refine lv_aload_n hx hb dX2_go_16 rfl (lv_at hl 0 rfl) ?_
    refine m_gi_tp (v := (m_tp σ)) hx hb hts inW hown hK hP (rfl) k96 dX2_go_17 ?_
    refine lv_if_le (tgt := 87) hx hb dX2_go_20 (by decide) (fun c20 => ?_) (fun c20 => ?_)
    · exact absurd c20 hc
    · refine lv_aload_n hx hb dX2_go_23 rfl (lv_at hl 0 rfl) ?_
      refine m_gi_tp (v := (m_tp σ)) hx hb hts inW hown hK hP (rfl) k96 dX2_go_24 ?_
      refine lv_iconst (v := 1) hx hb dX2_go_27 (by decide) ?_
      refine lv_isub hx hb dX2_go_28 ?_
      refine lv_istore (lv' := [(4, .int ((m_tp σ) - 1)), (0, .ref (O 0))]) hx hb dX2_go_29 hl (by decide) rfl (fun ls hl => ?_)
      refine lv_aload_n hx hb dX2_go_31 rfl (lv_at hl 1 rfl) ?_
      refine m_ga_18 hx hb hts inW hown hK hP k62 dX2_go_32 ?_
      refine lv_iload hx hb dX2_go_35 (lv_at hl 0 rfl) ?_
      refine m_ld_sg (f := (m_sg σ)) (i := ((m_tp σ) - 1)) hx hb hK hP (rfl) (h2) dX2_go_37 ?_
      refine lv_if_ne (tgt := 64) hx hb dX2_go_38 (by decide) (fun c38 => ?_) (fun c38 => ?_)
      · refine lv_aload_n hx hb dX2_go_64 rfl (lv_at hl 1 rfl) ?_
        refine lv_iload hx hb dX2_go_65 (lv_at hl 0 rfl) ?_
        refine lv_aload_n hx hb dX2_go_67 rfl (lv_at hl 1 rfl) ?_
        refine m_ga_17 hx hb hts inW hown hK hP k59 dX2_go_68 ?_
        refine lv_iload hx hb dX2_go_71 (lv_at hl 0 rfl) ?_
        refine m_ld_wh (f := (m_wh σ)) (i := ((m_tp σ) - 1)) hx hb hK hP (rfl) (h2) dX2_go_73 ?_
        refine lv_aload_n hx hb dX2_go_74 rfl (lv_at hl 1 rfl) ?_
        refine m_ga_19 hx hb hts inW hown hK hP k65 dX2_go_75 ?_
        refine lv_iload hx hb dX2_go_78 (lv_at hl 0 rfl) ?_
        refine m_ld_va (f := (m_va σ)) (i := ((m_tp σ) - 1)) hx hb hK hP (rfl) (h2) dX2_go_80 ?_
        refine z_callv (As := [.int ((m_tp σ) - 1), .int ((m_wh σ) ((m_tp σ) - 1).toNatClampNeg), .long ((m_va σ) ((m_tp σ) - 1).toNatClampNeg)]) (rest := []) XX (cMM_behind l D O K ((m_tp σ) - 1) ((m_wh σ) ((m_tp σ) - 1).toNatClampNeg) ((m_va σ) ((m_tp σ) - 1).toNatClampNeg) σ (h1) (h2) (h4) (h10)) (cwV 3 hts gX2_go_X2_behind rfl rfl rfl qX2_behind ⟨by decide, by decide⟩) (va_recv hK hP (ci := 2) (q0 := 0) rfl rfl) hK hP hD hS hA rfl hl.1 rfl (Nat.le_of_ble_eq_true rfl) dX2_go_81 ⟨Nat.zero_le _, Nat.zero_le _⟩ (fun H locs hP hD hS => ?_)
        refine lv_goto (tgt := 16) hx hb dX2_go_84 (by decide) ?_
        have e9 : mStep σ = (mf_behind ((m_tp σ) - 1) ((m_wh σ) ((m_tp σ) - 1).toNatClampNeg) ((m_va σ) ((m_tp σ) - 1).toNatClampNeg) σ) := (if_neg c38).trans rfl
        rw [e9] at kk
        exact kk H locs ls hP hD hS (lv_sub hl [1] rfl)
      · refine lv_aload_n hx hb dX2_go_41 rfl (lv_at hl 1 rfl) ?_
        refine lv_iload hx hb dX2_go_42 (lv_at hl 0 rfl) ?_
        refine lv_aload_n hx hb dX2_go_44 rfl (lv_at hl 1 rfl) ?_
        refine m_ga_17 hx hb hts inW hown hK hP k59 dX2_go_45 ?_
        refine lv_iload hx hb dX2_go_48 (lv_at hl 0 rfl) ?_
        refine m_ld_wh (f := (m_wh σ)) (i := ((m_tp σ) - 1)) hx hb hK hP (rfl) (h2) dX2_go_50 ?_
        refine lv_aload_n hx hb dX2_go_51 rfl (lv_at hl 1 rfl) ?_
        refine m_ga_19 hx hb hts inW hown hK hP k65 dX2_go_52 ?_
        refine lv_iload hx hb dX2_go_55 (lv_at hl 0 rfl) ?_
        refine m_ld_va (f := (m_va σ)) (i := ((m_tp σ) - 1)) hx hb hK hP (rfl) (h2) dX2_go_57 ?_
        refine z_callv (As := [.int ((m_tp σ) - 1), .int ((m_wh σ) ((m_tp σ) - 1).toNatClampNeg), .long ((m_va σ) ((m_tp σ) - 1).toNatClampNeg)]) (rest := []) XX (cMM_begins l D O K ((m_tp σ) - 1) ((m_wh σ) ((m_tp σ) - 1).toNatClampNeg) ((m_va σ) ((m_tp σ) - 1).toNatClampNeg) σ (h1) (h2) (h4) (h5) (h0) (h3) (h6) (h8) (h11)) (cwV 3 hts gX2_go_X2_begins rfl rfl rfl qX2_begins ⟨by decide, by decide⟩) (va_recv hK hP (ci := 2) (q0 := 0) rfl rfl) hK hP hD hS hA rfl hl.1 rfl (Nat.le_of_ble_eq_true rfl) dX2_go_58 ⟨Nat.zero_le _, Nat.zero_le _⟩ (fun H locs hP hD hS => ?_)
        refine lv_goto (tgt := 84) hx hb dX2_go_61 (by decide) ?_
        refine lv_goto (tgt := 16) hx hb dX2_go_84 (by decide) ?_
        have e9 : mStep σ = (mf_begins ((m_tp σ) - 1) ((m_wh σ) ((m_tp σ) - 1).toNatClampNeg) ((m_va σ) ((m_tp σ) - 1).toNatClampNeg) σ) := (if_pos c38).trans rfl
        rw [e9] at kk
        exact kk H locs ls hP hD hS (lv_sub hl [1] rfl)
  · intro H locs ls hP hD hS hl
    refine lv_aload_n hx hb dX2_go_16 rfl (lv_at hl 0 rfl) ?_
    refine m_gi_tp (v := (m_tp τ)) hx hb hts inW hown hK hP (rfl) k96 dX2_go_17 ?_
    refine lv_if_le (tgt := 87) hx hb dX2_go_20 (by decide) (fun c20 => ?_) (fun c20 => ?_)
    · refine lv_aload_n hx hb dX2_go_87 rfl (lv_at hl 0 rfl) ?_
      refine lv_dup hx hb dX2_go_88 rfl ?_
      refine m_gi_la (v := (m_la τ)) hx hb hts inW hown hK hP (rfl) k112 dX2_go_89 ?_
      refine lv_aload_n hx hb dX2_go_92 rfl (lv_at hl 0 rfl) ?_
      refine m_gi_bg (v := (m_bg τ)) hx hb hts inW hown hK hP (rfl) k99 dX2_go_93 ?_
      refine lv_iadd hx hb dX2_go_96 ?_
      refine m_pi_la hx hb hts inW hown hK hP hD hS k112 dX2_go_97 (fun H locs hP hD hS => ?_)
      exact z_retv hx hb hr hlocks hK hP hD hS (rfl) dX2_go_100
    · exact absurd ht c20
set_option maxRecDepth 100000 in
set_option maxHeartbeats 4000000 in
theorem cMM_go (l : Launch) (D : va_G) (O : Nat → Nat) (K : Nat → ClassId) (h : Int32) (v : Int64) (σ : SM) (τ : SM) (hR : mReach (mf_call h v (ms_bg (ms_tp σ 0) 0)) τ) (ht : m_tp τ ≤ 0) : cV l yX2_go wsX2_go { frames := 3, cells := 0, slots := 0, locals := 300 } 0 0 D (mT K) (mW O K) σ [.ref (O 0), .int h, .long v] (ms_la τ (m_la τ + m_bg τ)) := by
  intro sz
  refine z_start (cc := cX2_go) (maxL := 5) (ret := none) (Qc := fun A => va_Qv (fun u9 => u9 = (ms_la τ (m_la τ + m_bg τ))) (zB D (mT K) (mW O K) A) A) sz (by decide) rfl (Nat.le_of_ble_eq_true rfl) ?_
  intro p e s m below meth c A X hA hK hP hD hS ls hl
  obtain ⟨hx, hb, hr, hml, hts, hown, hlocks, hnm⟩ := X
  have hown : s.vm.findClass RX2 = some m.cls := hown
  have hl : lv_has ls 5 [(0, .ref (O 0)), (1, .int h), (2, .long v)] := hl
  have inW : ∀ w ∈ wsX20, w ∈ wsX2_go := fun w h => List.mem_cons_of_mem _ (List.mem_append_right _ h)
  have XX : CallFix p m c cX2_go 5 s _ wsX2_go RX2 := ⟨hx, hb, hml, hown, hts⟩
  have k96 := hts (.fieldLink RX2 96 "MailRoomModel" "top" "I") (List.mem_of_getElem? (i := 1) rfl)
  have k99 := hts (.fieldLink RX2 99 "MailRoomModel" "begun" "I") (List.mem_of_getElem? (i := 2) rfl)
  refine lv_aload_n hx hb dX2_go_0 rfl (lv_at hl 0 rfl) ?_
  refine lv_iconst (v := 0) hx hb dX2_go_1 (by decide) ?_
  refine m_pi_tp hx hb hts inW hown hK hP hD hS k96 dX2_go_2 (fun H locs hP hD hS => ?_)
  refine lv_aload_n hx hb dX2_go_5 rfl (lv_at hl 0 rfl) ?_
  refine lv_iconst (v := 0) hx hb dX2_go_6 (by decide) ?_
  refine m_pi_bg hx hb hts inW hown hK hP hD hS k99 dX2_go_7 (fun H locs hP hD hS => ?_)
  refine lv_aload_n hx hb dX2_go_10 rfl (lv_at hl 0 rfl) ?_
  refine lv_iload_n hx hb dX2_go_11 rfl (lv_at hl 1 rfl) ?_
  refine lv_lload_n hx hb dX2_go_12 rfl (lv_at hl 2 rfl) ?_
  refine z_callv (As := [.int h, .long v]) (rest := []) XX (cMM_call l D O K h v (ms_bg (ms_tp σ 0) 0) (by rw [mr_tp_bg, mw_tp]; exact fun _ => z_v08)) (cwV 2 hts gX2_go_X2_call rfl rfl rfl qX2_call ⟨by decide, by decide⟩) (va_recv hK hP (ci := 2) (q0 := 0) rfl rfl) hK hP hD hS hA rfl hl.1 rfl (Nat.le_of_ble_eq_true rfl) dX2_go_13 ⟨Nat.zero_le _, Nat.zero_le _⟩ (fun H locs hP hD hS => ?_)
  exact cMM_goL XX hr hlocks hA hK τ ht _ hR H locs ls hP hD hS (lv_sub hl [0] rfl)
end
section
set_option maxRecDepth 100000 in
set_option maxHeartbeats 4000000 in
theorem cMM_give (l : Launch) (D : va_G) (O : Nat → Nat) (K : Nat → ClassId) (k : Int32) (v : Int64) (σ : SM) (RR : Int32 × SM) (hg : mGv k v σ RR) : cI l yX2_give wsX2_give { frames := 4, cells := 0, slots := 0, locals := 400 } 0 0 D (mT K) (mW O K) σ [.ref (O 0), .int k, .long v] RR := by
  intro sz
  refine z_start (cc := cX2_give) (maxL := 4) (ret := (some .int)) (Qc := fun A => va_Qi (fun r9 u9 => r9 = RR.1 ∧ u9 = RR.2) (zB D (mT K) (mW O K) A) A) sz (by decide) rfl (Nat.le_of_ble_eq_true rfl) ?_
  intro p e s m below meth c A X hA hK hP hD hS ls hl
  obtain ⟨hx, hb, hr, hml, hts, hown, hlocks, hnm⟩ := X
  have hown : s.vm.findClass RX2 = some m.cls := hown
  have hl : lv_has ls 4 [(0, .ref (O 0)), (1, .int k), (2, .long v)] := hl
  have inW : ∀ w ∈ wsX20, w ∈ wsX2_give := fun w h => List.mem_cons_of_mem _ (List.mem_append_right _ h)
  have XX : CallFix p m c cX2_give 4 s _ wsX2_give RX2 := ⟨hx, hb, hml, hown, hts⟩
  have k112 := hts (.fieldLink RX2 112 "MailRoomModel" "latest" "I") (List.mem_of_getElem? (i := 1) rfl)
  have k41 := hts (.fieldLink RX2 41 "MailRoomModel" "stands" "[I") (List.mem_of_getElem? (i := 2) rfl)
  have k93 := hts (.fieldLink RX2 93 "MailRoomModel" "failure" "I") (List.mem_of_getElem? (i := 3) rfl)
  refine lv_iload_n hx hb dX2_give_0 rfl (lv_at hl 1 rfl) ?_
  refine z_calls (As := [.int k]) (rest := []) XX (cMM_isKind l k) (va_cwS 1 hts gX2_give_X2_isKind rfl rfl rfl qX2_isKind ⟨by decide, by decide⟩) rfl hl.1 rfl (Nat.le_of_ble_eq_true rfl) dX2_give_1 ⟨Nat.zero_le _, Nat.zero_le _⟩ ?_
  refine lv_if_ne (tgt := 10) hx hb dX2_give_4 (by decide) (fun c4 => ?_) (fun c4 => ?_)
  · obtain ⟨τ, hR, ht, hRR⟩ := hg.2 c4
    refine lv_aload_n hx hb dX2_give_10 rfl (lv_at hl 0 rfl) ?_
    refine lv_iconst (v := 0) hx hb dX2_give_11 (by decide) ?_
    refine m_pi_la hx hb hts inW hown hK hP hD hS k112 dX2_give_12 (fun H locs hP hD hS => ?_)
    refine lv_aload_n hx hb dX2_give_15 rfl (lv_at hl 0 rfl) ?_
    refine lv_aload_n hx hb dX2_give_16 rfl (lv_at hl 0 rfl) ?_
    refine m_ga_11 hx hb hts inW hown hK hP k41 dX2_give_17 ?_
    refine lv_iload_n hx hb dX2_give_20 rfl (lv_at hl 1 rfl) ?_
    refine m_ld_st (f := (m_st σ)) (i := k) hx hb hK hP (mr_st_la _ _) (mkind_in (by assumption)) dX2_give_21 ?_
    refine lv_lload_n hx hb dX2_give_22 rfl (lv_at hl 2 rfl) ?_
    refine z_callv (As := [.int ((m_st σ) k.toNatClampNeg), .long v]) (rest := []) XX (cMM_go l D O K ((m_st σ) k.toNatClampNeg) v (ms_la σ 0) τ hR ht) (cwV 2 hts gX2_give_X2_go rfl rfl rfl qX2_go ⟨by decide, by decide⟩) (va_recv hK hP (ci := 2) (q0 := 0) rfl rfl) hK hP hD hS hA rfl hl.1 rfl (Nat.le_of_ble_eq_true rfl) dX2_give_23 ⟨Nat.zero_le _, Nat.zero_le _⟩ (fun H locs hP hD hS => ?_)
    refine lv_aload_n hx hb dX2_give_26 rfl (lv_at hl 0 rfl) ?_
    refine m_gi_fa (v := (m_fa (ms_la τ (m_la τ + m_bg τ)))) hx hb hts inW hown hK hP (rfl) k93 dX2_give_27 ?_
    refine lv_if_eq (tgt := 43) hx hb dX2_give_30 (by decide) (fun c30 => ?_) (fun c30 => ?_)
    · refine lv_iconst (v := 1) hx hb dX2_give_43 (by decide) ?_
      exact z_reti hx hb hr hlocks rfl hK hP hD hS (hRR.trans ((if_pos c30).trans rfl)) dX2_give_44
    · refine lv_bipush (v := (-10)) hx hb dX2_give_33 (by decide) ?_
      refine lv_aload_n hx hb dX2_give_35 rfl (lv_at hl 0 rfl) ?_
      refine m_gi_fa (v := (m_fa (ms_la τ (m_la τ + m_bg τ)))) hx hb hts inW hown hK hP (rfl) k93 dX2_give_36 ?_
      refine lv_isub hx hb dX2_give_39 ?_
      refine lv_goto (tgt := 44) hx hb dX2_give_40 (by decide) ?_
      exact z_reti hx hb hr hlocks rfl hK hP hD hS (hRR.trans ((if_neg c30).trans rfl)) dX2_give_44
  · refine lv_bipush (v := (-2)) hx hb dX2_give_7 (by decide) ?_
    exact z_reti hx hb hr hlocks rfl hK hP hD hS (hg.1 c4) dX2_give_9
end
section
theorem xp_noteFailed (k : Int32) (v : Int64) (f : Int32) (σ : SX) : xpres σ (xf_noteFailed k v f σ) := by
  have h1 : ∀ x : Int32, xpres σ (xs_fl σ x) := fun x => xpres.of (xr_n_fl _ _) (xr_hd_fl _ _) (xr_tab_fl _ _)
  unfold xf_noteFailed
  by_cases c1 : x_fl σ < 0
  · rw [if_pos c1]; exact h1 _
  · rw [if_neg c1]
    by_cases c2 : 30 ≤ x_fl σ
    · rw [if_pos c2]; exact h1 _
    · rw [if_neg c2]
      exact (h1 _).trans ((xpres.of (xr_n_fk _ _) (xr_hd_fk _ _) (xr_tab_fk _ _)).trans ((xpres.of (xr_n_fn _ _) (xr_hd_fn _ _) (xr_tab_fn _ _)).trans (xpres.of (xr_n_fv _ _) (xr_hd_fv _ _) (xr_tab_fv _ _))))
theorem xp_takeFirst (σ : SX) (hok : xok σ) : xpres σ (xf_takeFirst σ) := by
  have h0 : ∀ x y z : Int32, xpres σ (xs_tk (xs_qs (xs_qf σ x) y) z) := fun x y z => (xpres.of (xr_n_qf _ _) (xr_hd_qf _ _) (xr_tab_qf _ _)).trans ((xpres.of (xr_n_qs _ _) (xr_hd_qs _ _) (xr_tab_qs _ _)).trans (xpres.of (xr_n_tk _ _) (xr_hd_tk _ _) (xr_tab_tk _ _)))
  unfold xf_takeFirst
  by_cases c1 : x_qf σ < 0
  · rw [if_pos c1]; exact xpres.refl σ
  · rw [if_neg c1]
    by_cases c2 : x_qf σ < 40
    · rw [if_pos c2]
      have h1 := h0 ((x_qf σ + 1) - (x_qf σ + 1) / 40 * 40) (x_qs σ - 1) (x_tk σ + 1)
      have h2 := h1.trans (xp_deliver (x_qk σ (x_qf σ).toNatClampNeg) (x_qv σ (x_qf σ).toNatClampNeg) _ (h1.2 hok))
      generalize xf_deliver (x_qk σ (x_qf σ).toNatClampNeg) (x_qv σ (x_qf σ).toNatClampNeg) (xs_tk (xs_qs (xs_qf σ ((x_qf σ + 1) - (x_qf σ + 1) / 40 * 40)) (x_qs σ - 1)) (x_tk σ + 1)) = G at h2 ⊢
      by_cases c3 : G.1 = 0
      · rw [if_pos c3]; exact h2
      · rw [if_neg c3]; exact h2.trans (xp_noteFailed _ _ _ _)
    · rw [if_neg c2]; exact xpres.refl σ
noncomputable def xf_takeL : Nat → Int32 → Int32 → SX → Int32 × SX
  | 0, _, dn, σ => (dn, σ)
  | f + 1, n, dn, σ => if n ≤ dn then (dn, σ) else if x_qs σ ≤ 0 then (dn, σ) else xf_takeL f n (dn + 1) (xf_takeFirst σ)
theorem z_tkn {n dn : Int32} {f : Nat} (h : ∃ a b, n = nI a ∧ dn = nI b ∧ a ≤ 6 ∧ b ≤ a ∧ a < b + (f + 1)) (hc : ¬ n ≤ dn) : ∃ a b, n = nI a ∧ dn + 1 = nI b ∧ a ≤ 6 ∧ b ≤ a ∧ a < b + f := by
  obtain ⟨a, b, rfl, rfl, h1, h2, h3⟩ := h
  have hlt : b < a := by
    rcases Nat.lt_or_ge b a with q | q
    · exact q
    · exact absurd (nI_le q (by omega)) hc
  exact ⟨a, b + 1, rfl, nI_1 b, h1, hlt, by omega⟩
set_option maxRecDepth 100000 in
set_option maxHeartbeats 4000000 in
theorem cx_takeL {ad : Nat → Nat} {p : Program} {l : Launch} {e : Env} {s : State} {m : MethodId} {args : Array Value} {below : List Frame} {meth : Method} {c : Code} {A : Nat → Prop} {D : va_G} {O : Nat → Nat} {K : Nat → ClassId} (XX : CallFix p m c cX1_take 3 s args wsX1_take RX1) (hr : meth.sig.returnType = some .int) (hlocks : meth.locks = false) (hA : ∀ q : Nat, s.heap.size ≤ q → A q) (hK : va_K D vwCl (xT K) s) (n : Int32) (RR : Int32 × SX) : ∀ (f : Nat) (dn : Int32) (σ : SX), xok σ → xf_takeL f n dn σ = RR → (∃ a b, n = nI a ∧ dn = nI b ∧ a ≤ 6 ∧ b ≤ a ∧ a < b + f) → ∀ (H : Heap) (locs : List Loc) (ls : Array Slot), va_P D vwCl (xW O K ad σ) H → va_D A (xW O K ad σ) → va_S A s.heap H locs → lv_has ls 3 [(0, .ref (O 0)), (1, .int n), (2, .int dn)] → W p l e { frames := 102, cells := 0, slots := 0, locals := 10200 } s m args below meth c H locs 0 0 (MQ below (va_Qi (fun r9 u9 => r9 = RR.1 ∧ u9 = RR.2) (zB D (xT K) (xW O K ad) A) A) args s 0 0 A) (F0 m 21 ls []) := by
  obtain ⟨hx, hb, hml, hown, hts⟩ := id XX
  have inW : ∀ w ∈ wsX10, w ∈ wsX1_take := fun w h => List.mem_cons_of_mem _ (List.mem_append_left _ (List.mem_append_right _ h))
  have k63 := hts (.fieldLink RX1 63 "MailRoom" "queueSize" "I") (List.mem_of_getElem? (i := 2) rfl)
  intro f
  induction f with
  | zero =>
    intro dn σ hok hF hn
    obtain ⟨a, b, -, -, -, h1, h2⟩ := hn
    exact absurd h2 (by omega)
  | succ f ih =>
    intro dn σ hok hF hn H locs ls hP hD hS hl
    refine lv_iload_n hx hb dX1_take_21 rfl (lv_at hl 2 rfl) ?_
    refine lv_iload_n hx hb dX1_take_22 rfl (lv_at hl 1 rfl) ?_
    refine lv_icmp_ge (tgt := 43) hx hb dX1_take_23 (by decide) (fun c23 => ?_) (fun c23 => ?_)
    · refine lv_iload_n hx hb dX1_take_43 rfl (lv_at hl 2 rfl) ?_
      exact z_reti hx hb hr hlocks rfl hK hP hD hS (hF.symm.trans ((if_pos c23).trans rfl)) dX1_take_44
    · refine lv_aload_n hx hb dX1_take_26 rfl (lv_at hl 0 rfl) ?_
      refine x_gi_qs (v := (x_qs σ)) hx hb hts inW hown hK hP (rfl) k63 dX1_take_27 ?_
      refine lv_if_le (tgt := 43) hx hb dX1_take_30 (by decide) (fun c30 => ?_) (fun c30 => ?_)
      · refine lv_iload_n hx hb dX1_take_43 rfl (lv_at hl 2 rfl) ?_
        exact z_reti hx hb hr hlocks rfl hK hP hD hS (hF.symm.trans ((if_neg c23).trans ((if_pos c30).trans rfl))) dX1_take_44
      · refine lv_aload_n hx hb dX1_take_33 rfl (lv_at hl 0 rfl) ?_
        refine z_callv (As := []) (rest := []) XX (cx_takeFirst l D O K ad  σ (hok)) (cwV 0 hts gX1_take_X1_takeFirst rfl rfl rfl qX1_takeFirst ⟨by decide, by decide⟩) (va_recv hK hP (ci := 1) (q0 := 0) rfl rfl) hK hP hD hS hA rfl hl.1 rfl (Nat.le_of_ble_eq_true rfl) dX1_take_34 ⟨Nat.zero_le _, Nat.zero_le _⟩ (fun H locs hP hD hS => ?_)
        refine lv_iinc (v := (dn + 1)) (lv' := [(2, .int (dn + 1)), (0, .ref (O 0)), (1, .int n)]) hx hb dX1_take_37 hl (k := 2) rfl rfl (by decide) rfl (fun ls hl => ?_)
        refine lv_goto (tgt := 21) hx hb dX1_take_40 (by decide) ?_
        exact ih (dn + 1) (xf_takeFirst σ) ((xp_takeFirst σ hok).2 hok) (by rw [← hF]; exact ((if_neg c23).trans (if_neg c30)).symm) (z_tkn hn c23) H locs ls hP hD hS (lv_sub hl [1, 2, 0] rfl)
end
section
noncomputable def mf_shift : Nat → Int32 → SM → SM
  | 0, _, σ => σ
  | f + 1, i, σ => if m_sz σ ≤ i then σ else mf_shift f (i + 1) (ms_qv (ms_qk σ (upd (m_qk σ) i.toNatClampNeg (m_qk σ (i + 1).toNatClampNeg))) (vp_updL (m_qv σ) i.toNatClampNeg (m_qv σ (i + 1).toNatClampNeg)))
/-- take's loop, of the reference -/
def mTk (n : Int32) (RR : Int32 × SM) : Nat → Int32 → SM → Prop
  | 0, _, _ => False
  | f + 1, dn, σ => (n ≤ dn → RR = (dn, σ)) ∧ (¬ n ≤ dn → m_sz σ ≤ 0 → RR = (dn, σ)) ∧ (¬ n ≤ dn → ¬ m_sz σ ≤ 0 → (∃ q, q ≤ 39 ∧ m_sz σ - 1 = nI q) ∧ vp_in (m_qk σ (0 : Int32).toNatClampNeg) 10 ∧ ∃ τ, mReach (mf_call (m_st (mf_shift 40 0 (ms_sz σ (m_sz σ - 1))) (m_qk σ (0 : Int32).toNatClampNeg).toNatClampNeg) (m_qv σ (0 : Int32).toNatClampNeg) (ms_bg (ms_tp (ms_tk (mf_shift 40 0 (ms_sz σ (m_sz σ - 1))) (m_tk (mf_shift 40 0 (ms_sz σ (m_sz σ - 1))) + 1)) 0) 0)) τ ∧ m_tp τ ≤ 0 ∧ (¬ 30 ≤ m_kp τ → vp_in (m_kp τ) 30) ∧ mTk n RR f (dn + 1) (if m_fa τ = 0 then ms_la τ (m_la τ + m_bg τ) else mf_falls (m_qk σ (0 : Int32).toNatClampNeg) (m_qv σ (0 : Int32).toNatClampNeg) (ms_la τ (m_la τ + m_bg τ))))
def mTake (n : Int32) (σ : SM) (RR : Int32 × SM) : Prop := (mf_in n 1 6 = 0 → RR = (-3, σ)) ∧ (¬ mf_in n 1 6 = 0 → mTk n RR 7 0 (ms_la σ 0))
theorem z_v040 : vp_in (0 : Int32) 40 := vp_in_nI (n := 0) (by decide) (by decide)
theorem z_sh {z i : Int32} {f : Nat} (h : ∃ q j, z = nI q ∧ i = nI j ∧ q ≤ 39 ∧ j ≤ q ∧ q < j + (f + 1)) (hc : ¬ z ≤ i) : vp_in i 40 ∧ vp_in (i + 1) 40 ∧ ∃ q j, z = nI q ∧ i + 1 = nI j ∧ q ≤ 39 ∧ j ≤ q ∧ q < j + f := by
  obtain ⟨q, j, rfl, rfl, h1, h2, h3⟩ := h
  have hlt : j < q := by
    rcases Nat.lt_or_ge j q with g | g
    · exact g
    · exact absurd (nI_le g (by omega)) hc
  exact ⟨vp_in_nI (by omega) (by decide), by rw [nI_1]; exact vp_in_nI (by omega) (by decide), q, j + 1, rfl, nI_1 j, h1, hlt, by omega⟩
set_option maxRecDepth 100000 in
set_option maxHeartbeats 4000000 in
theorem cMM_takeI {p : Program} {l : Launch} {e : Env} {s : State} {m : MethodId} {args : Array Value} {below : List Frame} {meth : Method} {c : Code} {A : Nat → Prop} {D : va_G} {O : Nat → Nat} {K : Nat → ClassId} (XX : CallFix p m c cX2_take 7 s args wsX2_take RX2) (hK : va_K D vwCl (mT K) s) {Q : State → Prop} (n dn k : Int32) (v : Int64) : ∀ (f : Nat) (i : Int32) (σ : SM), (∃ q j, m_sz σ = nI q ∧ i = nI j ∧ q ≤ 39 ∧ j ≤ q ∧ q < j + f) → (∀ (H : Heap) (locs : List Loc) (ls : Array Slot), va_P D vwCl (mW O K (mf_shift f i σ)) H → va_D A (mW O K (mf_shift f i σ)) → va_S A s.heap H locs → lv_has ls 7 [(0, .ref (O 0)), (1, .int n), (2, .int dn), (3, .int k), (4, .long v)] → W p l e { frames := 4, cells := 0, slots := 0, locals := 400 } s m args below meth c H locs 0 0 Q (F0 m 107 ls [])) → ∀ (H : Heap) (locs : List Loc) (ls : Array Slot), va_P D vwCl (mW O K σ) H → va_D A (mW O K σ) → va_S A s.heap H locs → lv_has ls 7 [(0, .ref (O 0)), (1, .int n), (2, .int dn), (3, .int k), (4, .long v), (6, .int i)] → W p l e { frames := 4, cells := 0, slots := 0, locals := 400 } s m args below meth c H locs 0 0 Q (F0 m 60 ls []) := by
  obtain ⟨hx, hb, hml, hown, hts⟩ := id XX
  have inW : ∀ w ∈ wsX20, w ∈ wsX2_take := fun w h => List.mem_cons_of_mem _ (List.mem_append_right _ h)
  have k86 := hts (.fieldLink RX2 86 "MailRoomModel" "size" "I") (List.mem_of_getElem? (i := 2) rfl)
  have k44 := hts (.fieldLink RX2 44 "MailRoomModel" "queueKinds" "[I") (List.mem_of_getElem? (i := 3) rfl)
  have k47 := hts (.fieldLink RX2 47 "MailRoomModel" "queueValues" "[J") (List.mem_of_getElem? (i := 4) rfl)
  intro f
  induction f with
  | zero =>
    intro i σ hn
    obtain ⟨q, j, -, -, -, h1, h2⟩ := hn
    exact absurd h2 (by omega)
  | succ f ih =>
    intro i σ hn kk H locs ls hP hD hS hl
    refine lv_iload hx hb dX2_take_60 (lv_at hl 5 rfl) ?_
    refine lv_aload_n hx hb dX2_take_62 rfl (lv_at hl 0 rfl) ?_
    refine m_gi_sz (v := (m_sz σ)) hx hb hts inW hown hK hP (rfl) k86 dX2_take_63 ?_
    refine lv_icmp_ge (tgt := 107) hx hb dX2_take_66 (by decide) (fun c66 => ?_) (fun c66 => ?_)
    · have e9 : mf_shift (f + 1) i σ = σ := if_pos c66
      rw [e9] at kk
      exact kk H locs ls hP hD hS (lv_sub hl [0, 1, 2, 3, 4] rfl)
    · refine lv_aload_n hx hb dX2_take_69 rfl (lv_at hl 0 rfl) ?_
      refine m_ga_12 hx hb hts inW hown hK hP k44 dX2_take_70 ?_
      refine lv_iload hx hb dX2_take_73 (lv_at hl 5 rfl) ?_
      refine lv_aload_n hx hb dX2_take_75 rfl (lv_at hl 0 rfl) ?_
      refine m_ga_12 hx hb hts inW hown hK hP k44 dX2_take_76 ?_
      refine lv_iload hx hb dX2_take_79 (lv_at hl 5 rfl) ?_
      refine lv_iconst (v := 1) hx hb dX2_take_81 (by decide) ?_
      refine lv_iadd hx hb dX2_take_82 ?_
      refine m_ld_qk (f := (m_qk σ)) (i := (i + 1)) hx hb hK hP (rfl) ((z_sh hn c66).2.1) dX2_take_83 ?_
      refine m_st_qk (f := (m_qk σ)) (i := i) hx hb hK hP hD hS (rfl) ((z_sh hn c66).1) dX2_take_84 (fun H locs hP hD hS => ?_)
      refine lv_aload_n hx hb dX2_take_85 rfl (lv_at hl 0 rfl) ?_
      refine m_ga_13 hx hb hts inW hown hK hP k47 dX2_take_86 ?_
      refine lv_iload hx hb dX2_take_89 (lv_at hl 5 rfl) ?_
      refine lv_aload_n hx hb dX2_take_91 rfl (lv_at hl 0 rfl) ?_
      refine m_ga_13 hx hb hts inW hown hK hP k47 dX2_take_92 ?_
      refine lv_iload hx hb dX2_take_95 (lv_at hl 5 rfl) ?_
      refine lv_iconst (v := 1) hx hb dX2_take_97 (by decide) ?_
      refine lv_iadd hx hb dX2_take_98 ?_
      refine m_ld_qv (f := (m_qv σ)) (i := (i + 1)) hx hb hK hP (mr_qv_qk _ _) ((z_sh hn c66).2.1) dX2_take_99 ?_
      refine m_st_qv (f := (m_qv σ)) (i := i) hx hb hK hP hD hS (mr_qv_qk _ _) ((z_sh hn c66).1) dX2_take_100 (fun H locs hP hD hS => ?_)
      refine lv_iinc (v := (i + 1)) (lv' := [(6, .int (i + 1)), (0, .ref (O 0)), (1, .int n), (2, .int dn), (3, .int k), (4, .long v)]) hx hb dX2_take_101 hl (k := 5) rfl rfl (by decide) rfl (fun ls hl => ?_)
      refine lv_goto (tgt := 60) hx hb dX2_take_104 (by decide) ?_
      have e9 : mf_shift (f + 1) i σ = mf_shift f (i + 1) (ms_qv (ms_qk σ (upd (m_qk σ) i.toNatClampNeg ((m_qk σ) (i + 1).toNatClampNeg))) (vp_updL (m_qv σ) i.toNatClampNeg ((m_qv σ) (i + 1).toNatClampNeg))) := if_neg c66
      rw [e9] at kk
      exact ih (i + 1) (ms_qv (ms_qk σ (upd (m_qk σ) i.toNatClampNeg ((m_qk σ) (i + 1).toNatClampNeg))) (vp_updL (m_qv σ) i.toNatClampNeg ((m_qv σ) (i + 1).toNatClampNeg))) (by rw [mr_sz_qv, mr_sz_qk]; exact (z_sh hn c66).2.2) kk H locs ls hP hD hS (lv_sub hl [1, 2, 3, 4, 5, 0] rfl)
theorem z_sh0 {σ : SM} (h : ∃ q, q ≤ 39 ∧ m_sz σ - 1 = nI q) : ∃ q j, m_sz (ms_sz σ (m_sz σ - 1)) = nI q ∧ (0 : Int32) = nI j ∧ q ≤ 39 ∧ j ≤ q ∧ q < j + 40 := by
  obtain ⟨q, h1, h2⟩ := h
  exact ⟨q, 0, by rw [mw_sz, h2], rfl, h1, Nat.zero_le _, by omega⟩
set_option maxRecDepth 100000 in
set_option maxHeartbeats 4000000 in
theorem cMM_takeL {p : Program} {l : Launch} {e : Env} {s : State} {m : MethodId} {args : Array Value} {below : List Frame} {meth : Method} {c : Code} {A : Nat → Prop} {D : va_G} {O : Nat → Nat} {K : Nat → ClassId} (XX : CallFix p m c cX2_take 7 s args wsX2_take RX2) (hr : meth.sig.returnType = some .int) (hlocks : meth.locks = false) (hA : ∀ q : Nat, s.heap.size ≤ q → A q) (hK : va_K D vwCl (mT K) s) (n : Int32) (RR : Int32 × SM) : ∀ (f : Nat) (dn : Int32) (σ : SM), mTk n RR f dn σ → ∀ (H : Heap) (locs : List Loc) (ls : Array Slot), va_P D vwCl (mW O K σ) H → va_D A (mW O K σ) → va_S A s.heap H locs → lv_has ls 7 [(0, .ref (O 0)), (1, .int n), (2, .int dn)] → W p l e { frames := 4, cells := 0, slots := 0, locals := 400 } s m args below meth c H locs 0 0 (MQ below (va_Qi (fun r9 u9 => r9 = RR.1 ∧ u9 = RR.2) (zB D (mT K) (mW O K) A) A) args s 0 0 A) (F0 m 20 ls []) := by
  obtain ⟨hx, hb, hml, hown, hts⟩ := id XX
  have inW : ∀ w ∈ wsX20, w ∈ wsX2_take := fun w h => List.mem_cons_of_mem _ (List.mem_append_right _ h)
  have k86 := hts (.fieldLink RX2 86 "MailRoomModel" "size" "I") (List.mem_of_getElem? (i := 2) rfl)
  have k44 := hts (.fieldLink RX2 44 "MailRoomModel" "queueKinds" "[I") (List.mem_of_getElem? (i := 3) rfl)
  have k47 := hts (.fieldLink RX2 47 "MailRoomModel" "queueValues" "[J") (List.mem_of_getElem? (i := 4) rfl)
  have k132 := hts (.fieldLink RX2 132 "MailRoomModel" "taken" "I") (List.mem_of_getElem? (i := 5) rfl)
  have k41 := hts (.fieldLink RX2 41 "MailRoomModel" "stands" "[I") (List.mem_of_getElem? (i := 6) rfl)
  have k93 := hts (.fieldLink RX2 93 "MailRoomModel" "failure" "I") (List.mem_of_getElem? (i := 7) rfl)
  intro f
  induction f with
  | zero =>
    intro dn σ hT
    exact absurd hT (fun h => h)
  | succ f ih =>
    intro dn σ hT H locs ls hP hD hS hl
    refine lv_iload_n hx hb dX2_take_20 rfl (lv_at hl 2 rfl) ?_
    refine lv_iload_n hx hb dX2_take_21 rfl (lv_at hl 1 rfl) ?_
    refine lv_icmp_ge (tgt := 149) hx hb dX2_take_22 (by decide) (fun c22 => ?_) (fun c22 => ?_)
    · refine lv_iload_n hx hb dX2_take_149 rfl (lv_at hl 2 rfl) ?_
      exact z_reti hx hb hr hlocks rfl hK hP hD hS (hT.1 c22) dX2_take_150
    · refine lv_aload_n hx hb dX2_take_25 rfl (lv_at hl 0 rfl) ?_
      refine m_gi_sz (v := (m_sz σ)) hx hb hts inW hown hK hP (rfl) k86 dX2_take_26 ?_
      refine lv_if_le (tgt := 149) hx hb dX2_take_29 (by decide) (fun c29 => ?_) (fun c29 => ?_)
      · refine lv_iload_n hx hb dX2_take_149 rfl (lv_at hl 2 rfl) ?_
        exact z_reti hx hb hr hlocks rfl hK hP hD hS (hT.2.1 c22 c29) dX2_take_150
      · obtain ⟨hq, hk, τ, hR, ht, hkp, hT2⟩ := hT.2.2 c22 c29
        refine lv_aload_n hx hb dX2_take_32 rfl (lv_at hl 0 rfl) ?_
        refine m_ga_12 hx hb hts inW hown hK hP k44 dX2_take_33 ?_
        refine lv_iconst (v := 0) hx hb dX2_take_36 (by decide) ?_
        refine m_ld_qk (f := (m_qk σ)) (i := 0) hx hb hK hP (rfl) (z_v040) dX2_take_37 ?_
        refine lv_istore_n (lv' := [(3, .int ((m_qk σ) (0 : Int32).toNatClampNeg)), (0, .ref (O 0)), (1, .int n), (2, .int dn)]) hx hb dX2_take_38 rfl hl (by decide) rfl (fun ls hl => ?_)
        refine lv_aload_n hx hb dX2_take_39 rfl (lv_at hl 1 rfl) ?_
        refine m_ga_13 hx hb hts inW hown hK hP k47 dX2_take_40 ?_
        refine lv_iconst (v := 0) hx hb dX2_take_43 (by decide) ?_
        refine m_ld_qv (f := (m_qv σ)) (i := 0) hx hb hK hP (rfl) (z_v040) dX2_take_44 ?_
        refine lv_lstore (lv' := [(4, .long ((m_qv σ) (0 : Int32).toNatClampNeg)), (3, .int ((m_qk σ) (0 : Int32).toNatClampNeg)), (0, .ref (O 0)), (1, .int n), (2, .int dn)]) hx hb dX2_take_45 hl (by decide) rfl (fun ls hl => ?_)
        refine lv_aload_n hx hb dX2_take_47 rfl (lv_at hl 2 rfl) ?_
        refine lv_dup hx hb dX2_take_48 rfl ?_
        refine m_gi_sz (v := (m_sz σ)) hx hb hts inW hown hK hP (rfl) k86 dX2_take_49 ?_
        refine lv_iconst (v := 1) hx hb dX2_take_52 (by decide) ?_
        refine lv_isub hx hb dX2_take_53 ?_
        refine m_pi_sz hx hb hts inW hown hK hP hD hS k86 dX2_take_54 (fun H locs hP hD hS => ?_)
        refine lv_iconst (v := 0) hx hb dX2_take_57 (by decide) ?_
        refine lv_istore (lv' := [(6, .int 0), (4, .long ((m_qv σ) (0 : Int32).toNatClampNeg)), (3, .int ((m_qk σ) (0 : Int32).toNatClampNeg)), (0, .ref (O 0)), (1, .int n), (2, .int dn)]) hx hb dX2_take_58 hl (by decide) rfl (fun ls hl => ?_)
        refine cMM_takeI XX hK n dn ((m_qk σ) (0 : Int32).toNatClampNeg) ((m_qv σ) (0 : Int32).toNatClampNeg) 40 0 (ms_sz σ ((m_sz σ) - 1)) (z_sh0 hq) (fun H locs ls hP hD hS hl => ?_) H locs ls hP hD hS (lv_sub hl [3, 4, 5, 2, 1, 0] rfl)
        refine lv_iinc (v := (dn + 1)) (lv' := [(2, .int (dn + 1)), (0, .ref (O 0)), (1, .int n), (3, .int ((m_qk σ) (0 : Int32).toNatClampNeg)), (4, .long ((m_qv σ) (0 : Int32).toNatClampNeg))]) hx hb dX2_take_107 hl (k := 2) rfl rfl (by decide) rfl (fun ls hl => ?_)
        refine lv_aload_n hx hb dX2_take_110 rfl (lv_at hl 1 rfl) ?_
        refine lv_dup hx hb dX2_take_111 rfl ?_
        refine m_gi_tk (v := (m_tk (mf_shift 40 0 (ms_sz σ (m_sz σ - 1))))) hx hb hts inW hown hK hP (rfl) k132 dX2_take_112 ?_
        refine lv_iconst (v := 1) hx hb dX2_take_115 (by decide) ?_
        refine lv_iadd hx hb dX2_take_116 ?_
        refine m_pi_tk hx hb hts inW hown hK hP hD hS k132 dX2_take_117 (fun H locs hP hD hS => ?_)
        refine lv_aload_n hx hb dX2_take_120 rfl (lv_at hl 1 rfl) ?_
        refine lv_aload_n hx hb dX2_take_121 rfl (lv_at hl 1 rfl) ?_
        refine m_ga_11 hx hb hts inW hown hK hP k41 dX2_take_122 ?_
        refine lv_iload_n hx hb dX2_take_125 rfl (lv_at hl 3 rfl) ?_
        refine m_ld_st (f := (m_st (mf_shift 40 0 (ms_sz σ (m_sz σ - 1))))) (i := ((m_qk σ) (0 : Int32).toNatClampNeg)) hx hb hK hP (mr_st_tk _ _) (hk) dX2_take_126 ?_
        refine lv_lload hx hb dX2_take_127 (lv_at hl 4 rfl) ?_
        refine z_callv (As := [.int ((m_st (mf_shift 40 0 (ms_sz σ (m_sz σ - 1)))) ((m_qk σ) (0 : Int32).toNatClampNeg).toNatClampNeg), .long ((m_qv σ) (0 : Int32).toNatClampNeg)]) (rest := []) XX (cMM_go l D O K ((m_st (mf_shift 40 0 (ms_sz σ (m_sz σ - 1)))) ((m_qk σ) (0 : Int32).toNatClampNeg).toNatClampNeg) ((m_qv σ) (0 : Int32).toNatClampNeg) (ms_tk (mf_shift 40 0 (ms_sz σ (m_sz σ - 1))) ((m_tk (mf_shift 40 0 (ms_sz σ (m_sz σ - 1)))) + 1)) τ hR ht) (cwV 2 hts gX2_take_X2_go rfl rfl rfl qX2_go ⟨by decide, by decide⟩) (va_recv hK hP (ci := 2) (q0 := 0) rfl rfl) hK hP hD hS hA rfl hl.1 rfl (Nat.le_of_ble_eq_true rfl) dX2_take_129 ⟨Nat.zero_le _, Nat.zero_le _⟩ (fun H locs hP hD hS => ?_)
        refine lv_aload_n hx hb dX2_take_132 rfl (lv_at hl 1 rfl) ?_
        refine m_gi_fa (v := (m_fa (ms_la τ (m_la τ + m_bg τ)))) hx hb hts inW hown hK hP (rfl) k93 dX2_take_133 ?_
        refine lv_if_eq (tgt := 146) hx hb dX2_take_136 (by decide) (fun c136 => ?_) (fun c136 => ?_)
        · refine lv_goto (tgt := 20) hx hb dX2_take_146 (by decide) ?_
          rw [if_pos ((mr_fa_la _ _).symm.trans c136)] at hT2
          exact ih (dn + 1) (ms_la τ (m_la τ + m_bg τ)) hT2 H locs ls hP hD hS (lv_sub hl [1, 2, 0] rfl)
        · refine lv_aload_n hx hb dX2_take_139 rfl (lv_at hl 1 rfl) ?_
          refine lv_iload_n hx hb dX2_take_140 rfl (lv_at hl 3 rfl) ?_
          refine lv_lload hx hb dX2_take_141 (lv_at hl 4 rfl) ?_
          refine z_callv (As := [.int ((m_qk σ) (0 : Int32).toNatClampNeg), .long ((m_qv σ) (0 : Int32).toNatClampNeg)]) (rest := []) XX (cMM_falls l D O K ((m_qk σ) (0 : Int32).toNatClampNeg) ((m_qv σ) (0 : Int32).toNatClampNeg) (ms_la τ (m_la τ + m_bg τ)) (by rw [mr_kp_la]; exact hkp)) (cwV 2 hts gX2_take_X2_falls rfl rfl rfl qX2_falls ⟨by decide, by decide⟩) (va_recv hK hP (ci := 2) (q0 := 0) rfl rfl) hK hP hD hS hA rfl hl.1 rfl (Nat.le_of_ble_eq_true rfl) dX2_take_143 ⟨Nat.zero_le _, Nat.zero_le _⟩ (fun H locs hP hD hS => ?_)
          refine lv_goto (tgt := 20) hx hb dX2_take_146 (by decide) ?_
          rw [if_neg (fun h => c136 ((mr_fa_la _ _).trans h))] at hT2
          exact ih (dn + 1) (mf_falls ((m_qk σ) (0 : Int32).toNatClampNeg) ((m_qv σ) (0 : Int32).toNatClampNeg) (ms_la τ (m_la τ + m_bg τ))) hT2 H locs ls hP hD hS (lv_sub hl [1, 2, 0] rfl)
set_option maxRecDepth 100000 in
set_option maxHeartbeats 4000000 in
theorem cMM_take (l : Launch) (D : va_G) (O : Nat → Nat) (K : Nat → ClassId) (n : Int32) (σ : SM) (RR : Int32 × SM) (hg : mTake n σ RR) : cI l yX2_take wsX2_take { frames := 4, cells := 0, slots := 0, locals := 400 } 0 0 D (mT K) (mW O K) σ [.ref (O 0), .int n] RR := by
  intro sz
  refine z_start (cc := cX2_take) (maxL := 7) (ret := (some .int)) (Qc := fun A => va_Qi (fun r9 u9 => r9 = RR.1 ∧ u9 = RR.2) (zB D (mT K) (mW O K) A) A) sz (by decide) rfl (Nat.le_of_ble_eq_true rfl) ?_
  intro p e s m below meth c A X hA hK hP hD hS ls hl
  obtain ⟨hx, hb, hr, hml, hts, hown, hlocks, hnm⟩ := X
  have hown : s.vm.findClass RX2 = some m.cls := hown
  have hl : lv_has ls 7 [(0, .ref (O 0)), (1, .int n)] := hl
  have inW : ∀ w ∈ wsX20, w ∈ wsX2_take := fun w h => List.mem_cons_of_mem _ (List.mem_append_right _ h)
  have XX : CallFix p m c cX2_take 7 s _ wsX2_take RX2 := ⟨hx, hb, hml, hown, hts⟩
  have k112 := hts (.fieldLink RX2 112 "MailRoomModel" "latest" "I") (List.mem_of_getElem? (i := 1) rfl)
  refine lv_iload_n hx hb dX2_take_0 rfl (lv_at hl 1 rfl) ?_
  refine lv_iconst (v := 1) hx hb dX2_take_1 (by decide) ?_
  refine lv_bipush (v := 6) hx hb dX2_take_2 (by decide) ?_
  refine z_calls (As := [.int n, .int 1, .int 6]) (rest := []) XX (cMM_in l n 1 6) (va_cwS 3 hts gX2_take_X2_in rfl rfl rfl qX2_in ⟨by decide, by decide⟩) rfl hl.1 rfl (Nat.le_of_ble_eq_true rfl) dX2_take_4 ⟨Nat.zero_le _, Nat.zero_le _⟩ ?_
  refine lv_if_ne (tgt := 13) hx hb dX2_take_7 (by decide) (fun c7 => ?_) (fun c7 => ?_)
  · refine lv_aload_n hx hb dX2_take_13 rfl (lv_at hl 0 rfl) ?_
    refine lv_iconst (v := 0) hx hb dX2_take_14 (by decide) ?_
    refine m_pi_la hx hb hts inW hown hK hP hD hS k112 dX2_take_15 (fun H locs hP hD hS => ?_)
    refine lv_iconst (v := 0) hx hb dX2_take_18 (by decide) ?_
    refine lv_istore_n (lv' := [(2, .int 0), (0, .ref (O 0)), (1, .int n)]) hx hb dX2_take_19 rfl hl (by decide) rfl (fun ls hl => ?_)
    exact cMM_takeL XX hr hlocks hA hK n RR 7 0 (ms_la σ 0) (hg.2 c7) H locs ls hP hD hS (lv_sub hl [1, 2, 0] rfl)
  · refine lv_bipush (v := (-3)) hx hb dX2_take_10 (by decide) ?_
    exact z_reti hx hb hr hlocks rfl hK hP hD hS (hg.1 c7) dX2_take_12
end
section
theorem z_tk0 {n : Int32} (h1 : ¬ n < 1) (h2 : n ≤ 6) : ∃ a b, n = nI a ∧ (0 : Int32) = nI b ∧ a ≤ 6 ∧ b ≤ a ∧ a < b + 7 := by
  rw [Int32.lt_iff_toInt_lt] at h1
  rw [Int32.le_iff_toInt_le] at h2
  have e1 : (1 : Int32).toInt = 1 := by decide
  have e6 : (6 : Int32).toInt = 6 := by decide
  exact ⟨n.toInt.toNat, 0, Int32.toInt_inj.mp (by rw [nI_toInt (by omega)]; omega), rfl, by omega, Nat.zero_le _, by omega⟩
noncomputable def xf_take  (n : Int32) (σ : SX) : Int32 × SX := if n < 1 then ((-3), σ) else (if n ≤ 6 then (xf_takeL 7 n 0 (xs_bic σ 0)) else ((-3), σ))
set_option maxRecDepth 100000 in
set_option maxHeartbeats 4000000 in
theorem cx_take (l : Launch) (D : va_G) (O : Nat → Nat) (K : Nat → ClassId) (ad : Nat → Nat) (n : Int32) (σ : SX) (hok : xok σ) : cI l yX1_take wsX1_take { frames := 102, cells := 0, slots := 0, locals := 10200 } 0 0 D (xT K) (xW O K ad) σ [.ref (O 0), .int n] (xf_take n σ) := by
  intro sz
  refine z_start (cc := cX1_take) (maxL := 3) (ret := (some .int)) (Qc := fun A => va_Qi (fun r9 u9 => r9 = (xf_take n σ).1 ∧ u9 = (xf_take n σ).2) (zB D (xT K) (xW O K ad) A) A) sz (by decide) rfl (Nat.le_of_ble_eq_true rfl) ?_
  intro p e s m below meth c A X hA hK hP hD hS ls hl
  obtain ⟨hx, hb, hr, hml, hts, hown, hlocks, hnm⟩ := X
  have hown : s.vm.findClass RX1 = some m.cls := hown
  have hl : lv_has ls 3 [(0, .ref (O 0)), (1, .int n)] := hl
  have inW : ∀ w ∈ wsX10, w ∈ wsX1_take := fun w h => List.mem_cons_of_mem _ (List.mem_append_left _ (List.mem_append_right _ h))
  have XX : CallFix p m c cX1_take 3 s _ wsX1_take RX1 := ⟨hx, hb, hml, hown, hts⟩
  have k66 := hts (.fieldLink RX1 66 "MailRoom" "begunInCall" "I") (List.mem_of_getElem? (i := 1) rfl)
  refine lv_iload_n hx hb dX1_take_0 rfl (lv_at hl 1 rfl) ?_
  refine lv_iconst (v := 1) hx hb dX1_take_1 (by decide) ?_
  refine lv_icmp_lt (tgt := 11) hx hb dX1_take_2 (by decide) (fun c2 => ?_) (fun c2 => ?_)
  · refine lv_bipush (v := (-3)) hx hb dX1_take_11 (by decide) ?_
    exact z_reti hx hb hr hlocks rfl hK hP hD hS ((if_pos c2).trans (rfl)) dX1_take_13
  · refine lv_iload_n hx hb dX1_take_5 rfl (lv_at hl 1 rfl) ?_
    refine lv_bipush (v := 6) hx hb dX1_take_6 (by decide) ?_
    refine lv_icmp_le (tgt := 14) hx hb dX1_take_8 (by decide) (fun c8 => ?_) (fun c8 => ?_)
    · refine lv_aload_n hx hb dX1_take_14 rfl (lv_at hl 0 rfl) ?_
      refine lv_iconst (v := 0) hx hb dX1_take_15 (by decide) ?_
      refine x_pi_bic hx hb hts inW hown hK hP hD hS k66 dX1_take_16 (fun H locs hP hD hS => ?_)
      refine lv_iconst (v := 0) hx hb dX1_take_19 (by decide) ?_
      refine lv_istore_n (lv' := [(2, .int 0), (0, .ref (O 0)), (1, .int n)]) hx hb dX1_take_20 rfl hl (by decide) rfl (fun ls hl => ?_)
      exact cx_takeL XX hr hlocks hA hK n _ 7 0 (xs_bic σ 0) ((xpres.of (xr_n_bic _ _) (xr_hd_bic _ _) (xr_tab_bic _ _)).2 hok) ((if_neg c2).trans (if_pos c8)).symm (z_tk0 c2 c8) H locs ls hP hD hS (lv_sub hl [1, 2, 0] rfl)
    · refine lv_bipush (v := (-3)) hx hb dX1_take_11 (by decide) ?_
      exact z_reti hx hb hr hlocks rfl hK hP hD hS ((if_neg c2).trans ((if_neg c8).trans (rfl))) dX1_take_13
end
section
/-! two worlds side by side -/
theorem zD_l {A : Nat → Prop} {w v : va_W} (h : va_D A (w ++ v)) : va_D A w := by
  refine ⟨fun i j p q hi hj e => ?_, fun k q hk => ?_⟩
  · have li := (List.getElem?_eq_some_iff.mp hi).1
    have lj := (List.getElem?_eq_some_iff.mp hj).1
    exact h.1 i j p q (by rw [List.getElem?_append_left li]; exact hi) (by rw [List.getElem?_append_left lj]; exact hj) e
  · have lk := (List.getElem?_eq_some_iff.mp hk).1
    exact h.2 k q (by rw [List.getElem?_append_left lk]; exact hk)
theorem z_ar {w v : va_W} {k : Nat} {q : Nat × va_E} (h : v[k]? = some q) : (w ++ v)[w.length + k]? = some q := by
  rw [List.getElem?_append_right (by omega)]
  rw [show w.length + k - w.length = k by omega]
  exact h
theorem z_al {w v : va_W} {k : Nat} {q : Nat × va_E} (h : w[k]? = some q) : (w ++ v)[k]? = some q := by
  rw [List.getElem?_append_left (List.getElem?_eq_some_iff.mp h).1]
  exact h
theorem zD_r {A : Nat → Prop} {w v : va_W} (h : va_D A (w ++ v)) : va_D A v := by
  refine ⟨fun i j p q hi hj e => ?_, fun k q hk => ?_⟩
  · have := h.1 _ _ p q (z_ar (w := w) hi) (z_ar (w := w) hj) e
    omega
  · exact h.2 _ q (z_ar (w := w) hk)
theorem zD_x {A : Nat → Prop} {w v : va_W} (h : va_D A (w ++ v)) {i j : Nat} {p q : Nat × va_E} (hi : w[i]? = some p) (hj : v[j]? = some q) : p.1 ≠ q.1 := fun e => by
  have li := (List.getElem?_eq_some_iff.mp hi).1
  have := h.1 _ _ p q (z_al (v := v) hi) (z_ar (w := w) hj) e
  omega
theorem zP_l {D : va_G} {cl : List vw_C} {w v : va_W} {H : Heap} (h : va_P D cl (w ++ v) H) : va_P D cl w H := fun k q hk => h k q (z_al hk)
theorem zP_r {D : va_G} {cl : List vw_C} {w v : va_W} {H : Heap} (h : va_P D cl (w ++ v) H) : va_P D cl v H := fun k q hk => h _ q (z_ar hk)
theorem zD_c {A : Nat → Prop} {w v : va_W} (h : va_D A (w ++ v)) : va_D A (v ++ w) := va_D.app (zD_r h) (zD_l h) (fun i j p q hi hj e => zD_x h hj hi e.symm)
theorem zP_c {D : va_G} {cl : List vw_C} {w v : va_W} {H : Heap} (h : va_P D cl (w ++ v) H) : va_P D cl (v ++ w) H := va_P.app (zP_r h) (zP_l h)
/-- behind a call that had the second world alone -/
theorem z_fr {A0 : Nat → Prop} {D : va_G} {cl : List vw_C} {w w1 w2 : va_W} {H H1 : Heap} (hP : va_P D cl (w ++ w1) H) (hD : va_D A0 (w ++ w1)) (hk : ∀ q : Nat, q < H.size → ¬ va_A w1 H.size q → H1[q]? = H[q]?) (hF : ∀ q, va_A w1 H.size q → A0 q) (hP1 : va_P D cl w2 H1) (hD1 : va_D (va_A w1 H.size) w2) : va_P D cl (w ++ w2) H1 ∧ va_D A0 (w ++ w2) := by
  have ap : ∀ (k : Nat) (q : Nat × va_E), w[k]? = some q → q.1 < H.size ∧ ¬ va_A w1 H.size q.1 := by
    intro k q hq
    have hl := (zP_l hP k q hq).lt
    refine ⟨hl, ?_⟩
    rintro (⟨k2, e, h⟩ | h)
    · exact zD_x hD hq h rfl
    · omega
  refine ⟨va_P.app (fun k q hq => (zP_l hP k q hq).kept (hk q.1 (ap k q hq).1 (ap k q hq).2)) hP1, va_D.app (zD_l hD) (hD1.weaken (fun k q _ h => hF q.1 h)) (fun i j x y hx hy hxy => ?_)⟩
  exact (ap i x hx).2 (by rw [hxy]; exact hD1.2 j y hy)
theorem z_fr_keep {A0 : Nat → Prop} {D : va_G} {cl : List vw_C} {w w1 : va_W} {H H1 : Heap} (hP : va_P D cl (w ++ w1) H) (hD : va_D A0 (w ++ w1)) (hk : ∀ q : Nat, q < H.size → ¬ va_A w1 H.size q → H1[q]? = H[q]?) : va_P D cl w H1 := by
  intro k q hq
  have hl := (zP_l hP k q hq).lt
  refine (zP_l hP k q hq).kept (hk q.1 hl ?_)
  rintro (⟨k2, e, h⟩ | h)
  · exact zD_x hD hq h rfl
  · omega
/-! a new handler -/
theorem z_reU {ad : Nat → Nat} {n q : Nat} {r : Option Nat} (h : okr n r) : va_re (va_up ad n q) r = va_re ad r := by
  cases r with
  | none => rfl
  | some j =>
    have hj := h j rfl
    show Value.ref (va_up ad n q j) = Value.ref (ad j)
    rw [va_up_ne _ _ (by omega)]
theorem z_mapU {ad : Nat → Nat} {n q : Nat} {r : Option Nat} (h : okr n r) : r.map (va_up ad n q) = r.map ad := by
  cases r with
  | none => rfl
  | some j =>
    have hj := h j rfl
    show some (va_up ad n q j) = some (ad j)
    rw [va_up_ne _ _ (by omega)]
theorem z_hFsU {ad : Nat → Nat} {n q : Nat} {h : HR} (h1 : okr n (h_former h)) (h2 : okr n (h_other h)) : hFs (va_up ad n q) h = hFs ad h := by
  unfold hFs
  rw [z_reU h1, z_reU h2]
theorem xPl_push {ad : Nat → Nat} {n q : Nat} {tab : Nat → HR} {h : HR} (ht : ∀ i, okr n (h_former (tab i)) ∧ okr n (h_other (tab i))) (h1 : okr n (h_former h)) (h2 : okr n (h_other h)) : xPl ad n tab ++ [(q, .inr (0, hFs ad h))] = xPl (va_up ad n q) (n + 1) (va_up tab n h) := by
  unfold xPl
  rw [List.range_succ, List.map_append]
  have e1 : (List.range n).map (fun i => ((ad i, .inr (0, hFs ad (tab i))) : Nat × va_E)) = (List.range n).map (fun i => (va_up ad n q i, .inr (0, hFs (va_up ad n q) (va_up tab n h i)))) := by
    apply List.map_congr_left
    intro i hi
    have hi := List.mem_range.mp hi
    rw [va_up_ne _ _ (by omega), va_up_ne _ _ (by omega), z_hFsU (ht i).1 (ht i).2]
  rw [e1]
  simp only [List.map_cons, List.map_nil, va_up_self]
  rw [z_hFsU h1 h2]
theorem xW_push {O : Nat → Nat} {K : Nat → ClassId} {ad : Nat → Nat} {σ : SX} {q : Nat} {h : HR} (hok : xok σ) (h1 : okr (x_n σ) (h_former h)) (h2 : okr (x_n σ) (h_other h)) : xW O K ad σ ++ [(q, .inr (0, hFs ad h))] = xW O K (va_up ad (x_n σ) q) (xs_n (xs_tab σ (va_up (x_tab σ) (x_n σ) h)) (x_n σ + 1)) := by
  have e : (fun k => (x_hd σ k).map ad) = fun k => (x_hd σ k).map (va_up ad (x_n σ) q) := funext fun k => (z_mapU (hok.1 k)).symm
  have e2 := xPl_push (ad := ad) (q := q) hok.2 h1 h2
  unfold xW
  rw [e, List.append_assoc, e2]
  rfl
end
section
theorem z_nre {ad : Nat → Nat} {C : String} (r : Option Nat) : narrow (.object C) (va_re ad r) = va_re ad r := by
  cases r <;> rfl
theorem z_fre {ad : Nat → Nat} {C : String} (r : Option Nat) : fits (.object C) (va_re ad r) = true := by
  cases r <;> rfl
abbrev hW (q : Nat) (fs : List Value) : va_W := [(q, .inr (0, fs))]
abbrev hF0 : List Value := [.int 0, .int 0, .int 0, .int 0, .long 0, .null, .null, .int 0]
section ZRR
variable {p : Program} {l : Launch} {e : Env} {R : Room} {s : State} {m : MethodId} {args : Array Value} {below : List Frame} {meth : Method} {c : Code} {H : Heap} {locs : List Loc} {cells slots : Nat} {cc : ByteArray} {pc : Nat} {ls : Array Slot} {D : va_G} {A : Nat → Prop} {tys : List (ClassId × FieldType)} {S : Type} {wf : S → va_W}
theorem z_reti2 {v : Int32} {u : S} {post : Int32 → S → Prop} (hx : p.tables.exec = Jvm.exec) (hb : c.code = cc) (hr : meth.sig.returnType = some .int) (hlocks : meth.locks = false) (hK : va_K D vwCl tys s) (hP : va_P D vwCl (wf u) H) (hD : va_D A (wf u)) (hS : va_S A s.heap H locs) (hp : post v u) (hdg : decode cc pc = .ok (.ireturn, 1)) :
    W p l e R s m args below meth c H locs cells slots (MQ below (va_Qi post (zB D tys wf A) A) args s cells slots A) (F0 m pc ls [.int v]) :=
  W.iret hx hb hr (fun t ht hW => ⟨⟨v, u, rfl, hp, by rw [ht]; exact hP, va_K.moved hW.alike hK, hD⟩, hS.F ht⟩) hS.2.2 hdg hlocks
end ZRR
set_option maxRecDepth 100000 in
set_option maxHeartbeats 4000000 in
theorem cx_hinit (l : Launch) (D : va_G) (ad : Nat → Nat) (q : Nat) (k so a b : Int32) (w : Int64) (r1 r2 : Option Nat) : cV l yX0_init wsX0_init { frames := 1, cells := 0, slots := 0, locals := 100 } 0 0 D [] (hW q) hF0 [.ref q, .int k, .int so, .int a, .int b, .long w, va_re ad r1, va_re ad r2] (hFs ad (k, so, a, b, w, r1, r2, 0)) := by
  intro sz
  refine z_start (cc := cX0_init) (maxL := 9) (ret := none) (Qc := fun A => va_Qv (fun u9 => u9 = (hFs ad (k, so, a, b, w, r1, r2, 0))) (zB D [] (hW q) A) A) sz (by decide) rfl (by cases r1 <;> cases r2 <;> exact Nat.le_of_ble_eq_true rfl) ?_
  intro p e s m below meth c A X hA hK hP hD hS ls hl
  obtain ⟨hx, hb, hr, hml, hts, hown, hlocks, hnm⟩ := X
  have hown : s.vm.findClass RX0 = some m.cls := hown
  have hl : lv_has ls 9 [(0, .ref q), (1, .int k), (2, .int so), (3, .int a), (4, .int b), (5, .long w), (7, va_re ad r1), (8, va_re ad r2)] := by cases r1 <;> cases r2 <;> exact hl
  have inX0 : ∀ w ∈ wsX00, w ∈ wsX0_init := fun w h => List.mem_cons_of_mem _ (List.mem_append_right _ h)
  refine lv_aload_n hx hb dX0_init_0 rfl (lv_at hl 0 rfl) ?_
  refine W.objInit hx hb hown (hts (.methodLink RX0 1 objectInit) (List.mem_of_getElem? (i := 1) rfl)) (hts (.instanceMethod objectInit) (List.mem_of_getElem? (i := 2) rfl)) (hts _ (List.mem_of_getElem? (i := 3) rfl)) rfl (by rw [hml]; exact hl.1) rfl dX0_init_1 (Nat.le_of_ble_eq_true rfl) (Nat.le_of_ble_eq_true rfl) ?_
  refine W.eq (g2 := F0 m 4 ls []) rfl ?_
  refine lv_aload_n hx hb dX0_init_4 rfl (lv_at hl 0 rfl) ?_
  refine lv_iload_n hx hb dX0_init_5 rfl (lv_at hl 1 rfl) ?_
  refine va_putF (ci := 0) (v := .int k) (ty := .int) (C := RX0) (T := TX0) (N := 8) hx hb hts inX0 tyX0 tyX0_ok nmX0 hown hK hP hD hS 0 rfl rfl 0 (by decide) (hts (.fieldLink RX0 7 "MailRoom$Handler" "kind" "I") (List.mem_of_getElem? (i := 4) rfl)) (fun _ h9 => h9) rfl hnm rfl (by decide +kernel) (rfl) (rfl) (Nat.le_of_ble_eq_true rfl) dX0_init_6 (fun H locs hP hD hS => ?_)
  have hP : va_P D vwCl (hW q [.int k, .int 0, .int 0, .int 0, .long 0, .null, .null, .int 0]) H := hP
  have hD : va_D A (hW q [.int k, .int 0, .int 0, .int 0, .long 0, .null, .null, .int 0]) := hD
  refine lv_aload_n hx hb dX0_init_9 rfl (lv_at hl 0 rfl) ?_
  refine lv_iload_n hx hb dX0_init_10 rfl (lv_at hl 2 rfl) ?_
  refine va_putF (ci := 0) (v := .int so) (ty := .int) (C := RX0) (T := TX0) (N := 8) hx hb hts inX0 tyX0 tyX0_ok nmX0 hown hK hP hD hS 0 rfl rfl 1 (by decide) (hts (.fieldLink RX0 13 "MailRoom$Handler" "sort" "I") (List.mem_of_getElem? (i := 5) rfl)) (fun _ h9 => h9) rfl hnm rfl (by decide +kernel) (rfl) (rfl) (Nat.le_of_ble_eq_true rfl) dX0_init_11 (fun H locs hP hD hS => ?_)
  have hP : va_P D vwCl (hW q [.int k, .int so, .int 0, .int 0, .long 0, .null, .null, .int 0]) H := hP
  have hD : va_D A (hW q [.int k, .int so, .int 0, .int 0, .long 0, .null, .null, .int 0]) := hD
  refine lv_aload_n hx hb dX0_init_14 rfl (lv_at hl 0 rfl) ?_
  refine lv_iload_n hx hb dX0_init_15 rfl (lv_at hl 3 rfl) ?_
  refine va_putF (ci := 0) (v := .int a) (ty := .int) (C := RX0) (T := TX0) (N := 8) hx hb hts inX0 tyX0 tyX0_ok nmX0 hown hK hP hD hS 0 rfl rfl 2 (by decide) (hts (.fieldLink RX0 16 "MailRoom$Handler" "a" "I") (List.mem_of_getElem? (i := 6) rfl)) (fun _ h9 => h9) rfl hnm rfl (by decide +kernel) (rfl) (rfl) (Nat.le_of_ble_eq_true rfl) dX0_init_16 (fun H locs hP hD hS => ?_)
  have hP : va_P D vwCl (hW q [.int k, .int so, .int a, .int 0, .long 0, .null, .null, .int 0]) H := hP
  have hD : va_D A (hW q [.int k, .int so, .int a, .int 0, .long 0, .null, .null, .int 0]) := hD
  refine lv_aload_n hx hb dX0_init_19 rfl (lv_at hl 0 rfl) ?_
  refine lv_iload hx hb dX0_init_20 (lv_at hl 4 rfl) ?_
  refine va_putF (ci := 0) (v := .int b) (ty := .int) (C := RX0) (T := TX0) (N := 8) hx hb hts inX0 tyX0 tyX0_ok nmX0 hown hK hP hD hS 0 rfl rfl 3 (by decide) (hts (.fieldLink RX0 19 "MailRoom$Handler" "b" "I") (List.mem_of_getElem? (i := 7) rfl)) (fun _ h9 => h9) rfl hnm rfl (by decide +kernel) (rfl) (rfl) (Nat.le_of_ble_eq_true rfl) dX0_init_22 (fun H locs hP hD hS => ?_)
  have hP : va_P D vwCl (hW q [.int k, .int so, .int a, .int b, .long 0, .null, .null, .int 0]) H := hP
  have hD : va_D A (hW q [.int k, .int so, .int a, .int b, .long 0, .null, .null, .int 0]) := hD
  refine lv_aload_n hx hb dX0_init_25 rfl (lv_at hl 0 rfl) ?_
  refine lv_lload hx hb dX0_init_26 (lv_at hl 5 rfl) ?_
  refine va_putF (ci := 0) (v := .long w) (ty := .long) (C := RX0) (T := TX0) (N := 8) hx hb hts inX0 tyX0 tyX0_ok nmX0 hown hK hP hD hS 0 rfl rfl 4 (by decide) (hts (.fieldLink RX0 22 "MailRoom$Handler" "c" "J") (List.mem_of_getElem? (i := 8) rfl)) (fun _ h9 => h9) rfl hnm rfl (by decide +kernel) (rfl) (rfl) (Nat.le_of_ble_eq_true rfl) dX0_init_28 (fun H locs hP hD hS => ?_)
  have hP : va_P D vwCl (hW q [.int k, .int so, .int a, .int b, .long w, .null, .null, .int 0]) H := hP
  have hD : va_D A (hW q [.int k, .int so, .int a, .int b, .long w, .null, .null, .int 0]) := hD
  refine lv_aload_n hx hb dX0_init_31 rfl (lv_at hl 0 rfl) ?_
  refine z_aload hx hb dX0_init_32 (lv_at hl 6 rfl) ?_
  refine va_putF (ci := 0) (v := va_re ad r1) (ty := .object "MailRoom$Handler") (C := RX0) (T := TX0) (N := 8) hx hb hts inX0 tyX0 tyX0_ok nmX0 hown hK hP hD hS 0 rfl rfl 5 (by decide) (hts (.fieldLink RX0 26 "MailRoom$Handler" "former" "LMailRoom$Handler;") (List.mem_of_getElem? (i := 9) rfl)) (fun _ h9 => h9) rfl hnm rfl (by decide +kernel) (z_nre _) (z_fre _) (Nat.le_of_ble_eq_true rfl) dX0_init_34 (fun H locs hP hD hS => ?_)
  have hP : va_P D vwCl (hW q [.int k, .int so, .int a, .int b, .long w, va_re ad r1, .null, .int 0]) H := hP
  have hD : va_D A (hW q [.int k, .int so, .int a, .int b, .long w, va_re ad r1, .null, .int 0]) := hD
  refine lv_aload_n hx hb dX0_init_37 rfl (lv_at hl 0 rfl) ?_
  refine z_aload hx hb dX0_init_38 (lv_at hl 7 rfl) ?_
  refine va_putF (ci := 0) (v := va_re ad r2) (ty := .object "MailRoom$Handler") (C := RX0) (T := TX0) (N := 8) hx hb hts inX0 tyX0 tyX0_ok nmX0 hown hK hP hD hS 0 rfl rfl 6 (by decide) (hts (.fieldLink RX0 30 "MailRoom$Handler" "other" "LMailRoom$Handler;") (List.mem_of_getElem? (i := 10) rfl)) (fun _ h9 => h9) rfl hnm rfl (by decide +kernel) (z_nre _) (z_fre _) (Nat.le_of_ble_eq_true rfl) dX0_init_40 (fun H locs hP hD hS => ?_)
  have hP : va_P D vwCl (hW q [.int k, .int so, .int a, .int b, .long w, va_re ad r1, va_re ad r2, .int 0]) H := hP
  have hD : va_D A (hW q [.int k, .int so, .int a, .int b, .long w, va_re ad r1, va_re ad r2, .int 0]) := hD
  refine lv_aload_n hx hb dX0_init_43 rfl (lv_at hl 0 rfl) ?_
  refine lv_iconst (v := 0) hx hb dX0_init_44 (by decide) ?_
  refine va_put (ci := 0) (v := .int 0) (ty := .int) (C := RX0) (T := TX0) (N := 8) hx hb hts inX0 tyX0 tyX0_ok nmX0 hown hK hP hD hS 0 rfl rfl 7 (by decide) (hts (.fieldLink RX0 33 "MailRoom$Handler" "begun" "I") (List.mem_of_getElem? (i := 11) rfl)) (fun _ h9 => h9) rfl (by decide +kernel) (rfl) (rfl) (Nat.le_of_ble_eq_true rfl) dX0_init_45 (fun H locs hP hD hS => ?_)
  have hP : va_P D vwCl (hW q [.int k, .int so, .int a, .int b, .long w, va_re ad r1, va_re ad r2, .int 0]) H := hP
  have hD : va_D A (hW q [.int k, .int so, .int a, .int b, .long w, va_re ad r1, va_re ad r2, .int 0]) := hD
  exact z_retv hx hb hr hlocks hK hP hD hS rfl dX0_init_48
noncomputable def xf_handleT (k so a b : Int32) (w : Int64) (r2 : Option Nat) (σ : SX) : Int32 × SX := (if x_hd σ k.toNatClampNeg = none then 0 else 1, xs_told (xs_hd (xs_n (xs_tab σ (va_up (x_tab σ) (x_n σ) (k, so, a, b, w, x_hd σ k.toNatClampNeg, r2, 0))) (x_n σ + 1)) (va_up (x_hd σ) k.toNatClampNeg (some (x_n σ)))) (x_told σ + 1))
set_option maxRecDepth 100000 in
set_option maxHeartbeats 4000000 in
theorem cx_handleT {ad : Nat → Nat} {p : Program} {l : Launch} {e : Env} {s : State} {m : MethodId} {args : Array Value} {below : List Frame} {meth : Method} {c : Code} {A : Nat → Prop} {D : va_G} {O : Nat → Nat} {K : Nat → ClassId} (XX : CallFix p m c cX1_handle 9 s args wsX1_handle RX1) (hr : meth.sig.returnType = some .int) (hlocks : meth.locks = false) (hA : ∀ q : Nat, s.heap.size ≤ q → A q) (hK : va_K D vwCl (xT K) s) (k so a b : Int32) (w : Int64) (r2 : Option Nat) (σ : SX) (hok : xok σ) (h2 : okr (x_n σ) r2) (hk : vp_in k 10) : ∀ (H : Heap) (locs : List Loc) (ls : Array Slot), va_P D vwCl (xW O K ad σ) H → va_D A (xW O K ad σ) → va_S A s.heap H locs → lv_has ls 9 [(0, .ref (O 0)), (1, .int k), (2, .int so), (3, .int a), (4, .int b), (5, .long w), (7, va_re ad (x_hd σ k.toNatClampNeg)), (8, va_re ad r2)] → W p l e { frames := 3, cells := 1, slots := 8, locals := 300 } s m args below meth c H locs 0 0 (MQ below (va_Qi (fun (r9 : Int32) (u9 : SX × (Nat → Nat)) => r9 = (xf_handleT k so a b w r2 σ).1 ∧ u9.1 = (xf_handleT k so a b w r2 σ).2) (zB D (xT K) (fun u9 : SX × (Nat → Nat) => xW O K u9.2 u9.1) A) A) args s 1 8 A) (F0 m 101 ls [.int k, .ref (O 3)]) := by
  obtain ⟨hx, hb, hml, hown, hts⟩ := id XX
  have inW : ∀ w ∈ wsX10, w ∈ wsX1_handle := fun w h => List.mem_cons_of_mem _ (List.mem_append_left _ (List.mem_append_right _ h))
  have inX0 : ∀ w ∈ wsX00, w ∈ wsX1_handle := fun w h => List.mem_cons_of_mem _ (List.mem_append_right _ h)
  intro H locs ls hP hD hS hl
  refine va_new (ci := 0) (fs := hF0) (C := RX0) (T := TX0) (N := 8) hx hb hts inX0 tyX0 tyX0_ok hown (hts (.classLink RX1 17 RX0) (List.mem_of_getElem? (i := 3) rfl)) (hts (.instantiable RX0 8) (List.mem_of_getElem? (i := 4) rfl)) (hts (.initialized RX0) (List.mem_of_getElem? (i := 5) rfl)) hK hP hD hS hA rfl (fun j hj => by rcases (show j = 0 ∨ j = 1 ∨ j = 2 ∨ j = 3 ∨ j = 4 ∨ j = 5 ∨ j = 6 ∨ j = 7 by omega) with rfl | rfl | rfl | rfl | rfl | rfl | rfl | rfl <;> rfl) (Nat.le_of_ble_eq_true rfl) (Nat.le_of_ble_eq_true rfl) dX1_handle_101 (fun q H hP hD hS => ?_)
  refine lv_dup hx hb dX1_handle_104 rfl ?_
  refine lv_iload_n hx hb dX1_handle_105 rfl (lv_at hl 1 rfl) ?_
  refine lv_iload_n hx hb dX1_handle_106 rfl (lv_at hl 2 rfl) ?_
  refine lv_iload_n hx hb dX1_handle_107 rfl (lv_at hl 3 rfl) ?_
  refine lv_iload hx hb dX1_handle_108 (lv_at hl 4 rfl) ?_
  refine lv_lload hx hb dX1_handle_110 (lv_at hl 5 rfl) ?_
  refine z_aload hx hb dX1_handle_112 (lv_at hl 6 rfl) ?_
  refine z_aload hx hb dX1_handle_114 (lv_at hl 7 rfl) ?_
  have hP1 : va_P D vwCl (hW q hF0) H := zP_r hP
  have hD1 : va_D A (hW q hF0) := zD_r hD
  have hFc : ∀ z, va_A (hW q hF0) H.size z → A z := z_fc (wf := hW q) (σ := hF0) hD1 hS hA
  have hK0 : va_K D vwCl [] s := hK.sub (tys' := []) [] rfl
  refine va_callv (va_runI (As := [.int k, .int so, .int a, .int b, .long w, va_re ad (x_hd σ k.toNatClampNeg), va_re ad r2]) (rest := [.ref q, .int k, .ref (O 3)]) XX (cx_hinit l D ad q k so a b w (x_hd σ k.toNatClampNeg) r2 H.size) (cwI 7 hts gX1_handle_X0_init rfl rfl rfl (hts (.initialized RX0) (List.mem_of_getElem? (i := 5) rfl)) (hts (.methodLink RX1 38 yX0_init) (List.mem_of_getElem? (i := 20) rfl)) (hts (.instanceMethod yX0_init) (List.mem_of_getElem? (i := 21) rfl)) rfl (by decide +kernel) ⟨by decide, by decide⟩) ⟨z_blind, fun U hU hW => ⟨rfl, by rw [hU], by rw [hU]; exact hP1, va_K.moved hW.alike hK0, hD1.weaken (fun _ _ _ _ => trivial)⟩⟩ rfl rfl hl.1 rfl (lv_room (Nat.le_of_ble_eq_true rfl)) dX1_handle_116 ⟨by decide, by decide⟩) hS (fun z _ h => hFc z h) hFc (fun u t H1 locs ht hvm hw hB hz1 hk1 hS => ?_)
  subst hw
  obtain ⟨hP2, hK2, hD2⟩ := hB
  rw [ht] at hP2
  obtain ⟨hP, hD⟩ := z_fr hP hD hk1 hFc hP2 hD2
  have e1 := xW_push (O := O) (K := K) (ad := ad) (σ := σ) (q := q) (h := (k, so, a, b, w, x_hd σ k.toNatClampNeg, r2, 0)) hok (hok.1 _) h2
  have hP : va_P D vwCl (xW O K ad σ ++ [(q, .inr (0, hFs ad (k, so, a, b, w, x_hd σ k.toNatClampNeg, r2, 0)))]) H1 := hP
  have hD : va_D A (xW O K ad σ ++ [(q, .inr (0, hFs ad (k, so, a, b, w, x_hd σ k.toNatClampNeg, r2, 0)))]) := hD
  rw [e1] at hP hD
  have e2 : va_re (va_up ad (x_n σ) q) (some (x_n σ)) = .ref q := by
    show Value.ref (va_up ad (x_n σ) q (x_n σ)) = .ref q
    rw [va_up_self]
  rw [← e2]
  refine x_astH (ad := va_up ad (x_n σ) q) (r := some (x_n σ)) (i := k) hx hb hK hP hD hS (fun j hj => by cases hj; rw [xw_n]; omega) hk dX1_handle_119 (fun H locs hP hD hS => ?_)
  have e3 : x_hd (xs_n (xs_tab σ (va_up (x_tab σ) (x_n σ) (k, so, a, b, w, x_hd σ k.toNatClampNeg, r2, 0))) (x_n σ + 1)) = x_hd σ := (xr_hd_n _ _).trans (xr_hd_tab _ _)
  rw [e3] at hP hD
  refine lv_aload_n hx hb dX1_handle_120 rfl (lv_at hl 0 rfl) ?_
  refine lv_dup hx hb dX1_handle_121 rfl ?_
  refine x_gi_told (v := x_told σ) hx hb hts inW hown hK hP ((xr_told_hd _ _).trans ((xr_told_n _ _).trans (xr_told_tab _ _))) (hts (.fieldLink RX1 51 "MailRoom" "told" "I") (List.mem_of_getElem? (i := 1) rfl)) dX1_handle_122 ?_
  refine lv_iconst (v := 1) hx hb dX1_handle_125 (by decide) ?_
  refine lv_iadd hx hb dX1_handle_126 ?_
  refine x_pi_told hx hb hts inW hown hK hP hD hS (hts (.fieldLink RX1 51 "MailRoom" "told" "I") (List.mem_of_getElem? (i := 1) rfl)) dX1_handle_127 (fun H locs hP hD hS => ?_)
  refine z_aload hx hb dX1_handle_130 (lv_at hl 6 rfl) ?_
  refine z_ifnull (tgt := 139) hx hb dX1_handle_132 (by decide) (fun c132 => ?_) (fun c132 => ?_)
  · refine lv_iconst (v := 0) hx hb dX1_handle_139 (by decide) ?_
    exact z_reti2 (wf := fun u9 : SX × (Nat → Nat) => xW O K u9.2 u9.1) (u := (xs_told (xs_hd (xs_n (xs_tab σ (va_up (x_tab σ) (x_n σ) (k, so, a, b, w, x_hd σ k.toNatClampNeg, r2, 0))) (x_n σ + 1)) (va_up (x_hd σ) k.toNatClampNeg (some (x_n σ)))) (x_told σ + 1), va_up ad (x_n σ) q)) hx hb hr hlocks hK hP hD hS ⟨(if_pos c132).symm, rfl⟩ dX1_handle_140
  · refine lv_iconst (v := 1) hx hb dX1_handle_135 (by decide) ?_
    refine lv_goto (tgt := 140) hx hb dX1_handle_136 (by decide) ?_
    exact z_reti2 (wf := fun u9 : SX × (Nat → Nat) => xW O K u9.2 u9.1) (u := (xs_told (xs_hd (xs_n (xs_tab σ (va_up (x_tab σ) (x_n σ) (k, so, a, b, w, x_hd σ k.toNatClampNeg, r2, 0))) (x_n σ + 1)) (va_up (x_hd σ) k.toNatClampNeg (some (x_n σ)))) (x_told σ + 1), va_up ad (x_n σ) q)) hx hb hr hlocks hK hP hD hS ⟨(if_neg c132).symm, rfl⟩ dX1_handle_140
end
section
theorem z_cat (ad : Nat → Nat) (r : Option Nat) : (va_re ad r).category = 1 := by
  cases r <;> rfl
noncomputable def xf_handle  (k : Int32) (so : Int32) (a : Int32) (b : Int32) (w : Int64) (σ : SX) : Int32 × SX := if so < 0 then ((-3), σ) else (if so ≤ 11 then (if (xf_isKind k) = 0 then ((-2), σ) else (if (xf_namesKnown so a b) = 0 then ((-2), σ) else (if so = 5 then (if b < 0 then ((-3), σ) else (if b ≤ 100 then (if (x_told σ) < 200 then (if so = 2 then (xf_handleT k so a b w (xf_handlerOf a σ) σ) else (if so = 7 then (xf_handleT k so a b w (xf_handlerOf a σ) σ) else (xf_handleT k so a b w none σ))) else ((-4), σ)) else ((-3), σ))) else (if (x_told σ) < 200 then (if so = 2 then (xf_handleT k so a b w (xf_handlerOf a σ) σ) else (if so = 7 then (xf_handleT k so a b w (xf_handlerOf a σ) σ) else (xf_handleT k so a b w none σ))) else ((-4), σ))))) else ((-3), σ))
set_option maxRecDepth 100000 in
set_option maxHeartbeats 4000000 in
theorem cx_handle (l : Launch) (D : va_G) (O : Nat → Nat) (K : Nat → ClassId) (ad : Nat → Nat) (k so a b : Int32) (w : Int64) (σ : SX) (hok : xok σ) (sz : Nat) : Met l yX1_handle wsX1_handle { frames := 3, cells := 1, slots := 8, locals := 300 } (zP D (xT K) [.ref (O 0), .int k, .int so, .int a, .int b, .long w] (xW O K ad σ) sz) (va_Qi (fun (r9 : Int32) (u9 : SX × (Nat → Nat)) => r9 = (xf_handle k so a b w σ).1 ∧ u9.1 = (xf_handle k so a b w σ).2) (zB D (xT K) (fun u9 : SX × (Nat → Nat) => xW O K u9.2 u9.1) (va_A (xW O K ad σ) sz)) (va_A (xW O K ad σ) sz)) 1 8 (va_A (xW O K ad σ) sz) := by
  refine z_start (cc := cX1_handle) (maxL := 9) (ret := (some .int)) (Qc := fun A => va_Qi (fun (r9 : Int32) (u9 : SX × (Nat → Nat)) => r9 = (xf_handle k so a b w σ).1 ∧ u9.1 = (xf_handle k so a b w σ).2) (zB D (xT K) (fun u9 : SX × (Nat → Nat) => xW O K u9.2 u9.1) A) A) sz (by decide) rfl (Nat.le_of_ble_eq_true rfl) ?_
  intro p e s m below meth c A X hA hK hP hD hS ls hl
  obtain ⟨hx, hb, hr, hml, hts, hown, hlocks, hnm⟩ := X
  have hown : s.vm.findClass RX1 = some m.cls := hown
  have hl : lv_has ls 9 [(0, .ref (O 0)), (1, .int k), (2, .int so), (3, .int a), (4, .int b), (5, .long w)] := hl
  have inW : ∀ w ∈ wsX10, w ∈ wsX1_handle := fun w h => List.mem_cons_of_mem _ (List.mem_append_left _ (List.mem_append_right _ h))
  have inX0 : ∀ w ∈ wsX00, w ∈ wsX1_handle := fun w h => List.mem_cons_of_mem _ (List.mem_append_right _ h)
  have XX : CallFix p m c cX1_handle 9 s _ wsX1_handle RX1 := ⟨hx, hb, hml, hown, hts⟩
  have k51 := hts (.fieldLink RX1 51 "MailRoom" "told" "I") (List.mem_of_getElem? (i := 1) rfl)
  have k19 := hts (.fieldLink RX1 19 "MailRoom" "handlers" "[LMailRoom$Handler;") (List.mem_of_getElem? (i := 2) rfl)
  refine lv_iload_n hx hb dX1_handle_0 rfl (lv_at hl 2 rfl) ?_
  refine lv_if_lt (tgt := 10) hx hb dX1_handle_1 (by decide) (fun c1 => ?_) (fun c1 => ?_)
  · refine lv_bipush (v := (-3)) hx hb dX1_handle_10 (by decide) ?_
    have e9 : xf_handle k so a b w σ = ((-3), σ) := (if_pos c1).trans (rfl)
    refine W.widen (k := 1) (n := 8) (by omega) (by omega) ?_
    exact z_reti2 (wf := fun u9 : SX × (Nat → Nat) => xW O K u9.2 u9.1) (u := (σ, ad)) hx hb hr hlocks hK hP hD hS ⟨(congrArg Prod.fst e9).symm, (congrArg Prod.snd e9).symm⟩ dX1_handle_12
  · refine lv_iload_n hx hb dX1_handle_4 rfl (lv_at hl 2 rfl) ?_
    refine lv_bipush (v := 11) hx hb dX1_handle_5 (by decide) ?_
    refine lv_icmp_le (tgt := 13) hx hb dX1_handle_7 (by decide) (fun c7 => ?_) (fun c7 => ?_)
    · refine lv_iload_n hx hb dX1_handle_13 rfl (lv_at hl 1 rfl) ?_
      refine z_calls (As := [.int k]) (rest := []) XX (cx_isKind l k) (va_cwS 1 hts gX1_handle_X1_isKind rfl rfl rfl qX1_isKind ⟨by decide, by decide⟩) rfl hl.1 rfl (Nat.le_of_ble_eq_true rfl) dX1_handle_14 ⟨Nat.zero_le _, Nat.zero_le _⟩ ?_
      refine lv_if_eq (tgt := 30) hx hb dX1_handle_17 (by decide) (fun c17 => ?_) (fun c17 => ?_)
      · refine lv_bipush (v := (-2)) hx hb dX1_handle_30 (by decide) ?_
        have e9 : xf_handle k so a b w σ = ((-2), σ) := (if_neg c1).trans ((if_pos c7).trans ((if_pos c17).trans (rfl)))
        refine W.widen (k := 1) (n := 8) (by omega) (by omega) ?_
        exact z_reti2 (wf := fun u9 : SX × (Nat → Nat) => xW O K u9.2 u9.1) (u := (σ, ad)) hx hb hr hlocks hK hP hD hS ⟨(congrArg Prod.fst e9).symm, (congrArg Prod.snd e9).symm⟩ dX1_handle_32
      · refine lv_iload_n hx hb dX1_handle_20 rfl (lv_at hl 2 rfl) ?_
        refine lv_iload_n hx hb dX1_handle_21 rfl (lv_at hl 3 rfl) ?_
        refine lv_iload hx hb dX1_handle_22 (lv_at hl 4 rfl) ?_
        refine z_calls (As := [.int so, .int a, .int b]) (rest := []) XX (cx_namesKnown l so a b) (va_cwS 3 hts gX1_handle_X1_namesKnown rfl rfl rfl qX1_namesKnown ⟨by decide, by decide⟩) rfl hl.1 rfl (Nat.le_of_ble_eq_true rfl) dX1_handle_24 ⟨Nat.zero_le _, Nat.zero_le _⟩ ?_
        refine lv_if_ne (tgt := 33) hx hb dX1_handle_27 (by decide) (fun c27 => ?_) (fun c27 => ?_)
        · refine lv_iload_n hx hb dX1_handle_33 rfl (lv_at hl 2 rfl) ?_
          refine lv_iconst (v := 5) hx hb dX1_handle_34 (by decide) ?_
          refine lv_icmp_ne (tgt := 53) hx hb dX1_handle_35 (by decide) (fun c35 => ?_) (fun c35 => ?_)
          · refine lv_aload_n hx hb dX1_handle_53 rfl (lv_at hl 0 rfl) ?_
            refine x_gi_told (v := (x_told σ)) hx hb hts inW hown hK hP (rfl) k51 dX1_handle_54 ?_
            refine lv_sipush (v := 200) hx hb dX1_handle_57 (by decide) ?_
            refine lv_icmp_lt (tgt := 66) hx hb dX1_handle_60 (by decide) (fun c60 => ?_) (fun c60 => ?_)
            · refine lv_aload_n hx hb dX1_handle_66 rfl (lv_at hl 0 rfl) ?_
              refine x_ga_3 hx hb hts inW hown hK hP k19 dX1_handle_67 ?_
              refine lv_iload_n hx hb dX1_handle_70 rfl (lv_at hl 1 rfl) ?_
              refine x_aldH hx hb hK hP (i := k) (xkind_in (by assumption)) dX1_handle_71 ?_
              refine z_astore (lv' := [(7, va_re ad ((x_hd σ) k.toNatClampNeg)), (0, .ref (O 0)), (1, .int k), (2, .int so), (3, .int a), (4, .int b), (5, .long w)]) hx hb dX1_handle_72 hl (by decide) (rfl) (fun ls hl => ?_)
              refine lv_iload_n hx hb dX1_handle_74 rfl (lv_at hl 3 rfl) ?_
              refine lv_iconst (v := 2) hx hb dX1_handle_75 (by decide) ?_
              refine lv_icmp_eq (tgt := 85) hx hb dX1_handle_76 (by decide) (fun c76 => ?_) (fun c76 => ?_)
              · refine lv_aload_n hx hb dX1_handle_85 rfl (lv_at hl 1 rfl) ?_
                refine lv_iload_n hx hb dX1_handle_86 rfl (lv_at hl 4 rfl) ?_
                refine z_callq (As := [.int a]) (rest := []) XX (cx_handlerOf l D O K ad a σ) (cwV 1 hts gX1_handle_X1_handlerOf rfl rfl rfl qX1_handlerOf ⟨by decide, by decide⟩) (va_recv hK hP (ci := 1) (q0 := 0) rfl rfl) hK hP hD hS hA rfl hl.1 rfl (Nat.le_of_ble_eq_true rfl) dX1_handle_87 ⟨Nat.zero_le _, Nat.zero_le _⟩ (fun H locs hP hD hS => ?_)
                refine lv_goto (tgt := 94) hx hb dX1_handle_90 (by decide) ?_
                refine z_astore (lv' := [(8, va_re ad (xf_handlerOf a σ)), (7, va_re ad ((x_hd σ) k.toNatClampNeg)), (0, .ref (O 0)), (1, .int k), (2, .int so), (3, .int a), (4, .int b), (5, .long w)]) hx hb dX1_handle_94 hl (by decide) (by sorry) (fun ls hl => ?_)
                refine lv_aload_n hx hb dX1_handle_96 rfl (lv_at hl 2 rfl) ?_
                refine x_ga_3 hx hb hts inW hown hK hP k19 dX1_handle_97 ?_
                refine lv_iload_n hx hb dX1_handle_100 rfl (lv_at hl 3 rfl) ?_
                have e9 : xf_handle k so a b w σ = (xf_handleT k so a b w (xf_handlerOf a σ) σ) := (if_neg c1).trans ((if_pos c7).trans ((if_neg c17).trans ((if_neg c27).trans ((if_neg c35).trans ((if_pos c60).trans ((if_pos c76).trans (rfl)))))))
                rw [e9]
                exact cx_handleT XX hr hlocks hA hK k so a b w (xf_handlerOf a σ) σ hok (xokr_handlerOf hok) (xkind_in c17) H locs ls hP hD hS (lv_sub hl [2, 3, 4, 5, 6, 7, 1, 0] rfl)
              · refine lv_iload_n hx hb dX1_handle_79 rfl (lv_at hl 3 rfl) ?_
                refine lv_bipush (v := 7) hx hb dX1_handle_80 (by decide) ?_
                refine lv_icmp_ne (tgt := 93) hx hb dX1_handle_82 (by decide) (fun c82 => ?_) (fun c82 => ?_)
                · refine z_null ad hx hb dX1_handle_93 ?_
                  refine z_astore (lv' := [(8, va_re ad none), (7, va_re ad ((x_hd σ) k.toNatClampNeg)), (0, .ref (O 0)), (1, .int k), (2, .int so), (3, .int a), (4, .int b), (5, .long w)]) hx hb dX1_handle_94 hl (by decide) (by sorry) (fun ls hl => ?_)
                  refine lv_aload_n hx hb dX1_handle_96 rfl (lv_at hl 2 rfl) ?_
                  refine x_ga_3 hx hb hts inW hown hK hP k19 dX1_handle_97 ?_
                  refine lv_iload_n hx hb dX1_handle_100 rfl (lv_at hl 3 rfl) ?_
                  have e9 : xf_handle k so a b w σ = (xf_handleT k so a b w none σ) := (if_neg c1).trans ((if_pos c7).trans ((if_neg c17).trans ((if_neg c27).trans ((if_neg c35).trans ((if_pos c60).trans ((if_neg c76).trans ((if_neg c82).trans (rfl))))))))
                  rw [e9]
                  exact cx_handleT XX hr hlocks hA hK k so a b w none σ hok (fun j h => by cases h) (xkind_in c17) H locs ls hP hD hS (lv_sub hl [2, 3, 4, 5, 6, 7, 1, 0] rfl)
                · refine lv_aload_n hx hb dX1_handle_85 rfl (lv_at hl 1 rfl) ?_
                  refine lv_iload_n hx hb dX1_handle_86 rfl (lv_at hl 4 rfl) ?_
                  refine z_callq (As := [.int a]) (rest := []) XX (cx_handlerOf l D O K ad a σ) (cwV 1 hts gX1_handle_X1_handlerOf rfl rfl rfl qX1_handlerOf ⟨by decide, by decide⟩) (va_recv hK hP (ci := 1) (q0 := 0) rfl rfl) hK hP hD hS hA rfl hl.1 rfl (Nat.le_of_ble_eq_true rfl) dX1_handle_87 ⟨Nat.zero_le _, Nat.zero_le _⟩ (fun H locs hP hD hS => ?_)
                  refine lv_goto (tgt := 94) hx hb dX1_handle_90 (by decide) ?_
                  refine z_astore (lv' := [(8, va_re ad (xf_handlerOf a σ)), (7, va_re ad ((x_hd σ) k.toNatClampNeg)), (0, .ref (O 0)), (1, .int k), (2, .int so), (3, .int a), (4, .int b), (5, .long w)]) hx hb dX1_handle_94 hl (by decide) (by sorry) (fun ls hl => ?_)
                  refine lv_aload_n hx hb dX1_handle_96 rfl (lv_at hl 2 rfl) ?_
                  refine x_ga_3 hx hb hts inW hown hK hP k19 dX1_handle_97 ?_
                  refine lv_iload_n hx hb dX1_handle_100 rfl (lv_at hl 3 rfl) ?_
                  have e9 : xf_handle k so a b w σ = (xf_handleT k so a b w (xf_handlerOf a σ) σ) := (if_neg c1).trans ((if_pos c7).trans ((if_neg c17).trans ((if_neg c27).trans ((if_neg c35).trans ((if_pos c60).trans ((if_neg c76).trans ((if_pos c82).trans (rfl))))))))
                  rw [e9]
                  exact cx_handleT XX hr hlocks hA hK k so a b w (xf_handlerOf a σ) σ hok (xokr_handlerOf hok) (xkind_in c17) H locs ls hP hD hS (lv_sub hl [2, 3, 4, 5, 6, 7, 1, 0] rfl)
            · refine lv_bipush (v := (-4)) hx hb dX1_handle_63 (by decide) ?_
              have e9 : xf_handle k so a b w σ = ((-4), σ) := (if_neg c1).trans ((if_pos c7).trans ((if_neg c17).trans ((if_neg c27).trans ((if_neg c35).trans ((if_neg c60).trans (rfl))))))
              refine W.widen (k := 1) (n := 8) (by omega) (by omega) ?_
              exact z_reti2 (wf := fun u9 : SX × (Nat → Nat) => xW O K u9.2 u9.1) (u := (σ, ad)) hx hb hr hlocks hK hP hD hS ⟨(congrArg Prod.fst e9).symm, (congrArg Prod.snd e9).symm⟩ dX1_handle_65
          · refine lv_iload hx hb dX1_handle_38 (lv_at hl 4 rfl) ?_
            refine lv_if_lt (tgt := 50) hx hb dX1_handle_40 (by decide) (fun c40 => ?_) (fun c40 => ?_)
            · refine lv_bipush (v := (-3)) hx hb dX1_handle_50 (by decide) ?_
              have e9 : xf_handle k so a b w σ = ((-3), σ) := (if_neg c1).trans ((if_pos c7).trans ((if_neg c17).trans ((if_neg c27).trans ((if_pos c35).trans ((if_pos c40).trans (rfl))))))
              refine W.widen (k := 1) (n := 8) (by omega) (by omega) ?_
              exact z_reti2 (wf := fun u9 : SX × (Nat → Nat) => xW O K u9.2 u9.1) (u := (σ, ad)) hx hb hr hlocks hK hP hD hS ⟨(congrArg Prod.fst e9).symm, (congrArg Prod.snd e9).symm⟩ dX1_handle_52
            · refine lv_iload hx hb dX1_handle_43 (lv_at hl 4 rfl) ?_
              refine lv_bipush (v := 100) hx hb dX1_handle_45 (by decide) ?_
              refine lv_icmp_le (tgt := 53) hx hb dX1_handle_47 (by decide) (fun c47 => ?_) (fun c47 => ?_)
              · refine lv_aload_n hx hb dX1_handle_53 rfl (lv_at hl 0 rfl) ?_
                refine x_gi_told (v := (x_told σ)) hx hb hts inW hown hK hP (rfl) k51 dX1_handle_54 ?_
                refine lv_sipush (v := 200) hx hb dX1_handle_57 (by decide) ?_
                refine lv_icmp_lt (tgt := 66) hx hb dX1_handle_60 (by decide) (fun c60 => ?_) (fun c60 => ?_)
                · refine lv_aload_n hx hb dX1_handle_66 rfl (lv_at hl 0 rfl) ?_
                  refine x_ga_3 hx hb hts inW hown hK hP k19 dX1_handle_67 ?_
                  refine lv_iload_n hx hb dX1_handle_70 rfl (lv_at hl 1 rfl) ?_
                  refine x_aldH hx hb hK hP (i := k) (xkind_in (by assumption)) dX1_handle_71 ?_
                  refine z_astore (lv' := [(7, va_re ad ((x_hd σ) k.toNatClampNeg)), (0, .ref (O 0)), (1, .int k), (2, .int so), (3, .int a), (4, .int b), (5, .long w)]) hx hb dX1_handle_72 hl (by decide) (rfl) (fun ls hl => ?_)
                  refine lv_iload_n hx hb dX1_handle_74 rfl (lv_at hl 3 rfl) ?_
                  refine lv_iconst (v := 2) hx hb dX1_handle_75 (by decide) ?_
                  refine lv_icmp_eq (tgt := 85) hx hb dX1_handle_76 (by decide) (fun c76 => ?_) (fun c76 => ?_)
                  · refine lv_aload_n hx hb dX1_handle_85 rfl (lv_at hl 1 rfl) ?_
                    refine lv_iload_n hx hb dX1_handle_86 rfl (lv_at hl 4 rfl) ?_
                    refine z_callq (As := [.int a]) (rest := []) XX (cx_handlerOf l D O K ad a σ) (cwV 1 hts gX1_handle_X1_handlerOf rfl rfl rfl qX1_handlerOf ⟨by decide, by decide⟩) (va_recv hK hP (ci := 1) (q0 := 0) rfl rfl) hK hP hD hS hA rfl hl.1 rfl (Nat.le_of_ble_eq_true rfl) dX1_handle_87 ⟨Nat.zero_le _, Nat.zero_le _⟩ (fun H locs hP hD hS => ?_)
                    refine lv_goto (tgt := 94) hx hb dX1_handle_90 (by decide) ?_
                    refine z_astore (lv' := [(8, va_re ad (xf_handlerOf a σ)), (7, va_re ad ((x_hd σ) k.toNatClampNeg)), (0, .ref (O 0)), (1, .int k), (2, .int so), (3, .int a), (4, .int b), (5, .long w)]) hx hb dX1_handle_94 hl (by decide) (by sorry) (fun ls hl => ?_)
                    refine lv_aload_n hx hb dX1_handle_96 rfl (lv_at hl 2 rfl) ?_
                    refine x_ga_3 hx hb hts inW hown hK hP k19 dX1_handle_97 ?_
                    refine lv_iload_n hx hb dX1_handle_100 rfl (lv_at hl 3 rfl) ?_
                    have e9 : xf_handle k so a b w σ = (xf_handleT k so a b w (xf_handlerOf a σ) σ) := (if_neg c1).trans ((if_pos c7).trans ((if_neg c17).trans ((if_neg c27).trans ((if_pos c35).trans ((if_neg c40).trans ((if_pos c47).trans ((if_pos c60).trans ((if_pos c76).trans (rfl)))))))))
                    rw [e9]
                    exact cx_handleT XX hr hlocks hA hK k so a b w (xf_handlerOf a σ) σ hok (xokr_handlerOf hok) (xkind_in c17) H locs ls hP hD hS (lv_sub hl [2, 3, 4, 5, 6, 7, 1, 0] rfl)
                  · refine lv_iload_n hx hb dX1_handle_79 rfl (lv_at hl 3 rfl) ?_
                    refine lv_bipush (v := 7) hx hb dX1_handle_80 (by decide) ?_
                    refine lv_icmp_ne (tgt := 93) hx hb dX1_handle_82 (by decide) (fun c82 => ?_) (fun c82 => ?_)
                    · refine z_null ad hx hb dX1_handle_93 ?_
                      refine z_astore (lv' := [(8, va_re ad none), (7, va_re ad ((x_hd σ) k.toNatClampNeg)), (0, .ref (O 0)), (1, .int k), (2, .int so), (3, .int a), (4, .int b), (5, .long w)]) hx hb dX1_handle_94 hl (by decide) (by sorry) (fun ls hl => ?_)
                      refine lv_aload_n hx hb dX1_handle_96 rfl (lv_at hl 2 rfl) ?_
                      refine x_ga_3 hx hb hts inW hown hK hP k19 dX1_handle_97 ?_
                      refine lv_iload_n hx hb dX1_handle_100 rfl (lv_at hl 3 rfl) ?_
                      have e9 : xf_handle k so a b w σ = (xf_handleT k so a b w none σ) := (if_neg c1).trans ((if_pos c7).trans ((if_neg c17).trans ((if_neg c27).trans ((if_pos c35).trans ((if_neg c40).trans ((if_pos c47).trans ((if_pos c60).trans ((if_neg c76).trans ((if_neg c82).trans (rfl))))))))))
                      rw [e9]
                      exact cx_handleT XX hr hlocks hA hK k so a b w none σ hok (fun j h => by cases h) (xkind_in c17) H locs ls hP hD hS (lv_sub hl [2, 3, 4, 5, 6, 7, 1, 0] rfl)
                    · refine lv_aload_n hx hb dX1_handle_85 rfl (lv_at hl 1 rfl) ?_
                      refine lv_iload_n hx hb dX1_handle_86 rfl (lv_at hl 4 rfl) ?_
                      refine z_callq (As := [.int a]) (rest := []) XX (cx_handlerOf l D O K ad a σ) (cwV 1 hts gX1_handle_X1_handlerOf rfl rfl rfl qX1_handlerOf ⟨by decide, by decide⟩) (va_recv hK hP (ci := 1) (q0 := 0) rfl rfl) hK hP hD hS hA rfl hl.1 rfl (Nat.le_of_ble_eq_true rfl) dX1_handle_87 ⟨Nat.zero_le _, Nat.zero_le _⟩ (fun H locs hP hD hS => ?_)
                      refine lv_goto (tgt := 94) hx hb dX1_handle_90 (by decide) ?_
                      refine z_astore (lv' := [(8, va_re ad (xf_handlerOf a σ)), (7, va_re ad ((x_hd σ) k.toNatClampNeg)), (0, .ref (O 0)), (1, .int k), (2, .int so), (3, .int a), (4, .int b), (5, .long w)]) hx hb dX1_handle_94 hl (by decide) (by sorry) (fun ls hl => ?_)
                      refine lv_aload_n hx hb dX1_handle_96 rfl (lv_at hl 2 rfl) ?_
                      refine x_ga_3 hx hb hts inW hown hK hP k19 dX1_handle_97 ?_
                      refine lv_iload_n hx hb dX1_handle_100 rfl (lv_at hl 3 rfl) ?_
                      have e9 : xf_handle k so a b w σ = (xf_handleT k so a b w (xf_handlerOf a σ) σ) := (if_neg c1).trans ((if_pos c7).trans ((if_neg c17).trans ((if_neg c27).trans ((if_pos c35).trans ((if_neg c40).trans ((if_pos c47).trans ((if_pos c60).trans ((if_neg c76).trans ((if_pos c82).trans (rfl))))))))))
                      rw [e9]
                      exact cx_handleT XX hr hlocks hA hK k so a b w (xf_handlerOf a σ) σ hok (xokr_handlerOf hok) (xkind_in c17) H locs ls hP hD hS (lv_sub hl [2, 3, 4, 5, 6, 7, 1, 0] rfl)
                · refine lv_bipush (v := (-4)) hx hb dX1_handle_63 (by decide) ?_
                  have e9 : xf_handle k so a b w σ = ((-4), σ) := (if_neg c1).trans ((if_pos c7).trans ((if_neg c17).trans ((if_neg c27).trans ((if_pos c35).trans ((if_neg c40).trans ((if_pos c47).trans ((if_neg c60).trans (rfl))))))))
                  refine W.widen (k := 1) (n := 8) (by omega) (by omega) ?_
                  exact z_reti2 (wf := fun u9 : SX × (Nat → Nat) => xW O K u9.2 u9.1) (u := (σ, ad)) hx hb hr hlocks hK hP hD hS ⟨(congrArg Prod.fst e9).symm, (congrArg Prod.snd e9).symm⟩ dX1_handle_65
              · refine lv_bipush (v := (-3)) hx hb dX1_handle_50 (by decide) ?_
                have e9 : xf_handle k so a b w σ = ((-3), σ) := (if_neg c1).trans ((if_pos c7).trans ((if_neg c17).trans ((if_neg c27).trans ((if_pos c35).trans ((if_neg c40).trans ((if_neg c47).trans (rfl)))))))
                refine W.widen (k := 1) (n := 8) (by omega) (by omega) ?_
                exact z_reti2 (wf := fun u9 : SX × (Nat → Nat) => xW O K u9.2 u9.1) (u := (σ, ad)) hx hb hr hlocks hK hP hD hS ⟨(congrArg Prod.fst e9).symm, (congrArg Prod.snd e9).symm⟩ dX1_handle_52
        · refine lv_bipush (v := (-2)) hx hb dX1_handle_30 (by decide) ?_
          have e9 : xf_handle k so a b w σ = ((-2), σ) := (if_neg c1).trans ((if_pos c7).trans ((if_neg c17).trans ((if_pos c27).trans (rfl))))
          refine W.widen (k := 1) (n := 8) (by omega) (by omega) ?_
          exact z_reti2 (wf := fun u9 : SX × (Nat → Nat) => xW O K u9.2 u9.1) (u := (σ, ad)) hx hb hr hlocks hK hP hD hS ⟨(congrArg Prod.fst e9).symm, (congrArg Prod.snd e9).symm⟩ dX1_handle_32
    · refine lv_bipush (v := (-3)) hx hb dX1_handle_10 (by decide) ?_
      have e9 : xf_handle k so a b w σ = ((-3), σ) := (if_neg c1).trans ((if_neg c7).trans (rfl))
      refine W.widen (k := 1) (n := 8) (by omega) (by omega) ?_
      exact z_reti2 (wf := fun u9 : SX × (Nat → Nat) => xW O K u9.2 u9.1) (u := (σ, ad)) hx hb hr hlocks hK hP hD hS ⟨(congrArg Prod.fst e9).symm, (congrArg Prod.snd e9).symm⟩ dX1_handle_12
end
