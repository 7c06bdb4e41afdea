section
-- ===== PART A: goes FIRST, ahead of the names: the tables' words, and 'selects' of the private methods out of them =====
/-- a private method of a class that the tables say can be made, by its rows of tables_1 -/
def lw_okq (q : MethodName × Nat) : Prop := (q.1.cls ≠ "java/lang/invoke/MethodHandle" ∧ q.1.cls ≠ "java/lang/invoke/VarHandle") ∧ Cond.instantiable q.1.cls q.2 ∈ tables_1 ∧ Cond.privateMethod q.1 ∈ tables_1 ∧ Cond.instanceMethod q.1 ∈ tables_1
theorem lw_p0 : lw_okq (⟨"FindsOffice", "isPast", "(I)Z"⟩, 7) := ⟨⟨by decide +kernel, by decide +kernel⟩, List.mem_of_getElem? (i := 15) (by decide +kernel), List.mem_of_getElem? (i := 354) (by decide +kernel), List.mem_of_getElem? (i := 355) (by decide +kernel)⟩
theorem lw_p1 : lw_okq (⟨"FindsOffice", "hoardSizeOn", "(II)I"⟩, 7) := ⟨⟨by decide +kernel, by decide +kernel⟩, List.mem_of_getElem? (i := 15) (by decide +kernel), List.mem_of_getElem? (i := 358) (by decide +kernel), List.mem_of_getElem? (i := 359) (by decide +kernel)⟩
theorem lw_p2 : lw_okq (⟨"FindsOffice", "isTreasureOn", "(II)Z"⟩, 7) := ⟨⟨by decide +kernel, by decide +kernel⟩, List.mem_of_getElem? (i := 15) (by decide +kernel), List.mem_of_getElem? (i := 370) (by decide +kernel), List.mem_of_getElem? (i := 371) (by decide +kernel)⟩
theorem lw_p3 : lw_okq (⟨"FindsOffice", "lawThatCounts", "(I)LFindsOffice$Law;"⟩, 7) := ⟨⟨by decide +kernel, by decide +kernel⟩, List.mem_of_getElem? (i := 15) (by decide +kernel), List.mem_of_getElem? (i := 374) (by decide +kernel), List.mem_of_getElem? (i := 375) (by decide +kernel)⟩
theorem lw_p4 : lw_okq (⟨"FindsOffice", "landownerOf", "(LFindsOffice$Find;)I"⟩, 7) := ⟨⟨by decide +kernel, by decide +kernel⟩, List.mem_of_getElem? (i := 15) (by decide +kernel), List.mem_of_getElem? (i := 399) (by decide +kernel), List.mem_of_getElem? (i := 400) (by decide +kernel)⟩
theorem lw_p5 : lw_okq (⟨"FindsOffice", "worthNow", "(LFindsOffice$Find;)I"⟩, 7) := ⟨⟨by decide +kernel, by decide +kernel⟩, List.mem_of_getElem? (i := 15) (by decide +kernel), List.mem_of_getElem? (i := 467) (by decide +kernel), List.mem_of_getElem? (i := 468) (by decide +kernel)⟩
theorem lw_p6 : lw_okq (⟨"FindsOffice", "rewardFor", "(II)I"⟩, 7) := ⟨⟨by decide +kernel, by decide +kernel⟩, List.mem_of_getElem? (i := 15) (by decide +kernel), List.mem_of_getElem? (i := 494) (by decide +kernel), List.mem_of_getElem? (i := 495) (by decide +kernel)⟩
theorem lw_p7 : lw_okq (⟨"FindsOffice", "stillOpen", "(I)I"⟩, 7) := ⟨⟨by decide +kernel, by decide +kernel⟩, List.mem_of_getElem? (i := 15) (by decide +kernel), List.mem_of_getElem? (i := 502) (by decide +kernel), List.mem_of_getElem? (i := 503) (by decide +kernel)⟩
theorem lw_p8 : lw_okq (⟨"FindsOffice", "hoardsNow", "()I"⟩, 7) := ⟨⟨by decide +kernel, by decide +kernel⟩, List.mem_of_getElem? (i := 15) (by decide +kernel), List.mem_of_getElem? (i := 600) (by decide +kernel), List.mem_of_getElem? (i := 601) (by decide +kernel)⟩
theorem lw_p9 : lw_okq (⟨"FindsOffice", "treasuresNow", "()I"⟩, 7) := ⟨⟨by decide +kernel, by decide +kernel⟩, List.mem_of_getElem? (i := 15) (by decide +kernel), List.mem_of_getElem? (i := 604) (by decide +kernel), List.mem_of_getElem? (i := 605) (by decide +kernel)⟩
theorem lw_p10 : lw_okq (⟨"FindsOfficeModel", "isFind", "(I)Z"⟩, 38) := ⟨⟨by decide +kernel, by decide +kernel⟩, List.mem_of_getElem? (i := 609) (by decide +kernel), List.mem_of_getElem? (i := 759) (by decide +kernel), List.mem_of_getElem? (i := 760) (by decide +kernel)⟩
theorem lw_p11 : lw_okq (⟨"FindsOfficeModel", "reaches", "(II)I"⟩, 38) := ⟨⟨by decide +kernel, by decide +kernel⟩, List.mem_of_getElem? (i := 609) (by decide +kernel), List.mem_of_getElem? (i := 767) (by decide +kernel), List.mem_of_getElem? (i := 768) (by decide +kernel)⟩
theorem lw_p12 : lw_okq (⟨"FindsOfficeModel", "isJoined", "(III)Z"⟩, 38) := ⟨⟨by decide +kernel, by decide +kernel⟩, List.mem_of_getElem? (i := 609) (by decide +kernel), List.mem_of_getElem? (i := 771) (by decide +kernel), List.mem_of_getElem? (i := 772) (by decide +kernel)⟩
theorem lw_p13 : lw_okq (⟨"FindsOfficeModel", "isKnown", "(II)Z"⟩, 38) := ⟨⟨by decide +kernel, by decide +kernel⟩, List.mem_of_getElem? (i := 609) (by decide +kernel), List.mem_of_getElem? (i := 779) (by decide +kernel), List.mem_of_getElem? (i := 780) (by decide +kernel)⟩
theorem lw_p14 : lw_okq (⟨"FindsOfficeModel", "lawOf", "(I)I"⟩, 38) := ⟨⟨by decide +kernel, by decide +kernel⟩, List.mem_of_getElem? (i := 609) (by decide +kernel), List.mem_of_getElem? (i := 787) (by decide +kernel), List.mem_of_getElem? (i := 788) (by decide +kernel)⟩
theorem lw_p15 : lw_okq (⟨"FindsOfficeModel", "ownerOf", "(I)I"⟩, 38) := ⟨⟨by decide +kernel, by decide +kernel⟩, List.mem_of_getElem? (i := 609) (by decide +kernel), List.mem_of_getElem? (i := 804) (by decide +kernel), List.mem_of_getElem? (i := 805) (by decide +kernel)⟩
def lw_privs_1 : List (MethodName × Nat) := [(⟨"FindsOffice", "isPast", "(I)Z"⟩, 7), (⟨"FindsOffice", "hoardSizeOn", "(II)I"⟩, 7), (⟨"FindsOffice", "isTreasureOn", "(II)Z"⟩, 7), (⟨"FindsOffice", "lawThatCounts", "(I)LFindsOffice$Law;"⟩, 7), (⟨"FindsOffice", "landownerOf", "(LFindsOffice$Find;)I"⟩, 7), (⟨"FindsOffice", "worthNow", "(LFindsOffice$Find;)I"⟩, 7), (⟨"FindsOffice", "rewardFor", "(II)I"⟩, 7), (⟨"FindsOffice", "stillOpen", "(I)I"⟩, 7), (⟨"FindsOffice", "hoardsNow", "()I"⟩, 7), (⟨"FindsOffice", "treasuresNow", "()I"⟩, 7), (⟨"FindsOfficeModel", "isFind", "(I)Z"⟩, 38), (⟨"FindsOfficeModel", "reaches", "(II)I"⟩, 38), (⟨"FindsOfficeModel", "isJoined", "(III)Z"⟩, 38), (⟨"FindsOfficeModel", "isKnown", "(II)Z"⟩, 38), (⟨"FindsOfficeModel", "lawOf", "(I)I"⟩, 38), (⟨"FindsOfficeModel", "ownerOf", "(I)I"⟩, 38)]
theorem lw_r1 : ∀ q ∈ lw_privs_1, lw_okq q := List.forall_mem_cons.mpr ⟨lw_p0, List.forall_mem_cons.mpr ⟨lw_p1, List.forall_mem_cons.mpr ⟨lw_p2, List.forall_mem_cons.mpr ⟨lw_p3, List.forall_mem_cons.mpr ⟨lw_p4, List.forall_mem_cons.mpr ⟨lw_p5, List.forall_mem_cons.mpr ⟨lw_p6, List.forall_mem_cons.mpr ⟨lw_p7, List.forall_mem_cons.mpr ⟨lw_p8, List.forall_mem_cons.mpr ⟨lw_p9, List.forall_mem_cons.mpr ⟨lw_p10, List.forall_mem_cons.mpr ⟨lw_p11, List.forall_mem_cons.mpr ⟨lw_p12, List.forall_mem_cons.mpr ⟨lw_p13, List.forall_mem_cons.mpr ⟨lw_p14, List.forall_mem_cons.mpr ⟨lw_p15, fun _ h => absurd h List.not_mem_nil⟩⟩⟩⟩⟩⟩⟩⟩⟩⟩⟩⟩⟩⟩⟩⟩
theorem lw_p16 : lw_okq (⟨"FindsOfficeModel", "ownerOn", "(II)I"⟩, 38) := ⟨⟨by decide +kernel, by decide +kernel⟩, List.mem_of_getElem? (i := 609) (by decide +kernel), List.mem_of_getElem? (i := 808) (by decide +kernel), List.mem_of_getElem? (i := 809) (by decide +kernel)⟩
theorem lw_p17 : lw_okq (⟨"FindsOfficeModel", "turn", "()I"⟩, 38) := ⟨⟨by decide +kernel, by decide +kernel⟩, List.mem_of_getElem? (i := 609) (by decide +kernel), List.mem_of_getElem? (i := 866) (by decide +kernel), List.mem_of_getElem? (i := 867) (by decide +kernel)⟩
def lw_privs_2 : List (MethodName × Nat) := [(⟨"FindsOfficeModel", "ownerOn", "(II)I"⟩, 38), (⟨"FindsOfficeModel", "turn", "()I"⟩, 38)]
theorem lw_r2 : ∀ q ∈ lw_privs_2, lw_okq q := List.forall_mem_cons.mpr ⟨lw_p16, List.forall_mem_cons.mpr ⟨lw_p17, fun _ h => absurd h List.not_mem_nil⟩⟩
def lw_privs : List (MethodName × Nat) := lw_privs_1 ++ (lw_privs_2)
def lw_tbl : List Cond := k2_sels lw_privs ++ tables_1
theorem lw_privs_ok : ∀ q ∈ lw_privs, lw_okq q := by
  show ∀ q ∈ lw_privs_1 ++ (lw_privs_2), lw_okq q
  exact List.forall_mem_append.mpr ⟨lw_r1, lw_r2⟩
end
section
/-! ===== BEGIN words of one list among another's, by their places ===== -/
theorem goodIn_r {big : List Cond} (ws : List Cond) (ps : List Nat) (hp : ws = ps.filterMap (fun i => big[i]?)) (h : ws.all goodWord = true) : GoodIn big ws := by
  intro w hw
  have h1 := List.all_eq_true.mp h w hw
  rw [hp] at hw
  obtain ⟨i, -, hi⟩ := List.mem_filterMap.mp hw
  have hm : w ∈ big := by first | exact List.mem_of_getElem? hi | exact List.getElem?_mem hi
  exact ⟨hm, good_of_word h1⟩
theorem goodIn_app {big a b : List Cond} (ha : GoodIn big a) (hb : GoodIn big b) : GoodIn big (a ++ b) := fun w h => (List.mem_append.mp h).elim (ha w) (hb w)
theorem goodIn_ca {big a b : List Cond} {c : Cond} (ha : GoodIn big (c :: a)) (hb : GoodIn big b) : GoodIn big (c :: (a ++ b)) := fun w h => (List.mem_cons.mp h).elim (fun e => ha w (List.mem_cons.mpr (Or.inl e))) (fun h => (List.mem_append.mp h).elim (fun h => ha w (List.mem_cons.mpr (Or.inr h))) (hb w))
theorem goodIn_sub {big ws : List Cond} (hm : ∀ w ∈ ws, w ∈ big) (h : ws.all goodWord = true) : GoodIn big ws := fun w hw => ⟨hm w hw, good_of_word (List.all_eq_true.mp h w hw)⟩
/-! ===== END ===== -/

/-! ===== BEGIN printed: names, fields, word lists, decode rows ===== -/
def RX0 : String := "FindsOffice$Circle"
def TX0 : u_T := fun k => match k with
  | 0 => ("FindsOffice$Circle", "museums", "[LFindsOffice$Museum;", true)
  | 1 => ("FindsOffice$Circle", "told", "I", false)
  | _ => ("FindsOffice$Circle", "behindLatest", "I", false)
def tyX0 : Nat → FieldType := fun k => match k with
  | 0 => .array (.object "FindsOffice$Museum")
  | 1 => .int
  | _ => .int
abbrev wsX00 : List Cond := u_ws RX0 TX0 3
theorem nmX0 : ∀ a, a < 3 → ∀ b, b < 3 → a ≠ b → (TX0 a).2.1 ≠ (TX0 b).2.1 := by decide +kernel
theorem tyX0_ok : ∀ k, k < 3 → parseFieldDescriptor (TX0 k).2.2.1 = some (tyX0 k) := by decide +kernel
abbrev cX0_init : ByteArray := prog_2_method_1_code
def yX0_init : MethodName := ⟨RX0, "<init>", "()V"⟩
abbrev cX0_enter : ByteArray := prog_2_method_2_code
def yX0_enter : MethodName := ⟨RX0, "enter", "(LFindsOffice$Museum;)I"⟩
abbrev cX0_numbered : ByteArray := prog_2_method_3_code
def yX0_numbered : MethodName := ⟨RX0, "numbered", "(I)LFindsOffice$Museum;"⟩
abbrev cX0_next : ByteArray := prog_2_method_4_code
def yX0_next : MethodName := ⟨RX0, "next", "()I"⟩
abbrev cX0_sell : ByteArray := prog_2_method_5_code
def yX0_sell : MethodName := ⟨RX0, "sell", "(II)I"⟩
def RX1 : String := "FindsOffice$Find"
def TX1 : u_T := fun k => match k with
  | 0 => ("FindsOffice$Find", "x", "I", true)
  | 1 => ("FindsOffice$Find", "y", "I", true)
  | 2 => ("FindsOffice$Find", "metal", "I", true)
  | 3 => ("FindsOffice$Find", "purity", "I", true)
  | 4 => ("FindsOffice$Find", "weight", "I", true)
  | 5 => ("FindsOffice$Find", "firstYear", "I", true)
  | 6 => ("FindsOffice$Find", "lastYear", "I", true)
  | 7 => ("FindsOffice$Find", "found", "I", true)
  | 8 => ("FindsOffice$Find", "finder", "I", true)
  | 9 => ("FindsOffice$Find", "known", "I", true)
  | _ => ("FindsOffice$Find", "keeper", "I", false)
def tyX1 : Nat → FieldType := fun k => match k with
  | 0 => .int
  | 1 => .int
  | 2 => .int
  | 3 => .int
  | 4 => .int
  | 5 => .int
  | 6 => .int
  | 7 => .int
  | 8 => .int
  | 9 => .int
  | _ => .int
abbrev wsX10 : List Cond := u_ws RX1 TX1 11
theorem nmX1 : ∀ a, a < 11 → ∀ b, b < 11 → a ≠ b → (TX1 a).2.1 ≠ (TX1 b).2.1 := by decide +kernel
theorem tyX1_ok : ∀ k, k < 11 → parseFieldDescriptor (TX1 k).2.2.1 = some (tyX1 k) := by decide +kernel
abbrev cX1_init : ByteArray := prog_3_method_1_code
def yX1_init : MethodName := ⟨RX1, "<init>", "(IIIII)V"⟩
abbrev cX1_isPossible : ByteArray := prog_3_method_2_code
def yX1_isPossible : MethodName := ⟨RX1, "isPossible", "()Z"⟩
abbrev cX1_plot : ByteArray := prog_3_method_3_code
def yX1_plot : MethodName := ⟨RX1, "plot", "()I"⟩
abbrev cX1_isNear : ByteArray := prog_3_method_4_code
def yX1_isNear : MethodName := ⟨RX1, "isNear", "(LFindsOffice$Find;)Z"⟩
def RX2 : String := "FindsOffice$FindBook"
def TX2 : u_T := fun k => match k with
  | 0 => ("FindsOffice$FindBook", "finds", "[LFindsOffice$Find;", true)
  | 1 => ("FindsOffice$FindBook", "told", "I", false)
  | 2 => ("FindsOffice$FindBook", "partedOn", "[I", true)
  | 3 => ("FindsOffice$FindBook", "pairsParted", "I", false)
  | 4 => ("FindsOffice$FindBook", "hoardOf", "[I", true)
  | 5 => ("FindsOffice$FindBook", "sizeOf", "[I", true)
  | _ => ("FindsOffice$FindBook", "reached", "[I", true)
def tyX2 : Nat → FieldType := fun k => match k with
  | 0 => .array (.object "FindsOffice$Find")
  | 1 => .int
  | 2 => .array .int
  | 3 => .int
  | 4 => .array .int
  | 5 => .array .int
  | _ => .array .int
abbrev wsX20 : List Cond := u_ws RX2 TX2 7
theorem nmX2 : ∀ a, a < 7 → ∀ b, b < 7 → a ≠ b → (TX2 a).2.1 ≠ (TX2 b).2.1 := by decide +kernel
theorem tyX2_ok : ∀ k, k < 7 → parseFieldDescriptor (TX2 k).2.2.1 = some (tyX2 k) := by decide +kernel
abbrev cX2_init : ByteArray := prog_4_method_1_code
def yX2_init : MethodName := ⟨RX2, "<init>", "()V"⟩
abbrev cX2_enter : ByteArray := prog_4_method_2_code
def yX2_enter : MethodName := ⟨RX2, "enter", "(LFindsOffice$Find;)I"⟩
abbrev cX2_isTold : ByteArray := prog_4_method_3_code
def yX2_isTold : MethodName := ⟨RX2, "isTold", "(I)Z"⟩
abbrev cX2_numbered : ByteArray := prog_4_method_4_code
def yX2_numbered : MethodName := ⟨RX2, "numbered", "(I)LFindsOffice$Find;"⟩
abbrev cX2_separate : ByteArray := prog_4_method_5_code
def yX2_separate : MethodName := ⟨RX2, "separate", "(III)Z"⟩
abbrev cX2_pairOf : ByteArray := prog_4_method_6_code
def yX2_pairOf : MethodName := ⟨RX2, "pairOf", "(II)I"⟩
abbrev cX2_isJoined : ByteArray := prog_4_method_7_code
def yX2_isJoined : MethodName := ⟨RX2, "isJoined", "(III)Z"⟩
abbrev cX2_gatherHoards : ByteArray := prog_4_method_8_code
def yX2_gatherHoards : MethodName := ⟨RX2, "gatherHoards", "(I)V"⟩
abbrev cX2_knownBy : ByteArray := prog_4_method_9_code
def yX2_knownBy : MethodName := ⟨RX2, "knownBy", "(I)I"⟩
abbrev cX2_gatherFrom : ByteArray := prog_4_method_10_code
def yX2_gatherFrom : MethodName := ⟨RX2, "gatherFrom", "(III)I"⟩
abbrev cX2_hoardNumber : ByteArray := prog_4_method_11_code
def yX2_hoardNumber : MethodName := ⟨RX2, "hoardNumber", "(I)I"⟩
abbrev cX2_hoardSize : ByteArray := prog_4_method_12_code
def yX2_hoardSize : MethodName := ⟨RX2, "hoardSize", "(I)I"⟩
abbrev cX2_tally : ByteArray := prog_4_method_13_code
def yX2_tally : MethodName := ⟨RX2, "tally", "(IIII)I"⟩
def RX3 : String := "FindsOffice$LandBook"
def TX3 : u_T := fun k => match k with
  | 0 => ("FindsOffice$LandBook", "plots", "[I", true)
  | 1 => ("FindsOffice$LandBook", "days", "[I", true)
  | 2 => ("FindsOffice$LandBook", "holders", "[I", true)
  | _ => ("FindsOffice$LandBook", "told", "I", false)
def tyX3 : Nat → FieldType := fun k => match k with
  | 0 => .array .int
  | 1 => .array .int
  | 2 => .array .int
  | _ => .int
abbrev wsX30 : List Cond := u_ws RX3 TX3 4
theorem nmX3 : ∀ a, a < 4 → ∀ b, b < 4 → a ≠ b → (TX3 a).2.1 ≠ (TX3 b).2.1 := by decide +kernel
theorem tyX3_ok : ∀ k, k < 4 → parseFieldDescriptor (TX3 k).2.2.1 = some (tyX3 k) := by decide +kernel
abbrev cX3_init : ByteArray := prog_5_method_1_code
def yX3_init : MethodName := ⟨RX3, "<init>", "()V"⟩
abbrev cX3_enter : ByteArray := prog_5_method_2_code
def yX3_enter : MethodName := ⟨RX3, "enter", "(III)Z"⟩
abbrev cX3_holderOn : ByteArray := prog_5_method_3_code
def yX3_holderOn : MethodName := ⟨RX3, "holderOn", "(II)I"⟩
def RX4 : String := "FindsOffice$Law"
def TX4 : u_T := fun k => match k with
  | 0 => ("FindsOffice$Law", "from", "I", true)
  | 1 => ("FindsOffice$Law", "age", "I", true)
  | 2 => ("FindsOffice$Law", "parts", "I", true)
  | 3 => ("FindsOffice$Law", "percent", "I", true)
  | _ => ("FindsOffice$Law", "together", "I", true)
def tyX4 : Nat → FieldType := fun k => match k with
  | 0 => .int
  | 1 => .int
  | 2 => .int
  | 3 => .int
  | _ => .int
abbrev wsX40 : List Cond := u_ws RX4 TX4 5
theorem nmX4 : ∀ a, a < 5 → ∀ b, b < 5 → a ≠ b → (TX4 a).2.1 ≠ (TX4 b).2.1 := by decide +kernel
theorem tyX4_ok : ∀ k, k < 5 → parseFieldDescriptor (TX4 k).2.2.1 = some (tyX4 k) := by decide +kernel
abbrev cX4_init : ByteArray := prog_6_method_1_code
def yX4_init : MethodName := ⟨RX4, "<init>", "(III)V"⟩
abbrev cX4_isPossible : ByteArray := prog_6_method_2_code
def yX4_isPossible : MethodName := ⟨RX4, "isPossible", "()Z"⟩
abbrev cX4_covers : ByteArray := prog_6_method_3_code
def yX4_covers : MethodName := ⟨RX4, "covers", "(LFindsOffice$Find;I)Z"⟩
def RX5 : String := "FindsOffice$LawBook"
def TX5 : u_T := fun k => match k with
  | 0 => ("FindsOffice$LawBook", "laws", "[LFindsOffice$Law;", true)
  | _ => ("FindsOffice$LawBook", "told", "I", false)
def tyX5 : Nat → FieldType := fun k => match k with
  | 0 => .array (.object "FindsOffice$Law")
  | _ => .int
abbrev wsX50 : List Cond := u_ws RX5 TX5 2
theorem nmX5 : ∀ a, a < 2 → ∀ b, b < 2 → a ≠ b → (TX5 a).2.1 ≠ (TX5 b).2.1 := by decide +kernel
theorem tyX5_ok : ∀ k, k < 2 → parseFieldDescriptor (TX5 k).2.2.1 = some (tyX5 k) := by decide +kernel
abbrev cX5_init : ByteArray := prog_7_method_1_code
def yX5_init : MethodName := ⟨RX5, "<init>", "()V"⟩
abbrev cX5_enact : ByteArray := prog_7_method_2_code
def yX5_enact : MethodName := ⟨RX5, "enact", "(LFindsOffice$Law;)I"⟩
abbrev cX5_inForce : ByteArray := prog_7_method_3_code
def yX5_inForce : MethodName := ⟨RX5, "inForce", "(I)LFindsOffice$Law;"⟩
def RX6 : String := "FindsOffice$Market"
def TX6 : u_T := fun k => match k with
  | 0 => ("FindsOffice$Market", "sales", "[LFindsOffice$Sale;", true)
  | 1 => ("FindsOffice$Market", "told", "I", false)
  | _ => ("FindsOffice$Market", "levels", "[I", true)
def tyX6 : Nat → FieldType := fun k => match k with
  | 0 => .array (.object "FindsOffice$Sale")
  | 1 => .int
  | _ => .array .int
abbrev wsX60 : List Cond := u_ws RX6 TX6 3
theorem nmX6 : ∀ a, a < 3 → ∀ b, b < 3 → a ≠ b → (TX6 a).2.1 ≠ (TX6 b).2.1 := by decide +kernel
theorem tyX6_ok : ∀ k, k < 3 → parseFieldDescriptor (TX6 k).2.2.1 = some (tyX6 k) := by decide +kernel
abbrev cX6_init : ByteArray := prog_8_method_1_code
def yX6_init : MethodName := ⟨RX6, "<init>", "()V"⟩
abbrev cX6_setLevel : ByteArray := prog_8_method_2_code
def yX6_setLevel : MethodName := ⟨RX6, "setLevel", "(II)Z"⟩
abbrev cX6_levelIn : ByteArray := prog_8_method_3_code
def yX6_levelIn : MethodName := ⟨RX6, "levelIn", "(I)I"⟩
abbrev cX6_enter : ByteArray := prog_8_method_4_code
def yX6_enter : MethodName := ⟨RX6, "enter", "(LFindsOffice$Sale;)I"⟩
abbrev cX6_salesOf : ByteArray := prog_8_method_5_code
def yX6_salesOf : MethodName := ⟨RX6, "salesOf", "(I)I"⟩
abbrev cX6_appraise : ByteArray := prog_8_method_6_code
def yX6_appraise : MethodName := ⟨RX6, "appraise", "(III)I"⟩
abbrev cX6_priceIn : ByteArray := prog_8_method_7_code
def yX6_priceIn : MethodName := ⟨RX6, "priceIn", "(ILFindsOffice$Sale;)J"⟩
def RX7 : String := "FindsOffice$Museum"
def TX7 : u_T := fun k => match k with
  | 0 => ("FindsOffice$Museum", "metals", "I", true)
  | 1 => ("FindsOffice$Museum", "mostWorth", "I", true)
  | _ => ("FindsOffice$Museum", "outlay", "I", false)
def tyX7 : Nat → FieldType := fun k => match k with
  | 0 => .int
  | 1 => .int
  | _ => .int
abbrev wsX70 : List Cond := u_ws RX7 TX7 3
theorem nmX7 : ∀ a, a < 3 → ∀ b, b < 3 → a ≠ b → (TX7 a).2.1 ≠ (TX7 b).2.1 := by decide +kernel
theorem tyX7_ok : ∀ k, k < 3 → parseFieldDescriptor (TX7 k).2.2.1 = some (tyX7 k) := by decide +kernel
abbrev cX7_init : ByteArray := prog_9_method_1_code
def yX7_init : MethodName := ⟨RX7, "<init>", "(II)V"⟩
abbrev cX7_isPossible : ByteArray := prog_9_method_2_code
def yX7_isPossible : MethodName := ⟨RX7, "isPossible", "()Z"⟩
abbrev cX7_takes : ByteArray := prog_9_method_3_code
def yX7_takes : MethodName := ⟨RX7, "takes", "(II)Z"⟩
def RX8 : String := "FindsOffice$Sale"
def TX8 : u_T := fun k => match k with
  | 0 => ("FindsOffice$Sale", "metal", "I", true)
  | 1 => ("FindsOffice$Sale", "day", "I", true)
  | 2 => ("FindsOffice$Sale", "weight", "I", true)
  | _ => ("FindsOffice$Sale", "price", "I", true)
def tyX8 : Nat → FieldType := fun k => match k with
  | 0 => .int
  | 1 => .int
  | 2 => .int
  | _ => .int
abbrev wsX80 : List Cond := u_ws RX8 TX8 4
theorem nmX8 : ∀ a, a < 4 → ∀ b, b < 4 → a ≠ b → (TX8 a).2.1 ≠ (TX8 b).2.1 := by decide +kernel
theorem tyX8_ok : ∀ k, k < 4 → parseFieldDescriptor (TX8 k).2.2.1 = some (tyX8 k) := by decide +kernel
abbrev cX8_init : ByteArray := prog_10_method_1_code
def yX8_init : MethodName := ⟨RX8, "<init>", "(IIII)V"⟩
abbrev cX8_isPossible : ByteArray := prog_10_method_2_code
def yX8_isPossible : MethodName := ⟨RX8, "isPossible", "()Z"⟩
def RX9 : String := "FindsOffice"
def TX9 : u_T := fun k => match k with
  | 0 => ("FindsOffice", "now", "I", false)
  | 1 => ("FindsOffice", "lawBook", "LFindsOffice$LawBook;", true)
  | 2 => ("FindsOffice", "landBook", "LFindsOffice$LandBook;", true)
  | 3 => ("FindsOffice", "findBook", "LFindsOffice$FindBook;", true)
  | 4 => ("FindsOffice", "market", "LFindsOffice$Market;", true)
  | 5 => ("FindsOffice", "circle", "LFindsOffice$Circle;", true)
  | _ => ("FindsOffice", "paidTo", "[I", true)
def tyX9 : Nat → FieldType := fun k => match k with
  | 0 => .int
  | 1 => .object "FindsOffice$LawBook"
  | 2 => .object "FindsOffice$LandBook"
  | 3 => .object "FindsOffice$FindBook"
  | 4 => .object "FindsOffice$Market"
  | 5 => .object "FindsOffice$Circle"
  | _ => .array .int
abbrev wsX90 : List Cond := u_ws RX9 TX9 7
theorem nmX9 : ∀ a, a < 7 → ∀ b, b < 7 → a ≠ b → (TX9 a).2.1 ≠ (TX9 b).2.1 := by decide +kernel
theorem tyX9_ok : ∀ k, k < 7 → parseFieldDescriptor (TX9 k).2.2.1 = some (tyX9 k) := by decide +kernel
abbrev cX9_init : ByteArray := prog_1_method_1_code
def yX9_init : MethodName := ⟨RX9, "<init>", "()V"⟩
abbrev cX9_go : ByteArray := prog_1_method_2_code
def yX9_go : MethodName := ⟨RX9, "go", "(I)I"⟩
abbrev cX9_law : ByteArray := prog_1_method_3_code
def yX9_law : MethodName := ⟨RX9, "law", "(III)I"⟩
abbrev cX9_owner : ByteArray := prog_1_method_4_code
def yX9_owner : MethodName := ⟨RX9, "owner", "(III)Z"⟩
abbrev cX9_find : ByteArray := prog_1_method_5_code
def yX9_find : MethodName := ⟨RX9, "find", "(IIII)I"⟩
abbrev cX9_part : ByteArray := prog_1_method_6_code
def yX9_part : MethodName := ⟨RX9, "part", "(II)Z"⟩
abbrev cX9_hoard : ByteArray := prog_1_method_7_code
def yX9_hoard : MethodName := ⟨RX9, "hoard", "(I)I"⟩
abbrev cX9_size : ByteArray := prog_1_method_8_code
def yX9_size : MethodName := ⟨RX9, "size", "(II)I"⟩
abbrev cX9_counts : ByteArray := prog_1_method_9_code
def yX9_counts : MethodName := ⟨RX9, "counts", "(I)Z"⟩
abbrev cX9_counted : ByteArray := prog_1_method_10_code
def yX9_counted : MethodName := ⟨RX9, "counted", "(II)Z"⟩
abbrev cX9_told : ByteArray := prog_1_method_11_code
def yX9_told : MethodName := ⟨RX9, "told", "(II)I"⟩
abbrev cX9_index : ByteArray := prog_1_method_12_code
def yX9_index : MethodName := ⟨RX9, "index", "(II)Z"⟩
abbrev cX9_sale : ByteArray := prog_1_method_13_code
def yX9_sale : MethodName := ⟨RX9, "sale", "(IIII)I"⟩
abbrev cX9_worth : ByteArray := prog_1_method_14_code
def yX9_worth : MethodName := ⟨RX9, "worth", "(I)I"⟩
abbrev cX9_share : ByteArray := prog_1_method_15_code
def yX9_share : MethodName := ⟨RX9, "share", "(II)I"⟩
abbrev cX9_due : ByteArray := prog_1_method_16_code
def yX9_due : MethodName := ⟨RX9, "due", "(I)I"⟩
abbrev cX9_settle : ByteArray := prog_1_method_17_code
def yX9_settle : MethodName := ⟨RX9, "settle", "(I)I"⟩
abbrev cX9_paid : ByteArray := prog_1_method_18_code
def yX9_paid : MethodName := ⟨RX9, "paid", "(I)I"⟩
abbrev cX9_place : ByteArray := prog_1_method_19_code
def yX9_place : MethodName := ⟨RX9, "place", "(II)I"⟩
abbrev cX9_within : ByteArray := prog_1_method_20_code
def yX9_within : MethodName := ⟨RX9, "within", "(III)I"⟩
abbrev cX9_museum : ByteArray := prog_1_method_21_code
def yX9_museum : MethodName := ⟨RX9, "museum", "(II)I"⟩
abbrev cX9_offer : ByteArray := prog_1_method_22_code
def yX9_offer : MethodName := ⟨RX9, "offer", "(I)I"⟩
abbrev cX9_spent : ByteArray := prog_1_method_23_code
def yX9_spent : MethodName := ⟨RX9, "spent", "(I)I"⟩
abbrev cX9_count : ByteArray := prog_1_method_24_code
def yX9_count : MethodName := ⟨RX9, "count", "(I)I"⟩
abbrev cX9_isBetween : ByteArray := prog_1_method_25_code
def yX9_isBetween : MethodName := ⟨RX9, "isBetween", "(III)Z"⟩
abbrev cX9_isDay : ByteArray := prog_1_method_26_code
def yX9_isDay : MethodName := ⟨RX9, "isDay", "(I)Z"⟩
abbrev cX9_isPerson : ByteArray := prog_1_method_27_code
def yX9_isPerson : MethodName := ⟨RX9, "isPerson", "(I)Z"⟩
abbrev cX9_isMetal : ByteArray := prog_1_method_28_code
def yX9_isMetal : MethodName := ⟨RX9, "isMetal", "(I)Z"⟩
abbrev cX9_isRank : ByteArray := prog_1_method_29_code
def yX9_isRank : MethodName := ⟨RX9, "isRank", "(I)Z"⟩
abbrev cX9_yearOf : ByteArray := prog_1_method_30_code
def yX9_yearOf : MethodName := ⟨RX9, "yearOf", "(I)I"⟩
abbrev cX9_roundDown : ByteArray := prog_1_method_31_code
def yX9_roundDown : MethodName := ⟨RX9, "roundDown", "(II)I"⟩
abbrev cX9_isCorner : ByteArray := prog_1_method_32_code
def yX9_isCorner : MethodName := ⟨RX9, "isCorner", "(II)Z"⟩
abbrev cX9_isPast : ByteArray := prog_1_method_33_code
def yX9_isPast : MethodName := ⟨RX9, "isPast", "(I)Z"⟩
abbrev cX9_landownerOf : ByteArray := prog_1_method_34_code
def yX9_landownerOf : MethodName := ⟨RX9, "landownerOf", "(LFindsOffice$Find;)I"⟩
abbrev cX9_worthNow : ByteArray := prog_1_method_35_code
def yX9_worthNow : MethodName := ⟨RX9, "worthNow", "(LFindsOffice$Find;)I"⟩
abbrev cX9_hoardSizeOn : ByteArray := prog_1_method_36_code
def yX9_hoardSizeOn : MethodName := ⟨RX9, "hoardSizeOn", "(II)I"⟩
abbrev cX9_isTreasureOn : ByteArray := prog_1_method_37_code
def yX9_isTreasureOn : MethodName := ⟨RX9, "isTreasureOn", "(II)Z"⟩
abbrev cX9_lawThatCounts : ByteArray := prog_1_method_38_code
def yX9_lawThatCounts : MethodName := ⟨RX9, "lawThatCounts", "(I)LFindsOffice$Law;"⟩
abbrev cX9_rewardFor : ByteArray := prog_1_method_39_code
def yX9_rewardFor : MethodName := ⟨RX9, "rewardFor", "(II)I"⟩
abbrev cX9_stillOpen : ByteArray := prog_1_method_40_code
def yX9_stillOpen : MethodName := ⟨RX9, "stillOpen", "(I)I"⟩
abbrev cX9_hoardsNow : ByteArray := prog_1_method_41_code
def yX9_hoardsNow : MethodName := ⟨RX9, "hoardsNow", "()I"⟩
abbrev cX9_treasuresNow : ByteArray := prog_1_method_42_code
def yX9_treasuresNow : MethodName := ⟨RX9, "treasuresNow", "()I"⟩
def RX10 : String := "FindsOfficeModel"
def TX10 : u_T := fun k => match k with
  | 0 => ("FindsOfficeModel", "now", "I", false)
  | 1 => ("FindsOfficeModel", "finds", "I", false)
  | 2 => ("FindsOfficeModel", "x", "[I", true)
  | 3 => ("FindsOfficeModel", "y", "[I", true)
  | 4 => ("FindsOfficeModel", "metal", "[I", true)
  | 5 => ("FindsOfficeModel", "purity", "[I", true)
  | 6 => ("FindsOfficeModel", "weight", "[I", true)
  | 7 => ("FindsOfficeModel", "from", "[I", true)
  | 8 => ("FindsOfficeModel", "to", "[I", true)
  | 9 => ("FindsOfficeModel", "finder", "[I", true)
  | 10 => ("FindsOfficeModel", "foundOn", "[I", true)
  | 11 => ("FindsOfficeModel", "knownOn", "[I", true)
  | 12 => ("FindsOfficeModel", "museumOf", "[I", true)
  | 13 => ("FindsOfficeModel", "parted", "[I", true)
  | 14 => ("FindsOfficeModel", "partings", "I", false)
  | 15 => ("FindsOfficeModel", "laws", "I", false)
  | 16 => ("FindsOfficeModel", "lawDay", "[I", true)
  | 17 => ("FindsOfficeModel", "age", "[I", true)
  | 18 => ("FindsOfficeModel", "parts", "[I", true)
  | 19 => ("FindsOfficeModel", "shareOf", "[I", true)
  | 20 => ("FindsOfficeModel", "together", "[I", true)
  | 21 => ("FindsOfficeModel", "owners", "I", false)
  | 22 => ("FindsOfficeModel", "ownPlot", "[I", true)
  | 23 => ("FindsOfficeModel", "ownDay", "[I", true)
  | 24 => ("FindsOfficeModel", "ownWho", "[I", true)
  | 25 => ("FindsOfficeModel", "index", "[I", true)
  | 26 => ("FindsOfficeModel", "sales", "I", false)
  | 27 => ("FindsOfficeModel", "saleMetal", "[I", true)
  | 28 => ("FindsOfficeModel", "saleDay", "[I", true)
  | 29 => ("FindsOfficeModel", "saleWeight", "[I", true)
  | 30 => ("FindsOfficeModel", "salePrice", "[I", true)
  | 31 => ("FindsOfficeModel", "paid", "[I", true)
  | 32 => ("FindsOfficeModel", "museums", "I", false)
  | 33 => ("FindsOfficeModel", "takes", "[I", true)
  | 34 => ("FindsOfficeModel", "most", "[I", true)
  | 35 => ("FindsOfficeModel", "spent", "[I", true)
  | 36 => ("FindsOfficeModel", "latest", "I", false)
  | _ => ("FindsOfficeModel", "isReached", "[Z", true)
def tyX10 : Nat → FieldType := fun k => match k with
  | 0 => .int
  | 1 => .int
  | 2 => .array .int
  | 3 => .array .int
  | 4 => .array .int
  | 5 => .array .int
  | 6 => .array .int
  | 7 => .array .int
  | 8 => .array .int
  | 9 => .array .int
  | 10 => .array .int
  | 11 => .array .int
  | 12 => .array .int
  | 13 => .array .int
  | 14 => .int
  | 15 => .int
  | 16 => .array .int
  | 17 => .array .int
  | 18 => .array .int
  | 19 => .array .int
  | 20 => .array .int
  | 21 => .int
  | 22 => .array .int
  | 23 => .array .int
  | 24 => .array .int
  | 25 => .array .int
  | 26 => .int
  | 27 => .array .int
  | 28 => .array .int
  | 29 => .array .int
  | 30 => .array .int
  | 31 => .array .int
  | 32 => .int
  | 33 => .array .int
  | 34 => .array .int
  | 35 => .array .int
  | 36 => .int
  | _ => .array .boolean
abbrev wsX100 : List Cond := u_ws RX10 TX10 38
theorem nmX10 : ∀ a, a < 38 → ∀ b, b < 38 → a ≠ b → (TX10 a).2.1 ≠ (TX10 b).2.1 := by decide +kernel
theorem tyX10_ok : ∀ k, k < 38 → parseFieldDescriptor (TX10 k).2.2.1 = some (tyX10 k) := by decide +kernel
abbrev cX10_init : ByteArray := prog_12_method_1_code
def yX10_init : MethodName := ⟨RX10, "<init>", "()V"⟩
abbrev cX10_in : ByteArray := prog_12_method_2_code
def yX10_in : MethodName := ⟨RX10, "in", "(III)Z"⟩
abbrev cX10_isFind : ByteArray := prog_12_method_3_code
def yX10_isFind : MethodName := ⟨RX10, "isFind", "(I)Z"⟩
abbrev cX10_isPerson : ByteArray := prog_12_method_4_code
def yX10_isPerson : MethodName := ⟨RX10, "isPerson", "(I)Z"⟩
abbrev cX10_yearOf : ByteArray := prog_12_method_5_code
def yX10_yearOf : MethodName := ⟨RX10, "yearOf", "(I)I"⟩
abbrev cX10_go : ByteArray := prog_12_method_6_code
def yX10_go : MethodName := ⟨RX10, "go", "(I)I"⟩
abbrev cX10_law : ByteArray := prog_12_method_7_code
def yX10_law : MethodName := ⟨RX10, "law", "(III)I"⟩
abbrev cX10_owner : ByteArray := prog_12_method_8_code
def yX10_owner : MethodName := ⟨RX10, "owner", "(III)Z"⟩
abbrev cX10_find : ByteArray := prog_12_method_9_code
def yX10_find : MethodName := ⟨RX10, "find", "(IIII)I"⟩
abbrev cX10_part : ByteArray := prog_12_method_10_code
def yX10_part : MethodName := ⟨RX10, "part", "(II)Z"⟩
abbrev cX10_isJoined : ByteArray := prog_12_method_11_code
def yX10_isJoined : MethodName := ⟨RX10, "isJoined", "(III)Z"⟩
abbrev cX10_reaches : ByteArray := prog_12_method_12_code
def yX10_reaches : MethodName := ⟨RX10, "reaches", "(II)I"⟩
abbrev cX10_hoard : ByteArray := prog_12_method_13_code
def yX10_hoard : MethodName := ⟨RX10, "hoard", "(I)I"⟩
abbrev cX10_isKnown : ByteArray := prog_12_method_14_code
def yX10_isKnown : MethodName := ⟨RX10, "isKnown", "(II)Z"⟩
abbrev cX10_size : ByteArray := prog_12_method_15_code
def yX10_size : MethodName := ⟨RX10, "size", "(II)I"⟩
abbrev cX10_lawOf : ByteArray := prog_12_method_16_code
def yX10_lawOf : MethodName := ⟨RX10, "lawOf", "(I)I"⟩
abbrev cX10_counted : ByteArray := prog_12_method_17_code
def yX10_counted : MethodName := ⟨RX10, "counted", "(II)Z"⟩
abbrev cX10_counts : ByteArray := prog_12_method_18_code
def yX10_counts : MethodName := ⟨RX10, "counts", "(I)Z"⟩
abbrev cX10_ownerOn : ByteArray := prog_12_method_19_code
def yX10_ownerOn : MethodName := ⟨RX10, "ownerOn", "(II)I"⟩
abbrev cX10_ownerOf : ByteArray := prog_12_method_20_code
def yX10_ownerOf : MethodName := ⟨RX10, "ownerOf", "(I)I"⟩
abbrev cX10_told : ByteArray := prog_12_method_21_code
def yX10_told : MethodName := ⟨RX10, "told", "(II)I"⟩
abbrev cX10_index : ByteArray := prog_12_method_22_code
def yX10_index : MethodName := ⟨RX10, "index", "(II)Z"⟩
abbrev cX10_sale : ByteArray := prog_12_method_23_code
def yX10_sale : MethodName := ⟨RX10, "sale", "(IIII)I"⟩
abbrev cX10_worth : ByteArray := prog_12_method_24_code
def yX10_worth : MethodName := ⟨RX10, "worth", "(I)I"⟩
abbrev cX10_share : ByteArray := prog_12_method_25_code
def yX10_share : MethodName := ⟨RX10, "share", "(II)I"⟩
abbrev cX10_due : ByteArray := prog_12_method_26_code
def yX10_due : MethodName := ⟨RX10, "due", "(I)I"⟩
abbrev cX10_settle : ByteArray := prog_12_method_27_code
def yX10_settle : MethodName := ⟨RX10, "settle", "(I)I"⟩
abbrev cX10_paid : ByteArray := prog_12_method_28_code
def yX10_paid : MethodName := ⟨RX10, "paid", "(I)I"⟩
abbrev cX10_wide : ByteArray := prog_12_method_29_code
def yX10_wide : MethodName := ⟨RX10, "wide", "(I)I"⟩
abbrev cX10_place : ByteArray := prog_12_method_30_code
def yX10_place : MethodName := ⟨RX10, "place", "(II)I"⟩
abbrev cX10_within : ByteArray := prog_12_method_31_code
def yX10_within : MethodName := ⟨RX10, "within", "(III)I"⟩
abbrev cX10_museum : ByteArray := prog_12_method_32_code
def yX10_museum : MethodName := ⟨RX10, "museum", "(II)I"⟩
abbrev cX10_turn : ByteArray := prog_12_method_33_code
def yX10_turn : MethodName := ⟨RX10, "turn", "()I"⟩
abbrev cX10_offer : ByteArray := prog_12_method_34_code
def yX10_offer : MethodName := ⟨RX10, "offer", "(I)I"⟩
abbrev cX10_spent : ByteArray := prog_12_method_35_code
def yX10_spent : MethodName := ⟨RX10, "spent", "(I)I"⟩
abbrev cX10_count : ByteArray := prog_12_method_36_code
def yX10_count : MethodName := ⟨RX10, "count", "(I)I"⟩
def RJ9 : String := "java/lang/Math"
def TJ9 : u_T := fun k => match k with
  | _ => ("", "", "", false)
def tyJ9 : Nat → FieldType := fun k => match k with
  | _ => .int
abbrev wsJ90 : List Cond := u_ws RJ9 TJ9 0
theorem nmJ9 : ∀ a, a < 0 → ∀ b, b < 0 → a ≠ b → (TJ9 a).2.1 ≠ (TJ9 b).2.1 := by decide +kernel
theorem tyJ9_ok : ∀ k, k < 0 → parseFieldDescriptor (TJ9 k).2.2.1 = some (tyJ9 k) := by decide +kernel
abbrev cJ9_abs_0f7a4 : ByteArray := prog_13_method_59_code
def yJ9_abs_0f7a4 : MethodName := ⟨RJ9, "abs", "(I)I"⟩
abbrev cJ9_max_7cf53 : ByteArray := prog_13_method_65_code
def yJ9_max_7cf53 : MethodName := ⟨RJ9, "max", "(II)I"⟩
abbrev cJ9_min_7cf53 : ByteArray := prog_13_method_69_code
def yJ9_min_7cf53 : MethodName := ⟨RJ9, "min", "(II)I"⟩
abbrev cJ9_min_f86c9 : ByteArray := prog_13_method_70_code
def yJ9_min_f86c9 : MethodName := ⟨RJ9, "min", "(JJ)J"⟩
def RJ7 : String := "java/util/Arrays"
def TJ7 : u_T := fun k => match k with
  | _ => ("", "", "", false)
def tyJ7 : Nat → FieldType := fun k => match k with
  | _ => .int
abbrev wsJ70 : List Cond := u_ws RJ7 TJ7 0
theorem nmJ7 : ∀ a, a < 0 → ∀ b, b < 0 → a ≠ b → (TJ7 a).2.1 ≠ (TJ7 b).2.1 := by decide +kernel
theorem tyJ7_ok : ∀ k, k < 0 → parseFieldDescriptor (TJ7 k).2.2.1 = some (tyJ7 k) := by decide +kernel
abbrev cJ7_fill_53178 : ByteArray := prog_14_method_103_code
def yJ7_fill_53178 : MethodName := ⟨RJ7, "fill", "([II)V"⟩
def RL : String := "FindsOfficeLaw"
abbrev cL_law : ByteArray := code
def yL_law : MethodName := ⟨RL, "law", "([I)Z"⟩
def wsX0_init : List Cond := .code yX0_init cX0_init 1 none :: ([.methodLink RX0 3 objectInit, .instanceMethod objectInit, .code objectInit ⟨#[0xb1]⟩ 1 none, .classLink RX0 11 RX7, .fieldLink RX0 13 "FindsOffice$Circle" "museums" "[LFindsOffice$Museum;", .fieldLink RX0 17 "FindsOffice$Circle" "told" "I", .fieldLink RX0 21 "FindsOffice$Circle" "behindLatest" "I"] ++ wsX00)
def wsX9_isBetween : List Cond := .code yX9_isBetween cX9_isBetween 3 (some .boolean) :: ([])
def wsX7_isPossible : List Cond := .code yX7_isPossible cX7_isPossible 1 (some .boolean) :: ([.fieldLink RX7 9 "FindsOffice$Museum" "metals" "I", .fieldLink RX7 15 "FindsOffice$Museum" "mostWorth" "I", .constant RX7 25 (1000000), .static yX9_isBetween, .initialized RX9, .code yX9_isBetween cX9_isBetween 3 (some .boolean)] ++ wsX70)
def wsX0_enter : List Cond := .code yX0_enter cX0_enter 2 (some .int) :: ([.fieldLink RX0 17 "FindsOffice$Circle" "told" "I", .fieldLink RX0 13 "FindsOffice$Circle" "museums" "[LFindsOffice$Museum;", .methodLink RX0 24 yX7_isPossible, .instanceMethod yX7_isPossible, .selects RX7 yX7_isPossible yX7_isPossible, .initialized RX7, .code yX7_isPossible cX7_isPossible 1 (some .boolean), .fieldLink RX7 9 "FindsOffice$Museum" "metals" "I", .fieldLink RX7 15 "FindsOffice$Museum" "mostWorth" "I", .constant RX7 25 (1000000), .static yX9_isBetween, .initialized RX9, .code yX9_isBetween cX9_isBetween 3 (some .boolean)] ++ wsX00 ++ wsX70)
def wsX0_numbered : List Cond := .code yX0_numbered cX0_numbered 2 (some (.object "FindsOffice$Museum")) :: ([.fieldLink RX0 17 "FindsOffice$Circle" "told" "I", .fieldLink RX0 13 "FindsOffice$Circle" "museums" "[LFindsOffice$Museum;"] ++ wsX00)
def wsX0_next : List Cond := .code yX0_next cX0_next 1 (some .int) :: ([.fieldLink RX0 17 "FindsOffice$Circle" "told" "I", .fieldLink RX0 21 "FindsOffice$Circle" "behindLatest" "I"] ++ wsX00)
def wsX7_takes : List Cond := .code yX7_takes cX7_takes 3 (some .boolean) :: ([.fieldLink RX7 9 "FindsOffice$Museum" "metals" "I", .fieldLink RX7 15 "FindsOffice$Museum" "mostWorth" "I"] ++ wsX70)
def wsX0_sell : List Cond := .code yX0_sell cX0_sell 7 (some .int) :: ([.fieldLink RX0 17 "FindsOffice$Circle" "told" "I", .fieldLink RX0 40 "FindsOffice$Museum" "outlay" "I", .fieldLink RX0 21 "FindsOffice$Circle" "behindLatest" "I", .methodLink RX0 28 yX0_next, .instanceMethod yX0_next, .selects RX0 yX0_next yX0_next, .initialized RX0, .code yX0_next cX0_next 1 (some .int), .methodLink RX0 32 yX0_numbered, .instanceMethod yX0_numbered, .selects RX0 yX0_numbered yX0_numbered, .code yX0_numbered cX0_numbered 2 (some (.object "FindsOffice$Museum")), .fieldLink RX0 13 "FindsOffice$Circle" "museums" "[LFindsOffice$Museum;", .methodLink RX0 36 yX7_takes, .instanceMethod yX7_takes, .selects RX7 yX7_takes yX7_takes, .initialized RX7, .code yX7_takes cX7_takes 3 (some .boolean), .fieldLink RX7 9 "FindsOffice$Museum" "metals" "I", .fieldLink RX7 15 "FindsOffice$Museum" "mostWorth" "I"] ++ wsX00 ++ wsX70)
def wsX1_init : List Cond := .code yX1_init cX1_init 6 none :: ([.methodLink RX1 3 objectInit, .instanceMethod objectInit, .code objectInit ⟨#[0xb1]⟩ 1 none, .fieldLink RX1 9 "FindsOffice$Find" "x" "I", .fieldLink RX1 15 "FindsOffice$Find" "y" "I", .constant RX1 18 (100000000), .fieldLink RX1 19 "FindsOffice$Find" "metal" "I", .fieldLink RX1 22 "FindsOffice$Find" "purity" "I", .fieldLink RX1 25 "FindsOffice$Find" "weight" "I", .fieldLink RX1 28 "FindsOffice$Find" "firstYear" "I", .fieldLink RX1 31 "FindsOffice$Find" "lastYear" "I", .fieldLink RX1 34 "FindsOffice$Find" "found" "I", .fieldLink RX1 37 "FindsOffice$Find" "finder" "I", .fieldLink RX1 40 "FindsOffice$Find" "known" "I", .fieldLink RX1 43 "FindsOffice$Find" "keeper" "I"] ++ wsX10)
def wsX9_isMetal : List Cond := .code yX9_isMetal cX9_isMetal 1 (some .boolean) :: ([.methodLink RX9 52 yX9_isBetween, .static yX9_isBetween, .initialized RX9, .code yX9_isBetween cX9_isBetween 3 (some .boolean)])
def wsX9_isPerson : List Cond := .code yX9_isPerson cX9_isPerson 1 (some .boolean) :: ([.methodLink RX9 52 yX9_isBetween, .static yX9_isBetween, .initialized RX9, .code yX9_isBetween cX9_isBetween 3 (some .boolean)])
def wsX1_isPossible : List Cond := .code yX1_isPossible cX1_isPossible 4 (some .boolean) :: ([.fieldLink RX1 9 "FindsOffice$Find" "x" "I", .fieldLink RX1 15 "FindsOffice$Find" "y" "I", .fieldLink RX1 19 "FindsOffice$Find" "metal" "I", .fieldLink RX1 22 "FindsOffice$Find" "purity" "I", .fieldLink RX1 25 "FindsOffice$Find" "weight" "I", .fieldLink RX1 28 "FindsOffice$Find" "firstYear" "I", .fieldLink RX1 31 "FindsOffice$Find" "lastYear" "I", .fieldLink RX1 34 "FindsOffice$Find" "found" "I", .fieldLink RX1 40 "FindsOffice$Find" "known" "I", .fieldLink RX1 37 "FindsOffice$Find" "finder" "I", .static yX9_isBetween, .initialized RX9, .code yX9_isBetween cX9_isBetween 3 (some .boolean), .static yX9_isMetal, .code yX9_isMetal cX9_isMetal 1 (some .boolean), .methodLink RX9 52 yX9_isBetween, .static yX9_isPerson, .code yX9_isPerson cX9_isPerson 1 (some .boolean)] ++ wsX10)
def wsX1_plot : List Cond := .code yX1_plot cX1_plot 1 (some .int) :: ([.fieldLink RX1 9 "FindsOffice$Find" "x" "I", .fieldLink RX1 15 "FindsOffice$Find" "y" "I"] ++ wsX10)
def wsX1_isNear : List Cond := .code yX1_isNear cX1_isNear 2 (some .boolean) :: ([.fieldLink RX1 9 "FindsOffice$Find" "x" "I", .methodLink RX1 57 Lib.Math.abs.name, .static Lib.Math.abs.name, .initialized "java/lang/Math", .code Lib.Math.abs.name Lib.Math.abs.code 1 (some .int), .fieldLink RX1 15 "FindsOffice$Find" "y" "I", .fieldLink RX1 28 "FindsOffice$Find" "firstYear" "I", .fieldLink RX1 31 "FindsOffice$Find" "lastYear" "I"] ++ wsX10)
def wsJ7_fill_53178 : List Cond := .code yJ7_fill_53178 cJ7_fill_53178 4 none :: ([])
def wsX2_init : List Cond := .code yX2_init cX2_init 1 none :: ([.methodLink RX2 3 objectInit, .instanceMethod objectInit, .code objectInit ⟨#[0xb1]⟩ 1 none, .classLink RX2 11 RX1, .fieldLink RX2 13 "FindsOffice$FindBook" "finds" "[LFindsOffice$Find;", .fieldLink RX2 17 "FindsOffice$FindBook" "told" "I", .arrayClass .int, .fieldLink RX2 21 "FindsOffice$FindBook" "partedOn" "[I", .fieldLink RX2 25 "FindsOffice$FindBook" "pairsParted" "I", .fieldLink RX2 28 "FindsOffice$FindBook" "hoardOf" "[I", .fieldLink RX2 31 "FindsOffice$FindBook" "sizeOf" "[I", .fieldLink RX2 34 "FindsOffice$FindBook" "reached" "[I", .methodLink RX2 37 yJ7_fill_53178, .static yJ7_fill_53178, .initialized RJ7, .code yJ7_fill_53178 cJ7_fill_53178 4 none] ++ wsX20)
def wsX2_enter_r1 : List Cond := [Cond.fieldLink RX2 17 "FindsOffice$FindBook" "told" "I", Cond.fieldLink RX2 13 "FindsOffice$FindBook" "finds" "[LFindsOffice$Find;", Cond.methodLink RX2 43 yX1_isPossible, Cond.instanceMethod yX1_isPossible, Cond.selects RX1 yX1_isPossible yX1_isPossible, Cond.initialized RX1, Cond.code yX1_isPossible cX1_isPossible 4 (some .boolean), Cond.fieldLink RX1 9 "FindsOffice$Find" "x" "I", Cond.fieldLink RX1 15 "FindsOffice$Find" "y" "I", Cond.fieldLink RX1 19 "FindsOffice$Find" "metal" "I", Cond.fieldLink RX1 22 "FindsOffice$Find" "purity" "I", Cond.fieldLink RX1 25 "FindsOffice$Find" "weight" "I", Cond.fieldLink RX1 28 "FindsOffice$Find" "firstYear" "I", Cond.fieldLink RX1 31 "FindsOffice$Find" "lastYear" "I", Cond.fieldLink RX1 34 "FindsOffice$Find" "found" "I", Cond.fieldLink RX1 40 "FindsOffice$Find" "known" "I", Cond.fieldLink RX1 37 "FindsOffice$Find" "finder" "I", Cond.static yX9_isBetween, Cond.initialized RX9, Cond.code yX9_isBetween cX9_isBetween 3 (some .boolean), Cond.static yX9_isMetal, Cond.code yX9_isMetal cX9_isMetal 1 (some .boolean), Cond.methodLink RX9 52 yX9_isBetween, Cond.static yX9_isPerson]
def wsX2_enter_r2 : List Cond := [Cond.code yX9_isPerson cX9_isPerson 1 (some .boolean)]
def wsX2_enter : List Cond := .code yX2_enter cX2_enter 2 (some .int) :: ((wsX2_enter_r1 ++ wsX2_enter_r2) ++ wsX20 ++ wsX10)
def wsX2_isTold : List Cond := .code yX2_isTold cX2_isTold 2 (some .boolean) :: ([.fieldLink RX2 17 "FindsOffice$FindBook" "told" "I"] ++ wsX20)
def wsX2_numbered : List Cond := .code yX2_numbered cX2_numbered 2 (some (.object "FindsOffice$Find")) :: ([.fieldLink RX2 13 "FindsOffice$FindBook" "finds" "[LFindsOffice$Find;", .methodLink RX2 47 yX2_isTold, .instanceMethod yX2_isTold, .selects RX2 yX2_isTold yX2_isTold, .initialized RX2, .code yX2_isTold cX2_isTold 2 (some .boolean), .fieldLink RX2 17 "FindsOffice$FindBook" "told" "I"] ++ wsX20)
def wsX2_pairOf : List Cond := .code yX2_pairOf cX2_pairOf 4 (some .int) :: ([.methodLink RX2 55 Lib.Math.max.name, .static Lib.Math.max.name, .initialized "java/lang/Math", .code Lib.Math.max.name Lib.Math.max.code 2 (some .int), .methodLink RX2 60 Lib.Math.min.name, .static Lib.Math.min.name, .code Lib.Math.min.name Lib.Math.min.code 2 (some .int), .methodLink RX2 47 yX2_isTold, .instanceMethod yX2_isTold, .selects RX2 yX2_isTold yX2_isTold, .initialized RX2, .code yX2_isTold cX2_isTold 2 (some .boolean), .fieldLink RX2 17 "FindsOffice$FindBook" "told" "I"] ++ wsX20)
def wsX2_separate : List Cond := .code yX2_separate cX2_separate 5 (some .boolean) :: ([.fieldLink RX2 21 "FindsOffice$FindBook" "partedOn" "[I", .fieldLink RX2 25 "FindsOffice$FindBook" "pairsParted" "I", .methodLink RX2 51 yX2_pairOf, .instanceMethod yX2_pairOf, .selects RX2 yX2_pairOf yX2_pairOf, .initialized RX2, .code yX2_pairOf cX2_pairOf 4 (some .int), .methodLink RX2 55 Lib.Math.max.name, .static Lib.Math.max.name, .initialized "java/lang/Math", .code Lib.Math.max.name Lib.Math.max.code 2 (some .int), .methodLink RX2 60 Lib.Math.min.name, .static Lib.Math.min.name, .code Lib.Math.min.name Lib.Math.min.code 2 (some .int), .methodLink RX2 47 yX2_isTold, .instanceMethod yX2_isTold, .selects RX2 yX2_isTold yX2_isTold, .code yX2_isTold cX2_isTold 2 (some .boolean), .fieldLink RX2 17 "FindsOffice$FindBook" "told" "I"] ++ wsX20)
def wsX2_isJoined_r1 : List Cond := [Cond.fieldLink RX2 21 "FindsOffice$FindBook" "partedOn" "[I", Cond.methodLink RX2 63 yX2_numbered, Cond.instanceMethod yX2_numbered, Cond.selects RX2 yX2_numbered yX2_numbered, Cond.initialized RX2, Cond.code yX2_numbered cX2_numbered 2 (some (.object "FindsOffice$Find")), Cond.fieldLink RX2 13 "FindsOffice$FindBook" "finds" "[LFindsOffice$Find;", Cond.methodLink RX2 47 yX2_isTold, Cond.instanceMethod yX2_isTold, Cond.selects RX2 yX2_isTold yX2_isTold, Cond.code yX2_isTold cX2_isTold 2 (some .boolean), Cond.fieldLink RX2 17 "FindsOffice$FindBook" "told" "I", Cond.methodLink RX2 67 yX1_isNear, Cond.instanceMethod yX1_isNear, Cond.selects RX1 yX1_isNear yX1_isNear, Cond.initialized RX1, Cond.code yX1_isNear cX1_isNear 2 (some .boolean), Cond.fieldLink RX1 9 "FindsOffice$Find" "x" "I", Cond.methodLink RX1 57 Lib.Math.abs.name, Cond.static Lib.Math.abs.name, Cond.initialized "java/lang/Math", Cond.code Lib.Math.abs.name Lib.Math.abs.code 1 (some .int), Cond.fieldLink RX1 15 "FindsOffice$Find" "y" "I", Cond.fieldLink RX1 28 "FindsOffice$Find" "firstYear" "I"]
def wsX2_isJoined_r2 : List Cond := [Cond.fieldLink RX1 31 "FindsOffice$Find" "lastYear" "I", Cond.methodLink RX2 51 yX2_pairOf, Cond.instanceMethod yX2_pairOf, Cond.selects RX2 yX2_pairOf yX2_pairOf, Cond.code yX2_pairOf cX2_pairOf 4 (some .int), Cond.methodLink RX2 55 Lib.Math.max.name, Cond.static Lib.Math.max.name, Cond.code Lib.Math.max.name Lib.Math.max.code 2 (some .int), Cond.methodLink RX2 60 Lib.Math.min.name, Cond.static Lib.Math.min.name, Cond.code Lib.Math.min.name Lib.Math.min.code 2 (some .int)]
def wsX2_isJoined : List Cond := .code yX2_isJoined cX2_isJoined 7 (some .boolean) :: ((wsX2_isJoined_r1 ++ wsX2_isJoined_r2) ++ wsX20 ++ wsX10)
def wsX2_knownBy : List Cond := .code yX2_knownBy cX2_knownBy 5 (some .int) :: ([.fieldLink RX2 17 "FindsOffice$FindBook" "told" "I", .fieldLink RX2 79 "FindsOffice$Find" "known" "I", .methodLink RX2 63 yX2_numbered, .instanceMethod yX2_numbered, .selects RX2 yX2_numbered yX2_numbered, .initialized RX2, .code yX2_numbered cX2_numbered 2 (some (.object "FindsOffice$Find")), .fieldLink RX2 13 "FindsOffice$FindBook" "finds" "[LFindsOffice$Find;", .methodLink RX2 47 yX2_isTold, .instanceMethod yX2_isTold, .selects RX2 yX2_isTold yX2_isTold, .code yX2_isTold cX2_isTold 2 (some .boolean)] ++ wsX20 ++ wsX10)
def wsX2_gatherFrom_r1 : List Cond := [Cond.fieldLink RX2 28 "FindsOffice$FindBook" "hoardOf" "[I", Cond.fieldLink RX2 34 "FindsOffice$FindBook" "reached" "[I", Cond.methodLink RX2 82 yX2_isJoined, Cond.instanceMethod yX2_isJoined, Cond.selects RX2 yX2_isJoined yX2_isJoined, Cond.initialized RX2, Cond.code yX2_isJoined cX2_isJoined 7 (some .boolean), Cond.fieldLink RX2 21 "FindsOffice$FindBook" "partedOn" "[I", Cond.methodLink RX2 63 yX2_numbered, Cond.instanceMethod yX2_numbered, Cond.selects RX2 yX2_numbered yX2_numbered, Cond.code yX2_numbered cX2_numbered 2 (some (.object "FindsOffice$Find")), Cond.fieldLink RX2 13 "FindsOffice$FindBook" "finds" "[LFindsOffice$Find;", Cond.methodLink RX2 47 yX2_isTold, Cond.instanceMethod yX2_isTold, Cond.selects RX2 yX2_isTold yX2_isTold, Cond.code yX2_isTold cX2_isTold 2 (some .boolean), Cond.fieldLink RX2 17 "FindsOffice$FindBook" "told" "I", Cond.methodLink RX2 67 yX1_isNear, Cond.instanceMethod yX1_isNear, Cond.selects RX1 yX1_isNear yX1_isNear, Cond.initialized RX1, Cond.code yX1_isNear cX1_isNear 2 (some .boolean), Cond.fieldLink RX1 9 "FindsOffice$Find" "x" "I"]
def wsX2_gatherFrom_r2 : List Cond := [Cond.methodLink RX1 57 Lib.Math.abs.name, Cond.static Lib.Math.abs.name, Cond.initialized "java/lang/Math", Cond.code Lib.Math.abs.name Lib.Math.abs.code 1 (some .int), Cond.fieldLink RX1 15 "FindsOffice$Find" "y" "I", Cond.fieldLink RX1 28 "FindsOffice$Find" "firstYear" "I", Cond.fieldLink RX1 31 "FindsOffice$Find" "lastYear" "I", Cond.methodLink RX2 51 yX2_pairOf, Cond.instanceMethod yX2_pairOf, Cond.selects RX2 yX2_pairOf yX2_pairOf, Cond.code yX2_pairOf cX2_pairOf 4 (some .int), Cond.methodLink RX2 55 Lib.Math.max.name, Cond.static Lib.Math.max.name, Cond.code Lib.Math.max.name Lib.Math.max.code 2 (some .int), Cond.methodLink RX2 60 Lib.Math.min.name, Cond.static Lib.Math.min.name, Cond.code Lib.Math.min.name Lib.Math.min.code 2 (some .int)]
def wsX2_gatherFrom : List Cond := .code yX2_gatherFrom cX2_gatherFrom 8 (some .int) :: ((wsX2_gatherFrom_r1 ++ wsX2_gatherFrom_r2) ++ wsX20 ++ wsX10)
def wsX2_gatherHoards_r1 : List Cond := [Cond.fieldLink RX2 28 "FindsOffice$FindBook" "hoardOf" "[I", Cond.fieldLink RX2 31 "FindsOffice$FindBook" "sizeOf" "[I", Cond.methodLink RX2 37 yJ7_fill_53178, Cond.static yJ7_fill_53178, Cond.initialized RJ7, Cond.code yJ7_fill_53178 cJ7_fill_53178 4 none, Cond.methodLink RX2 71 yX2_knownBy, Cond.instanceMethod yX2_knownBy, Cond.selects RX2 yX2_knownBy yX2_knownBy, Cond.initialized RX2, Cond.code yX2_knownBy cX2_knownBy 5 (some .int), Cond.fieldLink RX2 17 "FindsOffice$FindBook" "told" "I", Cond.fieldLink RX2 79 "FindsOffice$Find" "known" "I", Cond.methodLink RX2 63 yX2_numbered, Cond.instanceMethod yX2_numbered, Cond.selects RX2 yX2_numbered yX2_numbered, Cond.code yX2_numbered cX2_numbered 2 (some (.object "FindsOffice$Find")), Cond.fieldLink RX2 13 "FindsOffice$FindBook" "finds" "[LFindsOffice$Find;", Cond.methodLink RX2 47 yX2_isTold, Cond.instanceMethod yX2_isTold, Cond.selects RX2 yX2_isTold yX2_isTold, Cond.code yX2_isTold cX2_isTold 2 (some .boolean), Cond.methodLink RX2 75 yX2_gatherFrom, Cond.instanceMethod yX2_gatherFrom]
def wsX2_gatherHoards_r2 : List Cond := [Cond.selects RX2 yX2_gatherFrom yX2_gatherFrom, Cond.code yX2_gatherFrom cX2_gatherFrom 8 (some .int), Cond.fieldLink RX2 34 "FindsOffice$FindBook" "reached" "[I", Cond.methodLink RX2 82 yX2_isJoined, Cond.instanceMethod yX2_isJoined, Cond.selects RX2 yX2_isJoined yX2_isJoined, Cond.code yX2_isJoined cX2_isJoined 7 (some .boolean), Cond.fieldLink RX2 21 "FindsOffice$FindBook" "partedOn" "[I", Cond.methodLink RX2 67 yX1_isNear, Cond.instanceMethod yX1_isNear, Cond.selects RX1 yX1_isNear yX1_isNear, Cond.initialized RX1, Cond.code yX1_isNear cX1_isNear 2 (some .boolean), Cond.fieldLink RX1 9 "FindsOffice$Find" "x" "I", Cond.methodLink RX1 57 Lib.Math.abs.name, Cond.static Lib.Math.abs.name, Cond.initialized "java/lang/Math", Cond.code Lib.Math.abs.name Lib.Math.abs.code 1 (some .int), Cond.fieldLink RX1 15 "FindsOffice$Find" "y" "I", Cond.fieldLink RX1 28 "FindsOffice$Find" "firstYear" "I", Cond.fieldLink RX1 31 "FindsOffice$Find" "lastYear" "I", Cond.methodLink RX2 51 yX2_pairOf, Cond.instanceMethod yX2_pairOf, Cond.selects RX2 yX2_pairOf yX2_pairOf]
def wsX2_gatherHoards_r3 : List Cond := [Cond.code yX2_pairOf cX2_pairOf 4 (some .int), Cond.methodLink RX2 55 Lib.Math.max.name, Cond.static Lib.Math.max.name, Cond.code Lib.Math.max.name Lib.Math.max.code 2 (some .int), Cond.methodLink RX2 60 Lib.Math.min.name, Cond.static Lib.Math.min.name, Cond.code Lib.Math.min.name Lib.Math.min.code 2 (some .int)]
def wsX2_gatherHoards : List Cond := .code yX2_gatherHoards cX2_gatherHoards 4 none :: ((wsX2_gatherHoards_r1 ++ (wsX2_gatherHoards_r2 ++ wsX2_gatherHoards_r3)) ++ wsX20 ++ wsX10)
def wsX2_hoardNumber : List Cond := .code yX2_hoardNumber cX2_hoardNumber 2 (some .int) :: ([.fieldLink RX2 28 "FindsOffice$FindBook" "hoardOf" "[I", .methodLink RX2 47 yX2_isTold, .instanceMethod yX2_isTold, .selects RX2 yX2_isTold yX2_isTold, .initialized RX2, .code yX2_isTold cX2_isTold 2 (some .boolean), .fieldLink RX2 17 "FindsOffice$FindBook" "told" "I"] ++ wsX20)
def wsX2_hoardSize : List Cond := .code yX2_hoardSize cX2_hoardSize 3 (some .int) :: ([.fieldLink RX2 28 "FindsOffice$FindBook" "hoardOf" "[I", .fieldLink RX2 31 "FindsOffice$FindBook" "sizeOf" "[I", .methodLink RX2 47 yX2_isTold, .instanceMethod yX2_isTold, .selects RX2 yX2_isTold yX2_isTold, .initialized RX2, .code yX2_isTold cX2_isTold 2 (some .boolean), .fieldLink RX2 17 "FindsOffice$FindBook" "told" "I"] ++ wsX20)
def wsX2_tally : List Cond := .code yX2_tally cX2_tally 8 (some .int) :: ([.fieldLink RX2 17 "FindsOffice$FindBook" "told" "I", .fieldLink RX2 86 "FindsOffice$Find" "x" "I", .fieldLink RX2 92 "FindsOffice$Find" "y" "I", .methodLink RX2 63 yX2_numbered, .instanceMethod yX2_numbered, .selects RX2 yX2_numbered yX2_numbered, .initialized RX2, .code yX2_numbered cX2_numbered 2 (some (.object "FindsOffice$Find")), .fieldLink RX2 13 "FindsOffice$FindBook" "finds" "[LFindsOffice$Find;", .methodLink RX2 47 yX2_isTold, .instanceMethod yX2_isTold, .selects RX2 yX2_isTold yX2_isTold, .code yX2_isTold cX2_isTold 2 (some .boolean), .static yX9_isBetween, .initialized RX9, .code yX9_isBetween cX9_isBetween 3 (some .boolean)] ++ wsX20 ++ wsX10)
def wsX3_init : List Cond := .code yX3_init cX3_init 1 none :: ([.methodLink RX3 3 objectInit, .instanceMethod objectInit, .code objectInit ⟨#[0xb1]⟩ 1 none, .arrayClass .int, .fieldLink RX3 11 "FindsOffice$LandBook" "plots" "[I", .fieldLink RX3 15 "FindsOffice$LandBook" "days" "[I", .fieldLink RX3 18 "FindsOffice$LandBook" "holders" "[I", .fieldLink RX3 21 "FindsOffice$LandBook" "told" "I"] ++ wsX30)
def wsX9_isDay : List Cond := .code yX9_isDay cX9_isDay 1 (some .boolean) :: ([.methodLink RX9 52 yX9_isBetween, .static yX9_isBetween, .initialized RX9, .code yX9_isBetween cX9_isBetween 3 (some .boolean)])
def wsX3_enter : List Cond := .code yX3_enter cX3_enter 5 (some .boolean) :: ([.fieldLink RX3 21 "FindsOffice$LandBook" "told" "I", .fieldLink RX3 11 "FindsOffice$LandBook" "plots" "[I", .fieldLink RX3 15 "FindsOffice$LandBook" "days" "[I", .fieldLink RX3 18 "FindsOffice$LandBook" "holders" "[I", .static yX9_isBetween, .initialized RX9, .code yX9_isBetween cX9_isBetween 3 (some .boolean), .static yX9_isDay, .code yX9_isDay cX9_isDay 1 (some .boolean), .methodLink RX9 52 yX9_isBetween, .static yX9_isPerson, .code yX9_isPerson cX9_isPerson 1 (some .boolean)] ++ wsX30)
def wsX3_holderOn : List Cond := .code yX3_holderOn cX3_holderOn 6 (some .int) :: ([.fieldLink RX3 21 "FindsOffice$LandBook" "told" "I", .fieldLink RX3 11 "FindsOffice$LandBook" "plots" "[I", .fieldLink RX3 15 "FindsOffice$LandBook" "days" "[I", .fieldLink RX3 18 "FindsOffice$LandBook" "holders" "[I"] ++ wsX30)
def wsX4_init : List Cond := .code yX4_init cX4_init 4 none :: ([.methodLink RX4 1 objectInit, .instanceMethod objectInit, .code objectInit ⟨#[0xb1]⟩ 1 none, .fieldLink RX4 7 "FindsOffice$Law" "from" "I", .constant RX4 13 (1000000), .fieldLink RX4 14 "FindsOffice$Law" "age" "I", .fieldLink RX4 17 "FindsOffice$Law" "parts" "I", .fieldLink RX4 20 "FindsOffice$Law" "percent" "I", .fieldLink RX4 23 "FindsOffice$Law" "together" "I"] ++ wsX40)
def wsX4_isPossible : List Cond := .code yX4_isPossible cX4_isPossible 1 (some .boolean) :: ([.fieldLink RX4 7 "FindsOffice$Law" "from" "I", .fieldLink RX4 14 "FindsOffice$Law" "age" "I", .fieldLink RX4 17 "FindsOffice$Law" "parts" "I", .fieldLink RX4 20 "FindsOffice$Law" "percent" "I", .fieldLink RX4 23 "FindsOffice$Law" "together" "I", .static yX9_isDay, .initialized RX9, .code yX9_isDay cX9_isDay 1 (some .boolean), .methodLink RX9 52 yX9_isBetween, .static yX9_isBetween, .code yX9_isBetween cX9_isBetween 3 (some .boolean)] ++ wsX40)
def wsX9_yearOf : List Cond := .code yX9_yearOf cX9_yearOf 1 (some .int) :: ([])
def wsX4_covers : List Cond := .code yX4_covers cX4_covers 5 (some .boolean) :: ([.fieldLink RX4 38 "FindsOffice$Find" "found" "I", .fieldLink RX4 47 "FindsOffice$Find" "lastYear" "I", .fieldLink RX4 14 "FindsOffice$Law" "age" "I", .fieldLink RX4 50 "FindsOffice$Find" "metal" "I", .fieldLink RX4 53 "FindsOffice$Find" "purity" "I", .fieldLink RX4 17 "FindsOffice$Law" "parts" "I", .fieldLink RX4 23 "FindsOffice$Law" "together" "I", .static yX9_yearOf, .initialized RX9, .code yX9_yearOf cX9_yearOf 1 (some .int)] ++ wsX10 ++ wsX40)
def wsX5_init : List Cond := .code yX5_init cX5_init 1 none :: ([.methodLink RX5 3 objectInit, .instanceMethod objectInit, .code objectInit ⟨#[0xb1]⟩ 1 none, .classLink RX5 11 RX4, .fieldLink RX5 13 "FindsOffice$LawBook" "laws" "[LFindsOffice$Law;", .fieldLink RX5 17 "FindsOffice$LawBook" "told" "I"] ++ wsX50)
def wsX5_enact : List Cond := .code yX5_enact cX5_enact 2 (some .int) :: ([.fieldLink RX5 17 "FindsOffice$LawBook" "told" "I", .fieldLink RX5 13 "FindsOffice$LawBook" "laws" "[LFindsOffice$Law;", .methodLink RX5 21 yX4_isPossible, .instanceMethod yX4_isPossible, .selects RX4 yX4_isPossible yX4_isPossible, .initialized RX4, .code yX4_isPossible cX4_isPossible 1 (some .boolean), .fieldLink RX4 7 "FindsOffice$Law" "from" "I", .fieldLink RX4 14 "FindsOffice$Law" "age" "I", .fieldLink RX4 17 "FindsOffice$Law" "parts" "I", .fieldLink RX4 20 "FindsOffice$Law" "percent" "I", .fieldLink RX4 23 "FindsOffice$Law" "together" "I", .static yX9_isDay, .initialized RX9, .code yX9_isDay cX9_isDay 1 (some .boolean), .methodLink RX9 52 yX9_isBetween, .static yX9_isBetween, .code yX9_isBetween cX9_isBetween 3 (some .boolean)] ++ wsX50 ++ wsX40)
def wsX5_inForce : List Cond := .code yX5_inForce cX5_inForce 5 (some (.object "FindsOffice$Law")) :: ([.fieldLink RX5 17 "FindsOffice$LawBook" "told" "I", .fieldLink RX5 13 "FindsOffice$LawBook" "laws" "[LFindsOffice$Law;", .fieldLink RX5 25 "FindsOffice$Law" "from" "I"] ++ wsX50 ++ wsX40)
def wsX6_init : List Cond := .code yX6_init cX6_init 1 none :: ([.methodLink RX6 3 objectInit, .instanceMethod objectInit, .code objectInit ⟨#[0xb1]⟩ 1 none, .classLink RX6 11 RX8, .fieldLink RX6 13 "FindsOffice$Market" "sales" "[LFindsOffice$Sale;", .fieldLink RX6 17 "FindsOffice$Market" "told" "I", .arrayClass .int, .fieldLink RX6 21 "FindsOffice$Market" "levels" "[I", .methodLink RX6 25 yJ7_fill_53178, .static yJ7_fill_53178, .initialized RJ7, .code yJ7_fill_53178 cJ7_fill_53178 4 none] ++ wsX60)
def wsX6_setLevel : List Cond := .code yX6_setLevel cX6_setLevel 3 (some .boolean) :: ([.fieldLink RX6 21 "FindsOffice$Market" "levels" "[I", .static yX9_isBetween, .initialized RX9, .code yX9_isBetween cX9_isBetween 3 (some .boolean)] ++ wsX60)
def wsX6_levelIn : List Cond := .code yX6_levelIn cX6_levelIn 3 (some .int) :: ([.fieldLink RX6 21 "FindsOffice$Market" "levels" "[I"] ++ wsX60)
def wsX8_isPossible : List Cond := .code yX8_isPossible cX8_isPossible 1 (some .boolean) :: ([.fieldLink RX8 9 "FindsOffice$Sale" "metal" "I", .fieldLink RX8 15 "FindsOffice$Sale" "day" "I", .fieldLink RX8 18 "FindsOffice$Sale" "weight" "I", .fieldLink RX8 21 "FindsOffice$Sale" "price" "I", .constant RX8 35 (1000000), .static yX9_isMetal, .initialized RX9, .code yX9_isMetal cX9_isMetal 1 (some .boolean), .methodLink RX9 52 yX9_isBetween, .static yX9_isBetween, .code yX9_isBetween cX9_isBetween 3 (some .boolean), .static yX9_isDay, .code yX9_isDay cX9_isDay 1 (some .boolean)] ++ wsX80)
def wsX6_salesOf : List Cond := .code yX6_salesOf cX6_salesOf 5 (some .int) :: ([.fieldLink RX6 17 "FindsOffice$Market" "told" "I", .fieldLink RX6 13 "FindsOffice$Market" "sales" "[LFindsOffice$Sale;", .fieldLink RX6 39 "FindsOffice$Sale" "metal" "I"] ++ wsX60 ++ wsX80)
def wsX6_enter_r1 : List Cond := [Cond.fieldLink RX6 17 "FindsOffice$Market" "told" "I", Cond.fieldLink RX6 13 "FindsOffice$Market" "sales" "[LFindsOffice$Sale;", Cond.fieldLink RX6 39 "FindsOffice$Sale" "metal" "I", Cond.methodLink RX6 35 yX8_isPossible, Cond.instanceMethod yX8_isPossible, Cond.selects RX8 yX8_isPossible yX8_isPossible, Cond.initialized RX8, Cond.code yX8_isPossible cX8_isPossible 1 (some .boolean), Cond.fieldLink RX8 9 "FindsOffice$Sale" "metal" "I", Cond.fieldLink RX8 15 "FindsOffice$Sale" "day" "I", Cond.fieldLink RX8 18 "FindsOffice$Sale" "weight" "I", Cond.fieldLink RX8 21 "FindsOffice$Sale" "price" "I", Cond.constant RX8 35 (1000000), Cond.static yX9_isMetal, Cond.initialized RX9, Cond.code yX9_isMetal cX9_isMetal 1 (some .boolean), Cond.methodLink RX9 52 yX9_isBetween, Cond.static yX9_isBetween, Cond.code yX9_isBetween cX9_isBetween 3 (some .boolean), Cond.static yX9_isDay, Cond.code yX9_isDay cX9_isDay 1 (some .boolean), Cond.methodLink RX6 42 yX6_salesOf, Cond.instanceMethod yX6_salesOf, Cond.selects RX6 yX6_salesOf yX6_salesOf]
def wsX6_enter_r2 : List Cond := [Cond.initialized RX6, Cond.code yX6_salesOf cX6_salesOf 5 (some .int)]
def wsX6_enter : List Cond := .code yX6_enter cX6_enter 2 (some .int) :: ((wsX6_enter_r1 ++ wsX6_enter_r2) ++ wsX60 ++ wsX80)
def wsX6_priceIn : List Cond := .code yX6_priceIn cX6_priceIn 4 (some .long) :: ([.fieldLink RX6 61 "FindsOffice$Sale" "day" "I", .fieldLink RX6 70 "FindsOffice$Sale" "price" "I", .static yX9_yearOf, .initialized RX9, .code yX9_yearOf cX9_yearOf 1 (some .int), .methodLink RX6 67 yX6_levelIn, .instanceMethod yX6_levelIn, .selects RX6 yX6_levelIn yX6_levelIn, .initialized RX6, .code yX6_levelIn cX6_levelIn 3 (some .int), .fieldLink RX6 21 "FindsOffice$Market" "levels" "[I"] ++ wsX80 ++ wsX60)
def wsX6_appraise : List Cond := .code yX6_appraise cX6_appraise 10 (some .int) :: ([.fieldLink RX6 17 "FindsOffice$Market" "told" "I", .fieldLink RX6 13 "FindsOffice$Market" "sales" "[LFindsOffice$Sale;", .fieldLink RX6 39 "FindsOffice$Sale" "metal" "I", .fieldLink RX6 50 "FindsOffice$Sale" "weight" "I", .constantLong RX6 53 (1000000), .methodLink RX6 55 Lib.MathLoose.min_long.x, .static Lib.MathLoose.min_long.x, .initialized "java/lang/Math", .code Lib.MathLoose.min_long.x Lib.MathLoose.min_long.code 4 (some .long), .methodLink RX6 46 yX6_priceIn, .instanceMethod yX6_priceIn, .selects RX6 yX6_priceIn yX6_priceIn, .initialized RX6, .code yX6_priceIn cX6_priceIn 4 (some .long), .fieldLink RX6 61 "FindsOffice$Sale" "day" "I", .fieldLink RX6 70 "FindsOffice$Sale" "price" "I", .static yX9_yearOf, .initialized RX9, .code yX9_yearOf cX9_yearOf 1 (some .int), .methodLink RX6 67 yX6_levelIn, .instanceMethod yX6_levelIn, .selects RX6 yX6_levelIn yX6_levelIn, .code yX6_levelIn cX6_levelIn 3 (some .int), .fieldLink RX6 21 "FindsOffice$Market" "levels" "[I"] ++ wsX60 ++ wsX80)
def wsX7_init : List Cond := .code yX7_init cX7_init 3 none :: ([.methodLink RX7 3 objectInit, .instanceMethod objectInit, .code objectInit ⟨#[0xb1]⟩ 1 none, .fieldLink RX7 9 "FindsOffice$Museum" "metals" "I", .fieldLink RX7 15 "FindsOffice$Museum" "mostWorth" "I", .fieldLink RX7 18 "FindsOffice$Museum" "outlay" "I"] ++ wsX70)
def wsX8_init : List Cond := .code yX8_init cX8_init 5 none :: ([.methodLink RX8 3 objectInit, .instanceMethod objectInit, .code objectInit ⟨#[0xb1]⟩ 1 none, .fieldLink RX8 9 "FindsOffice$Sale" "metal" "I", .fieldLink RX8 15 "FindsOffice$Sale" "day" "I", .fieldLink RX8 18 "FindsOffice$Sale" "weight" "I", .fieldLink RX8 21 "FindsOffice$Sale" "price" "I"] ++ wsX80)
def wsX9_init_r1 : List Cond := [Cond.methodLink RX9 1 objectInit, Cond.instanceMethod objectInit, Cond.code objectInit ⟨#[0xb1]⟩ 1 none, Cond.fieldLink RX9 7 "FindsOffice" "now" "I", Cond.classLink RX9 13 RX5, Cond.instantiable RX5 2, Cond.initialized RX5, Cond.fieldLink RX9 16 "FindsOffice" "lawBook" "LFindsOffice$LawBook;", Cond.classLink RX9 20 RX3, Cond.instantiable RX3 4, Cond.initialized RX3, Cond.fieldLink RX9 23 "FindsOffice" "landBook" "LFindsOffice$LandBook;", Cond.classLink RX9 27 RX2, Cond.instantiable RX2 7, Cond.initialized RX2, Cond.fieldLink RX9 30 "FindsOffice" "findBook" "LFindsOffice$FindBook;", Cond.classLink RX9 34 RX6, Cond.instantiable RX6 3, Cond.initialized RX6, Cond.fieldLink RX9 37 "FindsOffice" "market" "LFindsOffice$Market;", Cond.classLink RX9 41 RX0, Cond.instantiable RX0 3, Cond.initialized RX0, Cond.fieldLink RX9 44 "FindsOffice" "circle" "LFindsOffice$Circle;"]
def wsX9_init_r2 : List Cond := [Cond.arrayClass .int, Cond.fieldLink RX9 48 "FindsOffice" "paidTo" "[I", Cond.instanceMethod yX5_init, Cond.code yX5_init cX5_init 1 none, Cond.methodLink RX5 3 objectInit, Cond.classLink RX5 11 RX4, Cond.fieldLink RX5 13 "FindsOffice$LawBook" "laws" "[LFindsOffice$Law;", Cond.fieldLink RX5 17 "FindsOffice$LawBook" "told" "I", Cond.instanceMethod yX3_init, Cond.code yX3_init cX3_init 1 none, Cond.methodLink RX3 3 objectInit, Cond.fieldLink RX3 11 "FindsOffice$LandBook" "plots" "[I", Cond.fieldLink RX3 15 "FindsOffice$LandBook" "days" "[I", Cond.fieldLink RX3 18 "FindsOffice$LandBook" "holders" "[I", Cond.fieldLink RX3 21 "FindsOffice$LandBook" "told" "I", Cond.methodLink RX9 29 yX2_init, Cond.instanceMethod yX2_init, Cond.code yX2_init cX2_init 1 none, Cond.methodLink RX2 3 objectInit, Cond.classLink RX2 11 RX1, Cond.fieldLink RX2 13 "FindsOffice$FindBook" "finds" "[LFindsOffice$Find;", Cond.fieldLink RX2 17 "FindsOffice$FindBook" "told" "I", Cond.fieldLink RX2 21 "FindsOffice$FindBook" "partedOn" "[I", Cond.fieldLink RX2 25 "FindsOffice$FindBook" "pairsParted" "I"]
def wsX9_init_r3 : List Cond := [Cond.fieldLink RX2 28 "FindsOffice$FindBook" "hoardOf" "[I", Cond.fieldLink RX2 31 "FindsOffice$FindBook" "sizeOf" "[I", Cond.fieldLink RX2 34 "FindsOffice$FindBook" "reached" "[I", Cond.methodLink RX2 37 yJ7_fill_53178, Cond.static yJ7_fill_53178, Cond.initialized RJ7, Cond.code yJ7_fill_53178 cJ7_fill_53178 4 none, Cond.methodLink RX9 36 yX6_init, Cond.instanceMethod yX6_init, Cond.code yX6_init cX6_init 1 none, Cond.methodLink RX6 3 objectInit, Cond.classLink RX6 11 RX8, Cond.fieldLink RX6 13 "FindsOffice$Market" "sales" "[LFindsOffice$Sale;", Cond.fieldLink RX6 17 "FindsOffice$Market" "told" "I", Cond.fieldLink RX6 21 "FindsOffice$Market" "levels" "[I", Cond.methodLink RX6 25 yJ7_fill_53178, Cond.instanceMethod yX0_init, Cond.code yX0_init cX0_init 1 none, Cond.methodLink RX0 3 objectInit, Cond.classLink RX0 11 RX7, Cond.fieldLink RX0 13 "FindsOffice$Circle" "museums" "[LFindsOffice$Museum;", Cond.fieldLink RX0 17 "FindsOffice$Circle" "told" "I", Cond.fieldLink RX0 21 "FindsOffice$Circle" "behindLatest" "I"]
def wsX9_init : List Cond := .code yX9_init cX9_init 1 none :: ((wsX9_init_r1 ++ (wsX9_init_r2 ++ wsX9_init_r3)) ++ wsX90 ++ wsX50 ++ wsX30 ++ wsX20 ++ wsX60 ++ wsX00)
def wsX9_go : List Cond := .code yX9_go cX9_go 2 (some .int) :: ([.fieldLink RX9 7 "FindsOffice" "now" "I", .methodLink RX9 56 Lib.Math.min.name, .static Lib.Math.min.name, .initialized "java/lang/Math", .code Lib.Math.min.name Lib.Math.min.code 2 (some .int), .methodLink RX9 52 yX9_isBetween, .static yX9_isBetween, .initialized RX9, .code yX9_isBetween cX9_isBetween 3 (some .boolean)] ++ wsX90)
def wsX9_law_r1 : List Cond := [Cond.fieldLink RX9 16 "FindsOffice" "lawBook" "LFindsOffice$LawBook;", Cond.classLink RX9 62 RX4, Cond.instantiable RX4 5, Cond.initialized RX4, Cond.methodLink RX9 64 yX4_init, Cond.instanceMethod yX4_init, Cond.code yX4_init cX4_init 4 none, Cond.methodLink RX4 1 objectInit, Cond.instanceMethod objectInit, Cond.code objectInit ⟨#[0xb1]⟩ 1 none, Cond.fieldLink RX4 7 "FindsOffice$Law" "from" "I", Cond.constant RX4 13 (1000000), Cond.fieldLink RX4 14 "FindsOffice$Law" "age" "I", Cond.fieldLink RX4 17 "FindsOffice$Law" "parts" "I", Cond.fieldLink RX4 20 "FindsOffice$Law" "percent" "I", Cond.fieldLink RX4 23 "FindsOffice$Law" "together" "I", Cond.methodLink RX9 67 yX5_enact, Cond.instanceMethod yX5_enact, Cond.selects RX5 yX5_enact yX5_enact, Cond.initialized RX5, Cond.code yX5_enact cX5_enact 2 (some .int), Cond.fieldLink RX5 17 "FindsOffice$LawBook" "told" "I", Cond.fieldLink RX5 13 "FindsOffice$LawBook" "laws" "[LFindsOffice$Law;", Cond.methodLink RX5 21 yX4_isPossible]
def wsX9_law_r2 : List Cond := [Cond.instanceMethod yX4_isPossible, Cond.selects RX4 yX4_isPossible yX4_isPossible, Cond.code yX4_isPossible cX4_isPossible 1 (some .boolean), Cond.static yX9_isDay, Cond.initialized RX9, Cond.code yX9_isDay cX9_isDay 1 (some .boolean), Cond.methodLink RX9 52 yX9_isBetween, Cond.static yX9_isBetween, Cond.code yX9_isBetween cX9_isBetween 3 (some .boolean)]
def wsX9_law : List Cond := .code yX9_law cX9_law 4 (some .int) :: ((wsX9_law_r1 ++ wsX9_law_r2) ++ wsX90 ++ wsX40 ++ wsX50)
def wsX9_owner : List Cond := .code yX9_owner cX9_owner 4 (some .boolean) :: ([.fieldLink RX9 23 "FindsOffice" "landBook" "LFindsOffice$LandBook;", .methodLink RX9 71 yX3_enter, .instanceMethod yX3_enter, .selects RX3 yX3_enter yX3_enter, .initialized RX3, .code yX3_enter cX3_enter 5 (some .boolean), .fieldLink RX3 21 "FindsOffice$LandBook" "told" "I", .fieldLink RX3 11 "FindsOffice$LandBook" "plots" "[I", .fieldLink RX3 15 "FindsOffice$LandBook" "days" "[I", .fieldLink RX3 18 "FindsOffice$LandBook" "holders" "[I", .static yX9_isBetween, .initialized RX9, .code yX9_isBetween cX9_isBetween 3 (some .boolean), .static yX9_isDay, .code yX9_isDay cX9_isDay 1 (some .boolean), .methodLink RX9 52 yX9_isBetween, .static yX9_isPerson, .code yX9_isPerson cX9_isPerson 1 (some .boolean)] ++ wsX90 ++ wsX30)
def wsX9_find_r1 : List Cond := [Cond.fieldLink RX9 30 "FindsOffice" "findBook" "LFindsOffice$FindBook;", Cond.classLink RX9 74 RX1, Cond.instantiable RX1 11, Cond.initialized RX1, Cond.fieldLink RX9 7 "FindsOffice" "now" "I", Cond.methodLink RX9 76 yX1_init, Cond.instanceMethod yX1_init, Cond.code yX1_init cX1_init 6 none, Cond.methodLink RX1 3 objectInit, Cond.instanceMethod objectInit, Cond.code objectInit ⟨#[0xb1]⟩ 1 none, Cond.fieldLink RX1 9 "FindsOffice$Find" "x" "I", Cond.fieldLink RX1 15 "FindsOffice$Find" "y" "I", Cond.constant RX1 18 (100000000), Cond.fieldLink RX1 19 "FindsOffice$Find" "metal" "I", Cond.fieldLink RX1 22 "FindsOffice$Find" "purity" "I", Cond.fieldLink RX1 25 "FindsOffice$Find" "weight" "I", Cond.fieldLink RX1 28 "FindsOffice$Find" "firstYear" "I", Cond.fieldLink RX1 31 "FindsOffice$Find" "lastYear" "I", Cond.fieldLink RX1 34 "FindsOffice$Find" "found" "I", Cond.fieldLink RX1 37 "FindsOffice$Find" "finder" "I", Cond.fieldLink RX1 40 "FindsOffice$Find" "known" "I", Cond.fieldLink RX1 43 "FindsOffice$Find" "keeper" "I", Cond.methodLink RX9 79 yX2_enter]
def wsX9_find_r2 : List Cond := [Cond.instanceMethod yX2_enter, Cond.selects RX2 yX2_enter yX2_enter, Cond.initialized RX2, Cond.code yX2_enter cX2_enter 2 (some .int), Cond.fieldLink RX2 17 "FindsOffice$FindBook" "told" "I", Cond.fieldLink RX2 13 "FindsOffice$FindBook" "finds" "[LFindsOffice$Find;", Cond.methodLink RX2 43 yX1_isPossible, Cond.instanceMethod yX1_isPossible, Cond.selects RX1 yX1_isPossible yX1_isPossible, Cond.code yX1_isPossible cX1_isPossible 4 (some .boolean), Cond.static yX9_isBetween, Cond.initialized RX9, Cond.code yX9_isBetween cX9_isBetween 3 (some .boolean), Cond.static yX9_isMetal, Cond.code yX9_isMetal cX9_isMetal 1 (some .boolean), Cond.methodLink RX9 52 yX9_isBetween, Cond.static yX9_isPerson, Cond.code yX9_isPerson cX9_isPerson 1 (some .boolean)]
def wsX9_find : List Cond := .code yX9_find cX9_find 5 (some .int) :: ((wsX9_find_r1 ++ wsX9_find_r2) ++ wsX90 ++ wsX10 ++ wsX20)
def wsX9_part_r1 : List Cond := [Cond.fieldLink RX9 30 "FindsOffice" "findBook" "LFindsOffice$FindBook;", Cond.fieldLink RX9 7 "FindsOffice" "now" "I", Cond.methodLink RX9 82 yX2_separate, Cond.instanceMethod yX2_separate, Cond.selects RX2 yX2_separate yX2_separate, Cond.initialized RX2, Cond.code yX2_separate cX2_separate 5 (some .boolean), Cond.fieldLink RX2 21 "FindsOffice$FindBook" "partedOn" "[I", Cond.fieldLink RX2 25 "FindsOffice$FindBook" "pairsParted" "I", Cond.methodLink RX2 51 yX2_pairOf, Cond.instanceMethod yX2_pairOf, Cond.selects RX2 yX2_pairOf yX2_pairOf, Cond.code yX2_pairOf cX2_pairOf 4 (some .int), Cond.methodLink RX2 55 Lib.Math.max.name, Cond.static Lib.Math.max.name, Cond.initialized "java/lang/Math", Cond.code Lib.Math.max.name Lib.Math.max.code 2 (some .int), Cond.methodLink RX2 60 Lib.Math.min.name, Cond.static Lib.Math.min.name, Cond.code Lib.Math.min.name Lib.Math.min.code 2 (some .int), Cond.methodLink RX2 47 yX2_isTold, Cond.instanceMethod yX2_isTold, Cond.selects RX2 yX2_isTold yX2_isTold, Cond.code yX2_isTold cX2_isTold 2 (some .boolean)]
def wsX9_part_r2 : List Cond := [Cond.fieldLink RX2 17 "FindsOffice$FindBook" "told" "I"]
def wsX9_part : List Cond := .code yX9_part cX9_part 3 (some .boolean) :: ((wsX9_part_r1 ++ wsX9_part_r2) ++ wsX90 ++ wsX20)
def wsX9_hoard_r1 : List Cond := [Cond.fieldLink RX9 30 "FindsOffice" "findBook" "LFindsOffice$FindBook;", Cond.fieldLink RX9 7 "FindsOffice" "now" "I", Cond.methodLink RX9 85 yX2_gatherHoards, Cond.instanceMethod yX2_gatherHoards, Cond.selects RX2 yX2_gatherHoards yX2_gatherHoards, Cond.initialized RX2, Cond.code yX2_gatherHoards cX2_gatherHoards 4 none, Cond.fieldLink RX2 28 "FindsOffice$FindBook" "hoardOf" "[I", Cond.fieldLink RX2 31 "FindsOffice$FindBook" "sizeOf" "[I", Cond.methodLink RX2 37 yJ7_fill_53178, Cond.static yJ7_fill_53178, Cond.initialized RJ7, Cond.code yJ7_fill_53178 cJ7_fill_53178 4 none, Cond.methodLink RX2 71 yX2_knownBy, Cond.instanceMethod yX2_knownBy, Cond.selects RX2 yX2_knownBy yX2_knownBy, Cond.code yX2_knownBy cX2_knownBy 5 (some .int), Cond.fieldLink RX2 17 "FindsOffice$FindBook" "told" "I", Cond.fieldLink RX2 79 "FindsOffice$Find" "known" "I", Cond.methodLink RX2 63 yX2_numbered, Cond.instanceMethod yX2_numbered, Cond.selects RX2 yX2_numbered yX2_numbered, Cond.code yX2_numbered cX2_numbered 2 (some (.object "FindsOffice$Find")), Cond.fieldLink RX2 13 "FindsOffice$FindBook" "finds" "[LFindsOffice$Find;"]
def wsX9_hoard_r2 : List Cond := [Cond.methodLink RX2 47 yX2_isTold, Cond.instanceMethod yX2_isTold, Cond.selects RX2 yX2_isTold yX2_isTold, Cond.code yX2_isTold cX2_isTold 2 (some .boolean), Cond.methodLink RX2 75 yX2_gatherFrom, Cond.instanceMethod yX2_gatherFrom, Cond.selects RX2 yX2_gatherFrom yX2_gatherFrom, Cond.code yX2_gatherFrom cX2_gatherFrom 8 (some .int), Cond.fieldLink RX2 34 "FindsOffice$FindBook" "reached" "[I", Cond.methodLink RX2 82 yX2_isJoined, Cond.instanceMethod yX2_isJoined, Cond.selects RX2 yX2_isJoined yX2_isJoined, Cond.code yX2_isJoined cX2_isJoined 7 (some .boolean), Cond.fieldLink RX2 21 "FindsOffice$FindBook" "partedOn" "[I", Cond.methodLink RX2 67 yX1_isNear, Cond.instanceMethod yX1_isNear, Cond.selects RX1 yX1_isNear yX1_isNear, Cond.initialized RX1, Cond.code yX1_isNear cX1_isNear 2 (some .boolean), Cond.fieldLink RX1 9 "FindsOffice$Find" "x" "I", Cond.methodLink RX1 57 Lib.Math.abs.name, Cond.static Lib.Math.abs.name, Cond.initialized "java/lang/Math", Cond.code Lib.Math.abs.name Lib.Math.abs.code 1 (some .int)]
def wsX9_hoard_r3 : List Cond := [Cond.fieldLink RX1 15 "FindsOffice$Find" "y" "I", Cond.fieldLink RX1 28 "FindsOffice$Find" "firstYear" "I", Cond.fieldLink RX1 31 "FindsOffice$Find" "lastYear" "I", Cond.methodLink RX2 51 yX2_pairOf, Cond.instanceMethod yX2_pairOf, Cond.selects RX2 yX2_pairOf yX2_pairOf, Cond.code yX2_pairOf cX2_pairOf 4 (some .int), Cond.methodLink RX2 55 Lib.Math.max.name, Cond.static Lib.Math.max.name, Cond.code Lib.Math.max.name Lib.Math.max.code 2 (some .int), Cond.methodLink RX2 60 Lib.Math.min.name, Cond.static Lib.Math.min.name, Cond.code Lib.Math.min.name Lib.Math.min.code 2 (some .int), Cond.methodLink RX9 89 yX2_hoardNumber, Cond.instanceMethod yX2_hoardNumber, Cond.selects RX2 yX2_hoardNumber yX2_hoardNumber, Cond.code yX2_hoardNumber cX2_hoardNumber 2 (some .int)]
def wsX9_hoard : List Cond := .code yX9_hoard cX9_hoard 2 (some .int) :: ((wsX9_hoard_r1 ++ (wsX9_hoard_r2 ++ wsX9_hoard_r3)) ++ wsX90 ++ wsX20 ++ wsX10)
def wsX9_isPast : List Cond := .code yX9_isPast cX9_isPast 2 (some .boolean) :: ([.fieldLink RX9 7 "FindsOffice" "now" "I", .methodLink RX9 52 yX9_isBetween, .static yX9_isBetween, .initialized RX9, .code yX9_isBetween cX9_isBetween 3 (some .boolean)] ++ wsX90)
def wsX9_hoardSizeOn_r1 : List Cond := [Cond.fieldLink RX9 30 "FindsOffice" "findBook" "LFindsOffice$FindBook;", Cond.methodLink RX9 85 yX2_gatherHoards, Cond.instanceMethod yX2_gatherHoards, Cond.selects RX2 yX2_gatherHoards yX2_gatherHoards, Cond.initialized RX2, Cond.code yX2_gatherHoards cX2_gatherHoards 4 none, Cond.fieldLink RX2 28 "FindsOffice$FindBook" "hoardOf" "[I", Cond.fieldLink RX2 31 "FindsOffice$FindBook" "sizeOf" "[I", Cond.methodLink RX2 37 yJ7_fill_53178, Cond.static yJ7_fill_53178, Cond.initialized RJ7, Cond.code yJ7_fill_53178 cJ7_fill_53178 4 none, Cond.methodLink RX2 71 yX2_knownBy, Cond.instanceMethod yX2_knownBy, Cond.selects RX2 yX2_knownBy yX2_knownBy, Cond.code yX2_knownBy cX2_knownBy 5 (some .int), Cond.fieldLink RX2 17 "FindsOffice$FindBook" "told" "I", Cond.fieldLink RX2 79 "FindsOffice$Find" "known" "I", Cond.methodLink RX2 63 yX2_numbered, Cond.instanceMethod yX2_numbered, Cond.selects RX2 yX2_numbered yX2_numbered, Cond.code yX2_numbered cX2_numbered 2 (some (.object "FindsOffice$Find")), Cond.fieldLink RX2 13 "FindsOffice$FindBook" "finds" "[LFindsOffice$Find;", Cond.methodLink RX2 47 yX2_isTold]
def wsX9_hoardSizeOn_r2 : List Cond := [Cond.instanceMethod yX2_isTold, Cond.selects RX2 yX2_isTold yX2_isTold, Cond.code yX2_isTold cX2_isTold 2 (some .boolean), Cond.methodLink RX2 75 yX2_gatherFrom, Cond.instanceMethod yX2_gatherFrom, Cond.selects RX2 yX2_gatherFrom yX2_gatherFrom, Cond.code yX2_gatherFrom cX2_gatherFrom 8 (some .int), Cond.fieldLink RX2 34 "FindsOffice$FindBook" "reached" "[I", Cond.methodLink RX2 82 yX2_isJoined, Cond.instanceMethod yX2_isJoined, Cond.selects RX2 yX2_isJoined yX2_isJoined, Cond.code yX2_isJoined cX2_isJoined 7 (some .boolean), Cond.fieldLink RX2 21 "FindsOffice$FindBook" "partedOn" "[I", Cond.methodLink RX2 67 yX1_isNear, Cond.instanceMethod yX1_isNear, Cond.selects RX1 yX1_isNear yX1_isNear, Cond.initialized RX1, Cond.code yX1_isNear cX1_isNear 2 (some .boolean), Cond.fieldLink RX1 9 "FindsOffice$Find" "x" "I", Cond.methodLink RX1 57 Lib.Math.abs.name, Cond.static Lib.Math.abs.name, Cond.initialized "java/lang/Math", Cond.code Lib.Math.abs.name Lib.Math.abs.code 1 (some .int), Cond.fieldLink RX1 15 "FindsOffice$Find" "y" "I"]
def wsX9_hoardSizeOn_r3 : List Cond := [Cond.fieldLink RX1 28 "FindsOffice$Find" "firstYear" "I", Cond.fieldLink RX1 31 "FindsOffice$Find" "lastYear" "I", Cond.methodLink RX2 51 yX2_pairOf, Cond.instanceMethod yX2_pairOf, Cond.selects RX2 yX2_pairOf yX2_pairOf, Cond.code yX2_pairOf cX2_pairOf 4 (some .int), Cond.methodLink RX2 55 Lib.Math.max.name, Cond.static Lib.Math.max.name, Cond.code Lib.Math.max.name Lib.Math.max.code 2 (some .int), Cond.methodLink RX2 60 Lib.Math.min.name, Cond.static Lib.Math.min.name, Cond.code Lib.Math.min.name Lib.Math.min.code 2 (some .int), Cond.methodLink RX9 234 yX2_hoardSize, Cond.instanceMethod yX2_hoardSize, Cond.selects RX2 yX2_hoardSize yX2_hoardSize, Cond.code yX2_hoardSize cX2_hoardSize 3 (some .int)]
def wsX9_hoardSizeOn : List Cond := .code yX9_hoardSizeOn cX9_hoardSizeOn 3 (some .int) :: ((wsX9_hoardSizeOn_r1 ++ (wsX9_hoardSizeOn_r2 ++ wsX9_hoardSizeOn_r3)) ++ wsX90 ++ wsX20 ++ wsX10)
def wsX9_size_r1 : List Cond := [Cond.methodLink RX9 93 yX9_isPast, Cond.instanceMethod yX9_isPast, Cond.selects RX9 yX9_isPast yX9_isPast, Cond.initialized RX9, Cond.code yX9_isPast cX9_isPast 2 (some .boolean), Cond.fieldLink RX9 7 "FindsOffice" "now" "I", Cond.methodLink RX9 52 yX9_isBetween, Cond.static yX9_isBetween, Cond.code yX9_isBetween cX9_isBetween 3 (some .boolean), Cond.methodLink RX9 97 yX9_hoardSizeOn, Cond.instanceMethod yX9_hoardSizeOn, Cond.selects RX9 yX9_hoardSizeOn yX9_hoardSizeOn, Cond.code yX9_hoardSizeOn cX9_hoardSizeOn 3 (some .int), Cond.fieldLink RX9 30 "FindsOffice" "findBook" "LFindsOffice$FindBook;", Cond.methodLink RX9 85 yX2_gatherHoards, Cond.instanceMethod yX2_gatherHoards, Cond.selects RX2 yX2_gatherHoards yX2_gatherHoards, Cond.initialized RX2, Cond.code yX2_gatherHoards cX2_gatherHoards 4 none, Cond.fieldLink RX2 28 "FindsOffice$FindBook" "hoardOf" "[I", Cond.fieldLink RX2 31 "FindsOffice$FindBook" "sizeOf" "[I", Cond.methodLink RX2 37 yJ7_fill_53178, Cond.static yJ7_fill_53178, Cond.initialized RJ7]
def wsX9_size_r2 : List Cond := [Cond.code yJ7_fill_53178 cJ7_fill_53178 4 none, Cond.methodLink RX2 71 yX2_knownBy, Cond.instanceMethod yX2_knownBy, Cond.selects RX2 yX2_knownBy yX2_knownBy, Cond.code yX2_knownBy cX2_knownBy 5 (some .int), Cond.fieldLink RX2 17 "FindsOffice$FindBook" "told" "I", Cond.fieldLink RX2 79 "FindsOffice$Find" "known" "I", Cond.methodLink RX2 63 yX2_numbered, Cond.instanceMethod yX2_numbered, Cond.selects RX2 yX2_numbered yX2_numbered, Cond.code yX2_numbered cX2_numbered 2 (some (.object "FindsOffice$Find")), Cond.fieldLink RX2 13 "FindsOffice$FindBook" "finds" "[LFindsOffice$Find;", Cond.methodLink RX2 47 yX2_isTold, Cond.instanceMethod yX2_isTold, Cond.selects RX2 yX2_isTold yX2_isTold, Cond.code yX2_isTold cX2_isTold 2 (some .boolean), Cond.methodLink RX2 75 yX2_gatherFrom, Cond.instanceMethod yX2_gatherFrom, Cond.selects RX2 yX2_gatherFrom yX2_gatherFrom, Cond.code yX2_gatherFrom cX2_gatherFrom 8 (some .int), Cond.fieldLink RX2 34 "FindsOffice$FindBook" "reached" "[I", Cond.methodLink RX2 82 yX2_isJoined, Cond.instanceMethod yX2_isJoined, Cond.selects RX2 yX2_isJoined yX2_isJoined]
def wsX9_size_r3 : List Cond := [Cond.code yX2_isJoined cX2_isJoined 7 (some .boolean), Cond.fieldLink RX2 21 "FindsOffice$FindBook" "partedOn" "[I", Cond.methodLink RX2 67 yX1_isNear, Cond.instanceMethod yX1_isNear, Cond.selects RX1 yX1_isNear yX1_isNear, Cond.initialized RX1, Cond.code yX1_isNear cX1_isNear 2 (some .boolean), Cond.fieldLink RX1 9 "FindsOffice$Find" "x" "I", Cond.methodLink RX1 57 Lib.Math.abs.name, Cond.static Lib.Math.abs.name, Cond.initialized "java/lang/Math", Cond.code Lib.Math.abs.name Lib.Math.abs.code 1 (some .int), Cond.fieldLink RX1 15 "FindsOffice$Find" "y" "I", Cond.fieldLink RX1 28 "FindsOffice$Find" "firstYear" "I", Cond.fieldLink RX1 31 "FindsOffice$Find" "lastYear" "I", Cond.methodLink RX2 51 yX2_pairOf, Cond.instanceMethod yX2_pairOf, Cond.selects RX2 yX2_pairOf yX2_pairOf, Cond.code yX2_pairOf cX2_pairOf 4 (some .int), Cond.methodLink RX2 55 Lib.Math.max.name, Cond.static Lib.Math.max.name, Cond.code Lib.Math.max.name Lib.Math.max.code 2 (some .int), Cond.methodLink RX2 60 Lib.Math.min.name, Cond.static Lib.Math.min.name]
def wsX9_size_r4 : List Cond := [Cond.code Lib.Math.min.name Lib.Math.min.code 2 (some .int), Cond.methodLink RX9 234 yX2_hoardSize, Cond.instanceMethod yX2_hoardSize, Cond.selects RX2 yX2_hoardSize yX2_hoardSize, Cond.code yX2_hoardSize cX2_hoardSize 3 (some .int)]
def wsX9_size : List Cond := .code yX9_size cX9_size 3 (some .int) :: ((wsX9_size_r1 ++ (wsX9_size_r2 ++ (wsX9_size_r3 ++ wsX9_size_r4))) ++ wsX90 ++ wsX20 ++ wsX10)
def wsX9_lawThatCounts_r1 : List Cond := [Cond.fieldLink RX9 30 "FindsOffice" "findBook" "LFindsOffice$FindBook;", Cond.fieldLink RX9 16 "FindsOffice" "lawBook" "LFindsOffice$LawBook;", Cond.fieldLink RX9 109 "FindsOffice$Find" "found" "I", Cond.methodLink RX9 104 yX2_numbered, Cond.instanceMethod yX2_numbered, Cond.selects RX2 yX2_numbered yX2_numbered, Cond.initialized RX2, Cond.code yX2_numbered cX2_numbered 2 (some (.object "FindsOffice$Find")), Cond.fieldLink RX2 13 "FindsOffice$FindBook" "finds" "[LFindsOffice$Find;", Cond.methodLink RX2 47 yX2_isTold, Cond.instanceMethod yX2_isTold, Cond.selects RX2 yX2_isTold yX2_isTold, Cond.code yX2_isTold cX2_isTold 2 (some .boolean), Cond.fieldLink RX2 17 "FindsOffice$FindBook" "told" "I", Cond.methodLink RX9 234 yX2_hoardSize, Cond.instanceMethod yX2_hoardSize, Cond.selects RX2 yX2_hoardSize yX2_hoardSize, Cond.code yX2_hoardSize cX2_hoardSize 3 (some .int), Cond.fieldLink RX2 28 "FindsOffice$FindBook" "hoardOf" "[I", Cond.fieldLink RX2 31 "FindsOffice$FindBook" "sizeOf" "[I", Cond.methodLink RX9 241 yX5_inForce, Cond.instanceMethod yX5_inForce, Cond.selects RX5 yX5_inForce yX5_inForce, Cond.initialized RX5]
def wsX9_lawThatCounts_r2 : List Cond := [Cond.code yX5_inForce cX5_inForce 5 (some (.object "FindsOffice$Law")), Cond.fieldLink RX5 17 "FindsOffice$LawBook" "told" "I", Cond.fieldLink RX5 13 "FindsOffice$LawBook" "laws" "[LFindsOffice$Law;", Cond.fieldLink RX5 25 "FindsOffice$Law" "from" "I", Cond.methodLink RX9 244 yX4_covers, Cond.instanceMethod yX4_covers, Cond.selects RX4 yX4_covers yX4_covers, Cond.initialized RX4, Cond.code yX4_covers cX4_covers 5 (some .boolean), Cond.fieldLink RX4 38 "FindsOffice$Find" "found" "I", Cond.fieldLink RX4 47 "FindsOffice$Find" "lastYear" "I", Cond.fieldLink RX4 14 "FindsOffice$Law" "age" "I", Cond.fieldLink RX4 50 "FindsOffice$Find" "metal" "I", Cond.fieldLink RX4 53 "FindsOffice$Find" "purity" "I", Cond.fieldLink RX4 17 "FindsOffice$Law" "parts" "I", Cond.fieldLink RX4 23 "FindsOffice$Law" "together" "I", Cond.static yX9_yearOf, Cond.initialized RX9, Cond.code yX9_yearOf cX9_yearOf 1 (some .int)]
def wsX9_lawThatCounts : List Cond := .code yX9_lawThatCounts cX9_lawThatCounts 5 (some (.object "FindsOffice$Law")) :: ((wsX9_lawThatCounts_r1 ++ wsX9_lawThatCounts_r2) ++ wsX90 ++ wsX10 ++ wsX20 ++ wsX50 ++ wsX40)
def wsX9_isTreasureOn_r1 : List Cond := [Cond.fieldLink RX9 30 "FindsOffice" "findBook" "LFindsOffice$FindBook;", Cond.methodLink RX9 85 yX2_gatherHoards, Cond.instanceMethod yX2_gatherHoards, Cond.selects RX2 yX2_gatherHoards yX2_gatherHoards, Cond.initialized RX2, Cond.code yX2_gatherHoards cX2_gatherHoards 4 none, Cond.fieldLink RX2 28 "FindsOffice$FindBook" "hoardOf" "[I", Cond.fieldLink RX2 31 "FindsOffice$FindBook" "sizeOf" "[I", Cond.methodLink RX2 37 yJ7_fill_53178, Cond.static yJ7_fill_53178, Cond.initialized RJ7, Cond.code yJ7_fill_53178 cJ7_fill_53178 4 none, Cond.methodLink RX2 71 yX2_knownBy, Cond.instanceMethod yX2_knownBy, Cond.selects RX2 yX2_knownBy yX2_knownBy, Cond.code yX2_knownBy cX2_knownBy 5 (some .int), Cond.fieldLink RX2 17 "FindsOffice$FindBook" "told" "I", Cond.fieldLink RX2 79 "FindsOffice$Find" "known" "I", Cond.methodLink RX2 63 yX2_numbered, Cond.instanceMethod yX2_numbered, Cond.selects RX2 yX2_numbered yX2_numbered, Cond.code yX2_numbered cX2_numbered 2 (some (.object "FindsOffice$Find")), Cond.fieldLink RX2 13 "FindsOffice$FindBook" "finds" "[LFindsOffice$Find;", Cond.methodLink RX2 47 yX2_isTold]
def wsX9_isTreasureOn_r2 : List Cond := [Cond.instanceMethod yX2_isTold, Cond.selects RX2 yX2_isTold yX2_isTold, Cond.code yX2_isTold cX2_isTold 2 (some .boolean), Cond.methodLink RX2 75 yX2_gatherFrom, Cond.instanceMethod yX2_gatherFrom, Cond.selects RX2 yX2_gatherFrom yX2_gatherFrom, Cond.code yX2_gatherFrom cX2_gatherFrom 8 (some .int), Cond.fieldLink RX2 34 "FindsOffice$FindBook" "reached" "[I", Cond.methodLink RX2 82 yX2_isJoined, Cond.instanceMethod yX2_isJoined, Cond.selects RX2 yX2_isJoined yX2_isJoined, Cond.code yX2_isJoined cX2_isJoined 7 (some .boolean), Cond.fieldLink RX2 21 "FindsOffice$FindBook" "partedOn" "[I", Cond.methodLink RX2 67 yX1_isNear, Cond.instanceMethod yX1_isNear, Cond.selects RX1 yX1_isNear yX1_isNear, Cond.initialized RX1, Cond.code yX1_isNear cX1_isNear 2 (some .boolean), Cond.fieldLink RX1 9 "FindsOffice$Find" "x" "I", Cond.methodLink RX1 57 Lib.Math.abs.name, Cond.static Lib.Math.abs.name, Cond.initialized "java/lang/Math", Cond.code Lib.Math.abs.name Lib.Math.abs.code 1 (some .int), Cond.fieldLink RX1 15 "FindsOffice$Find" "y" "I"]
def wsX9_isTreasureOn_r3 : List Cond := [Cond.fieldLink RX1 28 "FindsOffice$Find" "firstYear" "I", Cond.fieldLink RX1 31 "FindsOffice$Find" "lastYear" "I", Cond.methodLink RX2 51 yX2_pairOf, Cond.instanceMethod yX2_pairOf, Cond.selects RX2 yX2_pairOf yX2_pairOf, Cond.code yX2_pairOf cX2_pairOf 4 (some .int), Cond.methodLink RX2 55 Lib.Math.max.name, Cond.static Lib.Math.max.name, Cond.code Lib.Math.max.name Lib.Math.max.code 2 (some .int), Cond.methodLink RX2 60 Lib.Math.min.name, Cond.static Lib.Math.min.name, Cond.code Lib.Math.min.name Lib.Math.min.code 2 (some .int), Cond.methodLink RX9 237 yX9_lawThatCounts, Cond.instanceMethod yX9_lawThatCounts, Cond.selects RX9 yX9_lawThatCounts yX9_lawThatCounts, Cond.initialized RX9, Cond.code yX9_lawThatCounts cX9_lawThatCounts 5 (some (.object "FindsOffice$Law")), Cond.fieldLink RX9 16 "FindsOffice" "lawBook" "LFindsOffice$LawBook;", Cond.fieldLink RX9 109 "FindsOffice$Find" "found" "I", Cond.methodLink RX9 104 yX2_numbered, Cond.methodLink RX9 234 yX2_hoardSize, Cond.instanceMethod yX2_hoardSize, Cond.selects RX2 yX2_hoardSize yX2_hoardSize, Cond.code yX2_hoardSize cX2_hoardSize 3 (some .int)]
def wsX9_isTreasureOn_r4 : List Cond := [Cond.methodLink RX9 241 yX5_inForce, Cond.instanceMethod yX5_inForce, Cond.selects RX5 yX5_inForce yX5_inForce, Cond.initialized RX5, Cond.code yX5_inForce cX5_inForce 5 (some (.object "FindsOffice$Law")), Cond.fieldLink RX5 17 "FindsOffice$LawBook" "told" "I", Cond.fieldLink RX5 13 "FindsOffice$LawBook" "laws" "[LFindsOffice$Law;", Cond.fieldLink RX5 25 "FindsOffice$Law" "from" "I", Cond.methodLink RX9 244 yX4_covers, Cond.instanceMethod yX4_covers, Cond.selects RX4 yX4_covers yX4_covers, Cond.initialized RX4, Cond.code yX4_covers cX4_covers 5 (some .boolean), Cond.fieldLink RX4 38 "FindsOffice$Find" "found" "I", Cond.fieldLink RX4 47 "FindsOffice$Find" "lastYear" "I", Cond.fieldLink RX4 14 "FindsOffice$Law" "age" "I", Cond.fieldLink RX4 50 "FindsOffice$Find" "metal" "I", Cond.fieldLink RX4 53 "FindsOffice$Find" "purity" "I", Cond.fieldLink RX4 17 "FindsOffice$Law" "parts" "I", Cond.fieldLink RX4 23 "FindsOffice$Law" "together" "I", Cond.static yX9_yearOf, Cond.code yX9_yearOf cX9_yearOf 1 (some .int)]
def wsX9_isTreasureOn : List Cond := .code yX9_isTreasureOn cX9_isTreasureOn 3 (some .boolean) :: ((wsX9_isTreasureOn_r1 ++ (wsX9_isTreasureOn_r2 ++ (wsX9_isTreasureOn_r3 ++ wsX9_isTreasureOn_r4))) ++ wsX90 ++ wsX20 ++ wsX10 ++ wsX50 ++ wsX40)
def wsX9_counts_r1 : List Cond := [Cond.fieldLink RX9 7 "FindsOffice" "now" "I", Cond.methodLink RX9 100 yX9_isTreasureOn, Cond.instanceMethod yX9_isTreasureOn, Cond.selects RX9 yX9_isTreasureOn yX9_isTreasureOn, Cond.initialized RX9, Cond.code yX9_isTreasureOn cX9_isTreasureOn 3 (some .boolean), Cond.fieldLink RX9 30 "FindsOffice" "findBook" "LFindsOffice$FindBook;", Cond.methodLink RX9 85 yX2_gatherHoards, Cond.instanceMethod yX2_gatherHoards, Cond.selects RX2 yX2_gatherHoards yX2_gatherHoards, Cond.initialized RX2, Cond.code yX2_gatherHoards cX2_gatherHoards 4 none, Cond.fieldLink RX2 28 "FindsOffice$FindBook" "hoardOf" "[I", Cond.fieldLink RX2 31 "FindsOffice$FindBook" "sizeOf" "[I", Cond.methodLink RX2 37 yJ7_fill_53178, Cond.static yJ7_fill_53178, Cond.initialized RJ7, Cond.code yJ7_fill_53178 cJ7_fill_53178 4 none, Cond.methodLink RX2 71 yX2_knownBy, Cond.instanceMethod yX2_knownBy, Cond.selects RX2 yX2_knownBy yX2_knownBy, Cond.code yX2_knownBy cX2_knownBy 5 (some .int), Cond.fieldLink RX2 17 "FindsOffice$FindBook" "told" "I", Cond.fieldLink RX2 79 "FindsOffice$Find" "known" "I"]
def wsX9_counts_r2 : List Cond := [Cond.methodLink RX2 63 yX2_numbered, Cond.instanceMethod yX2_numbered, Cond.selects RX2 yX2_numbered yX2_numbered, Cond.code yX2_numbered cX2_numbered 2 (some (.object "FindsOffice$Find")), Cond.fieldLink RX2 13 "FindsOffice$FindBook" "finds" "[LFindsOffice$Find;", Cond.methodLink RX2 47 yX2_isTold, Cond.instanceMethod yX2_isTold, Cond.selects RX2 yX2_isTold yX2_isTold, Cond.code yX2_isTold cX2_isTold 2 (some .boolean), Cond.methodLink RX2 75 yX2_gatherFrom, Cond.instanceMethod yX2_gatherFrom, Cond.selects RX2 yX2_gatherFrom yX2_gatherFrom, Cond.code yX2_gatherFrom cX2_gatherFrom 8 (some .int), Cond.fieldLink RX2 34 "FindsOffice$FindBook" "reached" "[I", Cond.methodLink RX2 82 yX2_isJoined, Cond.instanceMethod yX2_isJoined, Cond.selects RX2 yX2_isJoined yX2_isJoined, Cond.code yX2_isJoined cX2_isJoined 7 (some .boolean), Cond.fieldLink RX2 21 "FindsOffice$FindBook" "partedOn" "[I", Cond.methodLink RX2 67 yX1_isNear, Cond.instanceMethod yX1_isNear, Cond.selects RX1 yX1_isNear yX1_isNear, Cond.initialized RX1, Cond.code yX1_isNear cX1_isNear 2 (some .boolean)]
def wsX9_counts_r3 : List Cond := [Cond.fieldLink RX1 9 "FindsOffice$Find" "x" "I", Cond.methodLink RX1 57 Lib.Math.abs.name, Cond.static Lib.Math.abs.name, Cond.initialized "java/lang/Math", Cond.code Lib.Math.abs.name Lib.Math.abs.code 1 (some .int), Cond.fieldLink RX1 15 "FindsOffice$Find" "y" "I", Cond.fieldLink RX1 28 "FindsOffice$Find" "firstYear" "I", Cond.fieldLink RX1 31 "FindsOffice$Find" "lastYear" "I", Cond.methodLink RX2 51 yX2_pairOf, Cond.instanceMethod yX2_pairOf, Cond.selects RX2 yX2_pairOf yX2_pairOf, Cond.code yX2_pairOf cX2_pairOf 4 (some .int), Cond.methodLink RX2 55 Lib.Math.max.name, Cond.static Lib.Math.max.name, Cond.code Lib.Math.max.name Lib.Math.max.code 2 (some .int), Cond.methodLink RX2 60 Lib.Math.min.name, Cond.static Lib.Math.min.name, Cond.code Lib.Math.min.name Lib.Math.min.code 2 (some .int), Cond.methodLink RX9 237 yX9_lawThatCounts, Cond.instanceMethod yX9_lawThatCounts, Cond.selects RX9 yX9_lawThatCounts yX9_lawThatCounts, Cond.code yX9_lawThatCounts cX9_lawThatCounts 5 (some (.object "FindsOffice$Law")), Cond.fieldLink RX9 16 "FindsOffice" "lawBook" "LFindsOffice$LawBook;", Cond.fieldLink RX9 109 "FindsOffice$Find" "found" "I"]
def wsX9_counts_r4 : List Cond := [Cond.methodLink RX9 104 yX2_numbered, Cond.methodLink RX9 234 yX2_hoardSize, Cond.instanceMethod yX2_hoardSize, Cond.selects RX2 yX2_hoardSize yX2_hoardSize, Cond.code yX2_hoardSize cX2_hoardSize 3 (some .int), Cond.methodLink RX9 241 yX5_inForce, Cond.instanceMethod yX5_inForce, Cond.selects RX5 yX5_inForce yX5_inForce, Cond.initialized RX5, Cond.code yX5_inForce cX5_inForce 5 (some (.object "FindsOffice$Law")), Cond.fieldLink RX5 17 "FindsOffice$LawBook" "told" "I", Cond.fieldLink RX5 13 "FindsOffice$LawBook" "laws" "[LFindsOffice$Law;", Cond.fieldLink RX5 25 "FindsOffice$Law" "from" "I", Cond.methodLink RX9 244 yX4_covers, Cond.instanceMethod yX4_covers, Cond.selects RX4 yX4_covers yX4_covers, Cond.initialized RX4, Cond.code yX4_covers cX4_covers 5 (some .boolean), Cond.fieldLink RX4 38 "FindsOffice$Find" "found" "I", Cond.fieldLink RX4 47 "FindsOffice$Find" "lastYear" "I", Cond.fieldLink RX4 14 "FindsOffice$Law" "age" "I", Cond.fieldLink RX4 50 "FindsOffice$Find" "metal" "I", Cond.fieldLink RX4 53 "FindsOffice$Find" "purity" "I", Cond.fieldLink RX4 17 "FindsOffice$Law" "parts" "I"]
def wsX9_counts_r5 : List Cond := [Cond.fieldLink RX4 23 "FindsOffice$Law" "together" "I", Cond.static yX9_yearOf, Cond.code yX9_yearOf cX9_yearOf 1 (some .int)]
def wsX9_counts : List Cond := .code yX9_counts cX9_counts 2 (some .boolean) :: ((wsX9_counts_r1 ++ (wsX9_counts_r2 ++ (wsX9_counts_r3 ++ (wsX9_counts_r4 ++ wsX9_counts_r5)))) ++ wsX90 ++ wsX20 ++ wsX10 ++ wsX50 ++ wsX40)
def wsX9_counted_r1 : List Cond := [Cond.methodLink RX9 93 yX9_isPast, Cond.instanceMethod yX9_isPast, Cond.selects RX9 yX9_isPast yX9_isPast, Cond.initialized RX9, Cond.code yX9_isPast cX9_isPast 2 (some .boolean), Cond.fieldLink RX9 7 "FindsOffice" "now" "I", Cond.methodLink RX9 52 yX9_isBetween, Cond.static yX9_isBetween, Cond.code yX9_isBetween cX9_isBetween 3 (some .boolean), Cond.methodLink RX9 100 yX9_isTreasureOn, Cond.instanceMethod yX9_isTreasureOn, Cond.selects RX9 yX9_isTreasureOn yX9_isTreasureOn, Cond.code yX9_isTreasureOn cX9_isTreasureOn 3 (some .boolean), Cond.fieldLink RX9 30 "FindsOffice" "findBook" "LFindsOffice$FindBook;", Cond.methodLink RX9 85 yX2_gatherHoards, Cond.instanceMethod yX2_gatherHoards, Cond.selects RX2 yX2_gatherHoards yX2_gatherHoards, Cond.initialized RX2, Cond.code yX2_gatherHoards cX2_gatherHoards 4 none, Cond.fieldLink RX2 28 "FindsOffice$FindBook" "hoardOf" "[I", Cond.fieldLink RX2 31 "FindsOffice$FindBook" "sizeOf" "[I", Cond.methodLink RX2 37 yJ7_fill_53178, Cond.static yJ7_fill_53178, Cond.initialized RJ7]
def wsX9_counted_r2 : List Cond := [Cond.code yJ7_fill_53178 cJ7_fill_53178 4 none, Cond.methodLink RX2 71 yX2_knownBy, Cond.instanceMethod yX2_knownBy, Cond.selects RX2 yX2_knownBy yX2_knownBy, Cond.code yX2_knownBy cX2_knownBy 5 (some .int), Cond.fieldLink RX2 17 "FindsOffice$FindBook" "told" "I", Cond.fieldLink RX2 79 "FindsOffice$Find" "known" "I", Cond.methodLink RX2 63 yX2_numbered, Cond.instanceMethod yX2_numbered, Cond.selects RX2 yX2_numbered yX2_numbered, Cond.code yX2_numbered cX2_numbered 2 (some (.object "FindsOffice$Find")), Cond.fieldLink RX2 13 "FindsOffice$FindBook" "finds" "[LFindsOffice$Find;", Cond.methodLink RX2 47 yX2_isTold, Cond.instanceMethod yX2_isTold, Cond.selects RX2 yX2_isTold yX2_isTold, Cond.code yX2_isTold cX2_isTold 2 (some .boolean), Cond.methodLink RX2 75 yX2_gatherFrom, Cond.instanceMethod yX2_gatherFrom, Cond.selects RX2 yX2_gatherFrom yX2_gatherFrom, Cond.code yX2_gatherFrom cX2_gatherFrom 8 (some .int), Cond.fieldLink RX2 34 "FindsOffice$FindBook" "reached" "[I", Cond.methodLink RX2 82 yX2_isJoined, Cond.instanceMethod yX2_isJoined, Cond.selects RX2 yX2_isJoined yX2_isJoined]
def wsX9_counted_r3 : List Cond := [Cond.code yX2_isJoined cX2_isJoined 7 (some .boolean), Cond.fieldLink RX2 21 "FindsOffice$FindBook" "partedOn" "[I", Cond.methodLink RX2 67 yX1_isNear, Cond.instanceMethod yX1_isNear, Cond.selects RX1 yX1_isNear yX1_isNear, Cond.initialized RX1, Cond.code yX1_isNear cX1_isNear 2 (some .boolean), Cond.fieldLink RX1 9 "FindsOffice$Find" "x" "I", Cond.methodLink RX1 57 Lib.Math.abs.name, Cond.static Lib.Math.abs.name, Cond.initialized "java/lang/Math", Cond.code Lib.Math.abs.name Lib.Math.abs.code 1 (some .int), Cond.fieldLink RX1 15 "FindsOffice$Find" "y" "I", Cond.fieldLink RX1 28 "FindsOffice$Find" "firstYear" "I", Cond.fieldLink RX1 31 "FindsOffice$Find" "lastYear" "I", Cond.methodLink RX2 51 yX2_pairOf, Cond.instanceMethod yX2_pairOf, Cond.selects RX2 yX2_pairOf yX2_pairOf, Cond.code yX2_pairOf cX2_pairOf 4 (some .int), Cond.methodLink RX2 55 Lib.Math.max.name, Cond.static Lib.Math.max.name, Cond.code Lib.Math.max.name Lib.Math.max.code 2 (some .int), Cond.methodLink RX2 60 Lib.Math.min.name, Cond.static Lib.Math.min.name]
def wsX9_counted_r4 : List Cond := [Cond.code Lib.Math.min.name Lib.Math.min.code 2 (some .int), Cond.methodLink RX9 237 yX9_lawThatCounts, Cond.instanceMethod yX9_lawThatCounts, Cond.selects RX9 yX9_lawThatCounts yX9_lawThatCounts, Cond.code yX9_lawThatCounts cX9_lawThatCounts 5 (some (.object "FindsOffice$Law")), Cond.fieldLink RX9 16 "FindsOffice" "lawBook" "LFindsOffice$LawBook;", Cond.fieldLink RX9 109 "FindsOffice$Find" "found" "I", Cond.methodLink RX9 104 yX2_numbered, Cond.methodLink RX9 234 yX2_hoardSize, Cond.instanceMethod yX2_hoardSize, Cond.selects RX2 yX2_hoardSize yX2_hoardSize, Cond.code yX2_hoardSize cX2_hoardSize 3 (some .int), Cond.methodLink RX9 241 yX5_inForce, Cond.instanceMethod yX5_inForce, Cond.selects RX5 yX5_inForce yX5_inForce, Cond.initialized RX5, Cond.code yX5_inForce cX5_inForce 5 (some (.object "FindsOffice$Law")), Cond.fieldLink RX5 17 "FindsOffice$LawBook" "told" "I", Cond.fieldLink RX5 13 "FindsOffice$LawBook" "laws" "[LFindsOffice$Law;", Cond.fieldLink RX5 25 "FindsOffice$Law" "from" "I", Cond.methodLink RX9 244 yX4_covers, Cond.instanceMethod yX4_covers, Cond.selects RX4 yX4_covers yX4_covers, Cond.initialized RX4]
def wsX9_counted_r5 : List Cond := [Cond.code yX4_covers cX4_covers 5 (some .boolean), Cond.fieldLink RX4 38 "FindsOffice$Find" "found" "I", Cond.fieldLink RX4 47 "FindsOffice$Find" "lastYear" "I", Cond.fieldLink RX4 14 "FindsOffice$Law" "age" "I", Cond.fieldLink RX4 50 "FindsOffice$Find" "metal" "I", Cond.fieldLink RX4 53 "FindsOffice$Find" "purity" "I", Cond.fieldLink RX4 17 "FindsOffice$Law" "parts" "I", Cond.fieldLink RX4 23 "FindsOffice$Law" "together" "I", Cond.static yX9_yearOf, Cond.code yX9_yearOf cX9_yearOf 1 (some .int)]
def wsX9_counted : List Cond := .code yX9_counted cX9_counted 3 (some .boolean) :: ((wsX9_counted_r1 ++ (wsX9_counted_r2 ++ (wsX9_counted_r3 ++ (wsX9_counted_r4 ++ wsX9_counted_r5)))) ++ wsX90 ++ wsX20 ++ wsX10 ++ wsX50 ++ wsX40)
def wsX9_landownerOf : List Cond := .code yX9_landownerOf cX9_landownerOf 2 (some .int) :: ([.fieldLink RX9 23 "FindsOffice" "landBook" "LFindsOffice$LandBook;", .fieldLink RX9 109 "FindsOffice$Find" "found" "I", .methodLink RX9 221 yX1_plot, .instanceMethod yX1_plot, .selects RX1 yX1_plot yX1_plot, .initialized RX1, .code yX1_plot cX1_plot 1 (some .int), .fieldLink RX1 9 "FindsOffice$Find" "x" "I", .fieldLink RX1 15 "FindsOffice$Find" "y" "I", .methodLink RX9 224 yX3_holderOn, .instanceMethod yX3_holderOn, .selects RX3 yX3_holderOn yX3_holderOn, .initialized RX3, .code yX3_holderOn cX3_holderOn 6 (some .int), .fieldLink RX3 21 "FindsOffice$LandBook" "told" "I", .fieldLink RX3 11 "FindsOffice$LandBook" "plots" "[I", .fieldLink RX3 15 "FindsOffice$LandBook" "days" "[I", .fieldLink RX3 18 "FindsOffice$LandBook" "holders" "[I"] ++ wsX90 ++ wsX10 ++ wsX30)
def wsX9_told_r1 : List Cond := [Cond.fieldLink RX9 30 "FindsOffice" "findBook" "LFindsOffice$FindBook;", Cond.constant RX9 108 (-2147483648), Cond.fieldLink RX9 109 "FindsOffice$Find" "found" "I", Cond.fieldLink RX9 112 "FindsOffice$Find" "known" "I", Cond.fieldLink RX9 115 "FindsOffice$Find" "metal" "I", Cond.fieldLink RX9 118 "FindsOffice$Find" "purity" "I", Cond.fieldLink RX9 121 "FindsOffice$Find" "weight" "I", Cond.fieldLink RX9 124 "FindsOffice$Find" "firstYear" "I", Cond.fieldLink RX9 127 "FindsOffice$Find" "lastYear" "I", Cond.fieldLink RX9 130 "FindsOffice$Find" "finder" "I", Cond.fieldLink RX9 136 "FindsOffice$Find" "keeper" "I", Cond.methodLink RX9 104 yX2_numbered, Cond.instanceMethod yX2_numbered, Cond.selects RX2 yX2_numbered yX2_numbered, Cond.initialized RX2, Cond.code yX2_numbered cX2_numbered 2 (some (.object "FindsOffice$Find")), Cond.fieldLink RX2 13 "FindsOffice$FindBook" "finds" "[LFindsOffice$Find;", Cond.methodLink RX2 47 yX2_isTold, Cond.instanceMethod yX2_isTold, Cond.selects RX2 yX2_isTold yX2_isTold, Cond.code yX2_isTold cX2_isTold 2 (some .boolean), Cond.fieldLink RX2 17 "FindsOffice$FindBook" "told" "I", Cond.methodLink RX9 133 yX9_landownerOf, Cond.instanceMethod yX9_landownerOf]
def wsX9_told_r2 : List Cond := [Cond.selects RX9 yX9_landownerOf yX9_landownerOf, Cond.initialized RX9, Cond.code yX9_landownerOf cX9_landownerOf 2 (some .int), Cond.fieldLink RX9 23 "FindsOffice" "landBook" "LFindsOffice$LandBook;", Cond.methodLink RX9 221 yX1_plot, Cond.instanceMethod yX1_plot, Cond.selects RX1 yX1_plot yX1_plot, Cond.initialized RX1, Cond.code yX1_plot cX1_plot 1 (some .int), Cond.fieldLink RX1 9 "FindsOffice$Find" "x" "I", Cond.fieldLink RX1 15 "FindsOffice$Find" "y" "I", Cond.methodLink RX9 224 yX3_holderOn, Cond.instanceMethod yX3_holderOn, Cond.selects RX3 yX3_holderOn yX3_holderOn, Cond.initialized RX3, Cond.code yX3_holderOn cX3_holderOn 6 (some .int), Cond.fieldLink RX3 21 "FindsOffice$LandBook" "told" "I", Cond.fieldLink RX3 11 "FindsOffice$LandBook" "plots" "[I", Cond.fieldLink RX3 15 "FindsOffice$LandBook" "days" "[I", Cond.fieldLink RX3 18 "FindsOffice$LandBook" "holders" "[I"]
def wsX9_told : List Cond := .code yX9_told cX9_told 4 (some .int) :: ((wsX9_told_r1 ++ wsX9_told_r2) ++ wsX90 ++ wsX10 ++ wsX20 ++ wsX30)
def wsX9_index : List Cond := .code yX9_index cX9_index 3 (some .boolean) :: ([.fieldLink RX9 37 "FindsOffice" "market" "LFindsOffice$Market;", .methodLink RX9 139 yX6_setLevel, .instanceMethod yX6_setLevel, .selects RX6 yX6_setLevel yX6_setLevel, .initialized RX6, .code yX6_setLevel cX6_setLevel 3 (some .boolean), .fieldLink RX6 21 "FindsOffice$Market" "levels" "[I", .static yX9_isBetween, .initialized RX9, .code yX9_isBetween cX9_isBetween 3 (some .boolean)] ++ wsX90 ++ wsX60)
def wsX9_sale_r1 : List Cond := [Cond.fieldLink RX9 37 "FindsOffice" "market" "LFindsOffice$Market;", Cond.classLink RX9 142 RX8, Cond.instantiable RX8 4, Cond.initialized RX8, Cond.methodLink RX9 93 yX9_isPast, Cond.instanceMethod yX9_isPast, Cond.selects RX9 yX9_isPast yX9_isPast, Cond.initialized RX9, Cond.code yX9_isPast cX9_isPast 2 (some .boolean), Cond.fieldLink RX9 7 "FindsOffice" "now" "I", Cond.methodLink RX9 52 yX9_isBetween, Cond.static yX9_isBetween, Cond.code yX9_isBetween cX9_isBetween 3 (some .boolean), Cond.methodLink RX9 144 yX8_init, Cond.instanceMethod yX8_init, Cond.code yX8_init cX8_init 5 none, Cond.methodLink RX8 3 objectInit, Cond.instanceMethod objectInit, Cond.code objectInit ⟨#[0xb1]⟩ 1 none, Cond.fieldLink RX8 9 "FindsOffice$Sale" "metal" "I", Cond.fieldLink RX8 15 "FindsOffice$Sale" "day" "I", Cond.fieldLink RX8 18 "FindsOffice$Sale" "weight" "I", Cond.fieldLink RX8 21 "FindsOffice$Sale" "price" "I", Cond.methodLink RX9 147 yX6_enter]
def wsX9_sale_r2 : List Cond := [Cond.instanceMethod yX6_enter, Cond.selects RX6 yX6_enter yX6_enter, Cond.initialized RX6, Cond.code yX6_enter cX6_enter 2 (some .int), Cond.fieldLink RX6 17 "FindsOffice$Market" "told" "I", Cond.fieldLink RX6 13 "FindsOffice$Market" "sales" "[LFindsOffice$Sale;", Cond.fieldLink RX6 39 "FindsOffice$Sale" "metal" "I", Cond.methodLink RX6 35 yX8_isPossible, Cond.instanceMethod yX8_isPossible, Cond.selects RX8 yX8_isPossible yX8_isPossible, Cond.code yX8_isPossible cX8_isPossible 1 (some .boolean), Cond.constant RX8 35 (1000000), Cond.static yX9_isMetal, Cond.code yX9_isMetal cX9_isMetal 1 (some .boolean), Cond.static yX9_isDay, Cond.code yX9_isDay cX9_isDay 1 (some .boolean), Cond.methodLink RX6 42 yX6_salesOf, Cond.instanceMethod yX6_salesOf, Cond.selects RX6 yX6_salesOf yX6_salesOf, Cond.code yX6_salesOf cX6_salesOf 5 (some .int)]
def wsX9_sale : List Cond := .code yX9_sale cX9_sale 5 (some .int) :: ((wsX9_sale_r1 ++ wsX9_sale_r2) ++ wsX90 ++ wsX80 ++ wsX60)
def wsX9_worthNow_r1 : List Cond := [Cond.fieldLink RX9 37 "FindsOffice" "market" "LFindsOffice$Market;", Cond.fieldLink RX9 115 "FindsOffice$Find" "metal" "I", Cond.fieldLink RX9 121 "FindsOffice$Find" "weight" "I", Cond.fieldLink RX9 7 "FindsOffice" "now" "I", Cond.methodLink RX9 227 yX9_yearOf, Cond.static yX9_yearOf, Cond.initialized RX9, Cond.code yX9_yearOf cX9_yearOf 1 (some .int), Cond.methodLink RX9 230 yX6_appraise, Cond.instanceMethod yX6_appraise, Cond.selects RX6 yX6_appraise yX6_appraise, Cond.initialized RX6, Cond.code yX6_appraise cX6_appraise 10 (some .int), Cond.fieldLink RX6 17 "FindsOffice$Market" "told" "I", Cond.fieldLink RX6 13 "FindsOffice$Market" "sales" "[LFindsOffice$Sale;", Cond.fieldLink RX6 39 "FindsOffice$Sale" "metal" "I", Cond.fieldLink RX6 50 "FindsOffice$Sale" "weight" "I", Cond.constantLong RX6 53 (1000000), Cond.methodLink RX6 55 Lib.MathLoose.min_long.x, Cond.static Lib.MathLoose.min_long.x, Cond.initialized "java/lang/Math", Cond.code Lib.MathLoose.min_long.x Lib.MathLoose.min_long.code 4 (some .long), Cond.methodLink RX6 46 yX6_priceIn, Cond.instanceMethod yX6_priceIn]
def wsX9_worthNow_r2 : List Cond := [Cond.selects RX6 yX6_priceIn yX6_priceIn, Cond.code yX6_priceIn cX6_priceIn 4 (some .long), Cond.fieldLink RX6 61 "FindsOffice$Sale" "day" "I", Cond.fieldLink RX6 70 "FindsOffice$Sale" "price" "I", Cond.methodLink RX6 67 yX6_levelIn, Cond.instanceMethod yX6_levelIn, Cond.selects RX6 yX6_levelIn yX6_levelIn, Cond.code yX6_levelIn cX6_levelIn 3 (some .int), Cond.fieldLink RX6 21 "FindsOffice$Market" "levels" "[I"]
def wsX9_worthNow : List Cond := .code yX9_worthNow cX9_worthNow 2 (some .int) :: ((wsX9_worthNow_r1 ++ wsX9_worthNow_r2) ++ wsX90 ++ wsX10 ++ wsX60 ++ wsX80)
def wsX9_worth_r1 : List Cond := [Cond.fieldLink RX9 30 "FindsOffice" "findBook" "LFindsOffice$FindBook;", Cond.methodLink RX9 104 yX2_numbered, Cond.instanceMethod yX2_numbered, Cond.selects RX2 yX2_numbered yX2_numbered, Cond.initialized RX2, Cond.code yX2_numbered cX2_numbered 2 (some (.object "FindsOffice$Find")), Cond.fieldLink RX2 13 "FindsOffice$FindBook" "finds" "[LFindsOffice$Find;", Cond.methodLink RX2 47 yX2_isTold, Cond.instanceMethod yX2_isTold, Cond.selects RX2 yX2_isTold yX2_isTold, Cond.code yX2_isTold cX2_isTold 2 (some .boolean), Cond.fieldLink RX2 17 "FindsOffice$FindBook" "told" "I", Cond.methodLink RX9 150 yX9_worthNow, Cond.instanceMethod yX9_worthNow, Cond.selects RX9 yX9_worthNow yX9_worthNow, Cond.initialized RX9, Cond.code yX9_worthNow cX9_worthNow 2 (some .int), Cond.fieldLink RX9 37 "FindsOffice" "market" "LFindsOffice$Market;", Cond.fieldLink RX9 115 "FindsOffice$Find" "metal" "I", Cond.fieldLink RX9 121 "FindsOffice$Find" "weight" "I", Cond.fieldLink RX9 7 "FindsOffice" "now" "I", Cond.methodLink RX9 227 yX9_yearOf, Cond.static yX9_yearOf, Cond.code yX9_yearOf cX9_yearOf 1 (some .int)]
def wsX9_worth_r2 : List Cond := [Cond.methodLink RX9 230 yX6_appraise, Cond.instanceMethod yX6_appraise, Cond.selects RX6 yX6_appraise yX6_appraise, Cond.initialized RX6, Cond.code yX6_appraise cX6_appraise 10 (some .int), Cond.fieldLink RX6 17 "FindsOffice$Market" "told" "I", Cond.fieldLink RX6 13 "FindsOffice$Market" "sales" "[LFindsOffice$Sale;", Cond.fieldLink RX6 39 "FindsOffice$Sale" "metal" "I", Cond.fieldLink RX6 50 "FindsOffice$Sale" "weight" "I", Cond.constantLong RX6 53 (1000000), Cond.methodLink RX6 55 Lib.MathLoose.min_long.x, Cond.static Lib.MathLoose.min_long.x, Cond.initialized "java/lang/Math", Cond.code Lib.MathLoose.min_long.x Lib.MathLoose.min_long.code 4 (some .long), Cond.methodLink RX6 46 yX6_priceIn, Cond.instanceMethod yX6_priceIn, Cond.selects RX6 yX6_priceIn yX6_priceIn, Cond.code yX6_priceIn cX6_priceIn 4 (some .long), Cond.fieldLink RX6 61 "FindsOffice$Sale" "day" "I", Cond.fieldLink RX6 70 "FindsOffice$Sale" "price" "I", Cond.methodLink RX6 67 yX6_levelIn, Cond.instanceMethod yX6_levelIn, Cond.selects RX6 yX6_levelIn yX6_levelIn, Cond.code yX6_levelIn cX6_levelIn 3 (some .int)]
def wsX9_worth_r3 : List Cond := [Cond.fieldLink RX6 21 "FindsOffice$Market" "levels" "[I"]
def wsX9_worth : List Cond := .code yX9_worth cX9_worth 3 (some .int) :: ((wsX9_worth_r1 ++ (wsX9_worth_r2 ++ wsX9_worth_r3)) ++ wsX90 ++ wsX20 ++ wsX10 ++ wsX60 ++ wsX80)
def wsX9_rewardFor_r1 : List Cond := [Cond.fieldLink RX9 30 "FindsOffice" "findBook" "LFindsOffice$FindBook;", Cond.fieldLink RX9 248 "FindsOffice$Law" "percent" "I", Cond.fieldLink RX9 130 "FindsOffice$Find" "finder" "I", Cond.methodLink RX9 104 yX2_numbered, Cond.instanceMethod yX2_numbered, Cond.selects RX2 yX2_numbered yX2_numbered, Cond.initialized RX2, Cond.code yX2_numbered cX2_numbered 2 (some (.object "FindsOffice$Find")), Cond.fieldLink RX2 13 "FindsOffice$FindBook" "finds" "[LFindsOffice$Find;", Cond.methodLink RX2 47 yX2_isTold, Cond.instanceMethod yX2_isTold, Cond.selects RX2 yX2_isTold yX2_isTold, Cond.code yX2_isTold cX2_isTold 2 (some .boolean), Cond.fieldLink RX2 17 "FindsOffice$FindBook" "told" "I", Cond.methodLink RX9 237 yX9_lawThatCounts, Cond.instanceMethod yX9_lawThatCounts, Cond.selects RX9 yX9_lawThatCounts yX9_lawThatCounts, Cond.initialized RX9, Cond.code yX9_lawThatCounts cX9_lawThatCounts 5 (some (.object "FindsOffice$Law")), Cond.fieldLink RX9 16 "FindsOffice" "lawBook" "LFindsOffice$LawBook;", Cond.fieldLink RX9 109 "FindsOffice$Find" "found" "I", Cond.methodLink RX9 234 yX2_hoardSize, Cond.instanceMethod yX2_hoardSize, Cond.selects RX2 yX2_hoardSize yX2_hoardSize]
def wsX9_rewardFor_r2 : List Cond := [Cond.code yX2_hoardSize cX2_hoardSize 3 (some .int), Cond.fieldLink RX2 28 "FindsOffice$FindBook" "hoardOf" "[I", Cond.fieldLink RX2 31 "FindsOffice$FindBook" "sizeOf" "[I", Cond.methodLink RX9 241 yX5_inForce, Cond.instanceMethod yX5_inForce, Cond.selects RX5 yX5_inForce yX5_inForce, Cond.initialized RX5, Cond.code yX5_inForce cX5_inForce 5 (some (.object "FindsOffice$Law")), Cond.fieldLink RX5 17 "FindsOffice$LawBook" "told" "I", Cond.fieldLink RX5 13 "FindsOffice$LawBook" "laws" "[LFindsOffice$Law;", Cond.fieldLink RX5 25 "FindsOffice$Law" "from" "I", Cond.methodLink RX9 244 yX4_covers, Cond.instanceMethod yX4_covers, Cond.selects RX4 yX4_covers yX4_covers, Cond.initialized RX4, Cond.code yX4_covers cX4_covers 5 (some .boolean), Cond.fieldLink RX4 38 "FindsOffice$Find" "found" "I", Cond.fieldLink RX4 47 "FindsOffice$Find" "lastYear" "I", Cond.fieldLink RX4 14 "FindsOffice$Law" "age" "I", Cond.fieldLink RX4 50 "FindsOffice$Find" "metal" "I", Cond.fieldLink RX4 53 "FindsOffice$Find" "purity" "I", Cond.fieldLink RX4 17 "FindsOffice$Law" "parts" "I", Cond.fieldLink RX4 23 "FindsOffice$Law" "together" "I", Cond.static yX9_yearOf]
def wsX9_rewardFor_r3 : List Cond := [Cond.code yX9_yearOf cX9_yearOf 1 (some .int), Cond.methodLink RX9 150 yX9_worthNow, Cond.instanceMethod yX9_worthNow, Cond.selects RX9 yX9_worthNow yX9_worthNow, Cond.code yX9_worthNow cX9_worthNow 2 (some .int), Cond.fieldLink RX9 37 "FindsOffice" "market" "LFindsOffice$Market;", Cond.fieldLink RX9 115 "FindsOffice$Find" "metal" "I", Cond.fieldLink RX9 121 "FindsOffice$Find" "weight" "I", Cond.fieldLink RX9 7 "FindsOffice" "now" "I", Cond.methodLink RX9 227 yX9_yearOf, Cond.methodLink RX9 230 yX6_appraise, Cond.instanceMethod yX6_appraise, Cond.selects RX6 yX6_appraise yX6_appraise, Cond.initialized RX6, Cond.code yX6_appraise cX6_appraise 10 (some .int), Cond.fieldLink RX6 17 "FindsOffice$Market" "told" "I", Cond.fieldLink RX6 13 "FindsOffice$Market" "sales" "[LFindsOffice$Sale;", Cond.fieldLink RX6 39 "FindsOffice$Sale" "metal" "I", Cond.fieldLink RX6 50 "FindsOffice$Sale" "weight" "I", Cond.constantLong RX6 53 (1000000), Cond.methodLink RX6 55 Lib.MathLoose.min_long.x, Cond.static Lib.MathLoose.min_long.x, Cond.initialized "java/lang/Math", Cond.code Lib.MathLoose.min_long.x Lib.MathLoose.min_long.code 4 (some .long)]
def wsX9_rewardFor_r4 : List Cond := [Cond.methodLink RX6 46 yX6_priceIn, Cond.instanceMethod yX6_priceIn, Cond.selects RX6 yX6_priceIn yX6_priceIn, Cond.code yX6_priceIn cX6_priceIn 4 (some .long), Cond.fieldLink RX6 61 "FindsOffice$Sale" "day" "I", Cond.fieldLink RX6 70 "FindsOffice$Sale" "price" "I", Cond.methodLink RX6 67 yX6_levelIn, Cond.instanceMethod yX6_levelIn, Cond.selects RX6 yX6_levelIn yX6_levelIn, Cond.code yX6_levelIn cX6_levelIn 3 (some .int), Cond.fieldLink RX6 21 "FindsOffice$Market" "levels" "[I", Cond.methodLink RX9 133 yX9_landownerOf, Cond.instanceMethod yX9_landownerOf, Cond.selects RX9 yX9_landownerOf yX9_landownerOf, Cond.code yX9_landownerOf cX9_landownerOf 2 (some .int), Cond.fieldLink RX9 23 "FindsOffice" "landBook" "LFindsOffice$LandBook;", Cond.methodLink RX9 221 yX1_plot, Cond.instanceMethod yX1_plot, Cond.selects RX1 yX1_plot yX1_plot, Cond.initialized RX1, Cond.code yX1_plot cX1_plot 1 (some .int), Cond.fieldLink RX1 9 "FindsOffice$Find" "x" "I", Cond.fieldLink RX1 15 "FindsOffice$Find" "y" "I", Cond.methodLink RX9 224 yX3_holderOn]
def wsX9_rewardFor_r5 : List Cond := [Cond.instanceMethod yX3_holderOn, Cond.selects RX3 yX3_holderOn yX3_holderOn, Cond.initialized RX3, Cond.code yX3_holderOn cX3_holderOn 6 (some .int), Cond.fieldLink RX3 21 "FindsOffice$LandBook" "told" "I", Cond.fieldLink RX3 11 "FindsOffice$LandBook" "plots" "[I", Cond.fieldLink RX3 15 "FindsOffice$LandBook" "days" "[I", Cond.fieldLink RX3 18 "FindsOffice$LandBook" "holders" "[I"]
def wsX9_rewardFor : List Cond := .code yX9_rewardFor cX9_rewardFor 8 (some .int) :: ((wsX9_rewardFor_r1 ++ (wsX9_rewardFor_r2 ++ (wsX9_rewardFor_r3 ++ (wsX9_rewardFor_r4 ++ wsX9_rewardFor_r5)))) ++ wsX90 ++ wsX40 ++ wsX10 ++ wsX20 ++ wsX50 ++ wsX60 ++ wsX80 ++ wsX30)
def wsX9_share_r1 : List Cond := [Cond.fieldLink RX9 30 "FindsOffice" "findBook" "LFindsOffice$FindBook;", Cond.fieldLink RX9 7 "FindsOffice" "now" "I", Cond.methodLink RX9 153 yX9_isPerson, Cond.static yX9_isPerson, Cond.initialized RX9, Cond.code yX9_isPerson cX9_isPerson 1 (some .boolean), Cond.methodLink RX9 52 yX9_isBetween, Cond.static yX9_isBetween, Cond.code yX9_isBetween cX9_isBetween 3 (some .boolean), Cond.methodLink RX9 85 yX2_gatherHoards, Cond.instanceMethod yX2_gatherHoards, Cond.selects RX2 yX2_gatherHoards yX2_gatherHoards, Cond.initialized RX2, Cond.code yX2_gatherHoards cX2_gatherHoards 4 none, Cond.fieldLink RX2 28 "FindsOffice$FindBook" "hoardOf" "[I", Cond.fieldLink RX2 31 "FindsOffice$FindBook" "sizeOf" "[I", Cond.methodLink RX2 37 yJ7_fill_53178, Cond.static yJ7_fill_53178, Cond.initialized RJ7, Cond.code yJ7_fill_53178 cJ7_fill_53178 4 none, Cond.methodLink RX2 71 yX2_knownBy, Cond.instanceMethod yX2_knownBy, Cond.selects RX2 yX2_knownBy yX2_knownBy, Cond.code yX2_knownBy cX2_knownBy 5 (some .int)]
def wsX9_share_r2 : List Cond := [Cond.fieldLink RX2 17 "FindsOffice$FindBook" "told" "I", Cond.fieldLink RX2 79 "FindsOffice$Find" "known" "I", Cond.methodLink RX2 63 yX2_numbered, Cond.instanceMethod yX2_numbered, Cond.selects RX2 yX2_numbered yX2_numbered, Cond.code yX2_numbered cX2_numbered 2 (some (.object "FindsOffice$Find")), Cond.fieldLink RX2 13 "FindsOffice$FindBook" "finds" "[LFindsOffice$Find;", Cond.methodLink RX2 47 yX2_isTold, Cond.instanceMethod yX2_isTold, Cond.selects RX2 yX2_isTold yX2_isTold, Cond.code yX2_isTold cX2_isTold 2 (some .boolean), Cond.methodLink RX2 75 yX2_gatherFrom, Cond.instanceMethod yX2_gatherFrom, Cond.selects RX2 yX2_gatherFrom yX2_gatherFrom, Cond.code yX2_gatherFrom cX2_gatherFrom 8 (some .int), Cond.fieldLink RX2 34 "FindsOffice$FindBook" "reached" "[I", Cond.methodLink RX2 82 yX2_isJoined, Cond.instanceMethod yX2_isJoined, Cond.selects RX2 yX2_isJoined yX2_isJoined, Cond.code yX2_isJoined cX2_isJoined 7 (some .boolean), Cond.fieldLink RX2 21 "FindsOffice$FindBook" "partedOn" "[I", Cond.methodLink RX2 67 yX1_isNear, Cond.instanceMethod yX1_isNear, Cond.selects RX1 yX1_isNear yX1_isNear]
def wsX9_share_r3 : List Cond := [Cond.initialized RX1, Cond.code yX1_isNear cX1_isNear 2 (some .boolean), Cond.fieldLink RX1 9 "FindsOffice$Find" "x" "I", Cond.methodLink RX1 57 Lib.Math.abs.name, Cond.static Lib.Math.abs.name, Cond.initialized "java/lang/Math", Cond.code Lib.Math.abs.name Lib.Math.abs.code 1 (some .int), Cond.fieldLink RX1 15 "FindsOffice$Find" "y" "I", Cond.fieldLink RX1 28 "FindsOffice$Find" "firstYear" "I", Cond.fieldLink RX1 31 "FindsOffice$Find" "lastYear" "I", Cond.methodLink RX2 51 yX2_pairOf, Cond.instanceMethod yX2_pairOf, Cond.selects RX2 yX2_pairOf yX2_pairOf, Cond.code yX2_pairOf cX2_pairOf 4 (some .int), Cond.methodLink RX2 55 Lib.Math.max.name, Cond.static Lib.Math.max.name, Cond.code Lib.Math.max.name Lib.Math.max.code 2 (some .int), Cond.methodLink RX2 60 Lib.Math.min.name, Cond.static Lib.Math.min.name, Cond.code Lib.Math.min.name Lib.Math.min.code 2 (some .int), Cond.methodLink RX9 156 yX9_rewardFor, Cond.instanceMethod yX9_rewardFor, Cond.selects RX9 yX9_rewardFor yX9_rewardFor, Cond.code yX9_rewardFor cX9_rewardFor 8 (some .int)]
def wsX9_share_r4 : List Cond := [Cond.fieldLink RX9 248 "FindsOffice$Law" "percent" "I", Cond.fieldLink RX9 130 "FindsOffice$Find" "finder" "I", Cond.methodLink RX9 104 yX2_numbered, Cond.methodLink RX9 237 yX9_lawThatCounts, Cond.instanceMethod yX9_lawThatCounts, Cond.selects RX9 yX9_lawThatCounts yX9_lawThatCounts, Cond.code yX9_lawThatCounts cX9_lawThatCounts 5 (some (.object "FindsOffice$Law")), Cond.fieldLink RX9 16 "FindsOffice" "lawBook" "LFindsOffice$LawBook;", Cond.fieldLink RX9 109 "FindsOffice$Find" "found" "I", Cond.methodLink RX9 234 yX2_hoardSize, Cond.instanceMethod yX2_hoardSize, Cond.selects RX2 yX2_hoardSize yX2_hoardSize, Cond.code yX2_hoardSize cX2_hoardSize 3 (some .int), Cond.methodLink RX9 241 yX5_inForce, Cond.instanceMethod yX5_inForce, Cond.selects RX5 yX5_inForce yX5_inForce, Cond.initialized RX5, Cond.code yX5_inForce cX5_inForce 5 (some (.object "FindsOffice$Law")), Cond.fieldLink RX5 17 "FindsOffice$LawBook" "told" "I", Cond.fieldLink RX5 13 "FindsOffice$LawBook" "laws" "[LFindsOffice$Law;", Cond.fieldLink RX5 25 "FindsOffice$Law" "from" "I", Cond.methodLink RX9 244 yX4_covers, Cond.instanceMethod yX4_covers, Cond.selects RX4 yX4_covers yX4_covers]
def wsX9_share_r5 : List Cond := [Cond.initialized RX4, Cond.code yX4_covers cX4_covers 5 (some .boolean), Cond.fieldLink RX4 38 "FindsOffice$Find" "found" "I", Cond.fieldLink RX4 47 "FindsOffice$Find" "lastYear" "I", Cond.fieldLink RX4 14 "FindsOffice$Law" "age" "I", Cond.fieldLink RX4 50 "FindsOffice$Find" "metal" "I", Cond.fieldLink RX4 53 "FindsOffice$Find" "purity" "I", Cond.fieldLink RX4 17 "FindsOffice$Law" "parts" "I", Cond.fieldLink RX4 23 "FindsOffice$Law" "together" "I", Cond.static yX9_yearOf, Cond.code yX9_yearOf cX9_yearOf 1 (some .int), Cond.methodLink RX9 150 yX9_worthNow, Cond.instanceMethod yX9_worthNow, Cond.selects RX9 yX9_worthNow yX9_worthNow, Cond.code yX9_worthNow cX9_worthNow 2 (some .int), Cond.fieldLink RX9 37 "FindsOffice" "market" "LFindsOffice$Market;", Cond.fieldLink RX9 115 "FindsOffice$Find" "metal" "I", Cond.fieldLink RX9 121 "FindsOffice$Find" "weight" "I", Cond.methodLink RX9 227 yX9_yearOf, Cond.methodLink RX9 230 yX6_appraise, Cond.instanceMethod yX6_appraise, Cond.selects RX6 yX6_appraise yX6_appraise, Cond.initialized RX6, Cond.code yX6_appraise cX6_appraise 10 (some .int)]
def wsX9_share_r6 : List Cond := [Cond.fieldLink RX6 17 "FindsOffice$Market" "told" "I", Cond.fieldLink RX6 13 "FindsOffice$Market" "sales" "[LFindsOffice$Sale;", Cond.fieldLink RX6 39 "FindsOffice$Sale" "metal" "I", Cond.fieldLink RX6 50 "FindsOffice$Sale" "weight" "I", Cond.constantLong RX6 53 (1000000), Cond.methodLink RX6 55 Lib.MathLoose.min_long.x, Cond.static Lib.MathLoose.min_long.x, Cond.code Lib.MathLoose.min_long.x Lib.MathLoose.min_long.code 4 (some .long), Cond.methodLink RX6 46 yX6_priceIn, Cond.instanceMethod yX6_priceIn, Cond.selects RX6 yX6_priceIn yX6_priceIn, Cond.code yX6_priceIn cX6_priceIn 4 (some .long), Cond.fieldLink RX6 61 "FindsOffice$Sale" "day" "I", Cond.fieldLink RX6 70 "FindsOffice$Sale" "price" "I", Cond.methodLink RX6 67 yX6_levelIn, Cond.instanceMethod yX6_levelIn, Cond.selects RX6 yX6_levelIn yX6_levelIn, Cond.code yX6_levelIn cX6_levelIn 3 (some .int), Cond.fieldLink RX6 21 "FindsOffice$Market" "levels" "[I", Cond.methodLink RX9 133 yX9_landownerOf, Cond.instanceMethod yX9_landownerOf, Cond.selects RX9 yX9_landownerOf yX9_landownerOf, Cond.code yX9_landownerOf cX9_landownerOf 2 (some .int), Cond.fieldLink RX9 23 "FindsOffice" "landBook" "LFindsOffice$LandBook;"]
def wsX9_share_r7 : List Cond := [Cond.methodLink RX9 221 yX1_plot, Cond.instanceMethod yX1_plot, Cond.selects RX1 yX1_plot yX1_plot, Cond.code yX1_plot cX1_plot 1 (some .int), Cond.methodLink RX9 224 yX3_holderOn, Cond.instanceMethod yX3_holderOn, Cond.selects RX3 yX3_holderOn yX3_holderOn, Cond.initialized RX3, Cond.code yX3_holderOn cX3_holderOn 6 (some .int), Cond.fieldLink RX3 21 "FindsOffice$LandBook" "told" "I", Cond.fieldLink RX3 11 "FindsOffice$LandBook" "plots" "[I", Cond.fieldLink RX3 15 "FindsOffice$LandBook" "days" "[I", Cond.fieldLink RX3 18 "FindsOffice$LandBook" "holders" "[I"]
def wsX9_share : List Cond := .code yX9_share cX9_share 3 (some .int) :: ((wsX9_share_r1 ++ (wsX9_share_r2 ++ (wsX9_share_r3 ++ (wsX9_share_r4 ++ (wsX9_share_r5 ++ (wsX9_share_r6 ++ wsX9_share_r7)))))) ++ wsX90 ++ wsX20 ++ wsX10 ++ wsX40 ++ wsX50 ++ wsX60 ++ wsX80 ++ wsX30)
def wsX9_stillOpen_r1 : List Cond := [Cond.fieldLink RX9 30 "FindsOffice" "findBook" "LFindsOffice$FindBook;", Cond.fieldLink RX9 7 "FindsOffice" "now" "I", Cond.fieldLink RX9 48 "FindsOffice" "paidTo" "[I", Cond.fieldLink RX9 198 "FindsOffice$FindBook" "told" "I", Cond.methodLink RX9 85 yX2_gatherHoards, Cond.instanceMethod yX2_gatherHoards, Cond.selects RX2 yX2_gatherHoards yX2_gatherHoards, Cond.initialized RX2, Cond.code yX2_gatherHoards cX2_gatherHoards 4 none, Cond.fieldLink RX2 28 "FindsOffice$FindBook" "hoardOf" "[I", Cond.fieldLink RX2 31 "FindsOffice$FindBook" "sizeOf" "[I", Cond.methodLink RX2 37 yJ7_fill_53178, Cond.static yJ7_fill_53178, Cond.initialized RJ7, Cond.code yJ7_fill_53178 cJ7_fill_53178 4 none, Cond.methodLink RX2 71 yX2_knownBy, Cond.instanceMethod yX2_knownBy, Cond.selects RX2 yX2_knownBy yX2_knownBy, Cond.code yX2_knownBy cX2_knownBy 5 (some .int), Cond.fieldLink RX2 17 "FindsOffice$FindBook" "told" "I", Cond.fieldLink RX2 79 "FindsOffice$Find" "known" "I", Cond.methodLink RX2 63 yX2_numbered, Cond.instanceMethod yX2_numbered, Cond.selects RX2 yX2_numbered yX2_numbered]
def wsX9_stillOpen_r2 : List Cond := [Cond.code yX2_numbered cX2_numbered 2 (some (.object "FindsOffice$Find")), Cond.fieldLink RX2 13 "FindsOffice$FindBook" "finds" "[LFindsOffice$Find;", Cond.methodLink RX2 47 yX2_isTold, Cond.instanceMethod yX2_isTold, Cond.selects RX2 yX2_isTold yX2_isTold, Cond.code yX2_isTold cX2_isTold 2 (some .boolean), Cond.methodLink RX2 75 yX2_gatherFrom, Cond.instanceMethod yX2_gatherFrom, Cond.selects RX2 yX2_gatherFrom yX2_gatherFrom, Cond.code yX2_gatherFrom cX2_gatherFrom 8 (some .int), Cond.fieldLink RX2 34 "FindsOffice$FindBook" "reached" "[I", Cond.methodLink RX2 82 yX2_isJoined, Cond.instanceMethod yX2_isJoined, Cond.selects RX2 yX2_isJoined yX2_isJoined, Cond.code yX2_isJoined cX2_isJoined 7 (some .boolean), Cond.fieldLink RX2 21 "FindsOffice$FindBook" "partedOn" "[I", Cond.methodLink RX2 67 yX1_isNear, Cond.instanceMethod yX1_isNear, Cond.selects RX1 yX1_isNear yX1_isNear, Cond.initialized RX1, Cond.code yX1_isNear cX1_isNear 2 (some .boolean), Cond.fieldLink RX1 9 "FindsOffice$Find" "x" "I", Cond.methodLink RX1 57 Lib.Math.abs.name, Cond.static Lib.Math.abs.name]
def wsX9_stillOpen_r3 : List Cond := [Cond.initialized "java/lang/Math", Cond.code Lib.Math.abs.name Lib.Math.abs.code 1 (some .int), Cond.fieldLink RX1 15 "FindsOffice$Find" "y" "I", Cond.fieldLink RX1 28 "FindsOffice$Find" "firstYear" "I", Cond.fieldLink RX1 31 "FindsOffice$Find" "lastYear" "I", Cond.methodLink RX2 51 yX2_pairOf, Cond.instanceMethod yX2_pairOf, Cond.selects RX2 yX2_pairOf yX2_pairOf, Cond.code yX2_pairOf cX2_pairOf 4 (some .int), Cond.methodLink RX2 55 Lib.Math.max.name, Cond.static Lib.Math.max.name, Cond.code Lib.Math.max.name Lib.Math.max.code 2 (some .int), Cond.methodLink RX2 60 Lib.Math.min.name, Cond.static Lib.Math.min.name, Cond.code Lib.Math.min.name Lib.Math.min.code 2 (some .int), Cond.methodLink RX9 153 yX9_isPerson, Cond.static yX9_isPerson, Cond.initialized RX9, Cond.code yX9_isPerson cX9_isPerson 1 (some .boolean), Cond.methodLink RX9 52 yX9_isBetween, Cond.static yX9_isBetween, Cond.code yX9_isBetween cX9_isBetween 3 (some .boolean), Cond.methodLink RX9 156 yX9_rewardFor, Cond.instanceMethod yX9_rewardFor]
def wsX9_stillOpen_r4 : List Cond := [Cond.selects RX9 yX9_rewardFor yX9_rewardFor, Cond.code yX9_rewardFor cX9_rewardFor 8 (some .int), Cond.fieldLink RX9 248 "FindsOffice$Law" "percent" "I", Cond.fieldLink RX9 130 "FindsOffice$Find" "finder" "I", Cond.methodLink RX9 104 yX2_numbered, Cond.methodLink RX9 237 yX9_lawThatCounts, Cond.instanceMethod yX9_lawThatCounts, Cond.selects RX9 yX9_lawThatCounts yX9_lawThatCounts, Cond.code yX9_lawThatCounts cX9_lawThatCounts 5 (some (.object "FindsOffice$Law")), Cond.fieldLink RX9 16 "FindsOffice" "lawBook" "LFindsOffice$LawBook;", Cond.fieldLink RX9 109 "FindsOffice$Find" "found" "I", Cond.methodLink RX9 234 yX2_hoardSize, Cond.instanceMethod yX2_hoardSize, Cond.selects RX2 yX2_hoardSize yX2_hoardSize, Cond.code yX2_hoardSize cX2_hoardSize 3 (some .int), Cond.methodLink RX9 241 yX5_inForce, Cond.instanceMethod yX5_inForce, Cond.selects RX5 yX5_inForce yX5_inForce, Cond.initialized RX5, Cond.code yX5_inForce cX5_inForce 5 (some (.object "FindsOffice$Law")), Cond.fieldLink RX5 17 "FindsOffice$LawBook" "told" "I", Cond.fieldLink RX5 13 "FindsOffice$LawBook" "laws" "[LFindsOffice$Law;", Cond.fieldLink RX5 25 "FindsOffice$Law" "from" "I", Cond.methodLink RX9 244 yX4_covers]
def wsX9_stillOpen_r5 : List Cond := [Cond.instanceMethod yX4_covers, Cond.selects RX4 yX4_covers yX4_covers, Cond.initialized RX4, Cond.code yX4_covers cX4_covers 5 (some .boolean), Cond.fieldLink RX4 38 "FindsOffice$Find" "found" "I", Cond.fieldLink RX4 47 "FindsOffice$Find" "lastYear" "I", Cond.fieldLink RX4 14 "FindsOffice$Law" "age" "I", Cond.fieldLink RX4 50 "FindsOffice$Find" "metal" "I", Cond.fieldLink RX4 53 "FindsOffice$Find" "purity" "I", Cond.fieldLink RX4 17 "FindsOffice$Law" "parts" "I", Cond.fieldLink RX4 23 "FindsOffice$Law" "together" "I", Cond.static yX9_yearOf, Cond.code yX9_yearOf cX9_yearOf 1 (some .int), Cond.methodLink RX9 150 yX9_worthNow, Cond.instanceMethod yX9_worthNow, Cond.selects RX9 yX9_worthNow yX9_worthNow, Cond.code yX9_worthNow cX9_worthNow 2 (some .int), Cond.fieldLink RX9 37 "FindsOffice" "market" "LFindsOffice$Market;", Cond.fieldLink RX9 115 "FindsOffice$Find" "metal" "I", Cond.fieldLink RX9 121 "FindsOffice$Find" "weight" "I", Cond.methodLink RX9 227 yX9_yearOf, Cond.methodLink RX9 230 yX6_appraise, Cond.instanceMethod yX6_appraise, Cond.selects RX6 yX6_appraise yX6_appraise]
def wsX9_stillOpen_r6 : List Cond := [Cond.initialized RX6, Cond.code yX6_appraise cX6_appraise 10 (some .int), Cond.fieldLink RX6 17 "FindsOffice$Market" "told" "I", Cond.fieldLink RX6 13 "FindsOffice$Market" "sales" "[LFindsOffice$Sale;", Cond.fieldLink RX6 39 "FindsOffice$Sale" "metal" "I", Cond.fieldLink RX6 50 "FindsOffice$Sale" "weight" "I", Cond.constantLong RX6 53 (1000000), Cond.methodLink RX6 55 Lib.MathLoose.min_long.x, Cond.static Lib.MathLoose.min_long.x, Cond.code Lib.MathLoose.min_long.x Lib.MathLoose.min_long.code 4 (some .long), Cond.methodLink RX6 46 yX6_priceIn, Cond.instanceMethod yX6_priceIn, Cond.selects RX6 yX6_priceIn yX6_priceIn, Cond.code yX6_priceIn cX6_priceIn 4 (some .long), Cond.fieldLink RX6 61 "FindsOffice$Sale" "day" "I", Cond.fieldLink RX6 70 "FindsOffice$Sale" "price" "I", Cond.methodLink RX6 67 yX6_levelIn, Cond.instanceMethod yX6_levelIn, Cond.selects RX6 yX6_levelIn yX6_levelIn, Cond.code yX6_levelIn cX6_levelIn 3 (some .int), Cond.fieldLink RX6 21 "FindsOffice$Market" "levels" "[I", Cond.methodLink RX9 133 yX9_landownerOf, Cond.instanceMethod yX9_landownerOf, Cond.selects RX9 yX9_landownerOf yX9_landownerOf]
def wsX9_stillOpen_r7 : List Cond := [Cond.code yX9_landownerOf cX9_landownerOf 2 (some .int), Cond.fieldLink RX9 23 "FindsOffice" "landBook" "LFindsOffice$LandBook;", Cond.methodLink RX9 221 yX1_plot, Cond.instanceMethod yX1_plot, Cond.selects RX1 yX1_plot yX1_plot, Cond.code yX1_plot cX1_plot 1 (some .int), Cond.methodLink RX9 224 yX3_holderOn, Cond.instanceMethod yX3_holderOn, Cond.selects RX3 yX3_holderOn yX3_holderOn, Cond.initialized RX3, Cond.code yX3_holderOn cX3_holderOn 6 (some .int), Cond.fieldLink RX3 21 "FindsOffice$LandBook" "told" "I", Cond.fieldLink RX3 11 "FindsOffice$LandBook" "plots" "[I", Cond.fieldLink RX3 15 "FindsOffice$LandBook" "days" "[I", Cond.fieldLink RX3 18 "FindsOffice$LandBook" "holders" "[I"]
def wsX9_stillOpen : List Cond := .code yX9_stillOpen cX9_stillOpen 4 (some .int) :: ((wsX9_stillOpen_r1 ++ (wsX9_stillOpen_r2 ++ (wsX9_stillOpen_r3 ++ (wsX9_stillOpen_r4 ++ (wsX9_stillOpen_r5 ++ (wsX9_stillOpen_r6 ++ wsX9_stillOpen_r7)))))) ++ wsX90 ++ wsX20 ++ wsX10 ++ wsX40 ++ wsX50 ++ wsX60 ++ wsX80 ++ wsX30)
def wsX9_due_r1 : List Cond := [Cond.methodLink RX9 153 yX9_isPerson, Cond.static yX9_isPerson, Cond.initialized RX9, Cond.code yX9_isPerson cX9_isPerson 1 (some .boolean), Cond.methodLink RX9 52 yX9_isBetween, Cond.static yX9_isBetween, Cond.code yX9_isBetween cX9_isBetween 3 (some .boolean), Cond.methodLink RX9 159 yX9_stillOpen, Cond.instanceMethod yX9_stillOpen, Cond.selects RX9 yX9_stillOpen yX9_stillOpen, Cond.code yX9_stillOpen cX9_stillOpen 4 (some .int), Cond.fieldLink RX9 30 "FindsOffice" "findBook" "LFindsOffice$FindBook;", Cond.fieldLink RX9 7 "FindsOffice" "now" "I", Cond.fieldLink RX9 48 "FindsOffice" "paidTo" "[I", Cond.fieldLink RX9 198 "FindsOffice$FindBook" "told" "I", Cond.methodLink RX9 85 yX2_gatherHoards, Cond.instanceMethod yX2_gatherHoards, Cond.selects RX2 yX2_gatherHoards yX2_gatherHoards, Cond.initialized RX2, Cond.code yX2_gatherHoards cX2_gatherHoards 4 none, Cond.fieldLink RX2 28 "FindsOffice$FindBook" "hoardOf" "[I", Cond.fieldLink RX2 31 "FindsOffice$FindBook" "sizeOf" "[I", Cond.methodLink RX2 37 yJ7_fill_53178, Cond.static yJ7_fill_53178]
def wsX9_due_r2 : List Cond := [Cond.initialized RJ7, Cond.code yJ7_fill_53178 cJ7_fill_53178 4 none, Cond.methodLink RX2 71 yX2_knownBy, Cond.instanceMethod yX2_knownBy, Cond.selects RX2 yX2_knownBy yX2_knownBy, Cond.code yX2_knownBy cX2_knownBy 5 (some .int), Cond.fieldLink RX2 17 "FindsOffice$FindBook" "told" "I", Cond.fieldLink RX2 79 "FindsOffice$Find" "known" "I", Cond.methodLink RX2 63 yX2_numbered, Cond.instanceMethod yX2_numbered, Cond.selects RX2 yX2_numbered yX2_numbered, Cond.code yX2_numbered cX2_numbered 2 (some (.object "FindsOffice$Find")), Cond.fieldLink RX2 13 "FindsOffice$FindBook" "finds" "[LFindsOffice$Find;", Cond.methodLink RX2 47 yX2_isTold, Cond.instanceMethod yX2_isTold, Cond.selects RX2 yX2_isTold yX2_isTold, Cond.code yX2_isTold cX2_isTold 2 (some .boolean), Cond.methodLink RX2 75 yX2_gatherFrom, Cond.instanceMethod yX2_gatherFrom, Cond.selects RX2 yX2_gatherFrom yX2_gatherFrom, Cond.code yX2_gatherFrom cX2_gatherFrom 8 (some .int), Cond.fieldLink RX2 34 "FindsOffice$FindBook" "reached" "[I", Cond.methodLink RX2 82 yX2_isJoined, Cond.instanceMethod yX2_isJoined]
def wsX9_due_r3 : List Cond := [Cond.selects RX2 yX2_isJoined yX2_isJoined, Cond.code yX2_isJoined cX2_isJoined 7 (some .boolean), Cond.fieldLink RX2 21 "FindsOffice$FindBook" "partedOn" "[I", Cond.methodLink RX2 67 yX1_isNear, Cond.instanceMethod yX1_isNear, Cond.selects RX1 yX1_isNear yX1_isNear, Cond.initialized RX1, Cond.code yX1_isNear cX1_isNear 2 (some .boolean), Cond.fieldLink RX1 9 "FindsOffice$Find" "x" "I", Cond.methodLink RX1 57 Lib.Math.abs.name, Cond.static Lib.Math.abs.name, Cond.initialized "java/lang/Math", Cond.code Lib.Math.abs.name Lib.Math.abs.code 1 (some .int), Cond.fieldLink RX1 15 "FindsOffice$Find" "y" "I", Cond.fieldLink RX1 28 "FindsOffice$Find" "firstYear" "I", Cond.fieldLink RX1 31 "FindsOffice$Find" "lastYear" "I", Cond.methodLink RX2 51 yX2_pairOf, Cond.instanceMethod yX2_pairOf, Cond.selects RX2 yX2_pairOf yX2_pairOf, Cond.code yX2_pairOf cX2_pairOf 4 (some .int), Cond.methodLink RX2 55 Lib.Math.max.name, Cond.static Lib.Math.max.name, Cond.code Lib.Math.max.name Lib.Math.max.code 2 (some .int), Cond.methodLink RX2 60 Lib.Math.min.name]
def wsX9_due_r4 : List Cond := [Cond.static Lib.Math.min.name, Cond.code Lib.Math.min.name Lib.Math.min.code 2 (some .int), Cond.methodLink RX9 156 yX9_rewardFor, Cond.instanceMethod yX9_rewardFor, Cond.selects RX9 yX9_rewardFor yX9_rewardFor, Cond.code yX9_rewardFor cX9_rewardFor 8 (some .int), Cond.fieldLink RX9 248 "FindsOffice$Law" "percent" "I", Cond.fieldLink RX9 130 "FindsOffice$Find" "finder" "I", Cond.methodLink RX9 104 yX2_numbered, Cond.methodLink RX9 237 yX9_lawThatCounts, Cond.instanceMethod yX9_lawThatCounts, Cond.selects RX9 yX9_lawThatCounts yX9_lawThatCounts, Cond.code yX9_lawThatCounts cX9_lawThatCounts 5 (some (.object "FindsOffice$Law")), Cond.fieldLink RX9 16 "FindsOffice" "lawBook" "LFindsOffice$LawBook;", Cond.fieldLink RX9 109 "FindsOffice$Find" "found" "I", Cond.methodLink RX9 234 yX2_hoardSize, Cond.instanceMethod yX2_hoardSize, Cond.selects RX2 yX2_hoardSize yX2_hoardSize, Cond.code yX2_hoardSize cX2_hoardSize 3 (some .int), Cond.methodLink RX9 241 yX5_inForce, Cond.instanceMethod yX5_inForce, Cond.selects RX5 yX5_inForce yX5_inForce, Cond.initialized RX5, Cond.code yX5_inForce cX5_inForce 5 (some (.object "FindsOffice$Law"))]
def wsX9_due_r5 : List Cond := [Cond.fieldLink RX5 17 "FindsOffice$LawBook" "told" "I", Cond.fieldLink RX5 13 "FindsOffice$LawBook" "laws" "[LFindsOffice$Law;", Cond.fieldLink RX5 25 "FindsOffice$Law" "from" "I", Cond.methodLink RX9 244 yX4_covers, Cond.instanceMethod yX4_covers, Cond.selects RX4 yX4_covers yX4_covers, Cond.initialized RX4, Cond.code yX4_covers cX4_covers 5 (some .boolean), Cond.fieldLink RX4 38 "FindsOffice$Find" "found" "I", Cond.fieldLink RX4 47 "FindsOffice$Find" "lastYear" "I", Cond.fieldLink RX4 14 "FindsOffice$Law" "age" "I", Cond.fieldLink RX4 50 "FindsOffice$Find" "metal" "I", Cond.fieldLink RX4 53 "FindsOffice$Find" "purity" "I", Cond.fieldLink RX4 17 "FindsOffice$Law" "parts" "I", Cond.fieldLink RX4 23 "FindsOffice$Law" "together" "I", Cond.static yX9_yearOf, Cond.code yX9_yearOf cX9_yearOf 1 (some .int), Cond.methodLink RX9 150 yX9_worthNow, Cond.instanceMethod yX9_worthNow, Cond.selects RX9 yX9_worthNow yX9_worthNow, Cond.code yX9_worthNow cX9_worthNow 2 (some .int), Cond.fieldLink RX9 37 "FindsOffice" "market" "LFindsOffice$Market;", Cond.fieldLink RX9 115 "FindsOffice$Find" "metal" "I", Cond.fieldLink RX9 121 "FindsOffice$Find" "weight" "I"]
def wsX9_due_r6 : List Cond := [Cond.methodLink RX9 227 yX9_yearOf, Cond.methodLink RX9 230 yX6_appraise, Cond.instanceMethod yX6_appraise, Cond.selects RX6 yX6_appraise yX6_appraise, Cond.initialized RX6, Cond.code yX6_appraise cX6_appraise 10 (some .int), Cond.fieldLink RX6 17 "FindsOffice$Market" "told" "I", Cond.fieldLink RX6 13 "FindsOffice$Market" "sales" "[LFindsOffice$Sale;", Cond.fieldLink RX6 39 "FindsOffice$Sale" "metal" "I", Cond.fieldLink RX6 50 "FindsOffice$Sale" "weight" "I", Cond.constantLong RX6 53 (1000000), Cond.methodLink RX6 55 Lib.MathLoose.min_long.x, Cond.static Lib.MathLoose.min_long.x, Cond.code Lib.MathLoose.min_long.x Lib.MathLoose.min_long.code 4 (some .long), Cond.methodLink RX6 46 yX6_priceIn, Cond.instanceMethod yX6_priceIn, Cond.selects RX6 yX6_priceIn yX6_priceIn, Cond.code yX6_priceIn cX6_priceIn 4 (some .long), Cond.fieldLink RX6 61 "FindsOffice$Sale" "day" "I", Cond.fieldLink RX6 70 "FindsOffice$Sale" "price" "I", Cond.methodLink RX6 67 yX6_levelIn, Cond.instanceMethod yX6_levelIn, Cond.selects RX6 yX6_levelIn yX6_levelIn, Cond.code yX6_levelIn cX6_levelIn 3 (some .int)]
def wsX9_due_r7 : List Cond := [Cond.fieldLink RX6 21 "FindsOffice$Market" "levels" "[I", Cond.methodLink RX9 133 yX9_landownerOf, Cond.instanceMethod yX9_landownerOf, Cond.selects RX9 yX9_landownerOf yX9_landownerOf, Cond.code yX9_landownerOf cX9_landownerOf 2 (some .int), Cond.fieldLink RX9 23 "FindsOffice" "landBook" "LFindsOffice$LandBook;", Cond.methodLink RX9 221 yX1_plot, Cond.instanceMethod yX1_plot, Cond.selects RX1 yX1_plot yX1_plot, Cond.code yX1_plot cX1_plot 1 (some .int), Cond.methodLink RX9 224 yX3_holderOn, Cond.instanceMethod yX3_holderOn, Cond.selects RX3 yX3_holderOn yX3_holderOn, Cond.initialized RX3, Cond.code yX3_holderOn cX3_holderOn 6 (some .int), Cond.fieldLink RX3 21 "FindsOffice$LandBook" "told" "I", Cond.fieldLink RX3 11 "FindsOffice$LandBook" "plots" "[I", Cond.fieldLink RX3 15 "FindsOffice$LandBook" "days" "[I", Cond.fieldLink RX3 18 "FindsOffice$LandBook" "holders" "[I"]
def wsX9_due : List Cond := .code yX9_due cX9_due 2 (some .int) :: ((wsX9_due_r1 ++ (wsX9_due_r2 ++ (wsX9_due_r3 ++ (wsX9_due_r4 ++ (wsX9_due_r5 ++ (wsX9_due_r6 ++ wsX9_due_r7)))))) ++ wsX90 ++ wsX20 ++ wsX10 ++ wsX40 ++ wsX50 ++ wsX60 ++ wsX80 ++ wsX30)
def wsX9_settle_r1 : List Cond := [Cond.fieldLink RX9 48 "FindsOffice" "paidTo" "[I", Cond.methodLink RX9 153 yX9_isPerson, Cond.static yX9_isPerson, Cond.initialized RX9, Cond.code yX9_isPerson cX9_isPerson 1 (some .boolean), Cond.methodLink RX9 52 yX9_isBetween, Cond.static yX9_isBetween, Cond.code yX9_isBetween cX9_isBetween 3 (some .boolean), Cond.methodLink RX9 159 yX9_stillOpen, Cond.instanceMethod yX9_stillOpen, Cond.selects RX9 yX9_stillOpen yX9_stillOpen, Cond.code yX9_stillOpen cX9_stillOpen 4 (some .int), Cond.fieldLink RX9 30 "FindsOffice" "findBook" "LFindsOffice$FindBook;", Cond.fieldLink RX9 7 "FindsOffice" "now" "I", Cond.fieldLink RX9 198 "FindsOffice$FindBook" "told" "I", Cond.methodLink RX9 85 yX2_gatherHoards, Cond.instanceMethod yX2_gatherHoards, Cond.selects RX2 yX2_gatherHoards yX2_gatherHoards, Cond.initialized RX2, Cond.code yX2_gatherHoards cX2_gatherHoards 4 none, Cond.fieldLink RX2 28 "FindsOffice$FindBook" "hoardOf" "[I", Cond.fieldLink RX2 31 "FindsOffice$FindBook" "sizeOf" "[I", Cond.methodLink RX2 37 yJ7_fill_53178, Cond.static yJ7_fill_53178]
def wsX9_settle_r2 : List Cond := [Cond.initialized RJ7, Cond.code yJ7_fill_53178 cJ7_fill_53178 4 none, Cond.methodLink RX2 71 yX2_knownBy, Cond.instanceMethod yX2_knownBy, Cond.selects RX2 yX2_knownBy yX2_knownBy, Cond.code yX2_knownBy cX2_knownBy 5 (some .int), Cond.fieldLink RX2 17 "FindsOffice$FindBook" "told" "I", Cond.fieldLink RX2 79 "FindsOffice$Find" "known" "I", Cond.methodLink RX2 63 yX2_numbered, Cond.instanceMethod yX2_numbered, Cond.selects RX2 yX2_numbered yX2_numbered, Cond.code yX2_numbered cX2_numbered 2 (some (.object "FindsOffice$Find")), Cond.fieldLink RX2 13 "FindsOffice$FindBook" "finds" "[LFindsOffice$Find;", Cond.methodLink RX2 47 yX2_isTold, Cond.instanceMethod yX2_isTold, Cond.selects RX2 yX2_isTold yX2_isTold, Cond.code yX2_isTold cX2_isTold 2 (some .boolean), Cond.methodLink RX2 75 yX2_gatherFrom, Cond.instanceMethod yX2_gatherFrom, Cond.selects RX2 yX2_gatherFrom yX2_gatherFrom, Cond.code yX2_gatherFrom cX2_gatherFrom 8 (some .int), Cond.fieldLink RX2 34 "FindsOffice$FindBook" "reached" "[I", Cond.methodLink RX2 82 yX2_isJoined, Cond.instanceMethod yX2_isJoined]
def wsX9_settle_r3 : List Cond := [Cond.selects RX2 yX2_isJoined yX2_isJoined, Cond.code yX2_isJoined cX2_isJoined 7 (some .boolean), Cond.fieldLink RX2 21 "FindsOffice$FindBook" "partedOn" "[I", Cond.methodLink RX2 67 yX1_isNear, Cond.instanceMethod yX1_isNear, Cond.selects RX1 yX1_isNear yX1_isNear, Cond.initialized RX1, Cond.code yX1_isNear cX1_isNear 2 (some .boolean), Cond.fieldLink RX1 9 "FindsOffice$Find" "x" "I", Cond.methodLink RX1 57 Lib.Math.abs.name, Cond.static Lib.Math.abs.name, Cond.initialized "java/lang/Math", Cond.code Lib.Math.abs.name Lib.Math.abs.code 1 (some .int), Cond.fieldLink RX1 15 "FindsOffice$Find" "y" "I", Cond.fieldLink RX1 28 "FindsOffice$Find" "firstYear" "I", Cond.fieldLink RX1 31 "FindsOffice$Find" "lastYear" "I", Cond.methodLink RX2 51 yX2_pairOf, Cond.instanceMethod yX2_pairOf, Cond.selects RX2 yX2_pairOf yX2_pairOf, Cond.code yX2_pairOf cX2_pairOf 4 (some .int), Cond.methodLink RX2 55 Lib.Math.max.name, Cond.static Lib.Math.max.name, Cond.code Lib.Math.max.name Lib.Math.max.code 2 (some .int), Cond.methodLink RX2 60 Lib.Math.min.name]
def wsX9_settle_r4 : List Cond := [Cond.static Lib.Math.min.name, Cond.code Lib.Math.min.name Lib.Math.min.code 2 (some .int), Cond.methodLink RX9 156 yX9_rewardFor, Cond.instanceMethod yX9_rewardFor, Cond.selects RX9 yX9_rewardFor yX9_rewardFor, Cond.code yX9_rewardFor cX9_rewardFor 8 (some .int), Cond.fieldLink RX9 248 "FindsOffice$Law" "percent" "I", Cond.fieldLink RX9 130 "FindsOffice$Find" "finder" "I", Cond.methodLink RX9 104 yX2_numbered, Cond.methodLink RX9 237 yX9_lawThatCounts, Cond.instanceMethod yX9_lawThatCounts, Cond.selects RX9 yX9_lawThatCounts yX9_lawThatCounts, Cond.code yX9_lawThatCounts cX9_lawThatCounts 5 (some (.object "FindsOffice$Law")), Cond.fieldLink RX9 16 "FindsOffice" "lawBook" "LFindsOffice$LawBook;", Cond.fieldLink RX9 109 "FindsOffice$Find" "found" "I", Cond.methodLink RX9 234 yX2_hoardSize, Cond.instanceMethod yX2_hoardSize, Cond.selects RX2 yX2_hoardSize yX2_hoardSize, Cond.code yX2_hoardSize cX2_hoardSize 3 (some .int), Cond.methodLink RX9 241 yX5_inForce, Cond.instanceMethod yX5_inForce, Cond.selects RX5 yX5_inForce yX5_inForce, Cond.initialized RX5, Cond.code yX5_inForce cX5_inForce 5 (some (.object "FindsOffice$Law"))]
def wsX9_settle_r5 : List Cond := [Cond.fieldLink RX5 17 "FindsOffice$LawBook" "told" "I", Cond.fieldLink RX5 13 "FindsOffice$LawBook" "laws" "[LFindsOffice$Law;", Cond.fieldLink RX5 25 "FindsOffice$Law" "from" "I", Cond.methodLink RX9 244 yX4_covers, Cond.instanceMethod yX4_covers, Cond.selects RX4 yX4_covers yX4_covers, Cond.initialized RX4, Cond.code yX4_covers cX4_covers 5 (some .boolean), Cond.fieldLink RX4 38 "FindsOffice$Find" "found" "I", Cond.fieldLink RX4 47 "FindsOffice$Find" "lastYear" "I", Cond.fieldLink RX4 14 "FindsOffice$Law" "age" "I", Cond.fieldLink RX4 50 "FindsOffice$Find" "metal" "I", Cond.fieldLink RX4 53 "FindsOffice$Find" "purity" "I", Cond.fieldLink RX4 17 "FindsOffice$Law" "parts" "I", Cond.fieldLink RX4 23 "FindsOffice$Law" "together" "I", Cond.static yX9_yearOf, Cond.code yX9_yearOf cX9_yearOf 1 (some .int), Cond.methodLink RX9 150 yX9_worthNow, Cond.instanceMethod yX9_worthNow, Cond.selects RX9 yX9_worthNow yX9_worthNow, Cond.code yX9_worthNow cX9_worthNow 2 (some .int), Cond.fieldLink RX9 37 "FindsOffice" "market" "LFindsOffice$Market;", Cond.fieldLink RX9 115 "FindsOffice$Find" "metal" "I", Cond.fieldLink RX9 121 "FindsOffice$Find" "weight" "I"]
def wsX9_settle_r6 : List Cond := [Cond.methodLink RX9 227 yX9_yearOf, Cond.methodLink RX9 230 yX6_appraise, Cond.instanceMethod yX6_appraise, Cond.selects RX6 yX6_appraise yX6_appraise, Cond.initialized RX6, Cond.code yX6_appraise cX6_appraise 10 (some .int), Cond.fieldLink RX6 17 "FindsOffice$Market" "told" "I", Cond.fieldLink RX6 13 "FindsOffice$Market" "sales" "[LFindsOffice$Sale;", Cond.fieldLink RX6 39 "FindsOffice$Sale" "metal" "I", Cond.fieldLink RX6 50 "FindsOffice$Sale" "weight" "I", Cond.constantLong RX6 53 (1000000), Cond.methodLink RX6 55 Lib.MathLoose.min_long.x, Cond.static Lib.MathLoose.min_long.x, Cond.code Lib.MathLoose.min_long.x Lib.MathLoose.min_long.code 4 (some .long), Cond.methodLink RX6 46 yX6_priceIn, Cond.instanceMethod yX6_priceIn, Cond.selects RX6 yX6_priceIn yX6_priceIn, Cond.code yX6_priceIn cX6_priceIn 4 (some .long), Cond.fieldLink RX6 61 "FindsOffice$Sale" "day" "I", Cond.fieldLink RX6 70 "FindsOffice$Sale" "price" "I", Cond.methodLink RX6 67 yX6_levelIn, Cond.instanceMethod yX6_levelIn, Cond.selects RX6 yX6_levelIn yX6_levelIn, Cond.code yX6_levelIn cX6_levelIn 3 (some .int)]
def wsX9_settle_r7 : List Cond := [Cond.fieldLink RX6 21 "FindsOffice$Market" "levels" "[I", Cond.methodLink RX9 133 yX9_landownerOf, Cond.instanceMethod yX9_landownerOf, Cond.selects RX9 yX9_landownerOf yX9_landownerOf, Cond.code yX9_landownerOf cX9_landownerOf 2 (some .int), Cond.fieldLink RX9 23 "FindsOffice" "landBook" "LFindsOffice$LandBook;", Cond.methodLink RX9 221 yX1_plot, Cond.instanceMethod yX1_plot, Cond.selects RX1 yX1_plot yX1_plot, Cond.code yX1_plot cX1_plot 1 (some .int), Cond.methodLink RX9 224 yX3_holderOn, Cond.instanceMethod yX3_holderOn, Cond.selects RX3 yX3_holderOn yX3_holderOn, Cond.initialized RX3, Cond.code yX3_holderOn cX3_holderOn 6 (some .int), Cond.fieldLink RX3 21 "FindsOffice$LandBook" "told" "I", Cond.fieldLink RX3 11 "FindsOffice$LandBook" "plots" "[I", Cond.fieldLink RX3 15 "FindsOffice$LandBook" "days" "[I", Cond.fieldLink RX3 18 "FindsOffice$LandBook" "holders" "[I"]
def wsX9_settle : List Cond := .code yX9_settle cX9_settle 3 (some .int) :: ((wsX9_settle_r1 ++ (wsX9_settle_r2 ++ (wsX9_settle_r3 ++ (wsX9_settle_r4 ++ (wsX9_settle_r5 ++ (wsX9_settle_r6 ++ wsX9_settle_r7)))))) ++ wsX90 ++ wsX20 ++ wsX10 ++ wsX40 ++ wsX50 ++ wsX60 ++ wsX80 ++ wsX30)
def wsX9_paid : List Cond := .code yX9_paid cX9_paid 2 (some .int) :: ([.fieldLink RX9 48 "FindsOffice" "paidTo" "[I", .methodLink RX9 153 yX9_isPerson, .static yX9_isPerson, .initialized RX9, .code yX9_isPerson cX9_isPerson 1 (some .boolean), .methodLink RX9 52 yX9_isBetween, .static yX9_isBetween, .code yX9_isBetween cX9_isBetween 3 (some .boolean)] ++ wsX90)
def wsX9_isRank : List Cond := .code yX9_isRank cX9_isRank 1 (some .boolean) :: ([.fieldLink RX9 217 "FindsOffice" "WIDTHS" "[I", .methodLink RX9 52 yX9_isBetween, .static yX9_isBetween, .initialized RX9, .code yX9_isBetween cX9_isBetween 3 (some .boolean)])
def wsX9_roundDown : List Cond := .code yX9_roundDown cX9_roundDown 3 (some .int) :: ([.fieldLink RX9 217 "FindsOffice" "WIDTHS" "[I", .methodLink RX9 162 yX9_isRank, .static yX9_isRank, .initialized RX9, .code yX9_isRank cX9_isRank 1 (some .boolean), .methodLink RX9 52 yX9_isBetween, .static yX9_isBetween, .code yX9_isBetween cX9_isBetween 3 (some .boolean)])
def wsX9_place_r1 : List Cond := [Cond.fieldLink RX9 30 "FindsOffice" "findBook" "LFindsOffice$FindBook;", Cond.fieldLink RX9 165 "FindsOffice$Find" "x" "I", Cond.fieldLink RX9 171 "FindsOffice$Find" "y" "I", Cond.methodLink RX9 104 yX2_numbered, Cond.instanceMethod yX2_numbered, Cond.selects RX2 yX2_numbered yX2_numbered, Cond.initialized RX2, Cond.code yX2_numbered cX2_numbered 2 (some (.object "FindsOffice$Find")), Cond.fieldLink RX2 13 "FindsOffice$FindBook" "finds" "[LFindsOffice$Find;", Cond.methodLink RX2 47 yX2_isTold, Cond.instanceMethod yX2_isTold, Cond.selects RX2 yX2_isTold yX2_isTold, Cond.code yX2_isTold cX2_isTold 2 (some .boolean), Cond.fieldLink RX2 17 "FindsOffice$FindBook" "told" "I", Cond.methodLink RX9 162 yX9_isRank, Cond.static yX9_isRank, Cond.initialized RX9, Cond.code yX9_isRank cX9_isRank 1 (some .boolean), Cond.fieldLink RX9 217 "FindsOffice" "WIDTHS" "[I", Cond.methodLink RX9 52 yX9_isBetween, Cond.static yX9_isBetween, Cond.code yX9_isBetween cX9_isBetween 3 (some .boolean), Cond.methodLink RX9 168 yX9_roundDown, Cond.static yX9_roundDown]
def wsX9_place_r2 : List Cond := [Cond.code yX9_roundDown cX9_roundDown 3 (some .int)]
def wsX9_place : List Cond := .code yX9_place cX9_place 4 (some .int) :: ((wsX9_place_r1 ++ wsX9_place_r2) ++ wsX90 ++ wsX10 ++ wsX20)
def wsX9_isCorner : List Cond := .code yX9_isCorner cX9_isCorner 4 (some .boolean) :: ([.constant RX9 220 (1002000), .methodLink RX9 52 yX9_isBetween, .static yX9_isBetween, .initialized RX9, .code yX9_isBetween cX9_isBetween 3 (some .boolean), .methodLink RX9 168 yX9_roundDown, .static yX9_roundDown, .code yX9_roundDown cX9_roundDown 3 (some .int), .fieldLink RX9 217 "FindsOffice" "WIDTHS" "[I", .methodLink RX9 162 yX9_isRank, .static yX9_isRank, .code yX9_isRank cX9_isRank 1 (some .boolean)])
def wsX9_within_r1 : List Cond := [Cond.fieldLink RX9 30 "FindsOffice" "findBook" "LFindsOffice$FindBook;", Cond.methodLink RX9 162 yX9_isRank, Cond.static yX9_isRank, Cond.initialized RX9, Cond.code yX9_isRank cX9_isRank 1 (some .boolean), Cond.fieldLink RX9 217 "FindsOffice" "WIDTHS" "[I", Cond.methodLink RX9 52 yX9_isBetween, Cond.static yX9_isBetween, Cond.code yX9_isBetween cX9_isBetween 3 (some .boolean), Cond.methodLink RX9 174 yX9_isCorner, Cond.static yX9_isCorner, Cond.code yX9_isCorner cX9_isCorner 4 (some .boolean), Cond.constant RX9 220 (1002000), Cond.methodLink RX9 168 yX9_roundDown, Cond.static yX9_roundDown, Cond.code yX9_roundDown cX9_roundDown 3 (some .int), Cond.methodLink RX9 177 yX2_tally, Cond.instanceMethod yX2_tally, Cond.selects RX2 yX2_tally yX2_tally, Cond.initialized RX2, Cond.code yX2_tally cX2_tally 8 (some .int), Cond.fieldLink RX2 17 "FindsOffice$FindBook" "told" "I", Cond.fieldLink RX2 86 "FindsOffice$Find" "x" "I", Cond.fieldLink RX2 92 "FindsOffice$Find" "y" "I"]
def wsX9_within_r2 : List Cond := [Cond.methodLink RX2 63 yX2_numbered, Cond.instanceMethod yX2_numbered, Cond.selects RX2 yX2_numbered yX2_numbered, Cond.code yX2_numbered cX2_numbered 2 (some (.object "FindsOffice$Find")), Cond.fieldLink RX2 13 "FindsOffice$FindBook" "finds" "[LFindsOffice$Find;", Cond.methodLink RX2 47 yX2_isTold, Cond.instanceMethod yX2_isTold, Cond.selects RX2 yX2_isTold yX2_isTold, Cond.code yX2_isTold cX2_isTold 2 (some .boolean)]
def wsX9_within : List Cond := .code yX9_within cX9_within 8 (some .int) :: ((wsX9_within_r1 ++ wsX9_within_r2) ++ wsX90 ++ wsX20 ++ wsX10)
def wsX9_museum_r1 : List Cond := [Cond.fieldLink RX9 44 "FindsOffice" "circle" "LFindsOffice$Circle;", Cond.classLink RX9 181 RX7, Cond.instantiable RX7 3, Cond.initialized RX7, Cond.methodLink RX9 183 yX7_init, Cond.instanceMethod yX7_init, Cond.code yX7_init cX7_init 3 none, Cond.methodLink RX7 3 objectInit, Cond.instanceMethod objectInit, Cond.code objectInit ⟨#[0xb1]⟩ 1 none, Cond.fieldLink RX7 9 "FindsOffice$Museum" "metals" "I", Cond.fieldLink RX7 15 "FindsOffice$Museum" "mostWorth" "I", Cond.fieldLink RX7 18 "FindsOffice$Museum" "outlay" "I", Cond.methodLink RX9 186 yX0_enter, Cond.instanceMethod yX0_enter, Cond.selects RX0 yX0_enter yX0_enter, Cond.initialized RX0, Cond.code yX0_enter cX0_enter 2 (some .int), Cond.fieldLink RX0 17 "FindsOffice$Circle" "told" "I", Cond.fieldLink RX0 13 "FindsOffice$Circle" "museums" "[LFindsOffice$Museum;", Cond.methodLink RX0 24 yX7_isPossible, Cond.instanceMethod yX7_isPossible, Cond.selects RX7 yX7_isPossible yX7_isPossible, Cond.code yX7_isPossible cX7_isPossible 1 (some .boolean)]
def wsX9_museum_r2 : List Cond := [Cond.constant RX7 25 (1000000), Cond.static yX9_isBetween, Cond.initialized RX9, Cond.code yX9_isBetween cX9_isBetween 3 (some .boolean)]
def wsX9_museum : List Cond := .code yX9_museum cX9_museum 3 (some .int) :: ((wsX9_museum_r1 ++ wsX9_museum_r2) ++ wsX90 ++ wsX70 ++ wsX00)
def wsX9_offer_r1 : List Cond := [Cond.fieldLink RX9 30 "FindsOffice" "findBook" "LFindsOffice$FindBook;", Cond.fieldLink RX9 136 "FindsOffice$Find" "keeper" "I", Cond.fieldLink RX9 7 "FindsOffice" "now" "I", Cond.fieldLink RX9 44 "FindsOffice" "circle" "LFindsOffice$Circle;", Cond.fieldLink RX9 115 "FindsOffice$Find" "metal" "I", Cond.methodLink RX9 104 yX2_numbered, Cond.instanceMethod yX2_numbered, Cond.selects RX2 yX2_numbered yX2_numbered, Cond.initialized RX2, Cond.code yX2_numbered cX2_numbered 2 (some (.object "FindsOffice$Find")), Cond.fieldLink RX2 13 "FindsOffice$FindBook" "finds" "[LFindsOffice$Find;", Cond.methodLink RX2 47 yX2_isTold, Cond.instanceMethod yX2_isTold, Cond.selects RX2 yX2_isTold yX2_isTold, Cond.code yX2_isTold cX2_isTold 2 (some .boolean), Cond.fieldLink RX2 17 "FindsOffice$FindBook" "told" "I", Cond.methodLink RX9 100 yX9_isTreasureOn, Cond.instanceMethod yX9_isTreasureOn, Cond.selects RX9 yX9_isTreasureOn yX9_isTreasureOn, Cond.initialized RX9, Cond.code yX9_isTreasureOn cX9_isTreasureOn 3 (some .boolean), Cond.methodLink RX9 85 yX2_gatherHoards, Cond.instanceMethod yX2_gatherHoards, Cond.selects RX2 yX2_gatherHoards yX2_gatherHoards]
def wsX9_offer_r2 : List Cond := [Cond.code yX2_gatherHoards cX2_gatherHoards 4 none, Cond.fieldLink RX2 28 "FindsOffice$FindBook" "hoardOf" "[I", Cond.fieldLink RX2 31 "FindsOffice$FindBook" "sizeOf" "[I", Cond.methodLink RX2 37 yJ7_fill_53178, Cond.static yJ7_fill_53178, Cond.initialized RJ7, Cond.code yJ7_fill_53178 cJ7_fill_53178 4 none, Cond.methodLink RX2 71 yX2_knownBy, Cond.instanceMethod yX2_knownBy, Cond.selects RX2 yX2_knownBy yX2_knownBy, Cond.code yX2_knownBy cX2_knownBy 5 (some .int), Cond.fieldLink RX2 79 "FindsOffice$Find" "known" "I", Cond.methodLink RX2 63 yX2_numbered, Cond.methodLink RX2 75 yX2_gatherFrom, Cond.instanceMethod yX2_gatherFrom, Cond.selects RX2 yX2_gatherFrom yX2_gatherFrom, Cond.code yX2_gatherFrom cX2_gatherFrom 8 (some .int), Cond.fieldLink RX2 34 "FindsOffice$FindBook" "reached" "[I", Cond.methodLink RX2 82 yX2_isJoined, Cond.instanceMethod yX2_isJoined, Cond.selects RX2 yX2_isJoined yX2_isJoined, Cond.code yX2_isJoined cX2_isJoined 7 (some .boolean), Cond.fieldLink RX2 21 "FindsOffice$FindBook" "partedOn" "[I", Cond.methodLink RX2 67 yX1_isNear]
def wsX9_offer_r3 : List Cond := [Cond.instanceMethod yX1_isNear, Cond.selects RX1 yX1_isNear yX1_isNear, Cond.initialized RX1, Cond.code yX1_isNear cX1_isNear 2 (some .boolean), Cond.fieldLink RX1 9 "FindsOffice$Find" "x" "I", Cond.methodLink RX1 57 Lib.Math.abs.name, Cond.static Lib.Math.abs.name, Cond.initialized "java/lang/Math", Cond.code Lib.Math.abs.name Lib.Math.abs.code 1 (some .int), Cond.fieldLink RX1 15 "FindsOffice$Find" "y" "I", Cond.fieldLink RX1 28 "FindsOffice$Find" "firstYear" "I", Cond.fieldLink RX1 31 "FindsOffice$Find" "lastYear" "I", Cond.methodLink RX2 51 yX2_pairOf, Cond.instanceMethod yX2_pairOf, Cond.selects RX2 yX2_pairOf yX2_pairOf, Cond.code yX2_pairOf cX2_pairOf 4 (some .int), Cond.methodLink RX2 55 Lib.Math.max.name, Cond.static Lib.Math.max.name, Cond.code Lib.Math.max.name Lib.Math.max.code 2 (some .int), Cond.methodLink RX2 60 Lib.Math.min.name, Cond.static Lib.Math.min.name, Cond.code Lib.Math.min.name Lib.Math.min.code 2 (some .int), Cond.methodLink RX9 237 yX9_lawThatCounts, Cond.instanceMethod yX9_lawThatCounts]
def wsX9_offer_r4 : List Cond := [Cond.selects RX9 yX9_lawThatCounts yX9_lawThatCounts, Cond.code yX9_lawThatCounts cX9_lawThatCounts 5 (some (.object "FindsOffice$Law")), Cond.fieldLink RX9 16 "FindsOffice" "lawBook" "LFindsOffice$LawBook;", Cond.fieldLink RX9 109 "FindsOffice$Find" "found" "I", Cond.methodLink RX9 234 yX2_hoardSize, Cond.instanceMethod yX2_hoardSize, Cond.selects RX2 yX2_hoardSize yX2_hoardSize, Cond.code yX2_hoardSize cX2_hoardSize 3 (some .int), Cond.methodLink RX9 241 yX5_inForce, Cond.instanceMethod yX5_inForce, Cond.selects RX5 yX5_inForce yX5_inForce, Cond.initialized RX5, Cond.code yX5_inForce cX5_inForce 5 (some (.object "FindsOffice$Law")), Cond.fieldLink RX5 17 "FindsOffice$LawBook" "told" "I", Cond.fieldLink RX5 13 "FindsOffice$LawBook" "laws" "[LFindsOffice$Law;", Cond.fieldLink RX5 25 "FindsOffice$Law" "from" "I", Cond.methodLink RX9 244 yX4_covers, Cond.instanceMethod yX4_covers, Cond.selects RX4 yX4_covers yX4_covers, Cond.initialized RX4, Cond.code yX4_covers cX4_covers 5 (some .boolean), Cond.fieldLink RX4 38 "FindsOffice$Find" "found" "I", Cond.fieldLink RX4 47 "FindsOffice$Find" "lastYear" "I", Cond.fieldLink RX4 14 "FindsOffice$Law" "age" "I"]
def wsX9_offer_r5 : List Cond := [Cond.fieldLink RX4 50 "FindsOffice$Find" "metal" "I", Cond.fieldLink RX4 53 "FindsOffice$Find" "purity" "I", Cond.fieldLink RX4 17 "FindsOffice$Law" "parts" "I", Cond.fieldLink RX4 23 "FindsOffice$Law" "together" "I", Cond.static yX9_yearOf, Cond.code yX9_yearOf cX9_yearOf 1 (some .int), Cond.methodLink RX9 150 yX9_worthNow, Cond.instanceMethod yX9_worthNow, Cond.selects RX9 yX9_worthNow yX9_worthNow, Cond.code yX9_worthNow cX9_worthNow 2 (some .int), Cond.fieldLink RX9 37 "FindsOffice" "market" "LFindsOffice$Market;", Cond.fieldLink RX9 121 "FindsOffice$Find" "weight" "I", Cond.methodLink RX9 227 yX9_yearOf, Cond.methodLink RX9 230 yX6_appraise, Cond.instanceMethod yX6_appraise, Cond.selects RX6 yX6_appraise yX6_appraise, Cond.initialized RX6, Cond.code yX6_appraise cX6_appraise 10 (some .int), Cond.fieldLink RX6 17 "FindsOffice$Market" "told" "I", Cond.fieldLink RX6 13 "FindsOffice$Market" "sales" "[LFindsOffice$Sale;", Cond.fieldLink RX6 39 "FindsOffice$Sale" "metal" "I", Cond.fieldLink RX6 50 "FindsOffice$Sale" "weight" "I", Cond.constantLong RX6 53 (1000000), Cond.methodLink RX6 55 Lib.MathLoose.min_long.x]
def wsX9_offer_r6 : List Cond := [Cond.static Lib.MathLoose.min_long.x, Cond.code Lib.MathLoose.min_long.x Lib.MathLoose.min_long.code 4 (some .long), Cond.methodLink RX6 46 yX6_priceIn, Cond.instanceMethod yX6_priceIn, Cond.selects RX6 yX6_priceIn yX6_priceIn, Cond.code yX6_priceIn cX6_priceIn 4 (some .long), Cond.fieldLink RX6 61 "FindsOffice$Sale" "day" "I", Cond.fieldLink RX6 70 "FindsOffice$Sale" "price" "I", Cond.methodLink RX6 67 yX6_levelIn, Cond.instanceMethod yX6_levelIn, Cond.selects RX6 yX6_levelIn yX6_levelIn, Cond.code yX6_levelIn cX6_levelIn 3 (some .int), Cond.fieldLink RX6 21 "FindsOffice$Market" "levels" "[I", Cond.methodLink RX9 189 yX0_sell, Cond.instanceMethod yX0_sell, Cond.selects RX0 yX0_sell yX0_sell, Cond.initialized RX0, Cond.code yX0_sell cX0_sell 7 (some .int), Cond.fieldLink RX0 17 "FindsOffice$Circle" "told" "I", Cond.fieldLink RX0 40 "FindsOffice$Museum" "outlay" "I", Cond.fieldLink RX0 21 "FindsOffice$Circle" "behindLatest" "I", Cond.methodLink RX0 28 yX0_next, Cond.instanceMethod yX0_next, Cond.selects RX0 yX0_next yX0_next]
def wsX9_offer_r7 : List Cond := [Cond.code yX0_next cX0_next 1 (some .int), Cond.methodLink RX0 32 yX0_numbered, Cond.instanceMethod yX0_numbered, Cond.selects RX0 yX0_numbered yX0_numbered, Cond.code yX0_numbered cX0_numbered 2 (some (.object "FindsOffice$Museum")), Cond.fieldLink RX0 13 "FindsOffice$Circle" "museums" "[LFindsOffice$Museum;", Cond.methodLink RX0 36 yX7_takes, Cond.instanceMethod yX7_takes, Cond.selects RX7 yX7_takes yX7_takes, Cond.initialized RX7, Cond.code yX7_takes cX7_takes 3 (some .boolean), Cond.fieldLink RX7 9 "FindsOffice$Museum" "metals" "I", Cond.fieldLink RX7 15 "FindsOffice$Museum" "mostWorth" "I"]
def wsX9_offer : List Cond := .code yX9_offer cX9_offer 3 (some .int) :: ((wsX9_offer_r1 ++ (wsX9_offer_r2 ++ (wsX9_offer_r3 ++ (wsX9_offer_r4 ++ (wsX9_offer_r5 ++ (wsX9_offer_r6 ++ wsX9_offer_r7)))))) ++ wsX90 ++ wsX10 ++ wsX20 ++ wsX50 ++ wsX40 ++ wsX60 ++ wsX80 ++ wsX00 ++ wsX70)
def wsX9_spent : List Cond := .code yX9_spent cX9_spent 3 (some .int) :: ([.fieldLink RX9 44 "FindsOffice" "circle" "LFindsOffice$Circle;", .fieldLink RX9 195 "FindsOffice$Museum" "outlay" "I", .methodLink RX9 192 yX0_numbered, .instanceMethod yX0_numbered, .selects RX0 yX0_numbered yX0_numbered, .initialized RX0, .code yX0_numbered cX0_numbered 2 (some (.object "FindsOffice$Museum")), .fieldLink RX0 17 "FindsOffice$Circle" "told" "I", .fieldLink RX0 13 "FindsOffice$Circle" "museums" "[LFindsOffice$Museum;"] ++ wsX90 ++ wsX70 ++ wsX00)
def wsX9_hoardsNow_r1 : List Cond := [Cond.fieldLink RX9 30 "FindsOffice" "findBook" "LFindsOffice$FindBook;", Cond.fieldLink RX9 7 "FindsOffice" "now" "I", Cond.fieldLink RX9 198 "FindsOffice$FindBook" "told" "I", Cond.methodLink RX9 85 yX2_gatherHoards, Cond.instanceMethod yX2_gatherHoards, Cond.selects RX2 yX2_gatherHoards yX2_gatherHoards, Cond.initialized RX2, Cond.code yX2_gatherHoards cX2_gatherHoards 4 none, Cond.fieldLink RX2 28 "FindsOffice$FindBook" "hoardOf" "[I", Cond.fieldLink RX2 31 "FindsOffice$FindBook" "sizeOf" "[I", Cond.methodLink RX2 37 yJ7_fill_53178, Cond.static yJ7_fill_53178, Cond.initialized RJ7, Cond.code yJ7_fill_53178 cJ7_fill_53178 4 none, Cond.methodLink RX2 71 yX2_knownBy, Cond.instanceMethod yX2_knownBy, Cond.selects RX2 yX2_knownBy yX2_knownBy, Cond.code yX2_knownBy cX2_knownBy 5 (some .int), Cond.fieldLink RX2 17 "FindsOffice$FindBook" "told" "I", Cond.fieldLink RX2 79 "FindsOffice$Find" "known" "I", Cond.methodLink RX2 63 yX2_numbered, Cond.instanceMethod yX2_numbered, Cond.selects RX2 yX2_numbered yX2_numbered, Cond.code yX2_numbered cX2_numbered 2 (some (.object "FindsOffice$Find"))]
def wsX9_hoardsNow_r2 : List Cond := [Cond.fieldLink RX2 13 "FindsOffice$FindBook" "finds" "[LFindsOffice$Find;", Cond.methodLink RX2 47 yX2_isTold, Cond.instanceMethod yX2_isTold, Cond.selects RX2 yX2_isTold yX2_isTold, Cond.code yX2_isTold cX2_isTold 2 (some .boolean), Cond.methodLink RX2 75 yX2_gatherFrom, Cond.instanceMethod yX2_gatherFrom, Cond.selects RX2 yX2_gatherFrom yX2_gatherFrom, Cond.code yX2_gatherFrom cX2_gatherFrom 8 (some .int), Cond.fieldLink RX2 34 "FindsOffice$FindBook" "reached" "[I", Cond.methodLink RX2 82 yX2_isJoined, Cond.instanceMethod yX2_isJoined, Cond.selects RX2 yX2_isJoined yX2_isJoined, Cond.code yX2_isJoined cX2_isJoined 7 (some .boolean), Cond.fieldLink RX2 21 "FindsOffice$FindBook" "partedOn" "[I", Cond.methodLink RX2 67 yX1_isNear, Cond.instanceMethod yX1_isNear, Cond.selects RX1 yX1_isNear yX1_isNear, Cond.initialized RX1, Cond.code yX1_isNear cX1_isNear 2 (some .boolean), Cond.fieldLink RX1 9 "FindsOffice$Find" "x" "I", Cond.methodLink RX1 57 Lib.Math.abs.name, Cond.static Lib.Math.abs.name, Cond.initialized "java/lang/Math"]
def wsX9_hoardsNow_r3 : List Cond := [Cond.code Lib.Math.abs.name Lib.Math.abs.code 1 (some .int), Cond.fieldLink RX1 15 "FindsOffice$Find" "y" "I", Cond.fieldLink RX1 28 "FindsOffice$Find" "firstYear" "I", Cond.fieldLink RX1 31 "FindsOffice$Find" "lastYear" "I", Cond.methodLink RX2 51 yX2_pairOf, Cond.instanceMethod yX2_pairOf, Cond.selects RX2 yX2_pairOf yX2_pairOf, Cond.code yX2_pairOf cX2_pairOf 4 (some .int), Cond.methodLink RX2 55 Lib.Math.max.name, Cond.static Lib.Math.max.name, Cond.code Lib.Math.max.name Lib.Math.max.code 2 (some .int), Cond.methodLink RX2 60 Lib.Math.min.name, Cond.static Lib.Math.min.name, Cond.code Lib.Math.min.name Lib.Math.min.code 2 (some .int), Cond.methodLink RX9 89 yX2_hoardNumber, Cond.instanceMethod yX2_hoardNumber, Cond.selects RX2 yX2_hoardNumber yX2_hoardNumber, Cond.code yX2_hoardNumber cX2_hoardNumber 2 (some .int)]
def wsX9_hoardsNow : List Cond := .code yX9_hoardsNow cX9_hoardsNow 3 (some .int) :: ((wsX9_hoardsNow_r1 ++ (wsX9_hoardsNow_r2 ++ wsX9_hoardsNow_r3)) ++ wsX90 ++ wsX20 ++ wsX10)
def wsX9_treasuresNow_r1 : List Cond := [Cond.fieldLink RX9 30 "FindsOffice" "findBook" "LFindsOffice$FindBook;", Cond.fieldLink RX9 7 "FindsOffice" "now" "I", Cond.fieldLink RX9 198 "FindsOffice$FindBook" "told" "I", Cond.methodLink RX9 85 yX2_gatherHoards, Cond.instanceMethod yX2_gatherHoards, Cond.selects RX2 yX2_gatherHoards yX2_gatherHoards, Cond.initialized RX2, Cond.code yX2_gatherHoards cX2_gatherHoards 4 none, Cond.fieldLink RX2 28 "FindsOffice$FindBook" "hoardOf" "[I", Cond.fieldLink RX2 31 "FindsOffice$FindBook" "sizeOf" "[I", Cond.methodLink RX2 37 yJ7_fill_53178, Cond.static yJ7_fill_53178, Cond.initialized RJ7, Cond.code yJ7_fill_53178 cJ7_fill_53178 4 none, Cond.methodLink RX2 71 yX2_knownBy, Cond.instanceMethod yX2_knownBy, Cond.selects RX2 yX2_knownBy yX2_knownBy, Cond.code yX2_knownBy cX2_knownBy 5 (some .int), Cond.fieldLink RX2 17 "FindsOffice$FindBook" "told" "I", Cond.fieldLink RX2 79 "FindsOffice$Find" "known" "I", Cond.methodLink RX2 63 yX2_numbered, Cond.instanceMethod yX2_numbered, Cond.selects RX2 yX2_numbered yX2_numbered, Cond.code yX2_numbered cX2_numbered 2 (some (.object "FindsOffice$Find"))]
def wsX9_treasuresNow_r2 : List Cond := [Cond.fieldLink RX2 13 "FindsOffice$FindBook" "finds" "[LFindsOffice$Find;", Cond.methodLink RX2 47 yX2_isTold, Cond.instanceMethod yX2_isTold, Cond.selects RX2 yX2_isTold yX2_isTold, Cond.code yX2_isTold cX2_isTold 2 (some .boolean), Cond.methodLink RX2 75 yX2_gatherFrom, Cond.instanceMethod yX2_gatherFrom, Cond.selects RX2 yX2_gatherFrom yX2_gatherFrom, Cond.code yX2_gatherFrom cX2_gatherFrom 8 (some .int), Cond.fieldLink RX2 34 "FindsOffice$FindBook" "reached" "[I", Cond.methodLink RX2 82 yX2_isJoined, Cond.instanceMethod yX2_isJoined, Cond.selects RX2 yX2_isJoined yX2_isJoined, Cond.code yX2_isJoined cX2_isJoined 7 (some .boolean), Cond.fieldLink RX2 21 "FindsOffice$FindBook" "partedOn" "[I", Cond.methodLink RX2 67 yX1_isNear, Cond.instanceMethod yX1_isNear, Cond.selects RX1 yX1_isNear yX1_isNear, Cond.initialized RX1, Cond.code yX1_isNear cX1_isNear 2 (some .boolean), Cond.fieldLink RX1 9 "FindsOffice$Find" "x" "I", Cond.methodLink RX1 57 Lib.Math.abs.name, Cond.static Lib.Math.abs.name, Cond.initialized "java/lang/Math"]
def wsX9_treasuresNow_r3 : List Cond := [Cond.code Lib.Math.abs.name Lib.Math.abs.code 1 (some .int), Cond.fieldLink RX1 15 "FindsOffice$Find" "y" "I", Cond.fieldLink RX1 28 "FindsOffice$Find" "firstYear" "I", Cond.fieldLink RX1 31 "FindsOffice$Find" "lastYear" "I", Cond.methodLink RX2 51 yX2_pairOf, Cond.instanceMethod yX2_pairOf, Cond.selects RX2 yX2_pairOf yX2_pairOf, Cond.code yX2_pairOf cX2_pairOf 4 (some .int), Cond.methodLink RX2 55 Lib.Math.max.name, Cond.static Lib.Math.max.name, Cond.code Lib.Math.max.name Lib.Math.max.code 2 (some .int), Cond.methodLink RX2 60 Lib.Math.min.name, Cond.static Lib.Math.min.name, Cond.code Lib.Math.min.name Lib.Math.min.code 2 (some .int), Cond.methodLink RX9 237 yX9_lawThatCounts, Cond.instanceMethod yX9_lawThatCounts, Cond.selects RX9 yX9_lawThatCounts yX9_lawThatCounts, Cond.initialized RX9, Cond.code yX9_lawThatCounts cX9_lawThatCounts 5 (some (.object "FindsOffice$Law")), Cond.fieldLink RX9 16 "FindsOffice" "lawBook" "LFindsOffice$LawBook;", Cond.fieldLink RX9 109 "FindsOffice$Find" "found" "I", Cond.methodLink RX9 104 yX2_numbered, Cond.methodLink RX9 234 yX2_hoardSize, Cond.instanceMethod yX2_hoardSize]
def wsX9_treasuresNow_r4 : List Cond := [Cond.selects RX2 yX2_hoardSize yX2_hoardSize, Cond.code yX2_hoardSize cX2_hoardSize 3 (some .int), Cond.methodLink RX9 241 yX5_inForce, Cond.instanceMethod yX5_inForce, Cond.selects RX5 yX5_inForce yX5_inForce, Cond.initialized RX5, Cond.code yX5_inForce cX5_inForce 5 (some (.object "FindsOffice$Law")), Cond.fieldLink RX5 17 "FindsOffice$LawBook" "told" "I", Cond.fieldLink RX5 13 "FindsOffice$LawBook" "laws" "[LFindsOffice$Law;", Cond.fieldLink RX5 25 "FindsOffice$Law" "from" "I", Cond.methodLink RX9 244 yX4_covers, Cond.instanceMethod yX4_covers, Cond.selects RX4 yX4_covers yX4_covers, Cond.initialized RX4, Cond.code yX4_covers cX4_covers 5 (some .boolean), Cond.fieldLink RX4 38 "FindsOffice$Find" "found" "I", Cond.fieldLink RX4 47 "FindsOffice$Find" "lastYear" "I", Cond.fieldLink RX4 14 "FindsOffice$Law" "age" "I", Cond.fieldLink RX4 50 "FindsOffice$Find" "metal" "I", Cond.fieldLink RX4 53 "FindsOffice$Find" "purity" "I", Cond.fieldLink RX4 17 "FindsOffice$Law" "parts" "I", Cond.fieldLink RX4 23 "FindsOffice$Law" "together" "I", Cond.static yX9_yearOf, Cond.code yX9_yearOf cX9_yearOf 1 (some .int)]
def wsX9_treasuresNow : List Cond := .code yX9_treasuresNow cX9_treasuresNow 3 (some .int) :: ((wsX9_treasuresNow_r1 ++ (wsX9_treasuresNow_r2 ++ (wsX9_treasuresNow_r3 ++ wsX9_treasuresNow_r4))) ++ wsX90 ++ wsX20 ++ wsX10 ++ wsX50 ++ wsX40)
def wsX9_count_r1 : List Cond := [Cond.fieldLink RX9 7 "FindsOffice" "now" "I", Cond.fieldLink RX9 30 "FindsOffice" "findBook" "LFindsOffice$FindBook;", Cond.fieldLink RX9 198 "FindsOffice$FindBook" "told" "I", Cond.fieldLink RX9 16 "FindsOffice" "lawBook" "LFindsOffice$LawBook;", Cond.fieldLink RX9 205 "FindsOffice$LawBook" "told" "I", Cond.fieldLink RX9 37 "FindsOffice" "market" "LFindsOffice$Market;", Cond.fieldLink RX9 206 "FindsOffice$Market" "told" "I", Cond.fieldLink RX9 44 "FindsOffice" "circle" "LFindsOffice$Circle;", Cond.fieldLink RX9 207 "FindsOffice$Circle" "told" "I", Cond.fieldLink RX9 208 "FindsOffice$FindBook" "pairsParted" "I", Cond.methodLink RX9 201 yX9_hoardsNow, Cond.instanceMethod yX9_hoardsNow, Cond.selects RX9 yX9_hoardsNow yX9_hoardsNow, Cond.initialized RX9, Cond.code yX9_hoardsNow cX9_hoardsNow 3 (some .int), Cond.methodLink RX9 85 yX2_gatherHoards, Cond.instanceMethod yX2_gatherHoards, Cond.selects RX2 yX2_gatherHoards yX2_gatherHoards, Cond.initialized RX2, Cond.code yX2_gatherHoards cX2_gatherHoards 4 none, Cond.fieldLink RX2 28 "FindsOffice$FindBook" "hoardOf" "[I", Cond.fieldLink RX2 31 "FindsOffice$FindBook" "sizeOf" "[I", Cond.methodLink RX2 37 yJ7_fill_53178, Cond.static yJ7_fill_53178]
def wsX9_count_r2 : List Cond := [Cond.initialized RJ7, Cond.code yJ7_fill_53178 cJ7_fill_53178 4 none, Cond.methodLink RX2 71 yX2_knownBy, Cond.instanceMethod yX2_knownBy, Cond.selects RX2 yX2_knownBy yX2_knownBy, Cond.code yX2_knownBy cX2_knownBy 5 (some .int), Cond.fieldLink RX2 17 "FindsOffice$FindBook" "told" "I", Cond.fieldLink RX2 79 "FindsOffice$Find" "known" "I", Cond.methodLink RX2 63 yX2_numbered, Cond.instanceMethod yX2_numbered, Cond.selects RX2 yX2_numbered yX2_numbered, Cond.code yX2_numbered cX2_numbered 2 (some (.object "FindsOffice$Find")), Cond.fieldLink RX2 13 "FindsOffice$FindBook" "finds" "[LFindsOffice$Find;", Cond.methodLink RX2 47 yX2_isTold, Cond.instanceMethod yX2_isTold, Cond.selects RX2 yX2_isTold yX2_isTold, Cond.code yX2_isTold cX2_isTold 2 (some .boolean), Cond.methodLink RX2 75 yX2_gatherFrom, Cond.instanceMethod yX2_gatherFrom, Cond.selects RX2 yX2_gatherFrom yX2_gatherFrom, Cond.code yX2_gatherFrom cX2_gatherFrom 8 (some .int), Cond.fieldLink RX2 34 "FindsOffice$FindBook" "reached" "[I", Cond.methodLink RX2 82 yX2_isJoined, Cond.instanceMethod yX2_isJoined]
def wsX9_count_r3 : List Cond := [Cond.selects RX2 yX2_isJoined yX2_isJoined, Cond.code yX2_isJoined cX2_isJoined 7 (some .boolean), Cond.fieldLink RX2 21 "FindsOffice$FindBook" "partedOn" "[I", Cond.methodLink RX2 67 yX1_isNear, Cond.instanceMethod yX1_isNear, Cond.selects RX1 yX1_isNear yX1_isNear, Cond.initialized RX1, Cond.code yX1_isNear cX1_isNear 2 (some .boolean), Cond.fieldLink RX1 9 "FindsOffice$Find" "x" "I", Cond.methodLink RX1 57 Lib.Math.abs.name, Cond.static Lib.Math.abs.name, Cond.initialized "java/lang/Math", Cond.code Lib.Math.abs.name Lib.Math.abs.code 1 (some .int), Cond.fieldLink RX1 15 "FindsOffice$Find" "y" "I", Cond.fieldLink RX1 28 "FindsOffice$Find" "firstYear" "I", Cond.fieldLink RX1 31 "FindsOffice$Find" "lastYear" "I", Cond.methodLink RX2 51 yX2_pairOf, Cond.instanceMethod yX2_pairOf, Cond.selects RX2 yX2_pairOf yX2_pairOf, Cond.code yX2_pairOf cX2_pairOf 4 (some .int), Cond.methodLink RX2 55 Lib.Math.max.name, Cond.static Lib.Math.max.name, Cond.code Lib.Math.max.name Lib.Math.max.code 2 (some .int), Cond.methodLink RX2 60 Lib.Math.min.name]
def wsX9_count_r4 : List Cond := [Cond.static Lib.Math.min.name, Cond.code Lib.Math.min.name Lib.Math.min.code 2 (some .int), Cond.methodLink RX9 89 yX2_hoardNumber, Cond.instanceMethod yX2_hoardNumber, Cond.selects RX2 yX2_hoardNumber yX2_hoardNumber, Cond.code yX2_hoardNumber cX2_hoardNumber 2 (some .int), Cond.methodLink RX9 211 yX9_treasuresNow, Cond.instanceMethod yX9_treasuresNow, Cond.selects RX9 yX9_treasuresNow yX9_treasuresNow, Cond.code yX9_treasuresNow cX9_treasuresNow 3 (some .int), Cond.methodLink RX9 237 yX9_lawThatCounts, Cond.instanceMethod yX9_lawThatCounts, Cond.selects RX9 yX9_lawThatCounts yX9_lawThatCounts, Cond.code yX9_lawThatCounts cX9_lawThatCounts 5 (some (.object "FindsOffice$Law")), Cond.fieldLink RX9 109 "FindsOffice$Find" "found" "I", Cond.methodLink RX9 104 yX2_numbered, Cond.methodLink RX9 234 yX2_hoardSize, Cond.instanceMethod yX2_hoardSize, Cond.selects RX2 yX2_hoardSize yX2_hoardSize, Cond.code yX2_hoardSize cX2_hoardSize 3 (some .int), Cond.methodLink RX9 241 yX5_inForce, Cond.instanceMethod yX5_inForce, Cond.selects RX5 yX5_inForce yX5_inForce, Cond.initialized RX5]
def wsX9_count_r5 : List Cond := [Cond.code yX5_inForce cX5_inForce 5 (some (.object "FindsOffice$Law")), Cond.fieldLink RX5 17 "FindsOffice$LawBook" "told" "I", Cond.fieldLink RX5 13 "FindsOffice$LawBook" "laws" "[LFindsOffice$Law;", Cond.fieldLink RX5 25 "FindsOffice$Law" "from" "I", Cond.methodLink RX9 244 yX4_covers, Cond.instanceMethod yX4_covers, Cond.selects RX4 yX4_covers yX4_covers, Cond.initialized RX4, Cond.code yX4_covers cX4_covers 5 (some .boolean), Cond.fieldLink RX4 38 "FindsOffice$Find" "found" "I", Cond.fieldLink RX4 47 "FindsOffice$Find" "lastYear" "I", Cond.fieldLink RX4 14 "FindsOffice$Law" "age" "I", Cond.fieldLink RX4 50 "FindsOffice$Find" "metal" "I", Cond.fieldLink RX4 53 "FindsOffice$Find" "purity" "I", Cond.fieldLink RX4 17 "FindsOffice$Law" "parts" "I", Cond.fieldLink RX4 23 "FindsOffice$Law" "together" "I", Cond.static yX9_yearOf, Cond.code yX9_yearOf cX9_yearOf 1 (some .int), Cond.methodLink RX9 214 yX0_next, Cond.instanceMethod yX0_next, Cond.selects RX0 yX0_next yX0_next, Cond.initialized RX0, Cond.code yX0_next cX0_next 1 (some .int), Cond.fieldLink RX0 17 "FindsOffice$Circle" "told" "I"]
def wsX9_count_r6 : List Cond := [Cond.fieldLink RX0 21 "FindsOffice$Circle" "behindLatest" "I"]
def wsX9_count : List Cond := .code yX9_count cX9_count 2 (some .int) :: ((wsX9_count_r1 ++ (wsX9_count_r2 ++ (wsX9_count_r3 ++ (wsX9_count_r4 ++ (wsX9_count_r5 ++ wsX9_count_r6))))) ++ wsX90 ++ wsX20 ++ wsX50 ++ wsX60 ++ wsX00 ++ wsX10 ++ wsX40)
def wsX10_init_r1 : List Cond := [Cond.methodLink RX10 1 objectInit, Cond.instanceMethod objectInit, Cond.code objectInit ⟨#[0xb1]⟩ 1 none, Cond.arrayClass .int, Cond.fieldLink RX10 9 "FindsOfficeModel" "x" "[I", Cond.fieldLink RX10 13 "FindsOfficeModel" "y" "[I", Cond.fieldLink RX10 16 "FindsOfficeModel" "metal" "[I", Cond.fieldLink RX10 19 "FindsOfficeModel" "purity" "[I", Cond.fieldLink RX10 22 "FindsOfficeModel" "weight" "[I", Cond.fieldLink RX10 25 "FindsOfficeModel" "from" "[I", Cond.fieldLink RX10 28 "FindsOfficeModel" "to" "[I", Cond.fieldLink RX10 31 "FindsOfficeModel" "finder" "[I", Cond.fieldLink RX10 34 "FindsOfficeModel" "foundOn" "[I", Cond.fieldLink RX10 37 "FindsOfficeModel" "knownOn" "[I", Cond.fieldLink RX10 40 "FindsOfficeModel" "museumOf" "[I", Cond.fieldLink RX10 43 "FindsOfficeModel" "parted" "[I", Cond.fieldLink RX10 46 "FindsOfficeModel" "lawDay" "[I", Cond.fieldLink RX10 49 "FindsOfficeModel" "age" "[I", Cond.fieldLink RX10 52 "FindsOfficeModel" "parts" "[I", Cond.fieldLink RX10 55 "FindsOfficeModel" "shareOf" "[I", Cond.fieldLink RX10 58 "FindsOfficeModel" "together" "[I", Cond.fieldLink RX10 61 "FindsOfficeModel" "ownPlot" "[I", Cond.fieldLink RX10 64 "FindsOfficeModel" "ownDay" "[I", Cond.fieldLink RX10 67 "FindsOfficeModel" "ownWho" "[I"]
def wsX10_init_r2 : List Cond := [Cond.fieldLink RX10 70 "FindsOfficeModel" "index" "[I", Cond.fieldLink RX10 73 "FindsOfficeModel" "saleMetal" "[I", Cond.fieldLink RX10 76 "FindsOfficeModel" "saleDay" "[I", Cond.fieldLink RX10 79 "FindsOfficeModel" "saleWeight" "[I", Cond.fieldLink RX10 82 "FindsOfficeModel" "salePrice" "[I", Cond.fieldLink RX10 85 "FindsOfficeModel" "paid" "[I", Cond.fieldLink RX10 88 "FindsOfficeModel" "takes" "[I", Cond.fieldLink RX10 91 "FindsOfficeModel" "most" "[I", Cond.fieldLink RX10 94 "FindsOfficeModel" "spent" "[I", Cond.fieldLink RX10 97 "FindsOfficeModel" "latest" "I", Cond.arrayClass .boolean, Cond.fieldLink RX10 101 "FindsOfficeModel" "isReached" "[Z", Cond.constant RX10 105 (1000000)]
def wsX10_init : List Cond := .code yX10_init cX10_init 2 none :: ((wsX10_init_r1 ++ wsX10_init_r2) ++ wsX100)
def wsX10_in : List Cond := .code yX10_in cX10_in 3 (some .boolean) :: ([])
def wsX10_isFind : List Cond := .code yX10_isFind cX10_isFind 2 (some .boolean) :: ([.fieldLink RX10 106 "FindsOfficeModel" "finds" "I", .methodLink RX10 109 yX10_in, .static yX10_in, .initialized RX10, .code yX10_in cX10_in 3 (some .boolean)] ++ wsX100)
def wsX10_isPerson : List Cond := .code yX10_isPerson cX10_isPerson 1 (some .boolean) :: ([.methodLink RX10 109 yX10_in, .static yX10_in, .initialized RX10, .code yX10_in cX10_in 3 (some .boolean)])
def wsX10_yearOf : List Cond := .code yX10_yearOf cX10_yearOf 1 (some .int) :: ([])
def wsX10_go : List Cond := .code yX10_go cX10_go 2 (some .int) :: ([.fieldLink RX10 113 "FindsOfficeModel" "now" "I", .methodLink RX10 109 yX10_in, .static yX10_in, .initialized RX10, .code yX10_in cX10_in 3 (some .boolean)] ++ wsX100)
def wsX10_law : List Cond := .code yX10_law cX10_law 4 (some .int) :: ([.constant RX10 105 (1000000), .fieldLink RX10 116 "FindsOfficeModel" "laws" "I", .fieldLink RX10 46 "FindsOfficeModel" "lawDay" "[I", .fieldLink RX10 49 "FindsOfficeModel" "age" "[I", .fieldLink RX10 52 "FindsOfficeModel" "parts" "[I", .fieldLink RX10 55 "FindsOfficeModel" "shareOf" "[I", .fieldLink RX10 58 "FindsOfficeModel" "together" "[I", .methodLink RX10 109 yX10_in, .static yX10_in, .initialized RX10, .code yX10_in cX10_in 3 (some .boolean)] ++ wsX100)
def wsX10_owner : List Cond := .code yX10_owner cX10_owner 4 (some .boolean) :: ([.fieldLink RX10 123 "FindsOfficeModel" "owners" "I", .fieldLink RX10 61 "FindsOfficeModel" "ownPlot" "[I", .fieldLink RX10 64 "FindsOfficeModel" "ownDay" "[I", .fieldLink RX10 67 "FindsOfficeModel" "ownWho" "[I", .methodLink RX10 109 yX10_in, .static yX10_in, .initialized RX10, .code yX10_in cX10_in 3 (some .boolean), .methodLink RX10 119 yX10_isPerson, .static yX10_isPerson, .code yX10_isPerson cX10_isPerson 1 (some .boolean)] ++ wsX100)
def wsX10_find : List Cond := .code yX10_find cX10_find 10 (some .int) :: ([.constant RX10 105 (1000000), .constant RX10 126 (100000000), .fieldLink RX10 113 "FindsOfficeModel" "now" "I", .fieldLink RX10 106 "FindsOfficeModel" "finds" "I", .fieldLink RX10 9 "FindsOfficeModel" "x" "[I", .fieldLink RX10 13 "FindsOfficeModel" "y" "[I", .fieldLink RX10 16 "FindsOfficeModel" "metal" "[I", .fieldLink RX10 19 "FindsOfficeModel" "purity" "[I", .fieldLink RX10 22 "FindsOfficeModel" "weight" "[I", .fieldLink RX10 25 "FindsOfficeModel" "from" "[I", .fieldLink RX10 28 "FindsOfficeModel" "to" "[I", .fieldLink RX10 31 "FindsOfficeModel" "finder" "[I", .fieldLink RX10 34 "FindsOfficeModel" "foundOn" "[I", .fieldLink RX10 37 "FindsOfficeModel" "knownOn" "[I", .fieldLink RX10 40 "FindsOfficeModel" "museumOf" "[I", .methodLink RX10 109 yX10_in, .static yX10_in, .initialized RX10, .code yX10_in cX10_in 3 (some .boolean), .methodLink RX10 119 yX10_isPerson, .static yX10_isPerson, .code yX10_isPerson cX10_isPerson 1 (some .boolean)] ++ wsX100)
def wsX10_part : List Cond := .code yX10_part cX10_part 3 (some .boolean) :: ([.fieldLink RX10 43 "FindsOfficeModel" "parted" "[I", .constant RX10 105 (1000000), .fieldLink RX10 113 "FindsOfficeModel" "now" "I", .fieldLink RX10 130 "FindsOfficeModel" "partings" "I", .methodLink RX10 127 yX10_isFind, .instanceMethod yX10_isFind, .selects RX10 yX10_isFind yX10_isFind, .initialized RX10, .code yX10_isFind cX10_isFind 2 (some .boolean), .fieldLink RX10 106 "FindsOfficeModel" "finds" "I", .methodLink RX10 109 yX10_in, .static yX10_in, .code yX10_in cX10_in 3 (some .boolean)] ++ wsX100)
def wsX10_isJoined : List Cond := .code yX10_isJoined cX10_isJoined 4 (some .boolean) :: ([.fieldLink RX10 9 "FindsOfficeModel" "x" "[I", .fieldLink RX10 13 "FindsOfficeModel" "y" "[I", .fieldLink RX10 25 "FindsOfficeModel" "from" "[I", .fieldLink RX10 28 "FindsOfficeModel" "to" "[I", .fieldLink RX10 43 "FindsOfficeModel" "parted" "[I", .methodLink RX10 109 yX10_in, .static yX10_in, .initialized RX10, .code yX10_in cX10_in 3 (some .boolean)] ++ wsX100)
def wsX10_reaches : List Cond := .code yX10_reaches cX10_reaches 7 (some .int) :: ([.fieldLink RX10 106 "FindsOfficeModel" "finds" "I", .fieldLink RX10 101 "FindsOfficeModel" "isReached" "[Z", .fieldLink RX10 37 "FindsOfficeModel" "knownOn" "[I", .methodLink RX10 133 yX10_isJoined, .instanceMethod yX10_isJoined, .selects RX10 yX10_isJoined yX10_isJoined, .initialized RX10, .code yX10_isJoined cX10_isJoined 4 (some .boolean), .fieldLink RX10 9 "FindsOfficeModel" "x" "[I", .fieldLink RX10 13 "FindsOfficeModel" "y" "[I", .fieldLink RX10 25 "FindsOfficeModel" "from" "[I", .fieldLink RX10 28 "FindsOfficeModel" "to" "[I", .fieldLink RX10 43 "FindsOfficeModel" "parted" "[I", .methodLink RX10 109 yX10_in, .static yX10_in, .code yX10_in cX10_in 3 (some .boolean)] ++ wsX100)
def wsX10_hoard_r1 : List Cond := [Cond.fieldLink RX10 113 "FindsOfficeModel" "now" "I", Cond.fieldLink RX10 101 "FindsOfficeModel" "isReached" "[Z", Cond.methodLink RX10 127 yX10_isFind, Cond.instanceMethod yX10_isFind, Cond.selects RX10 yX10_isFind yX10_isFind, Cond.initialized RX10, Cond.code yX10_isFind cX10_isFind 2 (some .boolean), Cond.fieldLink RX10 106 "FindsOfficeModel" "finds" "I", Cond.methodLink RX10 109 yX10_in, Cond.static yX10_in, Cond.code yX10_in cX10_in 3 (some .boolean), Cond.methodLink RX10 136 yX10_reaches, Cond.instanceMethod yX10_reaches, Cond.selects RX10 yX10_reaches yX10_reaches, Cond.code yX10_reaches cX10_reaches 7 (some .int), Cond.fieldLink RX10 37 "FindsOfficeModel" "knownOn" "[I", Cond.methodLink RX10 133 yX10_isJoined, Cond.instanceMethod yX10_isJoined, Cond.selects RX10 yX10_isJoined yX10_isJoined, Cond.code yX10_isJoined cX10_isJoined 4 (some .boolean), Cond.fieldLink RX10 9 "FindsOfficeModel" "x" "[I", Cond.fieldLink RX10 13 "FindsOfficeModel" "y" "[I", Cond.fieldLink RX10 25 "FindsOfficeModel" "from" "[I", Cond.fieldLink RX10 28 "FindsOfficeModel" "to" "[I"]
def wsX10_hoard_r2 : List Cond := [Cond.fieldLink RX10 43 "FindsOfficeModel" "parted" "[I"]
def wsX10_hoard : List Cond := .code yX10_hoard cX10_hoard 3 (some .int) :: ((wsX10_hoard_r1 ++ wsX10_hoard_r2) ++ wsX100)
def wsX10_isKnown : List Cond := .code yX10_isKnown cX10_isKnown 3 (some .boolean) :: ([.fieldLink RX10 113 "FindsOfficeModel" "now" "I", .fieldLink RX10 37 "FindsOfficeModel" "knownOn" "[I", .methodLink RX10 127 yX10_isFind, .instanceMethod yX10_isFind, .selects RX10 yX10_isFind yX10_isFind, .initialized RX10, .code yX10_isFind cX10_isFind 2 (some .boolean), .fieldLink RX10 106 "FindsOfficeModel" "finds" "I", .methodLink RX10 109 yX10_in, .static yX10_in, .code yX10_in cX10_in 3 (some .boolean)] ++ wsX100)
def wsX10_size_r1 : List Cond := [Cond.methodLink RX10 140 yX10_isKnown, Cond.instanceMethod yX10_isKnown, Cond.selects RX10 yX10_isKnown yX10_isKnown, Cond.initialized RX10, Cond.code yX10_isKnown cX10_isKnown 3 (some .boolean), Cond.fieldLink RX10 113 "FindsOfficeModel" "now" "I", Cond.fieldLink RX10 37 "FindsOfficeModel" "knownOn" "[I", Cond.methodLink RX10 127 yX10_isFind, Cond.instanceMethod yX10_isFind, Cond.selects RX10 yX10_isFind yX10_isFind, Cond.code yX10_isFind cX10_isFind 2 (some .boolean), Cond.fieldLink RX10 106 "FindsOfficeModel" "finds" "I", Cond.methodLink RX10 109 yX10_in, Cond.static yX10_in, Cond.code yX10_in cX10_in 3 (some .boolean), Cond.methodLink RX10 136 yX10_reaches, Cond.instanceMethod yX10_reaches, Cond.selects RX10 yX10_reaches yX10_reaches, Cond.code yX10_reaches cX10_reaches 7 (some .int), Cond.fieldLink RX10 101 "FindsOfficeModel" "isReached" "[Z", Cond.methodLink RX10 133 yX10_isJoined, Cond.instanceMethod yX10_isJoined, Cond.selects RX10 yX10_isJoined yX10_isJoined, Cond.code yX10_isJoined cX10_isJoined 4 (some .boolean)]
def wsX10_size_r2 : List Cond := [Cond.fieldLink RX10 9 "FindsOfficeModel" "x" "[I", Cond.fieldLink RX10 13 "FindsOfficeModel" "y" "[I", Cond.fieldLink RX10 25 "FindsOfficeModel" "from" "[I", Cond.fieldLink RX10 28 "FindsOfficeModel" "to" "[I", Cond.fieldLink RX10 43 "FindsOfficeModel" "parted" "[I"]
def wsX10_size : List Cond := .code yX10_size cX10_size 3 (some .int) :: ((wsX10_size_r1 ++ wsX10_size_r2) ++ wsX100)
def wsX10_lawOf : List Cond := .code yX10_lawOf cX10_lawOf 4 (some .int) :: ([.fieldLink RX10 116 "FindsOfficeModel" "laws" "I", .fieldLink RX10 46 "FindsOfficeModel" "lawDay" "[I"] ++ wsX100)
def wsX10_counted_r1 : List Cond := [Cond.fieldLink RX10 34 "FindsOfficeModel" "foundOn" "[I", Cond.fieldLink RX10 28 "FindsOfficeModel" "to" "[I", Cond.fieldLink RX10 49 "FindsOfficeModel" "age" "[I", Cond.fieldLink RX10 16 "FindsOfficeModel" "metal" "[I", Cond.fieldLink RX10 19 "FindsOfficeModel" "purity" "[I", Cond.fieldLink RX10 52 "FindsOfficeModel" "parts" "[I", Cond.fieldLink RX10 58 "FindsOfficeModel" "together" "[I", Cond.methodLink RX10 140 yX10_isKnown, Cond.instanceMethod yX10_isKnown, Cond.selects RX10 yX10_isKnown yX10_isKnown, Cond.initialized RX10, Cond.code yX10_isKnown cX10_isKnown 3 (some .boolean), Cond.fieldLink RX10 113 "FindsOfficeModel" "now" "I", Cond.fieldLink RX10 37 "FindsOfficeModel" "knownOn" "[I", Cond.methodLink RX10 127 yX10_isFind, Cond.instanceMethod yX10_isFind, Cond.selects RX10 yX10_isFind yX10_isFind, Cond.code yX10_isFind cX10_isFind 2 (some .boolean), Cond.fieldLink RX10 106 "FindsOfficeModel" "finds" "I", Cond.methodLink RX10 109 yX10_in, Cond.static yX10_in, Cond.code yX10_in cX10_in 3 (some .boolean), Cond.methodLink RX10 144 yX10_lawOf, Cond.instanceMethod yX10_lawOf]
def wsX10_counted_r2 : List Cond := [Cond.selects RX10 yX10_lawOf yX10_lawOf, Cond.code yX10_lawOf cX10_lawOf 4 (some .int), Cond.fieldLink RX10 116 "FindsOfficeModel" "laws" "I", Cond.fieldLink RX10 46 "FindsOfficeModel" "lawDay" "[I", Cond.methodLink RX10 148 yX10_yearOf, Cond.static yX10_yearOf, Cond.code yX10_yearOf cX10_yearOf 1 (some .int), Cond.methodLink RX10 136 yX10_reaches, Cond.instanceMethod yX10_reaches, Cond.selects RX10 yX10_reaches yX10_reaches, Cond.code yX10_reaches cX10_reaches 7 (some .int), Cond.fieldLink RX10 101 "FindsOfficeModel" "isReached" "[Z", Cond.methodLink RX10 133 yX10_isJoined, Cond.instanceMethod yX10_isJoined, Cond.selects RX10 yX10_isJoined yX10_isJoined, Cond.code yX10_isJoined cX10_isJoined 4 (some .boolean), Cond.fieldLink RX10 9 "FindsOfficeModel" "x" "[I", Cond.fieldLink RX10 13 "FindsOfficeModel" "y" "[I", Cond.fieldLink RX10 25 "FindsOfficeModel" "from" "[I", Cond.fieldLink RX10 43 "FindsOfficeModel" "parted" "[I"]
def wsX10_counted : List Cond := .code yX10_counted cX10_counted 4 (some .boolean) :: ((wsX10_counted_r1 ++ wsX10_counted_r2) ++ wsX100)
def wsX10_counts_r1 : List Cond := [Cond.fieldLink RX10 113 "FindsOfficeModel" "now" "I", Cond.methodLink RX10 151 yX10_counted, Cond.instanceMethod yX10_counted, Cond.selects RX10 yX10_counted yX10_counted, Cond.initialized RX10, Cond.code yX10_counted cX10_counted 4 (some .boolean), Cond.fieldLink RX10 34 "FindsOfficeModel" "foundOn" "[I", Cond.fieldLink RX10 28 "FindsOfficeModel" "to" "[I", Cond.fieldLink RX10 49 "FindsOfficeModel" "age" "[I", Cond.fieldLink RX10 16 "FindsOfficeModel" "metal" "[I", Cond.fieldLink RX10 19 "FindsOfficeModel" "purity" "[I", Cond.fieldLink RX10 52 "FindsOfficeModel" "parts" "[I", Cond.fieldLink RX10 58 "FindsOfficeModel" "together" "[I", Cond.methodLink RX10 140 yX10_isKnown, Cond.instanceMethod yX10_isKnown, Cond.selects RX10 yX10_isKnown yX10_isKnown, Cond.code yX10_isKnown cX10_isKnown 3 (some .boolean), Cond.fieldLink RX10 37 "FindsOfficeModel" "knownOn" "[I", Cond.methodLink RX10 127 yX10_isFind, Cond.instanceMethod yX10_isFind, Cond.selects RX10 yX10_isFind yX10_isFind, Cond.code yX10_isFind cX10_isFind 2 (some .boolean), Cond.fieldLink RX10 106 "FindsOfficeModel" "finds" "I", Cond.methodLink RX10 109 yX10_in]
def wsX10_counts_r2 : List Cond := [Cond.static yX10_in, Cond.code yX10_in cX10_in 3 (some .boolean), Cond.methodLink RX10 144 yX10_lawOf, Cond.instanceMethod yX10_lawOf, Cond.selects RX10 yX10_lawOf yX10_lawOf, Cond.code yX10_lawOf cX10_lawOf 4 (some .int), Cond.fieldLink RX10 116 "FindsOfficeModel" "laws" "I", Cond.fieldLink RX10 46 "FindsOfficeModel" "lawDay" "[I", Cond.methodLink RX10 148 yX10_yearOf, Cond.static yX10_yearOf, Cond.code yX10_yearOf cX10_yearOf 1 (some .int), Cond.methodLink RX10 136 yX10_reaches, Cond.instanceMethod yX10_reaches, Cond.selects RX10 yX10_reaches yX10_reaches, Cond.code yX10_reaches cX10_reaches 7 (some .int), Cond.fieldLink RX10 101 "FindsOfficeModel" "isReached" "[Z", Cond.methodLink RX10 133 yX10_isJoined, Cond.instanceMethod yX10_isJoined, Cond.selects RX10 yX10_isJoined yX10_isJoined, Cond.code yX10_isJoined cX10_isJoined 4 (some .boolean), Cond.fieldLink RX10 9 "FindsOfficeModel" "x" "[I", Cond.fieldLink RX10 13 "FindsOfficeModel" "y" "[I", Cond.fieldLink RX10 25 "FindsOfficeModel" "from" "[I", Cond.fieldLink RX10 43 "FindsOfficeModel" "parted" "[I"]
def wsX10_counts : List Cond := .code yX10_counts cX10_counts 2 (some .boolean) :: ((wsX10_counts_r1 ++ wsX10_counts_r2) ++ wsX100)
def wsX10_ownerOn : List Cond := .code yX10_ownerOn cX10_ownerOn 5 (some .int) :: ([.fieldLink RX10 123 "FindsOfficeModel" "owners" "I", .fieldLink RX10 61 "FindsOfficeModel" "ownPlot" "[I", .fieldLink RX10 64 "FindsOfficeModel" "ownDay" "[I", .fieldLink RX10 67 "FindsOfficeModel" "ownWho" "[I"] ++ wsX100)
def wsX10_ownerOf : List Cond := .code yX10_ownerOf cX10_ownerOf 2 (some .int) :: ([.fieldLink RX10 9 "FindsOfficeModel" "x" "[I", .fieldLink RX10 13 "FindsOfficeModel" "y" "[I", .fieldLink RX10 34 "FindsOfficeModel" "foundOn" "[I", .methodLink RX10 154 yX10_ownerOn, .instanceMethod yX10_ownerOn, .selects RX10 yX10_ownerOn yX10_ownerOn, .initialized RX10, .code yX10_ownerOn cX10_ownerOn 5 (some .int), .fieldLink RX10 123 "FindsOfficeModel" "owners" "I", .fieldLink RX10 61 "FindsOfficeModel" "ownPlot" "[I", .fieldLink RX10 64 "FindsOfficeModel" "ownDay" "[I", .fieldLink RX10 67 "FindsOfficeModel" "ownWho" "[I"] ++ wsX100)
def wsX10_told_r1 : List Cond := [Cond.constant RX10 157 (-2147483648), Cond.fieldLink RX10 34 "FindsOfficeModel" "foundOn" "[I", Cond.fieldLink RX10 37 "FindsOfficeModel" "knownOn" "[I", Cond.fieldLink RX10 16 "FindsOfficeModel" "metal" "[I", Cond.fieldLink RX10 19 "FindsOfficeModel" "purity" "[I", Cond.fieldLink RX10 22 "FindsOfficeModel" "weight" "[I", Cond.fieldLink RX10 25 "FindsOfficeModel" "from" "[I", Cond.fieldLink RX10 28 "FindsOfficeModel" "to" "[I", Cond.fieldLink RX10 31 "FindsOfficeModel" "finder" "[I", Cond.fieldLink RX10 40 "FindsOfficeModel" "museumOf" "[I", Cond.methodLink RX10 127 yX10_isFind, Cond.instanceMethod yX10_isFind, Cond.selects RX10 yX10_isFind yX10_isFind, Cond.initialized RX10, Cond.code yX10_isFind cX10_isFind 2 (some .boolean), Cond.fieldLink RX10 106 "FindsOfficeModel" "finds" "I", Cond.methodLink RX10 109 yX10_in, Cond.static yX10_in, Cond.code yX10_in cX10_in 3 (some .boolean), Cond.methodLink RX10 158 yX10_ownerOf, Cond.instanceMethod yX10_ownerOf, Cond.selects RX10 yX10_ownerOf yX10_ownerOf, Cond.code yX10_ownerOf cX10_ownerOf 2 (some .int), Cond.fieldLink RX10 9 "FindsOfficeModel" "x" "[I"]
def wsX10_told_r2 : List Cond := [Cond.fieldLink RX10 13 "FindsOfficeModel" "y" "[I", Cond.methodLink RX10 154 yX10_ownerOn, Cond.instanceMethod yX10_ownerOn, Cond.selects RX10 yX10_ownerOn yX10_ownerOn, Cond.code yX10_ownerOn cX10_ownerOn 5 (some .int), Cond.fieldLink RX10 123 "FindsOfficeModel" "owners" "I", Cond.fieldLink RX10 61 "FindsOfficeModel" "ownPlot" "[I", Cond.fieldLink RX10 64 "FindsOfficeModel" "ownDay" "[I", Cond.fieldLink RX10 67 "FindsOfficeModel" "ownWho" "[I"]
def wsX10_told : List Cond := .code yX10_told cX10_told 3 (some .int) :: ((wsX10_told_r1 ++ wsX10_told_r2) ++ wsX100)
def wsX10_index : List Cond := .code yX10_index cX10_index 3 (some .boolean) :: ([.fieldLink RX10 70 "FindsOfficeModel" "index" "[I", .methodLink RX10 109 yX10_in, .static yX10_in, .initialized RX10, .code yX10_in cX10_in 3 (some .boolean)] ++ wsX100)
def wsX10_sale : List Cond := .code yX10_sale cX10_sale 7 (some .int) :: ([.fieldLink RX10 113 "FindsOfficeModel" "now" "I", .constant RX10 105 (1000000), .fieldLink RX10 161 "FindsOfficeModel" "sales" "I", .fieldLink RX10 73 "FindsOfficeModel" "saleMetal" "[I", .fieldLink RX10 76 "FindsOfficeModel" "saleDay" "[I", .fieldLink RX10 79 "FindsOfficeModel" "saleWeight" "[I", .fieldLink RX10 82 "FindsOfficeModel" "salePrice" "[I", .methodLink RX10 109 yX10_in, .static yX10_in, .initialized RX10, .code yX10_in cX10_in 3 (some .boolean)] ++ wsX100)
def wsX10_worth : List Cond := .code yX10_worth cX10_worth 8 (some .int) :: ([.fieldLink RX10 161 "FindsOfficeModel" "sales" "I", .fieldLink RX10 73 "FindsOfficeModel" "saleMetal" "[I", .fieldLink RX10 16 "FindsOfficeModel" "metal" "[I", .fieldLink RX10 82 "FindsOfficeModel" "salePrice" "[I", .fieldLink RX10 70 "FindsOfficeModel" "index" "[I", .fieldLink RX10 113 "FindsOfficeModel" "now" "I", .fieldLink RX10 76 "FindsOfficeModel" "saleDay" "[I", .fieldLink RX10 79 "FindsOfficeModel" "saleWeight" "[I", .fieldLink RX10 22 "FindsOfficeModel" "weight" "[I", .constantLong RX10 164 (1000000), .constant RX10 105 (1000000), .methodLink RX10 127 yX10_isFind, .instanceMethod yX10_isFind, .selects RX10 yX10_isFind yX10_isFind, .initialized RX10, .code yX10_isFind cX10_isFind 2 (some .boolean), .fieldLink RX10 106 "FindsOfficeModel" "finds" "I", .methodLink RX10 109 yX10_in, .static yX10_in, .code yX10_in cX10_in 3 (some .boolean), .methodLink RX10 148 yX10_yearOf, .static yX10_yearOf, .code yX10_yearOf cX10_yearOf 1 (some .int)] ++ wsX100)
def wsX10_share_r1 : List Cond := [Cond.fieldLink RX10 55 "FindsOfficeModel" "shareOf" "[I", Cond.fieldLink RX10 34 "FindsOfficeModel" "foundOn" "[I", Cond.constantLong RX10 172 (100), Cond.fieldLink RX10 31 "FindsOfficeModel" "finder" "[I", Cond.methodLink RX10 127 yX10_isFind, Cond.instanceMethod yX10_isFind, Cond.selects RX10 yX10_isFind yX10_isFind, Cond.initialized RX10, Cond.code yX10_isFind cX10_isFind 2 (some .boolean), Cond.fieldLink RX10 106 "FindsOfficeModel" "finds" "I", Cond.methodLink RX10 109 yX10_in, Cond.static yX10_in, Cond.code yX10_in cX10_in 3 (some .boolean), Cond.methodLink RX10 119 yX10_isPerson, Cond.static yX10_isPerson, Cond.code yX10_isPerson cX10_isPerson 1 (some .boolean), Cond.methodLink RX10 166 yX10_counts, Cond.instanceMethod yX10_counts, Cond.selects RX10 yX10_counts yX10_counts, Cond.code yX10_counts cX10_counts 2 (some .boolean), Cond.fieldLink RX10 113 "FindsOfficeModel" "now" "I", Cond.methodLink RX10 151 yX10_counted, Cond.instanceMethod yX10_counted, Cond.selects RX10 yX10_counted yX10_counted]
def wsX10_share_r2 : List Cond := [Cond.code yX10_counted cX10_counted 4 (some .boolean), Cond.fieldLink RX10 28 "FindsOfficeModel" "to" "[I", Cond.fieldLink RX10 49 "FindsOfficeModel" "age" "[I", Cond.fieldLink RX10 16 "FindsOfficeModel" "metal" "[I", Cond.fieldLink RX10 19 "FindsOfficeModel" "purity" "[I", Cond.fieldLink RX10 52 "FindsOfficeModel" "parts" "[I", Cond.fieldLink RX10 58 "FindsOfficeModel" "together" "[I", Cond.methodLink RX10 140 yX10_isKnown, Cond.instanceMethod yX10_isKnown, Cond.selects RX10 yX10_isKnown yX10_isKnown, Cond.code yX10_isKnown cX10_isKnown 3 (some .boolean), Cond.fieldLink RX10 37 "FindsOfficeModel" "knownOn" "[I", Cond.methodLink RX10 144 yX10_lawOf, Cond.instanceMethod yX10_lawOf, Cond.selects RX10 yX10_lawOf yX10_lawOf, Cond.code yX10_lawOf cX10_lawOf 4 (some .int), Cond.fieldLink RX10 116 "FindsOfficeModel" "laws" "I", Cond.fieldLink RX10 46 "FindsOfficeModel" "lawDay" "[I", Cond.methodLink RX10 148 yX10_yearOf, Cond.static yX10_yearOf, Cond.code yX10_yearOf cX10_yearOf 1 (some .int), Cond.methodLink RX10 136 yX10_reaches, Cond.instanceMethod yX10_reaches, Cond.selects RX10 yX10_reaches yX10_reaches]
def wsX10_share_r3 : List Cond := [Cond.code yX10_reaches cX10_reaches 7 (some .int), Cond.fieldLink RX10 101 "FindsOfficeModel" "isReached" "[Z", Cond.methodLink RX10 133 yX10_isJoined, Cond.instanceMethod yX10_isJoined, Cond.selects RX10 yX10_isJoined yX10_isJoined, Cond.code yX10_isJoined cX10_isJoined 4 (some .boolean), Cond.fieldLink RX10 9 "FindsOfficeModel" "x" "[I", Cond.fieldLink RX10 13 "FindsOfficeModel" "y" "[I", Cond.fieldLink RX10 25 "FindsOfficeModel" "from" "[I", Cond.fieldLink RX10 43 "FindsOfficeModel" "parted" "[I", Cond.methodLink RX10 169 yX10_worth, Cond.instanceMethod yX10_worth, Cond.selects RX10 yX10_worth yX10_worth, Cond.code yX10_worth cX10_worth 8 (some .int), Cond.fieldLink RX10 161 "FindsOfficeModel" "sales" "I", Cond.fieldLink RX10 73 "FindsOfficeModel" "saleMetal" "[I", Cond.fieldLink RX10 82 "FindsOfficeModel" "salePrice" "[I", Cond.fieldLink RX10 70 "FindsOfficeModel" "index" "[I", Cond.fieldLink RX10 76 "FindsOfficeModel" "saleDay" "[I", Cond.fieldLink RX10 79 "FindsOfficeModel" "saleWeight" "[I", Cond.fieldLink RX10 22 "FindsOfficeModel" "weight" "[I", Cond.constantLong RX10 164 (1000000), Cond.constant RX10 105 (1000000), Cond.methodLink RX10 158 yX10_ownerOf]
def wsX10_share_r4 : List Cond := [Cond.instanceMethod yX10_ownerOf, Cond.selects RX10 yX10_ownerOf yX10_ownerOf, Cond.code yX10_ownerOf cX10_ownerOf 2 (some .int), Cond.methodLink RX10 154 yX10_ownerOn, Cond.instanceMethod yX10_ownerOn, Cond.selects RX10 yX10_ownerOn yX10_ownerOn, Cond.code yX10_ownerOn cX10_ownerOn 5 (some .int), Cond.fieldLink RX10 123 "FindsOfficeModel" "owners" "I", Cond.fieldLink RX10 61 "FindsOfficeModel" "ownPlot" "[I", Cond.fieldLink RX10 64 "FindsOfficeModel" "ownDay" "[I", Cond.fieldLink RX10 67 "FindsOfficeModel" "ownWho" "[I"]
def wsX10_share : List Cond := .code yX10_share cX10_share 5 (some .int) :: ((wsX10_share_r1 ++ (wsX10_share_r2 ++ (wsX10_share_r3 ++ wsX10_share_r4))) ++ wsX100)
def wsX10_due_r1 : List Cond := [Cond.fieldLink RX10 85 "FindsOfficeModel" "paid" "[I", Cond.fieldLink RX10 106 "FindsOfficeModel" "finds" "I", Cond.methodLink RX10 119 yX10_isPerson, Cond.static yX10_isPerson, Cond.initialized RX10, Cond.code yX10_isPerson cX10_isPerson 1 (some .boolean), Cond.methodLink RX10 109 yX10_in, Cond.static yX10_in, Cond.code yX10_in cX10_in 3 (some .boolean), Cond.methodLink RX10 174 yX10_share, Cond.instanceMethod yX10_share, Cond.selects RX10 yX10_share yX10_share, Cond.code yX10_share cX10_share 5 (some .int), Cond.fieldLink RX10 55 "FindsOfficeModel" "shareOf" "[I", Cond.fieldLink RX10 34 "FindsOfficeModel" "foundOn" "[I", Cond.constantLong RX10 172 (100), Cond.fieldLink RX10 31 "FindsOfficeModel" "finder" "[I", Cond.methodLink RX10 127 yX10_isFind, Cond.instanceMethod yX10_isFind, Cond.selects RX10 yX10_isFind yX10_isFind, Cond.code yX10_isFind cX10_isFind 2 (some .boolean), Cond.methodLink RX10 166 yX10_counts, Cond.instanceMethod yX10_counts, Cond.selects RX10 yX10_counts yX10_counts]
def wsX10_due_r2 : List Cond := [Cond.code yX10_counts cX10_counts 2 (some .boolean), Cond.fieldLink RX10 113 "FindsOfficeModel" "now" "I", Cond.methodLink RX10 151 yX10_counted, Cond.instanceMethod yX10_counted, Cond.selects RX10 yX10_counted yX10_counted, Cond.code yX10_counted cX10_counted 4 (some .boolean), Cond.fieldLink RX10 28 "FindsOfficeModel" "to" "[I", Cond.fieldLink RX10 49 "FindsOfficeModel" "age" "[I", Cond.fieldLink RX10 16 "FindsOfficeModel" "metal" "[I", Cond.fieldLink RX10 19 "FindsOfficeModel" "purity" "[I", Cond.fieldLink RX10 52 "FindsOfficeModel" "parts" "[I", Cond.fieldLink RX10 58 "FindsOfficeModel" "together" "[I", Cond.methodLink RX10 140 yX10_isKnown, Cond.instanceMethod yX10_isKnown, Cond.selects RX10 yX10_isKnown yX10_isKnown, Cond.code yX10_isKnown cX10_isKnown 3 (some .boolean), Cond.fieldLink RX10 37 "FindsOfficeModel" "knownOn" "[I", Cond.methodLink RX10 144 yX10_lawOf, Cond.instanceMethod yX10_lawOf, Cond.selects RX10 yX10_lawOf yX10_lawOf, Cond.code yX10_lawOf cX10_lawOf 4 (some .int), Cond.fieldLink RX10 116 "FindsOfficeModel" "laws" "I", Cond.fieldLink RX10 46 "FindsOfficeModel" "lawDay" "[I", Cond.methodLink RX10 148 yX10_yearOf]
def wsX10_due_r3 : List Cond := [Cond.static yX10_yearOf, Cond.code yX10_yearOf cX10_yearOf 1 (some .int), Cond.methodLink RX10 136 yX10_reaches, Cond.instanceMethod yX10_reaches, Cond.selects RX10 yX10_reaches yX10_reaches, Cond.code yX10_reaches cX10_reaches 7 (some .int), Cond.fieldLink RX10 101 "FindsOfficeModel" "isReached" "[Z", Cond.methodLink RX10 133 yX10_isJoined, Cond.instanceMethod yX10_isJoined, Cond.selects RX10 yX10_isJoined yX10_isJoined, Cond.code yX10_isJoined cX10_isJoined 4 (some .boolean), Cond.fieldLink RX10 9 "FindsOfficeModel" "x" "[I", Cond.fieldLink RX10 13 "FindsOfficeModel" "y" "[I", Cond.fieldLink RX10 25 "FindsOfficeModel" "from" "[I", Cond.fieldLink RX10 43 "FindsOfficeModel" "parted" "[I", Cond.methodLink RX10 169 yX10_worth, Cond.instanceMethod yX10_worth, Cond.selects RX10 yX10_worth yX10_worth, Cond.code yX10_worth cX10_worth 8 (some .int), Cond.fieldLink RX10 161 "FindsOfficeModel" "sales" "I", Cond.fieldLink RX10 73 "FindsOfficeModel" "saleMetal" "[I", Cond.fieldLink RX10 82 "FindsOfficeModel" "salePrice" "[I", Cond.fieldLink RX10 70 "FindsOfficeModel" "index" "[I", Cond.fieldLink RX10 76 "FindsOfficeModel" "saleDay" "[I"]
def wsX10_due_r4 : List Cond := [Cond.fieldLink RX10 79 "FindsOfficeModel" "saleWeight" "[I", Cond.fieldLink RX10 22 "FindsOfficeModel" "weight" "[I", Cond.constantLong RX10 164 (1000000), Cond.constant RX10 105 (1000000), Cond.methodLink RX10 158 yX10_ownerOf, Cond.instanceMethod yX10_ownerOf, Cond.selects RX10 yX10_ownerOf yX10_ownerOf, Cond.code yX10_ownerOf cX10_ownerOf 2 (some .int), Cond.methodLink RX10 154 yX10_ownerOn, Cond.instanceMethod yX10_ownerOn, Cond.selects RX10 yX10_ownerOn yX10_ownerOn, Cond.code yX10_ownerOn cX10_ownerOn 5 (some .int), Cond.fieldLink RX10 123 "FindsOfficeModel" "owners" "I", Cond.fieldLink RX10 61 "FindsOfficeModel" "ownPlot" "[I", Cond.fieldLink RX10 64 "FindsOfficeModel" "ownDay" "[I", Cond.fieldLink RX10 67 "FindsOfficeModel" "ownWho" "[I"]
def wsX10_due : List Cond := .code yX10_due cX10_due 4 (some .int) :: ((wsX10_due_r1 ++ (wsX10_due_r2 ++ (wsX10_due_r3 ++ wsX10_due_r4))) ++ wsX100)
def wsX10_settle_r1 : List Cond := [Cond.fieldLink RX10 85 "FindsOfficeModel" "paid" "[I", Cond.methodLink RX10 177 yX10_due, Cond.instanceMethod yX10_due, Cond.selects RX10 yX10_due yX10_due, Cond.initialized RX10, Cond.code yX10_due cX10_due 4 (some .int), Cond.fieldLink RX10 106 "FindsOfficeModel" "finds" "I", Cond.methodLink RX10 119 yX10_isPerson, Cond.static yX10_isPerson, Cond.code yX10_isPerson cX10_isPerson 1 (some .boolean), Cond.methodLink RX10 109 yX10_in, Cond.static yX10_in, Cond.code yX10_in cX10_in 3 (some .boolean), Cond.methodLink RX10 174 yX10_share, Cond.instanceMethod yX10_share, Cond.selects RX10 yX10_share yX10_share, Cond.code yX10_share cX10_share 5 (some .int), Cond.fieldLink RX10 55 "FindsOfficeModel" "shareOf" "[I", Cond.fieldLink RX10 34 "FindsOfficeModel" "foundOn" "[I", Cond.constantLong RX10 172 (100), Cond.fieldLink RX10 31 "FindsOfficeModel" "finder" "[I", Cond.methodLink RX10 127 yX10_isFind, Cond.instanceMethod yX10_isFind, Cond.selects RX10 yX10_isFind yX10_isFind]
def wsX10_settle_r2 : List Cond := [Cond.code yX10_isFind cX10_isFind 2 (some .boolean), Cond.methodLink RX10 166 yX10_counts, Cond.instanceMethod yX10_counts, Cond.selects RX10 yX10_counts yX10_counts, Cond.code yX10_counts cX10_counts 2 (some .boolean), Cond.fieldLink RX10 113 "FindsOfficeModel" "now" "I", Cond.methodLink RX10 151 yX10_counted, Cond.instanceMethod yX10_counted, Cond.selects RX10 yX10_counted yX10_counted, Cond.code yX10_counted cX10_counted 4 (some .boolean), Cond.fieldLink RX10 28 "FindsOfficeModel" "to" "[I", Cond.fieldLink RX10 49 "FindsOfficeModel" "age" "[I", Cond.fieldLink RX10 16 "FindsOfficeModel" "metal" "[I", Cond.fieldLink RX10 19 "FindsOfficeModel" "purity" "[I", Cond.fieldLink RX10 52 "FindsOfficeModel" "parts" "[I", Cond.fieldLink RX10 58 "FindsOfficeModel" "together" "[I", Cond.methodLink RX10 140 yX10_isKnown, Cond.instanceMethod yX10_isKnown, Cond.selects RX10 yX10_isKnown yX10_isKnown, Cond.code yX10_isKnown cX10_isKnown 3 (some .boolean), Cond.fieldLink RX10 37 "FindsOfficeModel" "knownOn" "[I", Cond.methodLink RX10 144 yX10_lawOf, Cond.instanceMethod yX10_lawOf, Cond.selects RX10 yX10_lawOf yX10_lawOf]
def wsX10_settle_r3 : List Cond := [Cond.code yX10_lawOf cX10_lawOf 4 (some .int), Cond.fieldLink RX10 116 "FindsOfficeModel" "laws" "I", Cond.fieldLink RX10 46 "FindsOfficeModel" "lawDay" "[I", Cond.methodLink RX10 148 yX10_yearOf, Cond.static yX10_yearOf, Cond.code yX10_yearOf cX10_yearOf 1 (some .int), Cond.methodLink RX10 136 yX10_reaches, Cond.instanceMethod yX10_reaches, Cond.selects RX10 yX10_reaches yX10_reaches, Cond.code yX10_reaches cX10_reaches 7 (some .int), Cond.fieldLink RX10 101 "FindsOfficeModel" "isReached" "[Z", Cond.methodLink RX10 133 yX10_isJoined, Cond.instanceMethod yX10_isJoined, Cond.selects RX10 yX10_isJoined yX10_isJoined, Cond.code yX10_isJoined cX10_isJoined 4 (some .boolean), Cond.fieldLink RX10 9 "FindsOfficeModel" "x" "[I", Cond.fieldLink RX10 13 "FindsOfficeModel" "y" "[I", Cond.fieldLink RX10 25 "FindsOfficeModel" "from" "[I", Cond.fieldLink RX10 43 "FindsOfficeModel" "parted" "[I", Cond.methodLink RX10 169 yX10_worth, Cond.instanceMethod yX10_worth, Cond.selects RX10 yX10_worth yX10_worth, Cond.code yX10_worth cX10_worth 8 (some .int), Cond.fieldLink RX10 161 "FindsOfficeModel" "sales" "I"]
def wsX10_settle_r4 : List Cond := [Cond.fieldLink RX10 73 "FindsOfficeModel" "saleMetal" "[I", Cond.fieldLink RX10 82 "FindsOfficeModel" "salePrice" "[I", Cond.fieldLink RX10 70 "FindsOfficeModel" "index" "[I", Cond.fieldLink RX10 76 "FindsOfficeModel" "saleDay" "[I", Cond.fieldLink RX10 79 "FindsOfficeModel" "saleWeight" "[I", Cond.fieldLink RX10 22 "FindsOfficeModel" "weight" "[I", Cond.constantLong RX10 164 (1000000), Cond.constant RX10 105 (1000000), Cond.methodLink RX10 158 yX10_ownerOf, Cond.instanceMethod yX10_ownerOf, Cond.selects RX10 yX10_ownerOf yX10_ownerOf, Cond.code yX10_ownerOf cX10_ownerOf 2 (some .int), Cond.methodLink RX10 154 yX10_ownerOn, Cond.instanceMethod yX10_ownerOn, Cond.selects RX10 yX10_ownerOn yX10_ownerOn, Cond.code yX10_ownerOn cX10_ownerOn 5 (some .int), Cond.fieldLink RX10 123 "FindsOfficeModel" "owners" "I", Cond.fieldLink RX10 61 "FindsOfficeModel" "ownPlot" "[I", Cond.fieldLink RX10 64 "FindsOfficeModel" "ownDay" "[I", Cond.fieldLink RX10 67 "FindsOfficeModel" "ownWho" "[I"]
def wsX10_settle : List Cond := .code yX10_settle cX10_settle 3 (some .int) :: ((wsX10_settle_r1 ++ (wsX10_settle_r2 ++ (wsX10_settle_r3 ++ wsX10_settle_r4))) ++ wsX100)
def wsX10_paid : List Cond := .code yX10_paid cX10_paid 2 (some .int) :: ([.fieldLink RX10 85 "FindsOfficeModel" "paid" "[I", .methodLink RX10 119 yX10_isPerson, .static yX10_isPerson, .initialized RX10, .code yX10_isPerson cX10_isPerson 1 (some .boolean), .methodLink RX10 109 yX10_in, .static yX10_in, .code yX10_in cX10_in 3 (some .boolean)] ++ wsX100)
def wsX10_wide : List Cond := .code yX10_wide cX10_wide 1 (some .int) :: ([])
def wsX10_place : List Cond := .code yX10_place cX10_place 4 (some .int) :: ([.fieldLink RX10 9 "FindsOfficeModel" "x" "[I", .fieldLink RX10 13 "FindsOfficeModel" "y" "[I", .methodLink RX10 127 yX10_isFind, .instanceMethod yX10_isFind, .selects RX10 yX10_isFind yX10_isFind, .initialized RX10, .code yX10_isFind cX10_isFind 2 (some .boolean), .fieldLink RX10 106 "FindsOfficeModel" "finds" "I", .methodLink RX10 109 yX10_in, .static yX10_in, .code yX10_in cX10_in 3 (some .boolean), .methodLink RX10 180 yX10_wide, .static yX10_wide, .code yX10_wide cX10_wide 1 (some .int)] ++ wsX100)
def wsX10_within : List Cond := .code yX10_within cX10_within 11 (some .int) :: ([.constant RX10 183 (1002000), .fieldLink RX10 106 "FindsOfficeModel" "finds" "I", .fieldLink RX10 9 "FindsOfficeModel" "x" "[I", .fieldLink RX10 13 "FindsOfficeModel" "y" "[I", .methodLink RX10 109 yX10_in, .static yX10_in, .initialized RX10, .code yX10_in cX10_in 3 (some .boolean), .methodLink RX10 180 yX10_wide, .static yX10_wide, .code yX10_wide cX10_wide 1 (some .int)] ++ wsX100)
def wsX10_museum : List Cond := .code yX10_museum cX10_museum 3 (some .int) :: ([.constant RX10 105 (1000000), .fieldLink RX10 184 "FindsOfficeModel" "museums" "I", .fieldLink RX10 88 "FindsOfficeModel" "takes" "[I", .fieldLink RX10 91 "FindsOfficeModel" "most" "[I", .methodLink RX10 109 yX10_in, .static yX10_in, .initialized RX10, .code yX10_in cX10_in 3 (some .boolean)] ++ wsX100)
def wsX10_turn : List Cond := .code yX10_turn cX10_turn 1 (some .int) :: ([.fieldLink RX10 184 "FindsOfficeModel" "museums" "I", .fieldLink RX10 97 "FindsOfficeModel" "latest" "I"] ++ wsX100)
def wsX10_offer_r1 : List Cond := [Cond.fieldLink RX10 40 "FindsOfficeModel" "museumOf" "[I", Cond.fieldLink RX10 184 "FindsOfficeModel" "museums" "I", Cond.fieldLink RX10 88 "FindsOfficeModel" "takes" "[I", Cond.fieldLink RX10 16 "FindsOfficeModel" "metal" "[I", Cond.fieldLink RX10 91 "FindsOfficeModel" "most" "[I", Cond.fieldLink RX10 94 "FindsOfficeModel" "spent" "[I", Cond.fieldLink RX10 97 "FindsOfficeModel" "latest" "I", Cond.methodLink RX10 127 yX10_isFind, Cond.instanceMethod yX10_isFind, Cond.selects RX10 yX10_isFind yX10_isFind, Cond.initialized RX10, Cond.code yX10_isFind cX10_isFind 2 (some .boolean), Cond.fieldLink RX10 106 "FindsOfficeModel" "finds" "I", Cond.methodLink RX10 109 yX10_in, Cond.static yX10_in, Cond.code yX10_in cX10_in 3 (some .boolean), Cond.methodLink RX10 166 yX10_counts, Cond.instanceMethod yX10_counts, Cond.selects RX10 yX10_counts yX10_counts, Cond.code yX10_counts cX10_counts 2 (some .boolean), Cond.fieldLink RX10 113 "FindsOfficeModel" "now" "I", Cond.methodLink RX10 151 yX10_counted, Cond.instanceMethod yX10_counted, Cond.selects RX10 yX10_counted yX10_counted]
def wsX10_offer_r2 : List Cond := [Cond.code yX10_counted cX10_counted 4 (some .boolean), Cond.fieldLink RX10 34 "FindsOfficeModel" "foundOn" "[I", Cond.fieldLink RX10 28 "FindsOfficeModel" "to" "[I", Cond.fieldLink RX10 49 "FindsOfficeModel" "age" "[I", Cond.fieldLink RX10 19 "FindsOfficeModel" "purity" "[I", Cond.fieldLink RX10 52 "FindsOfficeModel" "parts" "[I", Cond.fieldLink RX10 58 "FindsOfficeModel" "together" "[I", Cond.methodLink RX10 140 yX10_isKnown, Cond.instanceMethod yX10_isKnown, Cond.selects RX10 yX10_isKnown yX10_isKnown, Cond.code yX10_isKnown cX10_isKnown 3 (some .boolean), Cond.fieldLink RX10 37 "FindsOfficeModel" "knownOn" "[I", Cond.methodLink RX10 144 yX10_lawOf, Cond.instanceMethod yX10_lawOf, Cond.selects RX10 yX10_lawOf yX10_lawOf, Cond.code yX10_lawOf cX10_lawOf 4 (some .int), Cond.fieldLink RX10 116 "FindsOfficeModel" "laws" "I", Cond.fieldLink RX10 46 "FindsOfficeModel" "lawDay" "[I", Cond.methodLink RX10 148 yX10_yearOf, Cond.static yX10_yearOf, Cond.code yX10_yearOf cX10_yearOf 1 (some .int), Cond.methodLink RX10 136 yX10_reaches, Cond.instanceMethod yX10_reaches, Cond.selects RX10 yX10_reaches yX10_reaches]
def wsX10_offer_r3 : List Cond := [Cond.code yX10_reaches cX10_reaches 7 (some .int), Cond.fieldLink RX10 101 "FindsOfficeModel" "isReached" "[Z", Cond.methodLink RX10 133 yX10_isJoined, Cond.instanceMethod yX10_isJoined, Cond.selects RX10 yX10_isJoined yX10_isJoined, Cond.code yX10_isJoined cX10_isJoined 4 (some .boolean), Cond.fieldLink RX10 9 "FindsOfficeModel" "x" "[I", Cond.fieldLink RX10 13 "FindsOfficeModel" "y" "[I", Cond.fieldLink RX10 25 "FindsOfficeModel" "from" "[I", Cond.fieldLink RX10 43 "FindsOfficeModel" "parted" "[I", Cond.methodLink RX10 169 yX10_worth, Cond.instanceMethod yX10_worth, Cond.selects RX10 yX10_worth yX10_worth, Cond.code yX10_worth cX10_worth 8 (some .int), Cond.fieldLink RX10 161 "FindsOfficeModel" "sales" "I", Cond.fieldLink RX10 73 "FindsOfficeModel" "saleMetal" "[I", Cond.fieldLink RX10 82 "FindsOfficeModel" "salePrice" "[I", Cond.fieldLink RX10 70 "FindsOfficeModel" "index" "[I", Cond.fieldLink RX10 76 "FindsOfficeModel" "saleDay" "[I", Cond.fieldLink RX10 79 "FindsOfficeModel" "saleWeight" "[I", Cond.fieldLink RX10 22 "FindsOfficeModel" "weight" "[I", Cond.constantLong RX10 164 (1000000), Cond.constant RX10 105 (1000000), Cond.methodLink RX10 187 yX10_turn]
def wsX10_offer_r4 : List Cond := [Cond.instanceMethod yX10_turn, Cond.selects RX10 yX10_turn yX10_turn, Cond.code yX10_turn cX10_turn 1 (some .int)]
def wsX10_offer : List Cond := .code yX10_offer cX10_offer 6 (some .int) :: ((wsX10_offer_r1 ++ (wsX10_offer_r2 ++ (wsX10_offer_r3 ++ wsX10_offer_r4))) ++ wsX100)
def wsX10_spent : List Cond := .code yX10_spent cX10_spent 2 (some .int) :: ([.fieldLink RX10 184 "FindsOfficeModel" "museums" "I", .fieldLink RX10 94 "FindsOfficeModel" "spent" "[I", .methodLink RX10 109 yX10_in, .static yX10_in, .initialized RX10, .code yX10_in cX10_in 3 (some .boolean)] ++ wsX100)
def wsX10_count_r1 : List Cond := [Cond.fieldLink RX10 113 "FindsOfficeModel" "now" "I", Cond.fieldLink RX10 106 "FindsOfficeModel" "finds" "I", Cond.fieldLink RX10 116 "FindsOfficeModel" "laws" "I", Cond.fieldLink RX10 161 "FindsOfficeModel" "sales" "I", Cond.fieldLink RX10 184 "FindsOfficeModel" "museums" "I", Cond.fieldLink RX10 130 "FindsOfficeModel" "partings" "I", Cond.methodLink RX10 191 yX10_hoard, Cond.instanceMethod yX10_hoard, Cond.selects RX10 yX10_hoard yX10_hoard, Cond.initialized RX10, Cond.code yX10_hoard cX10_hoard 3 (some .int), Cond.fieldLink RX10 101 "FindsOfficeModel" "isReached" "[Z", Cond.methodLink RX10 127 yX10_isFind, Cond.instanceMethod yX10_isFind, Cond.selects RX10 yX10_isFind yX10_isFind, Cond.code yX10_isFind cX10_isFind 2 (some .boolean), Cond.methodLink RX10 109 yX10_in, Cond.static yX10_in, Cond.code yX10_in cX10_in 3 (some .boolean), Cond.methodLink RX10 136 yX10_reaches, Cond.instanceMethod yX10_reaches, Cond.selects RX10 yX10_reaches yX10_reaches, Cond.code yX10_reaches cX10_reaches 7 (some .int), Cond.fieldLink RX10 37 "FindsOfficeModel" "knownOn" "[I"]
def wsX10_count_r2 : List Cond := [Cond.methodLink RX10 133 yX10_isJoined, Cond.instanceMethod yX10_isJoined, Cond.selects RX10 yX10_isJoined yX10_isJoined, Cond.code yX10_isJoined cX10_isJoined 4 (some .boolean), Cond.fieldLink RX10 9 "FindsOfficeModel" "x" "[I", Cond.fieldLink RX10 13 "FindsOfficeModel" "y" "[I", Cond.fieldLink RX10 25 "FindsOfficeModel" "from" "[I", Cond.fieldLink RX10 28 "FindsOfficeModel" "to" "[I", Cond.fieldLink RX10 43 "FindsOfficeModel" "parted" "[I", Cond.methodLink RX10 166 yX10_counts, Cond.instanceMethod yX10_counts, Cond.selects RX10 yX10_counts yX10_counts, Cond.code yX10_counts cX10_counts 2 (some .boolean), Cond.methodLink RX10 151 yX10_counted, Cond.instanceMethod yX10_counted, Cond.selects RX10 yX10_counted yX10_counted, Cond.code yX10_counted cX10_counted 4 (some .boolean), Cond.fieldLink RX10 34 "FindsOfficeModel" "foundOn" "[I", Cond.fieldLink RX10 49 "FindsOfficeModel" "age" "[I", Cond.fieldLink RX10 16 "FindsOfficeModel" "metal" "[I", Cond.fieldLink RX10 19 "FindsOfficeModel" "purity" "[I", Cond.fieldLink RX10 52 "FindsOfficeModel" "parts" "[I", Cond.fieldLink RX10 58 "FindsOfficeModel" "together" "[I", Cond.methodLink RX10 140 yX10_isKnown]
def wsX10_count_r3 : List Cond := [Cond.instanceMethod yX10_isKnown, Cond.selects RX10 yX10_isKnown yX10_isKnown, Cond.code yX10_isKnown cX10_isKnown 3 (some .boolean), Cond.methodLink RX10 144 yX10_lawOf, Cond.instanceMethod yX10_lawOf, Cond.selects RX10 yX10_lawOf yX10_lawOf, Cond.code yX10_lawOf cX10_lawOf 4 (some .int), Cond.fieldLink RX10 46 "FindsOfficeModel" "lawDay" "[I", Cond.methodLink RX10 148 yX10_yearOf, Cond.static yX10_yearOf, Cond.code yX10_yearOf cX10_yearOf 1 (some .int), Cond.methodLink RX10 187 yX10_turn, Cond.instanceMethod yX10_turn, Cond.selects RX10 yX10_turn yX10_turn, Cond.code yX10_turn cX10_turn 1 (some .int), Cond.fieldLink RX10 97 "FindsOfficeModel" "latest" "I"]
def wsX10_count : List Cond := .code yX10_count cX10_count 4 (some .int) :: ((wsX10_count_r1 ++ (wsX10_count_r2 ++ wsX10_count_r3)) ++ wsX100)
def wsJ9_abs_0f7a4 : List Cond := .code yJ9_abs_0f7a4 cJ9_abs_0f7a4 1 (some .int) :: ([])
def wsJ9_max_7cf53 : List Cond := .code yJ9_max_7cf53 cJ9_max_7cf53 2 (some .int) :: ([])
def wsJ9_min_7cf53 : List Cond := .code yJ9_min_7cf53 cJ9_min_7cf53 2 (some .int) :: ([])
def wsJ9_min_f86c9 : List Cond := .code yJ9_min_f86c9 cJ9_min_f86c9 4 (some .long) :: ([])
def wsL_law_r1 : List Cond := [Cond.classLink RL 7 RX9, Cond.instantiable RX9 7, Cond.initialized RX9, Cond.classLink RL 10 RX10, Cond.instantiable RX10 38, Cond.initialized RX10, Cond.methodLink RL 9 yX9_init, Cond.instanceMethod yX9_init, Cond.code yX9_init cX9_init 1 none, Cond.methodLink RX9 1 objectInit, Cond.instanceMethod objectInit, Cond.code objectInit ⟨#[0xb1]⟩ 1 none, Cond.fieldLink RX9 7 "FindsOffice" "now" "I", Cond.classLink RX9 13 RX5, Cond.instantiable RX5 2, Cond.initialized RX5, Cond.fieldLink RX9 16 "FindsOffice" "lawBook" "LFindsOffice$LawBook;", Cond.classLink RX9 20 RX3, Cond.instantiable RX3 4, Cond.initialized RX3, Cond.fieldLink RX9 23 "FindsOffice" "landBook" "LFindsOffice$LandBook;", Cond.classLink RX9 27 RX2, Cond.instantiable RX2 7, Cond.initialized RX2]
def wsL_law_r2 : List Cond := [Cond.fieldLink RX9 30 "FindsOffice" "findBook" "LFindsOffice$FindBook;", Cond.classLink RX9 34 RX6, Cond.instantiable RX6 3, Cond.initialized RX6, Cond.fieldLink RX9 37 "FindsOffice" "market" "LFindsOffice$Market;", Cond.classLink RX9 41 RX0, Cond.instantiable RX0 3, Cond.initialized RX0, Cond.fieldLink RX9 44 "FindsOffice" "circle" "LFindsOffice$Circle;", Cond.arrayClass .int, Cond.fieldLink RX9 48 "FindsOffice" "paidTo" "[I", Cond.instanceMethod yX5_init, Cond.code yX5_init cX5_init 1 none, Cond.methodLink RX5 3 objectInit, Cond.classLink RX5 11 RX4, Cond.fieldLink RX5 13 "FindsOffice$LawBook" "laws" "[LFindsOffice$Law;", Cond.fieldLink RX5 17 "FindsOffice$LawBook" "told" "I", Cond.instanceMethod yX3_init, Cond.code yX3_init cX3_init 1 none, Cond.methodLink RX3 3 objectInit, Cond.fieldLink RX3 11 "FindsOffice$LandBook" "plots" "[I", Cond.fieldLink RX3 15 "FindsOffice$LandBook" "days" "[I", Cond.fieldLink RX3 18 "FindsOffice$LandBook" "holders" "[I", Cond.fieldLink RX3 21 "FindsOffice$LandBook" "told" "I"]
def wsL_law_r3 : List Cond := [Cond.methodLink RX9 29 yX2_init, Cond.instanceMethod yX2_init, Cond.code yX2_init cX2_init 1 none, Cond.methodLink RX2 3 objectInit, Cond.classLink RX2 11 RX1, Cond.fieldLink RX2 13 "FindsOffice$FindBook" "finds" "[LFindsOffice$Find;", Cond.fieldLink RX2 17 "FindsOffice$FindBook" "told" "I", Cond.fieldLink RX2 21 "FindsOffice$FindBook" "partedOn" "[I", Cond.fieldLink RX2 25 "FindsOffice$FindBook" "pairsParted" "I", Cond.fieldLink RX2 28 "FindsOffice$FindBook" "hoardOf" "[I", Cond.fieldLink RX2 31 "FindsOffice$FindBook" "sizeOf" "[I", Cond.fieldLink RX2 34 "FindsOffice$FindBook" "reached" "[I", Cond.methodLink RX2 37 yJ7_fill_53178, Cond.static yJ7_fill_53178, Cond.initialized RJ7, Cond.code yJ7_fill_53178 cJ7_fill_53178 4 none, Cond.methodLink RX9 36 yX6_init, Cond.instanceMethod yX6_init, Cond.code yX6_init cX6_init 1 none, Cond.methodLink RX6 3 objectInit, Cond.classLink RX6 11 RX8, Cond.fieldLink RX6 13 "FindsOffice$Market" "sales" "[LFindsOffice$Sale;", Cond.fieldLink RX6 17 "FindsOffice$Market" "told" "I", Cond.fieldLink RX6 21 "FindsOffice$Market" "levels" "[I"]
def wsL_law_r4 : List Cond := [Cond.methodLink RX6 25 yJ7_fill_53178, Cond.instanceMethod yX0_init, Cond.code yX0_init cX0_init 1 none, Cond.methodLink RX0 3 objectInit, Cond.classLink RX0 11 RX7, Cond.fieldLink RX0 13 "FindsOffice$Circle" "museums" "[LFindsOffice$Museum;", Cond.fieldLink RX0 17 "FindsOffice$Circle" "told" "I", Cond.fieldLink RX0 21 "FindsOffice$Circle" "behindLatest" "I", Cond.methodLink RL 12 yX10_init, Cond.instanceMethod yX10_init, Cond.code yX10_init cX10_init 2 none, Cond.methodLink RX10 1 objectInit, Cond.fieldLink RX10 9 "FindsOfficeModel" "x" "[I", Cond.fieldLink RX10 13 "FindsOfficeModel" "y" "[I", Cond.fieldLink RX10 16 "FindsOfficeModel" "metal" "[I", Cond.fieldLink RX10 19 "FindsOfficeModel" "purity" "[I", Cond.fieldLink RX10 22 "FindsOfficeModel" "weight" "[I", Cond.fieldLink RX10 25 "FindsOfficeModel" "from" "[I", Cond.fieldLink RX10 28 "FindsOfficeModel" "to" "[I", Cond.fieldLink RX10 31 "FindsOfficeModel" "finder" "[I", Cond.fieldLink RX10 34 "FindsOfficeModel" "foundOn" "[I", Cond.fieldLink RX10 37 "FindsOfficeModel" "knownOn" "[I", Cond.fieldLink RX10 40 "FindsOfficeModel" "museumOf" "[I", Cond.fieldLink RX10 43 "FindsOfficeModel" "parted" "[I"]
def wsL_law_r5 : List Cond := [Cond.fieldLink RX10 46 "FindsOfficeModel" "lawDay" "[I", Cond.fieldLink RX10 49 "FindsOfficeModel" "age" "[I", Cond.fieldLink RX10 52 "FindsOfficeModel" "parts" "[I", Cond.fieldLink RX10 55 "FindsOfficeModel" "shareOf" "[I", Cond.fieldLink RX10 58 "FindsOfficeModel" "together" "[I", Cond.fieldLink RX10 61 "FindsOfficeModel" "ownPlot" "[I", Cond.fieldLink RX10 64 "FindsOfficeModel" "ownDay" "[I", Cond.fieldLink RX10 67 "FindsOfficeModel" "ownWho" "[I", Cond.fieldLink RX10 70 "FindsOfficeModel" "index" "[I", Cond.fieldLink RX10 73 "FindsOfficeModel" "saleMetal" "[I", Cond.fieldLink RX10 76 "FindsOfficeModel" "saleDay" "[I", Cond.fieldLink RX10 79 "FindsOfficeModel" "saleWeight" "[I", Cond.fieldLink RX10 82 "FindsOfficeModel" "salePrice" "[I", Cond.fieldLink RX10 85 "FindsOfficeModel" "paid" "[I", Cond.fieldLink RX10 88 "FindsOfficeModel" "takes" "[I", Cond.fieldLink RX10 91 "FindsOfficeModel" "most" "[I", Cond.fieldLink RX10 94 "FindsOfficeModel" "spent" "[I", Cond.fieldLink RX10 97 "FindsOfficeModel" "latest" "I", Cond.arrayClass .boolean, Cond.fieldLink RX10 101 "FindsOfficeModel" "isReached" "[Z", Cond.constant RX10 105 (1000000), Cond.methodLink RL 13 yX9_go, Cond.instanceMethod yX9_go, Cond.selects RX9 yX9_go yX9_go]
def wsL_law_r6 : List Cond := [Cond.code yX9_go cX9_go 2 (some .int), Cond.methodLink RX9 56 Lib.Math.min.name, Cond.static Lib.Math.min.name, Cond.initialized "java/lang/Math", Cond.code Lib.Math.min.name Lib.Math.min.code 2 (some .int), Cond.methodLink RX9 52 yX9_isBetween, Cond.static yX9_isBetween, Cond.code yX9_isBetween cX9_isBetween 3 (some .boolean), Cond.methodLink RL 17 yX10_go, Cond.instanceMethod yX10_go, Cond.selects RX10 yX10_go yX10_go, Cond.code yX10_go cX10_go 2 (some .int), Cond.fieldLink RX10 113 "FindsOfficeModel" "now" "I", Cond.methodLink RX10 109 yX10_in, Cond.static yX10_in, Cond.code yX10_in cX10_in 3 (some .boolean), Cond.methodLink RL 18 yX9_law, Cond.instanceMethod yX9_law, Cond.selects RX9 yX9_law yX9_law, Cond.code yX9_law cX9_law 4 (some .int), Cond.classLink RX9 62 RX4, Cond.instantiable RX4 5, Cond.initialized RX4, Cond.methodLink RX9 64 yX4_init]
def wsL_law_r7 : List Cond := [Cond.instanceMethod yX4_init, Cond.code yX4_init cX4_init 4 none, Cond.methodLink RX4 1 objectInit, Cond.fieldLink RX4 7 "FindsOffice$Law" "from" "I", Cond.constant RX4 13 (1000000), Cond.fieldLink RX4 14 "FindsOffice$Law" "age" "I", Cond.fieldLink RX4 17 "FindsOffice$Law" "parts" "I", Cond.fieldLink RX4 20 "FindsOffice$Law" "percent" "I", Cond.fieldLink RX4 23 "FindsOffice$Law" "together" "I", Cond.methodLink RX9 67 yX5_enact, Cond.instanceMethod yX5_enact, Cond.selects RX5 yX5_enact yX5_enact, Cond.code yX5_enact cX5_enact 2 (some .int), Cond.methodLink RX5 21 yX4_isPossible, Cond.instanceMethod yX4_isPossible, Cond.selects RX4 yX4_isPossible yX4_isPossible, Cond.code yX4_isPossible cX4_isPossible 1 (some .boolean), Cond.static yX9_isDay, Cond.code yX9_isDay cX9_isDay 1 (some .boolean), Cond.methodLink RL 22 yX10_law, Cond.instanceMethod yX10_law, Cond.selects RX10 yX10_law yX10_law, Cond.code yX10_law cX10_law 4 (some .int), Cond.fieldLink RX10 116 "FindsOfficeModel" "laws" "I"]
def wsL_law_r8 : List Cond := [Cond.methodLink RL 23 yX9_owner, Cond.instanceMethod yX9_owner, Cond.selects RX9 yX9_owner yX9_owner, Cond.code yX9_owner cX9_owner 4 (some .boolean), Cond.methodLink RX9 71 yX3_enter, Cond.instanceMethod yX3_enter, Cond.selects RX3 yX3_enter yX3_enter, Cond.code yX3_enter cX3_enter 5 (some .boolean), Cond.static yX9_isPerson, Cond.code yX9_isPerson cX9_isPerson 1 (some .boolean), Cond.methodLink RL 27 yX10_owner, Cond.instanceMethod yX10_owner, Cond.selects RX10 yX10_owner yX10_owner, Cond.code yX10_owner cX10_owner 4 (some .boolean), Cond.fieldLink RX10 123 "FindsOfficeModel" "owners" "I", Cond.methodLink RX10 119 yX10_isPerson, Cond.static yX10_isPerson, Cond.code yX10_isPerson cX10_isPerson 1 (some .boolean), Cond.methodLink RL 28 yX9_find, Cond.instanceMethod yX9_find, Cond.selects RX9 yX9_find yX9_find, Cond.code yX9_find cX9_find 5 (some .int), Cond.classLink RX9 74 RX1, Cond.instantiable RX1 11]
def wsL_law_r9 : List Cond := [Cond.initialized RX1, Cond.methodLink RX9 76 yX1_init, Cond.instanceMethod yX1_init, Cond.code yX1_init cX1_init 6 none, Cond.methodLink RX1 3 objectInit, Cond.fieldLink RX1 9 "FindsOffice$Find" "x" "I", Cond.fieldLink RX1 15 "FindsOffice$Find" "y" "I", Cond.constant RX1 18 (100000000), Cond.fieldLink RX1 19 "FindsOffice$Find" "metal" "I", Cond.fieldLink RX1 22 "FindsOffice$Find" "purity" "I", Cond.fieldLink RX1 25 "FindsOffice$Find" "weight" "I", Cond.fieldLink RX1 28 "FindsOffice$Find" "firstYear" "I", Cond.fieldLink RX1 31 "FindsOffice$Find" "lastYear" "I", Cond.fieldLink RX1 34 "FindsOffice$Find" "found" "I", Cond.fieldLink RX1 37 "FindsOffice$Find" "finder" "I", Cond.fieldLink RX1 40 "FindsOffice$Find" "known" "I", Cond.fieldLink RX1 43 "FindsOffice$Find" "keeper" "I", Cond.methodLink RX9 79 yX2_enter, Cond.instanceMethod yX2_enter, Cond.selects RX2 yX2_enter yX2_enter, Cond.code yX2_enter cX2_enter 2 (some .int), Cond.methodLink RX2 43 yX1_isPossible, Cond.instanceMethod yX1_isPossible, Cond.selects RX1 yX1_isPossible yX1_isPossible]
def wsL_law_r10 : List Cond := [Cond.code yX1_isPossible cX1_isPossible 4 (some .boolean), Cond.static yX9_isMetal, Cond.code yX9_isMetal cX9_isMetal 1 (some .boolean), Cond.methodLink RL 32 yX10_find, Cond.instanceMethod yX10_find, Cond.selects RX10 yX10_find yX10_find, Cond.code yX10_find cX10_find 10 (some .int), Cond.constant RX10 126 (100000000), Cond.fieldLink RX10 106 "FindsOfficeModel" "finds" "I", Cond.methodLink RL 33 yX9_part, Cond.instanceMethod yX9_part, Cond.selects RX9 yX9_part yX9_part, Cond.code yX9_part cX9_part 3 (some .boolean), Cond.methodLink RX9 82 yX2_separate, Cond.instanceMethod yX2_separate, Cond.selects RX2 yX2_separate yX2_separate, Cond.code yX2_separate cX2_separate 5 (some .boolean), Cond.methodLink RX2 51 yX2_pairOf, Cond.instanceMethod yX2_pairOf, Cond.selects RX2 yX2_pairOf yX2_pairOf, Cond.code yX2_pairOf cX2_pairOf 4 (some .int), Cond.methodLink RX2 55 Lib.Math.max.name, Cond.static Lib.Math.max.name, Cond.code Lib.Math.max.name Lib.Math.max.code 2 (some .int)]
def wsL_law_r11 : List Cond := [Cond.methodLink RX2 60 Lib.Math.min.name, Cond.methodLink RX2 47 yX2_isTold, Cond.instanceMethod yX2_isTold, Cond.selects RX2 yX2_isTold yX2_isTold, Cond.code yX2_isTold cX2_isTold 2 (some .boolean), Cond.methodLink RL 37 yX10_part, Cond.instanceMethod yX10_part, Cond.selects RX10 yX10_part yX10_part, Cond.code yX10_part cX10_part 3 (some .boolean), Cond.fieldLink RX10 130 "FindsOfficeModel" "partings" "I", Cond.methodLink RX10 127 yX10_isFind, Cond.instanceMethod yX10_isFind, Cond.selects RX10 yX10_isFind yX10_isFind, Cond.code yX10_isFind cX10_isFind 2 (some .boolean), Cond.methodLink RL 38 yX9_hoard, Cond.instanceMethod yX9_hoard, Cond.selects RX9 yX9_hoard yX9_hoard, Cond.code yX9_hoard cX9_hoard 2 (some .int), Cond.methodLink RX9 85 yX2_gatherHoards, Cond.instanceMethod yX2_gatherHoards, Cond.selects RX2 yX2_gatherHoards yX2_gatherHoards, Cond.code yX2_gatherHoards cX2_gatherHoards 4 none, Cond.methodLink RX2 71 yX2_knownBy, Cond.instanceMethod yX2_knownBy]
def wsL_law_r12 : List Cond := [Cond.selects RX2 yX2_knownBy yX2_knownBy, Cond.code yX2_knownBy cX2_knownBy 5 (some .int), Cond.fieldLink RX2 79 "FindsOffice$Find" "known" "I", Cond.methodLink RX2 63 yX2_numbered, Cond.instanceMethod yX2_numbered, Cond.selects RX2 yX2_numbered yX2_numbered, Cond.code yX2_numbered cX2_numbered 2 (some (.object "FindsOffice$Find")), Cond.methodLink RX2 75 yX2_gatherFrom, Cond.instanceMethod yX2_gatherFrom, Cond.selects RX2 yX2_gatherFrom yX2_gatherFrom, Cond.code yX2_gatherFrom cX2_gatherFrom 8 (some .int), Cond.methodLink RX2 82 yX2_isJoined, Cond.instanceMethod yX2_isJoined, Cond.selects RX2 yX2_isJoined yX2_isJoined, Cond.code yX2_isJoined cX2_isJoined 7 (some .boolean), Cond.methodLink RX2 67 yX1_isNear, Cond.instanceMethod yX1_isNear, Cond.selects RX1 yX1_isNear yX1_isNear, Cond.code yX1_isNear cX1_isNear 2 (some .boolean), Cond.methodLink RX1 57 Lib.Math.abs.name, Cond.static Lib.Math.abs.name, Cond.code Lib.Math.abs.name Lib.Math.abs.code 1 (some .int), Cond.methodLink RX9 89 yX2_hoardNumber, Cond.instanceMethod yX2_hoardNumber]
def wsL_law_r13 : List Cond := [Cond.selects RX2 yX2_hoardNumber yX2_hoardNumber, Cond.code yX2_hoardNumber cX2_hoardNumber 2 (some .int), Cond.methodLink RL 41 yX10_hoard, Cond.instanceMethod yX10_hoard, Cond.selects RX10 yX10_hoard yX10_hoard, Cond.code yX10_hoard cX10_hoard 3 (some .int), Cond.methodLink RX10 136 yX10_reaches, Cond.instanceMethod yX10_reaches, Cond.selects RX10 yX10_reaches yX10_reaches, Cond.code yX10_reaches cX10_reaches 7 (some .int), Cond.methodLink RX10 133 yX10_isJoined, Cond.instanceMethod yX10_isJoined, Cond.selects RX10 yX10_isJoined yX10_isJoined, Cond.code yX10_isJoined cX10_isJoined 4 (some .boolean), Cond.methodLink RL 42 yX9_size, Cond.instanceMethod yX9_size, Cond.selects RX9 yX9_size yX9_size, Cond.code yX9_size cX9_size 3 (some .int), Cond.methodLink RX9 93 yX9_isPast, Cond.instanceMethod yX9_isPast, Cond.selects RX9 yX9_isPast yX9_isPast, Cond.code yX9_isPast cX9_isPast 2 (some .boolean), Cond.methodLink RX9 97 yX9_hoardSizeOn, Cond.instanceMethod yX9_hoardSizeOn]
def wsL_law_r14 : List Cond := [Cond.selects RX9 yX9_hoardSizeOn yX9_hoardSizeOn, Cond.code yX9_hoardSizeOn cX9_hoardSizeOn 3 (some .int), Cond.methodLink RX9 234 yX2_hoardSize, Cond.instanceMethod yX2_hoardSize, Cond.selects RX2 yX2_hoardSize yX2_hoardSize, Cond.code yX2_hoardSize cX2_hoardSize 3 (some .int), Cond.methodLink RL 46 yX10_size, Cond.instanceMethod yX10_size, Cond.selects RX10 yX10_size yX10_size, Cond.code yX10_size cX10_size 3 (some .int), Cond.methodLink RX10 140 yX10_isKnown, Cond.instanceMethod yX10_isKnown, Cond.selects RX10 yX10_isKnown yX10_isKnown, Cond.code yX10_isKnown cX10_isKnown 3 (some .boolean), Cond.methodLink RL 47 yX9_counts, Cond.instanceMethod yX9_counts, Cond.selects RX9 yX9_counts yX9_counts, Cond.code yX9_counts cX9_counts 2 (some .boolean), Cond.methodLink RX9 100 yX9_isTreasureOn, Cond.instanceMethod yX9_isTreasureOn, Cond.selects RX9 yX9_isTreasureOn yX9_isTreasureOn, Cond.code yX9_isTreasureOn cX9_isTreasureOn 3 (some .boolean), Cond.methodLink RX9 237 yX9_lawThatCounts, Cond.instanceMethod yX9_lawThatCounts]
def wsL_law_r15 : List Cond := [Cond.selects RX9 yX9_lawThatCounts yX9_lawThatCounts, Cond.code yX9_lawThatCounts cX9_lawThatCounts 5 (some (.object "FindsOffice$Law")), Cond.fieldLink RX9 109 "FindsOffice$Find" "found" "I", Cond.methodLink RX9 104 yX2_numbered, Cond.methodLink RX9 241 yX5_inForce, Cond.instanceMethod yX5_inForce, Cond.selects RX5 yX5_inForce yX5_inForce, Cond.code yX5_inForce cX5_inForce 5 (some (.object "FindsOffice$Law")), Cond.fieldLink RX5 25 "FindsOffice$Law" "from" "I", Cond.methodLink RX9 244 yX4_covers, Cond.instanceMethod yX4_covers, Cond.selects RX4 yX4_covers yX4_covers, Cond.code yX4_covers cX4_covers 5 (some .boolean), Cond.fieldLink RX4 38 "FindsOffice$Find" "found" "I", Cond.fieldLink RX4 47 "FindsOffice$Find" "lastYear" "I", Cond.fieldLink RX4 50 "FindsOffice$Find" "metal" "I", Cond.fieldLink RX4 53 "FindsOffice$Find" "purity" "I", Cond.static yX9_yearOf, Cond.code yX9_yearOf cX9_yearOf 1 (some .int), Cond.methodLink RL 51 yX10_counts, Cond.instanceMethod yX10_counts, Cond.selects RX10 yX10_counts yX10_counts, Cond.code yX10_counts cX10_counts 2 (some .boolean), Cond.methodLink RX10 151 yX10_counted]
def wsL_law_r16 : List Cond := [Cond.instanceMethod yX10_counted, Cond.selects RX10 yX10_counted yX10_counted, Cond.code yX10_counted cX10_counted 4 (some .boolean), Cond.methodLink RX10 144 yX10_lawOf, Cond.instanceMethod yX10_lawOf, Cond.selects RX10 yX10_lawOf yX10_lawOf, Cond.code yX10_lawOf cX10_lawOf 4 (some .int), Cond.methodLink RX10 148 yX10_yearOf, Cond.static yX10_yearOf, Cond.code yX10_yearOf cX10_yearOf 1 (some .int), Cond.methodLink RL 52 yX9_counted, Cond.instanceMethod yX9_counted, Cond.selects RX9 yX9_counted yX9_counted, Cond.code yX9_counted cX9_counted 3 (some .boolean), Cond.methodLink RL 55 yX10_counted, Cond.methodLink RL 56 yX9_told, Cond.instanceMethod yX9_told, Cond.selects RX9 yX9_told yX9_told, Cond.code yX9_told cX9_told 4 (some .int), Cond.constant RX9 108 (-2147483648), Cond.fieldLink RX9 112 "FindsOffice$Find" "known" "I", Cond.fieldLink RX9 115 "FindsOffice$Find" "metal" "I", Cond.fieldLink RX9 118 "FindsOffice$Find" "purity" "I", Cond.fieldLink RX9 121 "FindsOffice$Find" "weight" "I"]
def wsL_law_r17 : List Cond := [Cond.fieldLink RX9 124 "FindsOffice$Find" "firstYear" "I", Cond.fieldLink RX9 127 "FindsOffice$Find" "lastYear" "I", Cond.fieldLink RX9 130 "FindsOffice$Find" "finder" "I", Cond.fieldLink RX9 136 "FindsOffice$Find" "keeper" "I", Cond.methodLink RX9 133 yX9_landownerOf, Cond.instanceMethod yX9_landownerOf, Cond.selects RX9 yX9_landownerOf yX9_landownerOf, Cond.code yX9_landownerOf cX9_landownerOf 2 (some .int), Cond.methodLink RX9 221 yX1_plot, Cond.instanceMethod yX1_plot, Cond.selects RX1 yX1_plot yX1_plot, Cond.code yX1_plot cX1_plot 1 (some .int), Cond.methodLink RX9 224 yX3_holderOn, Cond.instanceMethod yX3_holderOn, Cond.selects RX3 yX3_holderOn yX3_holderOn, Cond.code yX3_holderOn cX3_holderOn 6 (some .int), Cond.methodLink RL 59 yX10_told, Cond.instanceMethod yX10_told, Cond.selects RX10 yX10_told yX10_told, Cond.code yX10_told cX10_told 3 (some .int), Cond.constant RX10 157 (-2147483648), Cond.methodLink RX10 158 yX10_ownerOf, Cond.instanceMethod yX10_ownerOf, Cond.selects RX10 yX10_ownerOf yX10_ownerOf]
def wsL_law_r18 : List Cond := [Cond.code yX10_ownerOf cX10_ownerOf 2 (some .int), Cond.methodLink RX10 154 yX10_ownerOn, Cond.instanceMethod yX10_ownerOn, Cond.selects RX10 yX10_ownerOn yX10_ownerOn, Cond.code yX10_ownerOn cX10_ownerOn 5 (some .int), Cond.methodLink RL 60 yX9_index, Cond.instanceMethod yX9_index, Cond.selects RX9 yX9_index yX9_index, Cond.code yX9_index cX9_index 3 (some .boolean), Cond.methodLink RX9 139 yX6_setLevel, Cond.instanceMethod yX6_setLevel, Cond.selects RX6 yX6_setLevel yX6_setLevel, Cond.code yX6_setLevel cX6_setLevel 3 (some .boolean), Cond.methodLink RL 63 yX10_index, Cond.instanceMethod yX10_index, Cond.selects RX10 yX10_index yX10_index, Cond.code yX10_index cX10_index 3 (some .boolean), Cond.methodLink RL 64 yX9_sale, Cond.instanceMethod yX9_sale, Cond.selects RX9 yX9_sale yX9_sale, Cond.code yX9_sale cX9_sale 5 (some .int), Cond.classLink RX9 142 RX8, Cond.instantiable RX8 4, Cond.initialized RX8]
def wsL_law_r19 : List Cond := [Cond.methodLink RX9 144 yX8_init, Cond.instanceMethod yX8_init, Cond.code yX8_init cX8_init 5 none, Cond.methodLink RX8 3 objectInit, Cond.fieldLink RX8 9 "FindsOffice$Sale" "metal" "I", Cond.fieldLink RX8 15 "FindsOffice$Sale" "day" "I", Cond.fieldLink RX8 18 "FindsOffice$Sale" "weight" "I", Cond.fieldLink RX8 21 "FindsOffice$Sale" "price" "I", Cond.methodLink RX9 147 yX6_enter, Cond.instanceMethod yX6_enter, Cond.selects RX6 yX6_enter yX6_enter, Cond.code yX6_enter cX6_enter 2 (some .int), Cond.fieldLink RX6 39 "FindsOffice$Sale" "metal" "I", Cond.methodLink RX6 35 yX8_isPossible, Cond.instanceMethod yX8_isPossible, Cond.selects RX8 yX8_isPossible yX8_isPossible, Cond.code yX8_isPossible cX8_isPossible 1 (some .boolean), Cond.constant RX8 35 (1000000), Cond.methodLink RX6 42 yX6_salesOf, Cond.instanceMethod yX6_salesOf, Cond.selects RX6 yX6_salesOf yX6_salesOf, Cond.code yX6_salesOf cX6_salesOf 5 (some .int), Cond.methodLink RL 67 yX10_sale, Cond.instanceMethod yX10_sale]
def wsL_law_r20 : List Cond := [Cond.selects RX10 yX10_sale yX10_sale, Cond.code yX10_sale cX10_sale 7 (some .int), Cond.fieldLink RX10 161 "FindsOfficeModel" "sales" "I", Cond.methodLink RL 68 yX9_worth, Cond.instanceMethod yX9_worth, Cond.selects RX9 yX9_worth yX9_worth, Cond.code yX9_worth cX9_worth 3 (some .int), Cond.methodLink RX9 150 yX9_worthNow, Cond.instanceMethod yX9_worthNow, Cond.selects RX9 yX9_worthNow yX9_worthNow, Cond.code yX9_worthNow cX9_worthNow 2 (some .int), Cond.methodLink RX9 227 yX9_yearOf, Cond.methodLink RX9 230 yX6_appraise, Cond.instanceMethod yX6_appraise, Cond.selects RX6 yX6_appraise yX6_appraise, Cond.code yX6_appraise cX6_appraise 10 (some .int), Cond.fieldLink RX6 50 "FindsOffice$Sale" "weight" "I", Cond.constantLong RX6 53 (1000000), Cond.methodLink RX6 55 Lib.MathLoose.min_long.x, Cond.static Lib.MathLoose.min_long.x, Cond.code Lib.MathLoose.min_long.x Lib.MathLoose.min_long.code 4 (some .long), Cond.methodLink RX6 46 yX6_priceIn, Cond.instanceMethod yX6_priceIn, Cond.selects RX6 yX6_priceIn yX6_priceIn]
def wsL_law_r21 : List Cond := [Cond.code yX6_priceIn cX6_priceIn 4 (some .long), Cond.fieldLink RX6 61 "FindsOffice$Sale" "day" "I", Cond.fieldLink RX6 70 "FindsOffice$Sale" "price" "I", Cond.methodLink RX6 67 yX6_levelIn, Cond.instanceMethod yX6_levelIn, Cond.selects RX6 yX6_levelIn yX6_levelIn, Cond.code yX6_levelIn cX6_levelIn 3 (some .int), Cond.methodLink RL 71 yX10_worth, Cond.instanceMethod yX10_worth, Cond.selects RX10 yX10_worth yX10_worth, Cond.code yX10_worth cX10_worth 8 (some .int), Cond.constantLong RX10 164 (1000000), Cond.methodLink RL 72 yX9_share, Cond.instanceMethod yX9_share, Cond.selects RX9 yX9_share yX9_share, Cond.code yX9_share cX9_share 3 (some .int), Cond.methodLink RX9 153 yX9_isPerson, Cond.methodLink RX9 156 yX9_rewardFor, Cond.instanceMethod yX9_rewardFor, Cond.selects RX9 yX9_rewardFor yX9_rewardFor, Cond.code yX9_rewardFor cX9_rewardFor 8 (some .int), Cond.fieldLink RX9 248 "FindsOffice$Law" "percent" "I", Cond.methodLink RL 75 yX10_share, Cond.instanceMethod yX10_share]
def wsL_law_r22 : List Cond := [Cond.selects RX10 yX10_share yX10_share, Cond.code yX10_share cX10_share 5 (some .int), Cond.constantLong RX10 172 (100), Cond.methodLink RX10 166 yX10_counts, Cond.methodLink RX10 169 yX10_worth, Cond.methodLink RL 76 yX9_due, Cond.instanceMethod yX9_due, Cond.selects RX9 yX9_due yX9_due, Cond.code yX9_due cX9_due 2 (some .int), Cond.methodLink RX9 159 yX9_stillOpen, Cond.instanceMethod yX9_stillOpen, Cond.selects RX9 yX9_stillOpen yX9_stillOpen, Cond.code yX9_stillOpen cX9_stillOpen 4 (some .int), Cond.fieldLink RX9 198 "FindsOffice$FindBook" "told" "I", Cond.methodLink RL 79 yX10_due, Cond.instanceMethod yX10_due, Cond.selects RX10 yX10_due yX10_due, Cond.code yX10_due cX10_due 4 (some .int), Cond.methodLink RX10 174 yX10_share, Cond.methodLink RL 80 yX9_settle, Cond.instanceMethod yX9_settle, Cond.selects RX9 yX9_settle yX9_settle, Cond.code yX9_settle cX9_settle 3 (some .int), Cond.methodLink RL 83 yX10_settle]
def wsL_law_r23 : List Cond := [Cond.instanceMethod yX10_settle, Cond.selects RX10 yX10_settle yX10_settle, Cond.code yX10_settle cX10_settle 3 (some .int), Cond.methodLink RX10 177 yX10_due, Cond.methodLink RL 84 yX9_paid, Cond.instanceMethod yX9_paid, Cond.selects RX9 yX9_paid yX9_paid, Cond.code yX9_paid cX9_paid 2 (some .int), Cond.methodLink RL 87 yX10_paid, Cond.instanceMethod yX10_paid, Cond.selects RX10 yX10_paid yX10_paid, Cond.code yX10_paid cX10_paid 2 (some .int), Cond.methodLink RL 88 yX9_place, Cond.instanceMethod yX9_place, Cond.selects RX9 yX9_place yX9_place, Cond.code yX9_place cX9_place 4 (some .int), Cond.fieldLink RX9 165 "FindsOffice$Find" "x" "I", Cond.fieldLink RX9 171 "FindsOffice$Find" "y" "I", Cond.methodLink RX9 162 yX9_isRank, Cond.static yX9_isRank, Cond.code yX9_isRank cX9_isRank 1 (some .boolean), Cond.fieldLink RX9 217 "FindsOffice" "WIDTHS" "[I", Cond.methodLink RX9 168 yX9_roundDown, Cond.static yX9_roundDown]
def wsL_law_r24 : List Cond := [Cond.code yX9_roundDown cX9_roundDown 3 (some .int), Cond.methodLink RL 91 yX10_place, Cond.instanceMethod yX10_place, Cond.selects RX10 yX10_place yX10_place, Cond.code yX10_place cX10_place 4 (some .int), Cond.methodLink RX10 180 yX10_wide, Cond.static yX10_wide, Cond.code yX10_wide cX10_wide 1 (some .int), Cond.methodLink RL 92 yX9_within, Cond.instanceMethod yX9_within, Cond.selects RX9 yX9_within yX9_within, Cond.code yX9_within cX9_within 8 (some .int), Cond.methodLink RX9 174 yX9_isCorner, Cond.static yX9_isCorner, Cond.code yX9_isCorner cX9_isCorner 4 (some .boolean), Cond.constant RX9 220 (1002000), Cond.methodLink RX9 177 yX2_tally, Cond.instanceMethod yX2_tally, Cond.selects RX2 yX2_tally yX2_tally, Cond.code yX2_tally cX2_tally 8 (some .int), Cond.fieldLink RX2 86 "FindsOffice$Find" "x" "I", Cond.fieldLink RX2 92 "FindsOffice$Find" "y" "I", Cond.methodLink RL 95 yX10_within, Cond.instanceMethod yX10_within]
def wsL_law_r25 : List Cond := [Cond.selects RX10 yX10_within yX10_within, Cond.code yX10_within cX10_within 11 (some .int), Cond.constant RX10 183 (1002000), Cond.methodLink RL 96 yX9_museum, Cond.instanceMethod yX9_museum, Cond.selects RX9 yX9_museum yX9_museum, Cond.code yX9_museum cX9_museum 3 (some .int), Cond.classLink RX9 181 RX7, Cond.instantiable RX7 3, Cond.initialized RX7, Cond.methodLink RX9 183 yX7_init, Cond.instanceMethod yX7_init, Cond.code yX7_init cX7_init 3 none, Cond.methodLink RX7 3 objectInit, Cond.fieldLink RX7 9 "FindsOffice$Museum" "metals" "I", Cond.fieldLink RX7 15 "FindsOffice$Museum" "mostWorth" "I", Cond.fieldLink RX7 18 "FindsOffice$Museum" "outlay" "I", Cond.methodLink RX9 186 yX0_enter, Cond.instanceMethod yX0_enter, Cond.selects RX0 yX0_enter yX0_enter, Cond.code yX0_enter cX0_enter 2 (some .int), Cond.methodLink RX0 24 yX7_isPossible, Cond.instanceMethod yX7_isPossible, Cond.selects RX7 yX7_isPossible yX7_isPossible]
def wsL_law_r26 : List Cond := [Cond.code yX7_isPossible cX7_isPossible 1 (some .boolean), Cond.constant RX7 25 (1000000), Cond.methodLink RL 99 yX10_museum, Cond.instanceMethod yX10_museum, Cond.selects RX10 yX10_museum yX10_museum, Cond.code yX10_museum cX10_museum 3 (some .int), Cond.fieldLink RX10 184 "FindsOfficeModel" "museums" "I", Cond.methodLink RL 100 yX9_offer, Cond.instanceMethod yX9_offer, Cond.selects RX9 yX9_offer yX9_offer, Cond.code yX9_offer cX9_offer 3 (some .int), Cond.methodLink RX9 189 yX0_sell, Cond.instanceMethod yX0_sell, Cond.selects RX0 yX0_sell yX0_sell, Cond.code yX0_sell cX0_sell 7 (some .int), Cond.fieldLink RX0 40 "FindsOffice$Museum" "outlay" "I", Cond.methodLink RX0 28 yX0_next, Cond.instanceMethod yX0_next, Cond.selects RX0 yX0_next yX0_next, Cond.code yX0_next cX0_next 1 (some .int), Cond.methodLink RX0 32 yX0_numbered, Cond.instanceMethod yX0_numbered, Cond.selects RX0 yX0_numbered yX0_numbered, Cond.code yX0_numbered cX0_numbered 2 (some (.object "FindsOffice$Museum"))]
def wsL_law_r27 : List Cond := [Cond.methodLink RX0 36 yX7_takes, Cond.instanceMethod yX7_takes, Cond.selects RX7 yX7_takes yX7_takes, Cond.code yX7_takes cX7_takes 3 (some .boolean), Cond.methodLink RL 103 yX10_offer, Cond.instanceMethod yX10_offer, Cond.selects RX10 yX10_offer yX10_offer, Cond.code yX10_offer cX10_offer 6 (some .int), Cond.methodLink RX10 187 yX10_turn, Cond.instanceMethod yX10_turn, Cond.selects RX10 yX10_turn yX10_turn, Cond.code yX10_turn cX10_turn 1 (some .int), Cond.methodLink RL 104 yX9_spent, Cond.instanceMethod yX9_spent, Cond.selects RX9 yX9_spent yX9_spent, Cond.code yX9_spent cX9_spent 3 (some .int), Cond.fieldLink RX9 195 "FindsOffice$Museum" "outlay" "I", Cond.methodLink RX9 192 yX0_numbered, Cond.methodLink RL 107 yX10_spent, Cond.instanceMethod yX10_spent, Cond.selects RX10 yX10_spent yX10_spent, Cond.code yX10_spent cX10_spent 2 (some .int), Cond.methodLink RL 108 yX9_count, Cond.instanceMethod yX9_count]
def wsL_law_r28 : List Cond := [Cond.selects RX9 yX9_count yX9_count, Cond.code yX9_count cX9_count 2 (some .int), Cond.fieldLink RX9 205 "FindsOffice$LawBook" "told" "I", Cond.fieldLink RX9 206 "FindsOffice$Market" "told" "I", Cond.fieldLink RX9 207 "FindsOffice$Circle" "told" "I", Cond.fieldLink RX9 208 "FindsOffice$FindBook" "pairsParted" "I", Cond.methodLink RX9 201 yX9_hoardsNow, Cond.instanceMethod yX9_hoardsNow, Cond.selects RX9 yX9_hoardsNow yX9_hoardsNow, Cond.code yX9_hoardsNow cX9_hoardsNow 3 (some .int), Cond.methodLink RX9 211 yX9_treasuresNow, Cond.instanceMethod yX9_treasuresNow, Cond.selects RX9 yX9_treasuresNow yX9_treasuresNow, Cond.code yX9_treasuresNow cX9_treasuresNow 3 (some .int), Cond.methodLink RX9 214 yX0_next, Cond.methodLink RL 111 yX10_count, Cond.instanceMethod yX10_count, Cond.selects RX10 yX10_count yX10_count, Cond.code yX10_count cX10_count 4 (some .int), Cond.methodLink RX10 191 yX10_hoard]
def wsL_law : List Cond := (wsL_law_r1 ++ (wsL_law_r2 ++ (wsL_law_r3 ++ (wsL_law_r4 ++ (wsL_law_r5 ++ (wsL_law_r6 ++ (wsL_law_r7 ++ (wsL_law_r8 ++ (wsL_law_r9 ++ (wsL_law_r10 ++ (wsL_law_r11 ++ (wsL_law_r12 ++ (wsL_law_r13 ++ (wsL_law_r14 ++ (wsL_law_r15 ++ (wsL_law_r16 ++ (wsL_law_r17 ++ (wsL_law_r18 ++ (wsL_law_r19 ++ (wsL_law_r20 ++ (wsL_law_r21 ++ (wsL_law_r22 ++ (wsL_law_r23 ++ (wsL_law_r24 ++ (wsL_law_r25 ++ (wsL_law_r26 ++ (wsL_law_r27 ++ wsL_law_r28))))))))))))))))))))))))))) ++ wsX90 ++ wsX100 ++ wsX50 ++ wsX30 ++ wsX20 ++ wsX60 ++ wsX00 ++ wsX40 ++ wsX10 ++ wsX80 ++ wsX70 ++ ([] : List Cond)
set_option maxRecDepth 20000 in
theorem wsL_in_r1 : ∀ w ∈ wsL_law_r1, w ∈ lw_tbl := fun w h => (goodIn_r wsL_law_r1 [32, 33, 19, 626, 627, 26, 34, 35, 36, 37, 38, 39, 150, 40, 41, 20, 151, 56, 57, 21, 152, 76, 77, 22] (by decide +kernel) (by decide +kernel) w h).1
set_option maxRecDepth 20000 in
theorem wsL_in_r2 : ∀ w ∈ wsL_law_r2, w ∈ lw_tbl := fun w h => (goodIn_r wsL_law_r2 [153, 111, 112, 24, 154, 131, 132, 25, 155, 75, 156, 43, 44, 45, 46, 48, 49, 59, 60, 61, 62, 63, 64, 65] (by decide +kernel) (by decide +kernel) w h).1
set_option maxRecDepth 20000 in
theorem wsL_in_r3 : ∀ w ∈ wsL_law_r3, w ∈ lw_tbl := fun w h => (goodIn_r wsL_law_r3 [78, 79, 80, 81, 82, 87, 88, 90, 91, 93, 94, 95, 84, 85, 23, 86, 113, 114, 115, 116, 117, 120, 121, 123] (by decide +kernel) (by decide +kernel) w h).1
set_option maxRecDepth 20000 in
theorem wsL_in_r4 : ∀ w ∈ wsL_law_r4, w ∈ lw_tbl := fun w h => (goodIn_r wsL_law_r4 [119, 134, 135, 136, 137, 139, 140, 142, 628, 629, 630, 631, 635, 636, 637, 638, 639, 640, 641, 642, 643, 644, 645, 646] (by decide +kernel) (by decide +kernel) w h).1
set_option maxRecDepth 20000 in
theorem wsL_in_r5 : ∀ w ∈ wsL_law_r5, w ∈ lw_tbl := fun w h => (goodIn_r wsL_law_r5 [649, 650, 651, 652, 653, 655, 656, 657, 658, 660, 661, 662, 663, 664, 666, 667, 668, 669, 748, 670, 632, 172, 173, 174] (by decide +kernel) (by decide +kernel) w h).1
set_option maxRecDepth 20000 in
theorem wsL_in_r6 : ∀ w ∈ wsL_law_r6, w ∈ lw_tbl := fun w h => (goodIn_r wsL_law_r6 [175, 179, 180, 27, 181, 176, 177, 178, 749, 750, 751, 752, 633, 753, 754, 755, 182, 183, 184, 185, 186, 187, 28, 188] (by decide +kernel) (by decide +kernel) w h).1
set_option maxRecDepth 20000 in
theorem wsL_in_r7 : ∀ w ∈ wsL_law_r7, w ∈ lw_tbl := fun w h => (goodIn_r wsL_law_r7 [189, 190, 191, 193, 192, 195, 196, 197, 199, 211, 212, 213, 214, 215, 216, 217, 218, 220, 221, 756, 757, 758, 759, 648] (by decide +kernel) (by decide +kernel) w h).1
set_option maxRecDepth 20000 in
theorem wsL_in_r8 : ∀ w ∈ wsL_law_r8, w ∈ lw_tbl := fun w h => (goodIn_r wsL_law_r8 [223, 224, 225, 226, 227, 228, 229, 230, 234, 235, 760, 761, 762, 763, 654, 764, 765, 766, 236, 237, 238, 239, 240, 241] (by decide +kernel) (by decide +kernel) w h).1
set_option maxRecDepth 20000 in
theorem wsL_in_r9 : ∀ w ∈ wsL_law_r9, w ∈ lw_tbl := fun w h => (goodIn_r wsL_law_r9 [29, 242, 243, 244, 245, 247, 250, 246, 253, 256, 259, 261, 263, 266, 269, 271, 274, 299, 300, 301, 302, 303, 304, 305] (by decide +kernel) (by decide +kernel) w h).1
set_option maxRecDepth 20000 in
theorem wsL_in_r10 : ∀ w ∈ wsL_law_r10, w ∈ lw_tbl := fun w h => (goodIn_r wsL_law_r10 [306, 309, 310, 767, 768, 769, 770, 771, 634, 312, 313, 314, 315, 316, 317, 318, 319, 320, 321, 322, 323, 328, 329, 330] (by decide +kernel) (by decide +kernel) w h).1
set_option maxRecDepth 20000 in
theorem wsL_in_r11 : ∀ w ∈ wsL_law_r11, w ∈ lw_tbl := fun w h => (goodIn_r wsL_law_r11 [331, 324, 325, 326, 327, 772, 773, 774, 775, 647, 776, 778, 10, 779, 332, 333, 334, 335, 336, 337, 338, 339, 340, 341] (by decide +kernel) (by decide +kernel) w h).1
set_option maxRecDepth 20000 in
theorem wsL_in_r12 : ∀ w ∈ wsL_law_r12, w ∈ lw_tbl := fun w h => (goodIn_r wsL_law_r12 [342, 343, 272, 344, 345, 346, 347, 348, 349, 350, 351, 352, 353, 354, 355, 356, 357, 358, 359, 360, 361, 362, 363, 364] (by decide +kernel) (by decide +kernel) w h).1
set_option maxRecDepth 20000 in
theorem wsL_in_r13 : ∀ w ∈ wsL_law_r13, w ∈ lw_tbl := fun w h => (goodIn_r wsL_law_r13 [365, 366, 780, 781, 782, 783, 784, 786, 11, 787, 788, 790, 12, 791, 367, 368, 369, 370, 371, 373, 0, 374, 375, 377] (by decide +kernel) (by decide +kernel) w h).1
set_option maxRecDepth 20000 in
theorem wsL_in_r14 : ∀ w ∈ wsL_law_r14, w ∈ lw_tbl := fun w h => (goodIn_r wsL_law_r14 [1, 378, 379, 380, 381, 382, 792, 793, 794, 795, 796, 798, 13, 799, 383, 384, 385, 386, 387, 389, 2, 390, 391, 393] (by decide +kernel) (by decide +kernel) w h).1
set_option maxRecDepth 20000 in
theorem wsL_in_r15 : ∀ w ∈ wsL_law_r15, w ∈ lw_tbl := fun w h => (goodIn_r wsL_law_r15 [3, 394, 268, 395, 396, 397, 398, 399, 194, 400, 401, 402, 403, 267, 264, 254, 257, 405, 406, 811, 812, 813, 814, 815] (by decide +kernel) (by decide +kernel) w h).1
set_option maxRecDepth 20000 in
theorem wsL_in_r16 : ∀ w ∈ wsL_law_r16, w ∈ lw_tbl := fun w h => (goodIn_r wsL_law_r16 [801, 802, 803, 804, 806, 14, 807, 808, 809, 810, 407, 408, 409, 410, 800, 411, 412, 413, 414, 415, 273, 255, 258, 260] (by decide +kernel) (by decide +kernel) w h).1
set_option maxRecDepth 20000 in
theorem wsL_in_r17 : ∀ w ∈ wsL_law_r17, w ∈ lw_tbl := fun w h => (goodIn_r wsL_law_r17 [262, 265, 270, 275, 416, 418, 4, 419, 420, 421, 422, 423, 424, 425, 426, 427, 816, 817, 818, 819, 820, 821, 823, 15] (by decide +kernel) (by decide +kernel) w h).1
set_option maxRecDepth 20000 in
theorem wsL_in_r18 : ∀ w ∈ wsL_law_r18, w ∈ lw_tbl := fun w h => (goodIn_r wsL_law_r18 [824, 825, 827, 16, 828, 428, 429, 430, 431, 432, 433, 434, 435, 829, 830, 831, 832, 437, 438, 439, 440, 441, 442, 30] (by decide +kernel) (by decide +kernel) w h).1
set_option maxRecDepth 20000 in
theorem wsL_in_r19 : ∀ w ∈ wsL_law_r19, w ∈ lw_tbl := fun w h => (goodIn_r wsL_law_r19 [443, 444, 445, 446, 447, 449, 451, 453, 464, 465, 466, 467, 448, 468, 469, 470, 471, 475, 476, 477, 478, 479, 833, 834] (by decide +kernel) (by decide +kernel) w h).1
set_option maxRecDepth 20000 in
theorem wsL_in_r20 : ∀ w ∈ wsL_law_r20, w ∈ lw_tbl := fun w h => (goodIn_r wsL_law_r20 [835, 836, 659, 480, 481, 482, 483, 484, 486, 5, 487, 488, 489, 490, 491, 492, 452, 502, 503, 504, 505, 493, 494, 495] (by decide +kernel) (by decide +kernel) w h).1
set_option maxRecDepth 20000 in
theorem wsL_in_r21 : ∀ w ∈ wsL_law_r21, w ∈ lw_tbl := fun w h => (goodIn_r wsL_law_r21 [496, 450, 454, 498, 499, 500, 501, 837, 838, 839, 840, 841, 506, 507, 508, 509, 510, 511, 513, 6, 514, 198, 842, 843] (by decide +kernel) (by decide +kernel) w h).1
set_option maxRecDepth 20000 in
theorem wsL_in_r22 : ∀ w ∈ wsL_law_r22, w ∈ lw_tbl := fun w h => (goodIn_r wsL_law_r22 [844, 845, 848, 846, 847, 515, 516, 517, 518, 519, 521, 7, 522, 89, 849, 850, 851, 852, 853, 523, 524, 525, 526, 854] (by decide +kernel) (by decide +kernel) w h).1
set_option maxRecDepth 20000 in
theorem wsL_in_r23 : ∀ w ∈ wsL_law_r23, w ∈ lw_tbl := fun w h => (goodIn_r wsL_law_r23 [855, 856, 857, 858, 527, 528, 529, 530, 859, 860, 861, 862, 531, 532, 533, 534, 249, 252, 535, 536, 537, 538, 540, 541] (by decide +kernel) (by decide +kernel) w h).1
set_option maxRecDepth 20000 in
theorem wsL_in_r24 : ∀ w ∈ wsL_law_r24, w ∈ lw_tbl := fun w h => (goodIn_r wsL_law_r24 [542, 863, 864, 865, 866, 867, 868, 869, 543, 544, 545, 546, 547, 548, 549, 550, 551, 552, 553, 554, 248, 251, 870, 871] (by decide +kernel) (by decide +kernel) w h).1
set_option maxRecDepth 20000 in
theorem wsL_in_r25 : ∀ w ∈ wsL_law_r25, w ∈ lw_tbl := fun w h => (goodIn_r wsL_law_r25 [872, 873, 874, 556, 557, 558, 559, 560, 561, 31, 562, 563, 564, 565, 566, 567, 568, 578, 579, 580, 581, 582, 583, 584] (by decide +kernel) (by decide +kernel) w h).1
set_option maxRecDepth 20000 in
theorem wsL_in_r26 : ∀ w ∈ wsL_law_r26, w ∈ lw_tbl := fun w h => (goodIn_r wsL_law_r26 [585, 587, 875, 876, 877, 878, 665, 588, 589, 590, 591, 592, 593, 594, 595, 569, 596, 597, 598, 599, 600, 601, 602, 603] (by decide +kernel) (by decide +kernel) w h).1
set_option maxRecDepth 20000 in
theorem wsL_in_r27 : ∀ w ∈ wsL_law_r27, w ∈ lw_tbl := fun w h => (goodIn_r wsL_law_r27 [604, 605, 606, 607, 879, 880, 881, 882, 883, 885, 17, 886, 608, 609, 610, 611, 570, 612, 887, 888, 889, 890, 613, 614] (by decide +kernel) (by decide +kernel) w h).1
set_option maxRecDepth 20000 in
theorem wsL_in_r28 : ∀ w ∈ wsL_law_r28, w ∈ lw_tbl := fun w h => (goodIn_r wsL_law_r28 [615, 616, 50, 122, 141, 92, 617, 619, 8, 620, 621, 623, 9, 624, 625, 891, 892, 893, 894, 895] (by decide +kernel) (by decide +kernel) w h).1
set_option maxRecDepth 20000 in
theorem wsL_in_X0 : ∀ w ∈ wsX00, w ∈ lw_tbl := fun w h => (goodIn_r wsX00 [143, 145, 147] (by decide +kernel) (by decide +kernel) w h).1
set_option maxRecDepth 20000 in
theorem wsL_in_X1 : ∀ w ∈ wsX10, w ∈ lw_tbl := fun w h => (goodIn_r wsX10 [276, 278, 280, 282, 284, 286, 288, 290, 292, 294, 296] (by decide +kernel) (by decide +kernel) w h).1
set_option maxRecDepth 20000 in
theorem wsL_in_X2 : ∀ w ∈ wsX20, w ∈ lw_tbl := fun w h => (goodIn_r wsX20 [96, 98, 100, 102, 104, 106, 108] (by decide +kernel) (by decide +kernel) w h).1
set_option maxRecDepth 20000 in
theorem wsL_in_X3 : ∀ w ∈ wsX30, w ∈ lw_tbl := fun w h => (goodIn_r wsX30 [66, 68, 70, 72] (by decide +kernel) (by decide +kernel) w h).1
set_option maxRecDepth 20000 in
theorem wsL_in_X4 : ∀ w ∈ wsX40, w ∈ lw_tbl := fun w h => (goodIn_r wsX40 [200, 202, 204, 206, 208] (by decide +kernel) (by decide +kernel) w h).1
set_option maxRecDepth 20000 in
theorem wsL_in_X5 : ∀ w ∈ wsX50, w ∈ lw_tbl := fun w h => (goodIn_r wsX50 [51, 53] (by decide +kernel) (by decide +kernel) w h).1
set_option maxRecDepth 20000 in
theorem wsL_in_X6 : ∀ w ∈ wsX60, w ∈ lw_tbl := fun w h => (goodIn_r wsX60 [124, 126, 128] (by decide +kernel) (by decide +kernel) w h).1
set_option maxRecDepth 20000 in
theorem wsL_in_X7 : ∀ w ∈ wsX70, w ∈ lw_tbl := fun w h => (goodIn_r wsX70 [571, 573, 575] (by decide +kernel) (by decide +kernel) w h).1
set_option maxRecDepth 20000 in
theorem wsL_in_X8 : ∀ w ∈ wsX80, w ∈ lw_tbl := fun w h => (goodIn_r wsX80 [455, 457, 459, 461] (by decide +kernel) (by decide +kernel) w h).1
set_option maxRecDepth 20000 in
theorem wsL_in_X9 : ∀ w ∈ wsX90, w ∈ lw_tbl := fun w h => (goodIn_r wsX90 [157, 159, 161, 163, 165, 167, 169] (by decide +kernel) (by decide +kernel) w h).1
set_option maxRecDepth 20000 in
theorem wsL_in_X10 : ∀ w ∈ wsX100, w ∈ lw_tbl := fun w h => (goodIn_r wsX100 [671, 673, 675, 677, 679, 681, 683, 685, 687, 689, 691, 693, 695, 697, 699, 701, 703, 705, 707, 709, 711, 713, 715, 717, 719, 721, 723, 725, 727, 729, 731, 733, 735, 737, 739, 741, 743, 745] (by decide +kernel) (by decide +kernel) w h).1
theorem wsL_law_in : ∀ w ∈ wsL_law, w ∈ lw_tbl := fun w h => (fun h => (List.mem_append.mp h).elim (fun h => (List.mem_append.mp h).elim (fun h => (List.mem_append.mp h).elim (fun h => (List.mem_append.mp h).elim (fun h => (List.mem_append.mp h).elim (fun h => (List.mem_append.mp h).elim (fun h => (List.mem_append.mp h).elim (fun h => (List.mem_append.mp h).elim (fun h => (List.mem_append.mp h).elim (fun h => (List.mem_append.mp h).elim (fun h => (List.mem_append.mp h).elim (fun h => (List.mem_append.mp h).elim (fun h => (List.mem_append.mp h).elim (fun h => wsL_in_r1 w h) (fun h => (List.mem_append.mp h).elim (fun h => wsL_in_r2 w h) (fun h => (List.mem_append.mp h).elim (fun h => wsL_in_r3 w h) (fun h => (List.mem_append.mp h).elim (fun h => wsL_in_r4 w h) (fun h => (List.mem_append.mp h).elim (fun h => wsL_in_r5 w h) (fun h => (List.mem_append.mp h).elim (fun h => wsL_in_r6 w h) (fun h => (List.mem_append.mp h).elim (fun h => wsL_in_r7 w h) (fun h => (List.mem_append.mp h).elim (fun h => wsL_in_r8 w h) (fun h => (List.mem_append.mp h).elim (fun h => wsL_in_r9 w h) (fun h => (List.mem_append.mp h).elim (fun h => wsL_in_r10 w h) (fun h => (List.mem_append.mp h).elim (fun h => wsL_in_r11 w h) (fun h => (List.mem_append.mp h).elim (fun h => wsL_in_r12 w h) (fun h => (List.mem_append.mp h).elim (fun h => wsL_in_r13 w h) (fun h => (List.mem_append.mp h).elim (fun h => wsL_in_r14 w h) (fun h => (List.mem_append.mp h).elim (fun h => wsL_in_r15 w h) (fun h => (List.mem_append.mp h).elim (fun h => wsL_in_r16 w h) (fun h => (List.mem_append.mp h).elim (fun h => wsL_in_r17 w h) (fun h => (List.mem_append.mp h).elim (fun h => wsL_in_r18 w h) (fun h => (List.mem_append.mp h).elim (fun h => wsL_in_r19 w h) (fun h => (List.mem_append.mp h).elim (fun h => wsL_in_r20 w h) (fun h => (List.mem_append.mp h).elim (fun h => wsL_in_r21 w h) (fun h => (List.mem_append.mp h).elim (fun h => wsL_in_r22 w h) (fun h => (List.mem_append.mp h).elim (fun h => wsL_in_r23 w h) (fun h => (List.mem_append.mp h).elim (fun h => wsL_in_r24 w h) (fun h => (List.mem_append.mp h).elim (fun h => wsL_in_r25 w h) (fun h => (List.mem_append.mp h).elim (fun h => wsL_in_r26 w h) (fun h => (List.mem_append.mp h).elim (fun h => wsL_in_r27 w h) (fun h => wsL_in_r28 w h)))))))))))))))))))))))))))) (fun h => wsL_in_X9 w h)) (fun h => wsL_in_X10 w h)) (fun h => wsL_in_X5 w h)) (fun h => wsL_in_X3 w h)) (fun h => wsL_in_X2 w h)) (fun h => wsL_in_X6 w h)) (fun h => wsL_in_X0 w h)) (fun h => wsL_in_X4 w h)) (fun h => wsL_in_X1 w h)) (fun h => wsL_in_X8 w h)) (fun h => wsL_in_X7 w h)) (fun h => absurd h List.not_mem_nil)) h
theorem inlX0 : ∀ w ∈ wsX00, w ∈ wsL_law := fun _ h => List.mem_append_left _ (List.mem_append_left _ (List.mem_append_left _ (List.mem_append_left _ (List.mem_append_left _ (List.mem_append_right _ h)))))
theorem inX0 : ∀ w ∈ wsX00, w ∈ lw_tbl := fun w h => wsL_law_in w (inlX0 w h)
theorem inlX1 : ∀ w ∈ wsX10, w ∈ wsL_law := fun _ h => List.mem_append_left _ (List.mem_append_left _ (List.mem_append_left _ (List.mem_append_right _ h)))
theorem inX1 : ∀ w ∈ wsX10, w ∈ lw_tbl := fun w h => wsL_law_in w (inlX1 w h)
theorem inlX2 : ∀ w ∈ wsX20, w ∈ wsL_law := fun _ h => List.mem_append_left _ (List.mem_append_left _ (List.mem_append_left _ (List.mem_append_left _ (List.mem_append_left _ (List.mem_append_left _ (List.mem_append_left _ (List.mem_append_right _ h)))))))
theorem inX2 : ∀ w ∈ wsX20, w ∈ lw_tbl := fun w h => wsL_law_in w (inlX2 w h)
theorem inlX3 : ∀ w ∈ wsX30, w ∈ wsL_law := fun _ h => List.mem_append_left _ (List.mem_append_left _ (List.mem_append_left _ (List.mem_append_left _ (List.mem_append_left _ (List.mem_append_left _ (List.mem_append_left _ (List.mem_append_left _ (List.mem_append_right _ h))))))))
theorem inX3 : ∀ w ∈ wsX30, w ∈ lw_tbl := fun w h => wsL_law_in w (inlX3 w h)
theorem inlX4 : ∀ w ∈ wsX40, w ∈ wsL_law := fun _ h => List.mem_append_left _ (List.mem_append_left _ (List.mem_append_left _ (List.mem_append_left _ (List.mem_append_right _ h))))
theorem inX4 : ∀ w ∈ wsX40, w ∈ lw_tbl := fun w h => wsL_law_in w (inlX4 w h)
theorem inlX5 : ∀ w ∈ wsX50, w ∈ wsL_law := fun _ h => List.mem_append_left _ (List.mem_append_left _ (List.mem_append_left _ (List.mem_append_left _ (List.mem_append_left _ (List.mem_append_left _ (List.mem_append_left _ (List.mem_append_left _ (List.mem_append_left _ (List.mem_append_right _ h)))))))))
theorem inX5 : ∀ w ∈ wsX50, w ∈ lw_tbl := fun w h => wsL_law_in w (inlX5 w h)
theorem inlX6 : ∀ w ∈ wsX60, w ∈ wsL_law := fun _ h => List.mem_append_left _ (List.mem_append_left _ (List.mem_append_left _ (List.mem_append_left _ (List.mem_append_left _ (List.mem_append_left _ (List.mem_append_right _ h))))))
theorem inX6 : ∀ w ∈ wsX60, w ∈ lw_tbl := fun w h => wsL_law_in w (inlX6 w h)
theorem inlX7 : ∀ w ∈ wsX70, w ∈ wsL_law := fun _ h => List.mem_append_left _ (List.mem_append_right _ h)
theorem inX7 : ∀ w ∈ wsX70, w ∈ lw_tbl := fun w h => wsL_law_in w (inlX7 w h)
theorem inlX8 : ∀ w ∈ wsX80, w ∈ wsL_law := fun _ h => List.mem_append_left _ (List.mem_append_left _ (List.mem_append_right _ h))
theorem inX8 : ∀ w ∈ wsX80, w ∈ lw_tbl := fun w h => wsL_law_in w (inlX8 w h)
theorem inlX9 : ∀ w ∈ wsX90, w ∈ wsL_law := fun _ h => List.mem_append_left _ (List.mem_append_left _ (List.mem_append_left _ (List.mem_append_left _ (List.mem_append_left _ (List.mem_append_left _ (List.mem_append_left _ (List.mem_append_left _ (List.mem_append_left _ (List.mem_append_left _ (List.mem_append_left _ (List.mem_append_right _ h)))))))))))
theorem inX9 : ∀ w ∈ wsX90, w ∈ lw_tbl := fun w h => wsL_law_in w (inlX9 w h)
theorem inlX10 : ∀ w ∈ wsX100, w ∈ wsL_law := fun _ h => List.mem_append_left _ (List.mem_append_left _ (List.mem_append_left _ (List.mem_append_left _ (List.mem_append_left _ (List.mem_append_left _ (List.mem_append_left _ (List.mem_append_left _ (List.mem_append_left _ (List.mem_append_left _ (List.mem_append_right _ h))))))))))
theorem inX10 : ∀ w ∈ wsX100, w ∈ lw_tbl := fun w h => wsL_law_in w (inlX10 w h)
theorem inJ9 : ∀ w ∈ wsJ90, w ∈ lw_tbl := by decide +kernel
theorem inJ7 : ∀ w ∈ wsJ70, w ∈ lw_tbl := by decide +kernel
theorem dX0_init_0 : decode cX0_init 0 = .ok (.aload_n 0, 1) := by decide +kernel
theorem dX0_init_1 : decode cX0_init 1 = .ok (.invokespecial 3, 3) := by decide +kernel
theorem dX0_init_4 : decode cX0_init 4 = .ok (.aload_n 0, 1) := by decide +kernel
theorem dX0_init_5 : decode cX0_init 5 = .ok (.bipush 10, 2) := by decide +kernel
theorem dX0_init_7 : decode cX0_init 7 = .ok (.anewarray 11, 3) := by decide +kernel
theorem dX0_init_10 : decode cX0_init 10 = .ok (.putfield 13, 3) := by decide +kernel
theorem dX0_init_13 : decode cX0_init 13 = .ok (.aload_n 0, 1) := by decide +kernel
theorem dX0_init_14 : decode cX0_init 14 = .ok (.iconst 0, 1) := by decide +kernel
theorem dX0_init_15 : decode cX0_init 15 = .ok (.putfield 17, 3) := by decide +kernel
theorem dX0_init_18 : decode cX0_init 18 = .ok (.aload_n 0, 1) := by decide +kernel
theorem dX0_init_19 : decode cX0_init 19 = .ok (.iconst 0, 1) := by decide +kernel
theorem dX0_init_20 : decode cX0_init 20 = .ok (.putfield 21, 3) := by decide +kernel
theorem dX0_init_23 : decode cX0_init 23 = .ok (.return_, 1) := by decide +kernel
set_option maxRecDepth 20000 in
theorem ggX0_enter_X7_isPossible : GoodIn wsX0_enter wsX7_isPossible := goodIn_r _ [7, 8, 9, 10, 11, 12, 13, 17, 18, 19] (by decide +kernel) (by decide +kernel)
set_option maxRecDepth 20000 in
theorem gX0_enter_X7_isPossible : GoodIn wsX0_enter (wsV RX0 24 RX7 yX7_isPossible wsX7_isPossible) := goodIn_app (goodIn_of _ (by decide +kernel)) ggX0_enter_X7_isPossible
theorem dX0_enter_0 : decode cX0_enter 0 = .ok (.aload_n 0, 1) := by decide +kernel
theorem dX0_enter_1 : decode cX0_enter 1 = .ok (.getfield 17, 3) := by decide +kernel
theorem dX0_enter_4 : decode cX0_enter 4 = .ok (.bipush 10, 2) := by decide +kernel
theorem dX0_enter_6 : decode cX0_enter 6 = .ok (.if_icmp .ge 10, 3) := by decide +kernel
theorem dX0_enter_9 : decode cX0_enter 9 = .ok (.aload_n 1, 1) := by decide +kernel
theorem dX0_enter_10 : decode cX0_enter 10 = .ok (.invokevirtual 24, 3) := by decide +kernel
theorem dX0_enter_13 : decode cX0_enter 13 = .ok (.ifCond .ne 5, 3) := by decide +kernel
theorem dX0_enter_16 : decode cX0_enter 16 = .ok (.iconst (-1), 1) := by decide +kernel
theorem dX0_enter_17 : decode cX0_enter 17 = .ok (.ireturn, 1) := by decide +kernel
theorem dX0_enter_18 : decode cX0_enter 18 = .ok (.aload_n 0, 1) := by decide +kernel
theorem dX0_enter_19 : decode cX0_enter 19 = .ok (.getfield 13, 3) := by decide +kernel
theorem dX0_enter_22 : decode cX0_enter 22 = .ok (.aload_n 0, 1) := by decide +kernel
theorem dX0_enter_23 : decode cX0_enter 23 = .ok (.getfield 17, 3) := by decide +kernel
theorem dX0_enter_26 : decode cX0_enter 26 = .ok (.aload_n 1, 1) := by decide +kernel
theorem dX0_enter_27 : decode cX0_enter 27 = .ok (.aastore, 1) := by decide +kernel
theorem dX0_enter_28 : decode cX0_enter 28 = .ok (.aload_n 0, 1) := by decide +kernel
theorem dX0_enter_29 : decode cX0_enter 29 = .ok (.dup, 1) := by decide +kernel
theorem dX0_enter_30 : decode cX0_enter 30 = .ok (.getfield 17, 3) := by decide +kernel
theorem dX0_enter_33 : decode cX0_enter 33 = .ok (.iconst 1, 1) := by decide +kernel
theorem dX0_enter_34 : decode cX0_enter 34 = .ok (.iadd, 1) := by decide +kernel
theorem dX0_enter_35 : decode cX0_enter 35 = .ok (.putfield 17, 3) := by decide +kernel
theorem dX0_enter_38 : decode cX0_enter 38 = .ok (.aload_n 0, 1) := by decide +kernel
theorem dX0_enter_39 : decode cX0_enter 39 = .ok (.getfield 17, 3) := by decide +kernel
theorem dX0_enter_42 : decode cX0_enter 42 = .ok (.iconst 1, 1) := by decide +kernel
theorem dX0_enter_43 : decode cX0_enter 43 = .ok (.isub, 1) := by decide +kernel
theorem dX0_enter_44 : decode cX0_enter 44 = .ok (.ireturn, 1) := by decide +kernel
theorem dX0_numbered_0 : decode cX0_numbered 0 = .ok (.iload_n 1, 1) := by decide +kernel
theorem dX0_numbered_1 : decode cX0_numbered 1 = .ok (.ifCond .lt 26, 3) := by decide +kernel
theorem dX0_numbered_4 : decode cX0_numbered 4 = .ok (.iload_n 1, 1) := by decide +kernel
theorem dX0_numbered_5 : decode cX0_numbered 5 = .ok (.aload_n 0, 1) := by decide +kernel
theorem dX0_numbered_6 : decode cX0_numbered 6 = .ok (.getfield 17, 3) := by decide +kernel
theorem dX0_numbered_9 : decode cX0_numbered 9 = .ok (.if_icmp .ge 18, 3) := by decide +kernel
theorem dX0_numbered_12 : decode cX0_numbered 12 = .ok (.iload_n 1, 1) := by decide +kernel
theorem dX0_numbered_13 : decode cX0_numbered 13 = .ok (.bipush 10, 2) := by decide +kernel
theorem dX0_numbered_15 : decode cX0_numbered 15 = .ok (.if_icmp .ge 12, 3) := by decide +kernel
theorem dX0_numbered_18 : decode cX0_numbered 18 = .ok (.aload_n 0, 1) := by decide +kernel
theorem dX0_numbered_19 : decode cX0_numbered 19 = .ok (.getfield 13, 3) := by decide +kernel
theorem dX0_numbered_22 : decode cX0_numbered 22 = .ok (.iload_n 1, 1) := by decide +kernel
theorem dX0_numbered_23 : decode cX0_numbered 23 = .ok (.aaload, 1) := by decide +kernel
theorem dX0_numbered_24 : decode cX0_numbered 24 = .ok (.goto 4, 3) := by decide +kernel
theorem dX0_numbered_27 : decode cX0_numbered 27 = .ok (.aconst_null, 1) := by decide +kernel
theorem dX0_numbered_28 : decode cX0_numbered 28 = .ok (.areturn, 1) := by decide +kernel
theorem dX0_next_0 : decode cX0_next 0 = .ok (.aload_n 0, 1) := by decide +kernel
theorem dX0_next_1 : decode cX0_next 1 = .ok (.getfield 17, 3) := by decide +kernel
theorem dX0_next_4 : decode cX0_next 4 = .ok (.ifCond .ne 5, 3) := by decide +kernel
theorem dX0_next_7 : decode cX0_next 7 = .ok (.iconst (-1), 1) := by decide +kernel
theorem dX0_next_8 : decode cX0_next 8 = .ok (.ireturn, 1) := by decide +kernel
theorem dX0_next_9 : decode cX0_next 9 = .ok (.aload_n 0, 1) := by decide +kernel
theorem dX0_next_10 : decode cX0_next 10 = .ok (.getfield 21, 3) := by decide +kernel
theorem dX0_next_13 : decode cX0_next 13 = .ok (.aload_n 0, 1) := by decide +kernel
theorem dX0_next_14 : decode cX0_next 14 = .ok (.getfield 17, 3) := by decide +kernel
theorem dX0_next_17 : decode cX0_next 17 = .ok (.if_icmp .ge 10, 3) := by decide +kernel
theorem dX0_next_20 : decode cX0_next 20 = .ok (.aload_n 0, 1) := by decide +kernel
theorem dX0_next_21 : decode cX0_next 21 = .ok (.getfield 21, 3) := by decide +kernel
theorem dX0_next_24 : decode cX0_next 24 = .ok (.goto 4, 3) := by decide +kernel
end
section
theorem dX0_next_27 : decode cX0_next 27 = .ok (.iconst 0, 1) := by decide +kernel
theorem dX0_next_28 : decode cX0_next 28 = .ok (.ireturn, 1) := by decide +kernel
set_option maxRecDepth 20000 in
theorem ggX0_sell_X0_next : GoodIn wsX0_sell wsX0_next := goodIn_r _ [8, 1, 3, 21, 22, 23] (by decide +kernel) (by decide +kernel)
set_option maxRecDepth 20000 in
theorem gX0_sell_X0_next : GoodIn wsX0_sell (wsV RX0 28 RX0 yX0_next wsX0_next) := goodIn_app (goodIn_of _ (by decide +kernel)) ggX0_sell_X0_next
set_option maxRecDepth 20000 in
theorem ggX0_sell_X0_numbered : GoodIn wsX0_sell wsX0_numbered := goodIn_r _ [12, 1, 13, 21, 22, 23] (by decide +kernel) (by decide +kernel)
set_option maxRecDepth 20000 in
theorem gX0_sell_X0_numbered : GoodIn wsX0_sell (wsV RX0 32 RX0 yX0_numbered wsX0_numbered) := goodIn_app (goodIn_of _ (by decide +kernel)) ggX0_sell_X0_numbered
set_option maxRecDepth 20000 in
theorem ggX0_sell_X7_takes : GoodIn wsX0_sell wsX7_takes := goodIn_r _ [18, 19, 20, 24, 25, 26] (by decide +kernel) (by decide +kernel)
set_option maxRecDepth 20000 in
theorem gX0_sell_X7_takes : GoodIn wsX0_sell (wsV RX0 36 RX7 yX7_takes wsX7_takes) := goodIn_app (goodIn_of _ (by decide +kernel)) ggX0_sell_X7_takes
theorem dX0_sell_0 : decode cX0_sell 0 = .ok (.aload_n 0, 1) := by decide +kernel
theorem dX0_sell_1 : decode cX0_sell 1 = .ok (.invokevirtual 28, 3) := by decide +kernel
theorem dX0_sell_4 : decode cX0_sell 4 = .ok (.istore_n 3, 1) := by decide +kernel
theorem dX0_sell_5 : decode cX0_sell 5 = .ok (.iconst 0, 1) := by decide +kernel
theorem dX0_sell_6 : decode cX0_sell 6 = .ok (.istore 4, 2) := by decide +kernel
theorem dX0_sell_8 : decode cX0_sell 8 = .ok (.iload 4, 2) := by decide +kernel
theorem dX0_sell_10 : decode cX0_sell 10 = .ok (.aload_n 0, 1) := by decide +kernel
theorem dX0_sell_11 : decode cX0_sell 11 = .ok (.getfield 17, 3) := by decide +kernel
theorem dX0_sell_14 : decode cX0_sell 14 = .ok (.if_icmp .ge 83, 3) := by decide +kernel
theorem dX0_sell_17 : decode cX0_sell 17 = .ok (.iload_n 3, 1) := by decide +kernel
theorem dX0_sell_18 : decode cX0_sell 18 = .ok (.iload 4, 2) := by decide +kernel
theorem dX0_sell_20 : decode cX0_sell 20 = .ok (.iadd, 1) := by decide +kernel
theorem dX0_sell_21 : decode cX0_sell 21 = .ok (.aload_n 0, 1) := by decide +kernel
theorem dX0_sell_22 : decode cX0_sell 22 = .ok (.getfield 17, 3) := by decide +kernel
theorem dX0_sell_25 : decode cX0_sell 25 = .ok (.if_icmp .ge 10, 3) := by decide +kernel
theorem dX0_sell_28 : decode cX0_sell 28 = .ok (.iload_n 3, 1) := by decide +kernel
theorem dX0_sell_29 : decode cX0_sell 29 = .ok (.iload 4, 2) := by decide +kernel
theorem dX0_sell_31 : decode cX0_sell 31 = .ok (.iadd, 1) := by decide +kernel
theorem dX0_sell_32 : decode cX0_sell 32 = .ok (.goto 12, 3) := by decide +kernel
theorem dX0_sell_35 : decode cX0_sell 35 = .ok (.iload_n 3, 1) := by decide +kernel
theorem dX0_sell_36 : decode cX0_sell 36 = .ok (.iload 4, 2) := by decide +kernel
theorem dX0_sell_38 : decode cX0_sell 38 = .ok (.iadd, 1) := by decide +kernel
theorem dX0_sell_39 : decode cX0_sell 39 = .ok (.aload_n 0, 1) := by decide +kernel
theorem dX0_sell_40 : decode cX0_sell 40 = .ok (.getfield 17, 3) := by decide +kernel
theorem dX0_sell_43 : decode cX0_sell 43 = .ok (.isub, 1) := by decide +kernel
theorem dX0_sell_44 : decode cX0_sell 44 = .ok (.istore 5, 2) := by decide +kernel
theorem dX0_sell_46 : decode cX0_sell 46 = .ok (.aload_n 0, 1) := by decide +kernel
theorem dX0_sell_47 : decode cX0_sell 47 = .ok (.iload 5, 2) := by decide +kernel
theorem dX0_sell_49 : decode cX0_sell 49 = .ok (.invokevirtual 32, 3) := by decide +kernel
theorem dX0_sell_52 : decode cX0_sell 52 = .ok (.astore 6, 2) := by decide +kernel
theorem dX0_sell_54 : decode cX0_sell 54 = .ok (.aload 6, 2) := by decide +kernel
theorem dX0_sell_56 : decode cX0_sell 56 = .ok (.ifnull 35, 3) := by decide +kernel
theorem dX0_sell_59 : decode cX0_sell 59 = .ok (.aload 6, 2) := by decide +kernel
theorem dX0_sell_61 : decode cX0_sell 61 = .ok (.iload_n 1, 1) := by decide +kernel
theorem dX0_sell_62 : decode cX0_sell 62 = .ok (.iload_n 2, 1) := by decide +kernel
theorem dX0_sell_63 : decode cX0_sell 63 = .ok (.invokevirtual 36, 3) := by decide +kernel
theorem dX0_sell_66 : decode cX0_sell 66 = .ok (.ifCond .eq 25, 3) := by decide +kernel
theorem dX0_sell_69 : decode cX0_sell 69 = .ok (.aload 6, 2) := by decide +kernel
theorem dX0_sell_71 : decode cX0_sell 71 = .ok (.dup, 1) := by decide +kernel
theorem dX0_sell_72 : decode cX0_sell 72 = .ok (.getfield 40, 3) := by decide +kernel
theorem dX0_sell_75 : decode cX0_sell 75 = .ok (.iload_n 2, 1) := by decide +kernel
theorem dX0_sell_76 : decode cX0_sell 76 = .ok (.iadd, 1) := by decide +kernel
theorem dX0_sell_77 : decode cX0_sell 77 = .ok (.putfield 40, 3) := by decide +kernel
theorem dX0_sell_80 : decode cX0_sell 80 = .ok (.aload_n 0, 1) := by decide +kernel
theorem dX0_sell_81 : decode cX0_sell 81 = .ok (.iload 5, 2) := by decide +kernel
theorem dX0_sell_83 : decode cX0_sell 83 = .ok (.iconst 1, 1) := by decide +kernel
theorem dX0_sell_84 : decode cX0_sell 84 = .ok (.iadd, 1) := by decide +kernel
theorem dX0_sell_85 : decode cX0_sell 85 = .ok (.putfield 21, 3) := by decide +kernel
theorem dX0_sell_88 : decode cX0_sell 88 = .ok (.iload 5, 2) := by decide +kernel
theorem dX0_sell_90 : decode cX0_sell 90 = .ok (.ireturn, 1) := by decide +kernel
theorem dX0_sell_91 : decode cX0_sell 91 = .ok (.iinc 4 1, 3) := by decide +kernel
theorem dX0_sell_94 : decode cX0_sell 94 = .ok (.goto (-86), 3) := by decide +kernel
theorem dX0_sell_97 : decode cX0_sell 97 = .ok (.iconst (-1), 1) := by decide +kernel
theorem dX0_sell_98 : decode cX0_sell 98 = .ok (.ireturn, 1) := by decide +kernel
theorem dX1_init_0 : decode cX1_init 0 = .ok (.aload_n 0, 1) := by decide +kernel
theorem dX1_init_1 : decode cX1_init 1 = .ok (.invokespecial 3, 3) := by decide +kernel
theorem dX1_init_4 : decode cX1_init 4 = .ok (.aload_n 0, 1) := by decide +kernel
theorem dX1_init_5 : decode cX1_init 5 = .ok (.iload_n 1, 1) := by decide +kernel
theorem dX1_init_6 : decode cX1_init 6 = .ok (.sipush 1000, 3) := by decide +kernel
theorem dX1_init_9 : decode cX1_init 9 = .ok (.idiv, 1) := by decide +kernel
theorem dX1_init_10 : decode cX1_init 10 = .ok (.putfield 9, 3) := by decide +kernel
theorem dX1_init_13 : decode cX1_init 13 = .ok (.aload_n 0, 1) := by decide +kernel
theorem dX1_init_14 : decode cX1_init 14 = .ok (.iload_n 1, 1) := by decide +kernel
theorem dX1_init_15 : decode cX1_init 15 = .ok (.sipush 1000, 3) := by decide +kernel
theorem dX1_init_18 : decode cX1_init 18 = .ok (.irem, 1) := by decide +kernel
theorem dX1_init_19 : decode cX1_init 19 = .ok (.putfield 15, 3) := by decide +kernel
theorem dX1_init_22 : decode cX1_init 22 = .ok (.aload_n 0, 1) := by decide +kernel
theorem dX1_init_23 : decode cX1_init 23 = .ok (.iload_n 2, 1) := by decide +kernel
theorem dX1_init_24 : decode cX1_init 24 = .ok (.ldc 18, 2) := by decide +kernel
theorem dX1_init_26 : decode cX1_init 26 = .ok (.idiv, 1) := by decide +kernel
theorem dX1_init_27 : decode cX1_init 27 = .ok (.putfield 19, 3) := by decide +kernel
theorem dX1_init_30 : decode cX1_init 30 = .ok (.aload_n 0, 1) := by decide +kernel
theorem dX1_init_31 : decode cX1_init 31 = .ok (.iload_n 2, 1) := by decide +kernel
theorem dX1_init_32 : decode cX1_init 32 = .ok (.sipush 10000, 3) := by decide +kernel
theorem dX1_init_35 : decode cX1_init 35 = .ok (.idiv, 1) := by decide +kernel
theorem dX1_init_36 : decode cX1_init 36 = .ok (.sipush 10000, 3) := by decide +kernel
theorem dX1_init_39 : decode cX1_init 39 = .ok (.irem, 1) := by decide +kernel
theorem dX1_init_40 : decode cX1_init 40 = .ok (.putfield 22, 3) := by decide +kernel
theorem dX1_init_43 : decode cX1_init 43 = .ok (.aload_n 0, 1) := by decide +kernel
theorem dX1_init_44 : decode cX1_init 44 = .ok (.iload_n 2, 1) := by decide +kernel
theorem dX1_init_45 : decode cX1_init 45 = .ok (.sipush 10000, 3) := by decide +kernel
theorem dX1_init_48 : decode cX1_init 48 = .ok (.irem, 1) := by decide +kernel
theorem dX1_init_49 : decode cX1_init 49 = .ok (.ifCond .ne 9, 3) := by decide +kernel
theorem dX1_init_52 : decode cX1_init 52 = .ok (.sipush 10000, 3) := by decide +kernel
theorem dX1_init_55 : decode cX1_init 55 = .ok (.goto 8, 3) := by decide +kernel
theorem dX1_init_58 : decode cX1_init 58 = .ok (.iload_n 2, 1) := by decide +kernel
theorem dX1_init_59 : decode cX1_init 59 = .ok (.sipush 10000, 3) := by decide +kernel
theorem dX1_init_62 : decode cX1_init 62 = .ok (.irem, 1) := by decide +kernel
theorem dX1_init_63 : decode cX1_init 63 = .ok (.putfield 25, 3) := by decide +kernel
theorem dX1_init_66 : decode cX1_init 66 = .ok (.aload_n 0, 1) := by decide +kernel
theorem dX1_init_67 : decode cX1_init 67 = .ok (.iload_n 3, 1) := by decide +kernel
theorem dX1_init_68 : decode cX1_init 68 = .ok (.sipush 10000, 3) := by decide +kernel
theorem dX1_init_71 : decode cX1_init 71 = .ok (.idiv, 1) := by decide +kernel
theorem dX1_init_72 : decode cX1_init 72 = .ok (.sipush 3000, 3) := by decide +kernel
theorem dX1_init_75 : decode cX1_init 75 = .ok (.isub, 1) := by decide +kernel
theorem dX1_init_76 : decode cX1_init 76 = .ok (.putfield 28, 3) := by decide +kernel
theorem dX1_init_79 : decode cX1_init 79 = .ok (.aload_n 0, 1) := by decide +kernel
theorem dX1_init_80 : decode cX1_init 80 = .ok (.iload_n 3, 1) := by decide +kernel
theorem dX1_init_81 : decode cX1_init 81 = .ok (.sipush 10000, 3) := by decide +kernel
theorem dX1_init_84 : decode cX1_init 84 = .ok (.irem, 1) := by decide +kernel
theorem dX1_init_85 : decode cX1_init 85 = .ok (.sipush 3000, 3) := by decide +kernel
theorem dX1_init_88 : decode cX1_init 88 = .ok (.isub, 1) := by decide +kernel
theorem dX1_init_89 : decode cX1_init 89 = .ok (.putfield 31, 3) := by decide +kernel
theorem dX1_init_92 : decode cX1_init 92 = .ok (.aload_n 0, 1) := by decide +kernel
theorem dX1_init_93 : decode cX1_init 93 = .ok (.iload 4, 2) := by decide +kernel
theorem dX1_init_95 : decode cX1_init 95 = .ok (.bipush 100, 2) := by decide +kernel
theorem dX1_init_97 : decode cX1_init 97 = .ok (.idiv, 1) := by decide +kernel
theorem dX1_init_98 : decode cX1_init 98 = .ok (.putfield 34, 3) := by decide +kernel
theorem dX1_init_101 : decode cX1_init 101 = .ok (.aload_n 0, 1) := by decide +kernel
theorem dX1_init_102 : decode cX1_init 102 = .ok (.iload 4, 2) := by decide +kernel
theorem dX1_init_104 : decode cX1_init 104 = .ok (.bipush 100, 2) := by decide +kernel
theorem dX1_init_106 : decode cX1_init 106 = .ok (.irem, 1) := by decide +kernel
theorem dX1_init_107 : decode cX1_init 107 = .ok (.putfield 37, 3) := by decide +kernel
theorem dX1_init_110 : decode cX1_init 110 = .ok (.aload_n 0, 1) := by decide +kernel
theorem dX1_init_111 : decode cX1_init 111 = .ok (.iload 5, 2) := by decide +kernel
theorem dX1_init_113 : decode cX1_init 113 = .ok (.putfield 40, 3) := by decide +kernel
theorem dX1_init_116 : decode cX1_init 116 = .ok (.aload_n 0, 1) := by decide +kernel
theorem dX1_init_117 : decode cX1_init 117 = .ok (.iconst (-1), 1) := by decide +kernel
theorem dX1_init_118 : decode cX1_init 118 = .ok (.putfield 43, 3) := by decide +kernel
theorem dX1_init_121 : decode cX1_init 121 = .ok (.return_, 1) := by decide +kernel
set_option maxRecDepth 20000 in
theorem ggX1_isPossible_X9_isBetween : GoodIn wsX1_isPossible wsX9_isBetween := goodIn_r _ [13] (by decide +kernel) (by decide +kernel)
set_option maxRecDepth 20000 in
theorem gX1_isPossible_X9_isBetween_n46 : GoodIn wsX1_isPossible (wsX9_isBetween) := ggX1_isPossible_X9_isBetween
set_option maxRecDepth 20000 in
theorem ggX1_isPossible_X9_isMetal : GoodIn wsX1_isPossible wsX9_isMetal := goodIn_r _ [15, 16, 11, 12, 13] (by decide +kernel) (by decide +kernel)
set_option maxRecDepth 20000 in
theorem gX1_isPossible_X9_isMetal_n50 : GoodIn wsX1_isPossible (wsX9_isMetal) := ggX1_isPossible_X9_isMetal
set_option maxRecDepth 20000 in
theorem ggX1_isPossible_X9_isPerson : GoodIn wsX1_isPossible wsX9_isPerson := goodIn_r _ [18, 16, 11, 12, 13] (by decide +kernel) (by decide +kernel)
set_option maxRecDepth 20000 in
theorem gX1_isPossible_X9_isPerson_n54 : GoodIn wsX1_isPossible (wsX9_isPerson) := ggX1_isPossible_X9_isPerson
theorem dX1_isPossible_0 : decode cX1_isPossible 0 = .ok (.aload_n 0, 1) := by decide +kernel
theorem dX1_isPossible_1 : decode cX1_isPossible 1 = .ok (.getfield 9, 3) := by decide +kernel
theorem dX1_isPossible_4 : decode cX1_isPossible 4 = .ok (.iconst 0, 1) := by decide +kernel
theorem dX1_isPossible_5 : decode cX1_isPossible 5 = .ok (.sipush 999, 3) := by decide +kernel
theorem dX1_isPossible_8 : decode cX1_isPossible 8 = .ok (.invokestatic 46, 3) := by decide +kernel
theorem dX1_isPossible_11 : decode cX1_isPossible 11 = .ok (.ifCond .eq 21, 3) := by decide +kernel
theorem dX1_isPossible_14 : decode cX1_isPossible 14 = .ok (.aload_n 0, 1) := by decide +kernel
theorem dX1_isPossible_15 : decode cX1_isPossible 15 = .ok (.getfield 15, 3) := by decide +kernel
theorem dX1_isPossible_18 : decode cX1_isPossible 18 = .ok (.iconst 0, 1) := by decide +kernel
theorem dX1_isPossible_19 : decode cX1_isPossible 19 = .ok (.sipush 999, 3) := by decide +kernel
theorem dX1_isPossible_22 : decode cX1_isPossible 22 = .ok (.invokestatic 46, 3) := by decide +kernel
theorem dX1_isPossible_25 : decode cX1_isPossible 25 = .ok (.ifCond .eq 7, 3) := by decide +kernel
theorem dX1_isPossible_28 : decode cX1_isPossible 28 = .ok (.iconst 1, 1) := by decide +kernel
theorem dX1_isPossible_29 : decode cX1_isPossible 29 = .ok (.goto 4, 3) := by decide +kernel
theorem dX1_isPossible_32 : decode cX1_isPossible 32 = .ok (.iconst 0, 1) := by decide +kernel
theorem dX1_isPossible_33 : decode cX1_isPossible 33 = .ok (.istore_n 1, 1) := by decide +kernel
theorem dX1_isPossible_34 : decode cX1_isPossible 34 = .ok (.aload_n 0, 1) := by decide +kernel
theorem dX1_isPossible_35 : decode cX1_isPossible 35 = .ok (.getfield 19, 3) := by decide +kernel
theorem dX1_isPossible_38 : decode cX1_isPossible 38 = .ok (.invokestatic 50, 3) := by decide +kernel
theorem dX1_isPossible_41 : decode cX1_isPossible 41 = .ok (.ifCond .eq 35, 3) := by decide +kernel
theorem dX1_isPossible_44 : decode cX1_isPossible 44 = .ok (.aload_n 0, 1) := by decide +kernel
theorem dX1_isPossible_45 : decode cX1_isPossible 45 = .ok (.getfield 22, 3) := by decide +kernel
theorem dX1_isPossible_48 : decode cX1_isPossible 48 = .ok (.iconst 0, 1) := by decide +kernel
theorem dX1_isPossible_49 : decode cX1_isPossible 49 = .ok (.sipush 1000, 3) := by decide +kernel
theorem dX1_isPossible_52 : decode cX1_isPossible 52 = .ok (.invokestatic 46, 3) := by decide +kernel
theorem dX1_isPossible_55 : decode cX1_isPossible 55 = .ok (.ifCond .eq 21, 3) := by decide +kernel
theorem dX1_isPossible_58 : decode cX1_isPossible 58 = .ok (.aload_n 0, 1) := by decide +kernel
theorem dX1_isPossible_59 : decode cX1_isPossible 59 = .ok (.getfield 25, 3) := by decide +kernel
theorem dX1_isPossible_62 : decode cX1_isPossible 62 = .ok (.iconst 1, 1) := by decide +kernel
theorem dX1_isPossible_63 : decode cX1_isPossible 63 = .ok (.sipush 10000, 3) := by decide +kernel
theorem dX1_isPossible_66 : decode cX1_isPossible 66 = .ok (.invokestatic 46, 3) := by decide +kernel
theorem dX1_isPossible_69 : decode cX1_isPossible 69 = .ok (.ifCond .eq 7, 3) := by decide +kernel
theorem dX1_isPossible_72 : decode cX1_isPossible 72 = .ok (.iconst 1, 1) := by decide +kernel
theorem dX1_isPossible_73 : decode cX1_isPossible 73 = .ok (.goto 4, 3) := by decide +kernel
theorem dX1_isPossible_76 : decode cX1_isPossible 76 = .ok (.iconst 0, 1) := by decide +kernel
theorem dX1_isPossible_77 : decode cX1_isPossible 77 = .ok (.istore_n 2, 1) := by decide +kernel
theorem dX1_isPossible_78 : decode cX1_isPossible 78 = .ok (.aload_n 0, 1) := by decide +kernel
theorem dX1_isPossible_79 : decode cX1_isPossible 79 = .ok (.getfield 28, 3) := by decide +kernel
theorem dX1_isPossible_82 : decode cX1_isPossible 82 = .ok (.sipush (-3000), 3) := by decide +kernel
theorem dX1_isPossible_85 : decode cX1_isPossible 85 = .ok (.if_icmp .lt 28, 3) := by decide +kernel
theorem dX1_isPossible_88 : decode cX1_isPossible 88 = .ok (.aload_n 0, 1) := by decide +kernel
theorem dX1_isPossible_89 : decode cX1_isPossible 89 = .ok (.getfield 28, 3) := by decide +kernel
theorem dX1_isPossible_92 : decode cX1_isPossible 92 = .ok (.aload_n 0, 1) := by decide +kernel
theorem dX1_isPossible_93 : decode cX1_isPossible 93 = .ok (.getfield 31, 3) := by decide +kernel
theorem dX1_isPossible_96 : decode cX1_isPossible 96 = .ok (.if_icmp .gt 17, 3) := by decide +kernel
theorem dX1_isPossible_99 : decode cX1_isPossible 99 = .ok (.aload_n 0, 1) := by decide +kernel
theorem dX1_isPossible_100 : decode cX1_isPossible 100 = .ok (.getfield 31, 3) := by decide +kernel
theorem dX1_isPossible_103 : decode cX1_isPossible 103 = .ok (.sipush 2000, 3) := by decide +kernel
theorem dX1_isPossible_106 : decode cX1_isPossible 106 = .ok (.if_icmp .gt 7, 3) := by decide +kernel
theorem dX1_isPossible_109 : decode cX1_isPossible 109 = .ok (.iconst 1, 1) := by decide +kernel
theorem dX1_isPossible_110 : decode cX1_isPossible 110 = .ok (.goto 4, 3) := by decide +kernel
theorem dX1_isPossible_113 : decode cX1_isPossible 113 = .ok (.iconst 0, 1) := by decide +kernel
theorem dX1_isPossible_114 : decode cX1_isPossible 114 = .ok (.istore_n 3, 1) := by decide +kernel
theorem dX1_isPossible_115 : decode cX1_isPossible 115 = .ok (.iload_n 1, 1) := by decide +kernel
theorem dX1_isPossible_116 : decode cX1_isPossible 116 = .ok (.ifCond .eq 40, 3) := by decide +kernel
theorem dX1_isPossible_119 : decode cX1_isPossible 119 = .ok (.iload_n 2, 1) := by decide +kernel
theorem dX1_isPossible_120 : decode cX1_isPossible 120 = .ok (.ifCond .eq 36, 3) := by decide +kernel
theorem dX1_isPossible_123 : decode cX1_isPossible 123 = .ok (.iload_n 3, 1) := by decide +kernel
theorem dX1_isPossible_124 : decode cX1_isPossible 124 = .ok (.ifCond .eq 32, 3) := by decide +kernel
theorem dX1_isPossible_127 : decode cX1_isPossible 127 = .ok (.aload_n 0, 1) := by decide +kernel
theorem dX1_isPossible_128 : decode cX1_isPossible 128 = .ok (.getfield 34, 3) := by decide +kernel
theorem dX1_isPossible_131 : decode cX1_isPossible 131 = .ok (.iconst 0, 1) := by decide +kernel
theorem dX1_isPossible_132 : decode cX1_isPossible 132 = .ok (.aload_n 0, 1) := by decide +kernel
theorem dX1_isPossible_133 : decode cX1_isPossible 133 = .ok (.getfield 40, 3) := by decide +kernel
theorem dX1_isPossible_136 : decode cX1_isPossible 136 = .ok (.invokestatic 46, 3) := by decide +kernel
theorem dX1_isPossible_139 : decode cX1_isPossible 139 = .ok (.ifCond .eq 17, 3) := by decide +kernel
theorem dX1_isPossible_142 : decode cX1_isPossible 142 = .ok (.aload_n 0, 1) := by decide +kernel
theorem dX1_isPossible_143 : decode cX1_isPossible 143 = .ok (.getfield 37, 3) := by decide +kernel
theorem dX1_isPossible_146 : decode cX1_isPossible 146 = .ok (.invokestatic 54, 3) := by decide +kernel
theorem dX1_isPossible_149 : decode cX1_isPossible 149 = .ok (.ifCond .eq 7, 3) := by decide +kernel
theorem dX1_isPossible_152 : decode cX1_isPossible 152 = .ok (.iconst 1, 1) := by decide +kernel
theorem dX1_isPossible_153 : decode cX1_isPossible 153 = .ok (.goto 4, 3) := by decide +kernel
theorem dX1_isPossible_156 : decode cX1_isPossible 156 = .ok (.iconst 0, 1) := by decide +kernel
theorem dX1_isPossible_157 : decode cX1_isPossible 157 = .ok (.ireturn, 1) := by decide +kernel
theorem dX1_plot_0 : decode cX1_plot 0 = .ok (.aload_n 0, 1) := by decide +kernel
theorem dX1_plot_1 : decode cX1_plot 1 = .ok (.getfield 9, 3) := by decide +kernel
theorem dX1_plot_4 : decode cX1_plot 4 = .ok (.bipush 100, 2) := by decide +kernel
theorem dX1_plot_6 : decode cX1_plot 6 = .ok (.idiv, 1) := by decide +kernel
theorem dX1_plot_7 : decode cX1_plot 7 = .ok (.bipush 10, 2) := by decide +kernel
theorem dX1_plot_9 : decode cX1_plot 9 = .ok (.imul, 1) := by decide +kernel
theorem dX1_plot_10 : decode cX1_plot 10 = .ok (.aload_n 0, 1) := by decide +kernel
theorem dX1_plot_11 : decode cX1_plot 11 = .ok (.getfield 15, 3) := by decide +kernel
theorem dX1_plot_14 : decode cX1_plot 14 = .ok (.bipush 100, 2) := by decide +kernel
theorem dX1_plot_16 : decode cX1_plot 16 = .ok (.idiv, 1) := by decide +kernel
theorem dX1_plot_17 : decode cX1_plot 17 = .ok (.iadd, 1) := by decide +kernel
theorem dX1_plot_18 : decode cX1_plot 18 = .ok (.ireturn, 1) := by decide +kernel
theorem dX1_isNear_0 : decode cX1_isNear 0 = .ok (.aload_n 0, 1) := by decide +kernel
theorem dX1_isNear_1 : decode cX1_isNear 1 = .ok (.getfield 9, 3) := by decide +kernel
theorem dX1_isNear_4 : decode cX1_isNear 4 = .ok (.aload_n 1, 1) := by decide +kernel
theorem dX1_isNear_5 : decode cX1_isNear 5 = .ok (.getfield 9, 3) := by decide +kernel
theorem dX1_isNear_8 : decode cX1_isNear 8 = .ok (.isub, 1) := by decide +kernel
theorem dX1_isNear_9 : decode cX1_isNear 9 = .ok (.invokestatic 57, 3) := by decide +kernel
theorem dX1_isNear_12 : decode cX1_isNear 12 = .ok (.bipush 10, 2) := by decide +kernel
theorem dX1_isNear_14 : decode cX1_isNear 14 = .ok (.if_icmp .gt 46, 3) := by decide +kernel
theorem dX1_isNear_17 : decode cX1_isNear 17 = .ok (.aload_n 0, 1) := by decide +kernel
theorem dX1_isNear_18 : decode cX1_isNear 18 = .ok (.getfield 15, 3) := by decide +kernel
theorem dX1_isNear_21 : decode cX1_isNear 21 = .ok (.aload_n 1, 1) := by decide +kernel
theorem dX1_isNear_22 : decode cX1_isNear 22 = .ok (.getfield 15, 3) := by decide +kernel
theorem dX1_isNear_25 : decode cX1_isNear 25 = .ok (.isub, 1) := by decide +kernel
theorem dX1_isNear_26 : decode cX1_isNear 26 = .ok (.invokestatic 57, 3) := by decide +kernel
theorem dX1_isNear_29 : decode cX1_isNear 29 = .ok (.bipush 10, 2) := by decide +kernel
theorem dX1_isNear_31 : decode cX1_isNear 31 = .ok (.if_icmp .gt 29, 3) := by decide +kernel
theorem dX1_isNear_34 : decode cX1_isNear 34 = .ok (.aload_n 0, 1) := by decide +kernel
theorem dX1_isNear_35 : decode cX1_isNear 35 = .ok (.getfield 28, 3) := by decide +kernel
theorem dX1_isNear_38 : decode cX1_isNear 38 = .ok (.aload_n 1, 1) := by decide +kernel
theorem dX1_isNear_39 : decode cX1_isNear 39 = .ok (.getfield 31, 3) := by decide +kernel
theorem dX1_isNear_42 : decode cX1_isNear 42 = .ok (.if_icmp .gt 18, 3) := by decide +kernel
theorem dX1_isNear_45 : decode cX1_isNear 45 = .ok (.aload_n 1, 1) := by decide +kernel
theorem dX1_isNear_46 : decode cX1_isNear 46 = .ok (.getfield 28, 3) := by decide +kernel
theorem dX1_isNear_49 : decode cX1_isNear 49 = .ok (.aload_n 0, 1) := by decide +kernel
theorem dX1_isNear_50 : decode cX1_isNear 50 = .ok (.getfield 31, 3) := by decide +kernel
theorem dX1_isNear_53 : decode cX1_isNear 53 = .ok (.if_icmp .gt 7, 3) := by decide +kernel
theorem dX1_isNear_56 : decode cX1_isNear 56 = .ok (.iconst 1, 1) := by decide +kernel
theorem dX1_isNear_57 : decode cX1_isNear 57 = .ok (.goto 4, 3) := by decide +kernel
theorem dX1_isNear_60 : decode cX1_isNear 60 = .ok (.iconst 0, 1) := by decide +kernel
theorem dX1_isNear_61 : decode cX1_isNear 61 = .ok (.ireturn, 1) := by decide +kernel
set_option maxRecDepth 20000 in
theorem ggX2_init_J7_fill_53178 : GoodIn wsX2_init wsJ7_fill_53178 := goodIn_r _ [16] (by decide +kernel) (by decide +kernel)
set_option maxRecDepth 20000 in
theorem gX2_init_J7_fill_53178 : GoodIn wsX2_init (va_wsS RX2 37 yJ7_fill_53178 wsJ7_fill_53178) := goodIn_app (goodIn_of _ (by decide +kernel)) ggX2_init_J7_fill_53178
theorem dX2_init_0 : decode cX2_init 0 = .ok (.aload_n 0, 1) := by decide +kernel
theorem dX2_init_1 : decode cX2_init 1 = .ok (.invokespecial 3, 3) := by decide +kernel
theorem dX2_init_4 : decode cX2_init 4 = .ok (.aload_n 0, 1) := by decide +kernel
theorem dX2_init_5 : decode cX2_init 5 = .ok (.bipush 50, 2) := by decide +kernel
theorem dX2_init_7 : decode cX2_init 7 = .ok (.anewarray 11, 3) := by decide +kernel
theorem dX2_init_10 : decode cX2_init 10 = .ok (.putfield 13, 3) := by decide +kernel
theorem dX2_init_13 : decode cX2_init 13 = .ok (.aload_n 0, 1) := by decide +kernel
theorem dX2_init_14 : decode cX2_init 14 = .ok (.iconst 0, 1) := by decide +kernel
theorem dX2_init_15 : decode cX2_init 15 = .ok (.putfield 17, 3) := by decide +kernel
theorem dX2_init_18 : decode cX2_init 18 = .ok (.aload_n 0, 1) := by decide +kernel
theorem dX2_init_19 : decode cX2_init 19 = .ok (.sipush 1225, 3) := by decide +kernel
theorem dX2_init_22 : decode cX2_init 22 = .ok (.newarray .int, 2) := by decide +kernel
theorem dX2_init_24 : decode cX2_init 24 = .ok (.putfield 21, 3) := by decide +kernel
theorem dX2_init_27 : decode cX2_init 27 = .ok (.aload_n 0, 1) := by decide +kernel
theorem dX2_init_28 : decode cX2_init 28 = .ok (.iconst 0, 1) := by decide +kernel
theorem dX2_init_29 : decode cX2_init 29 = .ok (.putfield 25, 3) := by decide +kernel
theorem dX2_init_32 : decode cX2_init 32 = .ok (.aload_n 0, 1) := by decide +kernel
theorem dX2_init_33 : decode cX2_init 33 = .ok (.bipush 50, 2) := by decide +kernel
theorem dX2_init_35 : decode cX2_init 35 = .ok (.newarray .int, 2) := by decide +kernel
theorem dX2_init_37 : decode cX2_init 37 = .ok (.putfield 28, 3) := by decide +kernel
theorem dX2_init_40 : decode cX2_init 40 = .ok (.aload_n 0, 1) := by decide +kernel
theorem dX2_init_41 : decode cX2_init 41 = .ok (.bipush 50, 2) := by decide +kernel
theorem dX2_init_43 : decode cX2_init 43 = .ok (.newarray .int, 2) := by decide +kernel
theorem dX2_init_45 : decode cX2_init 45 = .ok (.putfield 31, 3) := by decide +kernel
theorem dX2_init_48 : decode cX2_init 48 = .ok (.aload_n 0, 1) := by decide +kernel
theorem dX2_init_49 : decode cX2_init 49 = .ok (.bipush 50, 2) := by decide +kernel
theorem dX2_init_51 : decode cX2_init 51 = .ok (.newarray .int, 2) := by decide +kernel
theorem dX2_init_53 : decode cX2_init 53 = .ok (.putfield 34, 3) := by decide +kernel
theorem dX2_init_56 : decode cX2_init 56 = .ok (.aload_n 0, 1) := by decide +kernel
theorem dX2_init_57 : decode cX2_init 57 = .ok (.getfield 21, 3) := by decide +kernel
theorem dX2_init_60 : decode cX2_init 60 = .ok (.iconst (-1), 1) := by decide +kernel
theorem dX2_init_61 : decode cX2_init 61 = .ok (.invokestatic 37, 3) := by decide +kernel
theorem dX2_init_64 : decode cX2_init 64 = .ok (.return_, 1) := by decide +kernel
set_option maxRecDepth 20000 in
theorem ggX2_enter_X1_isPossible : GoodIn wsX2_enter wsX1_isPossible := goodIn_r _ [7, 8, 9, 10, 11, 12, 13, 14, 15, 16, 17, 18, 19, 20, 21, 22, 23, 24, 25, 33, 34, 35, 36, 37, 38, 39, 40, 41, 42, 43] (by decide +kernel) (by decide +kernel)
set_option maxRecDepth 20000 in
theorem gX2_enter_X1_isPossible : GoodIn wsX2_enter (wsV RX2 43 RX1 yX1_isPossible wsX1_isPossible) := goodIn_app (goodIn_of _ (by decide +kernel)) ggX2_enter_X1_isPossible
theorem dX2_enter_0 : decode cX2_enter 0 = .ok (.aload_n 0, 1) := by decide +kernel
theorem dX2_enter_1 : decode cX2_enter 1 = .ok (.getfield 17, 3) := by decide +kernel
theorem dX2_enter_4 : decode cX2_enter 4 = .ok (.bipush 50, 2) := by decide +kernel
theorem dX2_enter_6 : decode cX2_enter 6 = .ok (.if_icmp .ge 10, 3) := by decide +kernel
theorem dX2_enter_9 : decode cX2_enter 9 = .ok (.aload_n 1, 1) := by decide +kernel
theorem dX2_enter_10 : decode cX2_enter 10 = .ok (.invokevirtual 43, 3) := by decide +kernel
theorem dX2_enter_13 : decode cX2_enter 13 = .ok (.ifCond .ne 5, 3) := by decide +kernel
theorem dX2_enter_16 : decode cX2_enter 16 = .ok (.iconst (-1), 1) := by decide +kernel
theorem dX2_enter_17 : decode cX2_enter 17 = .ok (.ireturn, 1) := by decide +kernel
theorem dX2_enter_18 : decode cX2_enter 18 = .ok (.aload_n 0, 1) := by decide +kernel
theorem dX2_enter_19 : decode cX2_enter 19 = .ok (.getfield 13, 3) := by decide +kernel
theorem dX2_enter_22 : decode cX2_enter 22 = .ok (.aload_n 0, 1) := by decide +kernel
theorem dX2_enter_23 : decode cX2_enter 23 = .ok (.getfield 17, 3) := by decide +kernel
theorem dX2_enter_26 : decode cX2_enter 26 = .ok (.aload_n 1, 1) := by decide +kernel
theorem dX2_enter_27 : decode cX2_enter 27 = .ok (.aastore, 1) := by decide +kernel
theorem dX2_enter_28 : decode cX2_enter 28 = .ok (.aload_n 0, 1) := by decide +kernel
theorem dX2_enter_29 : decode cX2_enter 29 = .ok (.dup, 1) := by decide +kernel
theorem dX2_enter_30 : decode cX2_enter 30 = .ok (.getfield 17, 3) := by decide +kernel
theorem dX2_enter_33 : decode cX2_enter 33 = .ok (.iconst 1, 1) := by decide +kernel
theorem dX2_enter_34 : decode cX2_enter 34 = .ok (.iadd, 1) := by decide +kernel
theorem dX2_enter_35 : decode cX2_enter 35 = .ok (.putfield 17, 3) := by decide +kernel
theorem dX2_enter_38 : decode cX2_enter 38 = .ok (.aload_n 0, 1) := by decide +kernel
theorem dX2_enter_39 : decode cX2_enter 39 = .ok (.getfield 17, 3) := by decide +kernel
theorem dX2_enter_42 : decode cX2_enter 42 = .ok (.iconst 1, 1) := by decide +kernel
theorem dX2_enter_43 : decode cX2_enter 43 = .ok (.isub, 1) := by decide +kernel
theorem dX2_enter_44 : decode cX2_enter 44 = .ok (.ireturn, 1) := by decide +kernel
theorem dX2_isTold_0 : decode cX2_isTold 0 = .ok (.iload_n 1, 1) := by decide +kernel
theorem dX2_isTold_1 : decode cX2_isTold 1 = .ok (.ifCond .lt 21, 3) := by decide +kernel
theorem dX2_isTold_4 : decode cX2_isTold 4 = .ok (.iload_n 1, 1) := by decide +kernel
theorem dX2_isTold_5 : decode cX2_isTold 5 = .ok (.aload_n 0, 1) := by decide +kernel
theorem dX2_isTold_6 : decode cX2_isTold 6 = .ok (.getfield 17, 3) := by decide +kernel
theorem dX2_isTold_9 : decode cX2_isTold 9 = .ok (.if_icmp .ge 13, 3) := by decide +kernel
theorem dX2_isTold_12 : decode cX2_isTold 12 = .ok (.iload_n 1, 1) := by decide +kernel
theorem dX2_isTold_13 : decode cX2_isTold 13 = .ok (.bipush 50, 2) := by decide +kernel
theorem dX2_isTold_15 : decode cX2_isTold 15 = .ok (.if_icmp .ge 7, 3) := by decide +kernel
theorem dX2_isTold_18 : decode cX2_isTold 18 = .ok (.iconst 1, 1) := by decide +kernel
theorem dX2_isTold_19 : decode cX2_isTold 19 = .ok (.goto 4, 3) := by decide +kernel
theorem dX2_isTold_22 : decode cX2_isTold 22 = .ok (.iconst 0, 1) := by decide +kernel
theorem dX2_isTold_23 : decode cX2_isTold 23 = .ok (.ireturn, 1) := by decide +kernel
set_option maxRecDepth 20000 in
theorem ggX2_numbered_X2_isTold : GoodIn wsX2_numbered wsX2_isTold := goodIn_r _ [6, 7, 8, 9, 10, 11, 12, 13, 14] (by decide +kernel) (by decide +kernel)
set_option maxRecDepth 20000 in
theorem gX2_numbered_X2_isTold : GoodIn wsX2_numbered (wsV RX2 47 RX2 yX2_isTold wsX2_isTold) := goodIn_app (goodIn_of _ (by decide +kernel)) ggX2_numbered_X2_isTold
theorem dX2_numbered_0 : decode cX2_numbered 0 = .ok (.aload_n 0, 1) := by decide +kernel
theorem dX2_numbered_1 : decode cX2_numbered 1 = .ok (.iload_n 1, 1) := by decide +kernel
theorem dX2_numbered_2 : decode cX2_numbered 2 = .ok (.invokevirtual 47, 3) := by decide +kernel
theorem dX2_numbered_5 : decode cX2_numbered 5 = .ok (.ifCond .eq 12, 3) := by decide +kernel
theorem dX2_numbered_8 : decode cX2_numbered 8 = .ok (.aload_n 0, 1) := by decide +kernel
theorem dX2_numbered_9 : decode cX2_numbered 9 = .ok (.getfield 13, 3) := by decide +kernel
theorem dX2_numbered_12 : decode cX2_numbered 12 = .ok (.iload_n 1, 1) := by decide +kernel
theorem dX2_numbered_13 : decode cX2_numbered 13 = .ok (.aaload, 1) := by decide +kernel
theorem dX2_numbered_14 : decode cX2_numbered 14 = .ok (.goto 4, 3) := by decide +kernel
theorem dX2_numbered_17 : decode cX2_numbered 17 = .ok (.aconst_null, 1) := by decide +kernel
theorem dX2_numbered_18 : decode cX2_numbered 18 = .ok (.areturn, 1) := by decide +kernel
set_option maxRecDepth 20000 in
theorem ggX2_separate_X2_pairOf : GoodIn wsX2_separate wsX2_pairOf := goodIn_r _ [7, 8, 9, 10, 11, 12, 13, 14, 15, 16, 17, 6, 18, 19, 20, 21, 22, 23, 24, 25, 26] (by decide +kernel) (by decide +kernel)
set_option maxRecDepth 20000 in
theorem gX2_separate_X2_pairOf : GoodIn wsX2_separate (wsV RX2 51 RX2 yX2_pairOf wsX2_pairOf) := goodIn_app (goodIn_of _ (by decide +kernel)) ggX2_separate_X2_pairOf
theorem dX2_separate_0 : decode cX2_separate 0 = .ok (.aload_n 0, 1) := by decide +kernel
theorem dX2_separate_1 : decode cX2_separate 1 = .ok (.iload_n 1, 1) := by decide +kernel
theorem dX2_separate_2 : decode cX2_separate 2 = .ok (.iload_n 2, 1) := by decide +kernel
theorem dX2_separate_3 : decode cX2_separate 3 = .ok (.invokevirtual 51, 3) := by decide +kernel
theorem dX2_separate_6 : decode cX2_separate 6 = .ok (.istore 4, 2) := by decide +kernel
theorem dX2_separate_8 : decode cX2_separate 8 = .ok (.iload 4, 2) := by decide +kernel
theorem dX2_separate_10 : decode cX2_separate 10 = .ok (.iconst (-1), 1) := by decide +kernel
theorem dX2_separate_11 : decode cX2_separate 11 = .ok (.if_icmp .eq 14, 3) := by decide +kernel
theorem dX2_separate_14 : decode cX2_separate 14 = .ok (.aload_n 0, 1) := by decide +kernel
theorem dX2_separate_15 : decode cX2_separate 15 = .ok (.getfield 21, 3) := by decide +kernel
theorem dX2_separate_18 : decode cX2_separate 18 = .ok (.iload 4, 2) := by decide +kernel
theorem dX2_separate_20 : decode cX2_separate 20 = .ok (.iaload, 1) := by decide +kernel
theorem dX2_separate_21 : decode cX2_separate 21 = .ok (.iconst (-1), 1) := by decide +kernel
theorem dX2_separate_22 : decode cX2_separate 22 = .ok (.if_icmp .eq 5, 3) := by decide +kernel
theorem dX2_separate_25 : decode cX2_separate 25 = .ok (.iconst 0, 1) := by decide +kernel
theorem dX2_separate_26 : decode cX2_separate 26 = .ok (.ireturn, 1) := by decide +kernel
theorem dX2_separate_27 : decode cX2_separate 27 = .ok (.aload_n 0, 1) := by decide +kernel
theorem dX2_separate_28 : decode cX2_separate 28 = .ok (.getfield 21, 3) := by decide +kernel
theorem dX2_separate_31 : decode cX2_separate 31 = .ok (.iload 4, 2) := by decide +kernel
theorem dX2_separate_33 : decode cX2_separate 33 = .ok (.iload_n 3, 1) := by decide +kernel
theorem dX2_separate_34 : decode cX2_separate 34 = .ok (.iastore, 1) := by decide +kernel
theorem dX2_separate_35 : decode cX2_separate 35 = .ok (.aload_n 0, 1) := by decide +kernel
theorem dX2_separate_36 : decode cX2_separate 36 = .ok (.dup, 1) := by decide +kernel
theorem dX2_separate_37 : decode cX2_separate 37 = .ok (.getfield 25, 3) := by decide +kernel
theorem dX2_separate_40 : decode cX2_separate 40 = .ok (.iconst 1, 1) := by decide +kernel
theorem dX2_separate_41 : decode cX2_separate 41 = .ok (.iadd, 1) := by decide +kernel
theorem dX2_separate_42 : decode cX2_separate 42 = .ok (.putfield 25, 3) := by decide +kernel
theorem dX2_separate_45 : decode cX2_separate 45 = .ok (.iconst 1, 1) := by decide +kernel
theorem dX2_separate_46 : decode cX2_separate 46 = .ok (.ireturn, 1) := by decide +kernel
set_option maxRecDepth 20000 in
theorem ggX2_pairOf_X2_isTold : GoodIn wsX2_pairOf wsX2_isTold := goodIn_r _ [12, 13, 14, 15, 16, 17, 18, 19, 20] (by decide +kernel) (by decide +kernel)
set_option maxRecDepth 20000 in
theorem gX2_pairOf_X2_isTold : GoodIn wsX2_pairOf (wsV RX2 47 RX2 yX2_isTold wsX2_isTold) := goodIn_app (goodIn_of _ (by decide +kernel)) ggX2_pairOf_X2_isTold
theorem dX2_pairOf_0 : decode cX2_pairOf 0 = .ok (.aload_n 0, 1) := by decide +kernel
theorem dX2_pairOf_1 : decode cX2_pairOf 1 = .ok (.iload_n 1, 1) := by decide +kernel
theorem dX2_pairOf_2 : decode cX2_pairOf 2 = .ok (.invokevirtual 47, 3) := by decide +kernel
theorem dX2_pairOf_5 : decode cX2_pairOf 5 = .ok (.ifCond .eq 16, 3) := by decide +kernel
theorem dX2_pairOf_8 : decode cX2_pairOf 8 = .ok (.aload_n 0, 1) := by decide +kernel
theorem dX2_pairOf_9 : decode cX2_pairOf 9 = .ok (.iload_n 2, 1) := by decide +kernel
theorem dX2_pairOf_10 : decode cX2_pairOf 10 = .ok (.invokevirtual 47, 3) := by decide +kernel
theorem dX2_pairOf_13 : decode cX2_pairOf 13 = .ok (.ifCond .eq 8, 3) := by decide +kernel
theorem dX2_pairOf_16 : decode cX2_pairOf 16 = .ok (.iload_n 1, 1) := by decide +kernel
theorem dX2_pairOf_17 : decode cX2_pairOf 17 = .ok (.iload_n 2, 1) := by decide +kernel
theorem dX2_pairOf_18 : decode cX2_pairOf 18 = .ok (.if_icmp .ne 5, 3) := by decide +kernel
theorem dX2_pairOf_21 : decode cX2_pairOf 21 = .ok (.iconst (-1), 1) := by decide +kernel
theorem dX2_pairOf_22 : decode cX2_pairOf 22 = .ok (.ireturn, 1) := by decide +kernel
theorem dX2_pairOf_23 : decode cX2_pairOf 23 = .ok (.iload_n 1, 1) := by decide +kernel
theorem dX2_pairOf_24 : decode cX2_pairOf 24 = .ok (.iload_n 2, 1) := by decide +kernel
theorem dX2_pairOf_25 : decode cX2_pairOf 25 = .ok (.invokestatic 55, 3) := by decide +kernel
theorem dX2_pairOf_28 : decode cX2_pairOf 28 = .ok (.istore_n 3, 1) := by decide +kernel
theorem dX2_pairOf_29 : decode cX2_pairOf 29 = .ok (.iload_n 3, 1) := by decide +kernel
theorem dX2_pairOf_30 : decode cX2_pairOf 30 = .ok (.iload_n 3, 1) := by decide +kernel
theorem dX2_pairOf_31 : decode cX2_pairOf 31 = .ok (.iconst 1, 1) := by decide +kernel
theorem dX2_pairOf_32 : decode cX2_pairOf 32 = .ok (.isub, 1) := by decide +kernel
theorem dX2_pairOf_33 : decode cX2_pairOf 33 = .ok (.imul, 1) := by decide +kernel
theorem dX2_pairOf_34 : decode cX2_pairOf 34 = .ok (.iconst 2, 1) := by decide +kernel
theorem dX2_pairOf_35 : decode cX2_pairOf 35 = .ok (.idiv, 1) := by decide +kernel
theorem dX2_pairOf_36 : decode cX2_pairOf 36 = .ok (.iload_n 1, 1) := by decide +kernel
theorem dX2_pairOf_37 : decode cX2_pairOf 37 = .ok (.iload_n 2, 1) := by decide +kernel
theorem dX2_pairOf_38 : decode cX2_pairOf 38 = .ok (.invokestatic 60, 3) := by decide +kernel
theorem dX2_pairOf_41 : decode cX2_pairOf 41 = .ok (.iadd, 1) := by decide +kernel
theorem dX2_pairOf_42 : decode cX2_pairOf 42 = .ok (.ireturn, 1) := by decide +kernel
set_option maxRecDepth 20000 in
theorem ggX2_isJoined_X2_numbered : GoodIn wsX2_isJoined wsX2_numbered := goodIn_r _ [6, 7, 8, 9, 10, 5, 11, 12, 36, 37, 38, 39, 40, 41, 42] (by decide +kernel) (by decide +kernel)
set_option maxRecDepth 20000 in
theorem gX2_isJoined_X2_numbered : GoodIn wsX2_isJoined (wsV RX2 63 RX2 yX2_numbered wsX2_numbered) := goodIn_app (goodIn_of _ (by decide +kernel)) ggX2_isJoined_X2_numbered
set_option maxRecDepth 20000 in
theorem ggX2_isJoined_X1_isNear : GoodIn wsX2_isJoined wsX1_isNear := goodIn_r _ [17, 18, 19, 20, 21, 22, 23, 24, 25, 43, 44, 45, 46, 47, 48, 49, 50, 51, 52, 53] (by decide +kernel) (by decide +kernel)
set_option maxRecDepth 20000 in
theorem gX2_isJoined_X1_isNear : GoodIn wsX2_isJoined (wsV RX2 67 RX1 yX1_isNear wsX1_isNear) := goodIn_app (goodIn_of _ (by decide +kernel)) ggX2_isJoined_X1_isNear
set_option maxRecDepth 20000 in
theorem ggX2_isJoined_X2_pairOf : GoodIn wsX2_isJoined wsX2_pairOf := goodIn_r _ [29, 30, 31, 21, 32, 33, 34, 35, 8, 9, 10, 5, 11, 12, 36, 37, 38, 39, 40, 41, 42] (by decide +kernel) (by decide +kernel)
set_option maxRecDepth 20000 in
theorem gX2_isJoined_X2_pairOf : GoodIn wsX2_isJoined (wsV RX2 51 RX2 yX2_pairOf wsX2_pairOf) := goodIn_app (goodIn_of _ (by decide +kernel)) ggX2_isJoined_X2_pairOf
theorem dX2_isJoined_0 : decode cX2_isJoined 0 = .ok (.aload_n 0, 1) := by decide +kernel
theorem dX2_isJoined_1 : decode cX2_isJoined 1 = .ok (.iload_n 1, 1) := by decide +kernel
theorem dX2_isJoined_2 : decode cX2_isJoined 2 = .ok (.invokevirtual 63, 3) := by decide +kernel
theorem dX2_isJoined_5 : decode cX2_isJoined 5 = .ok (.astore 4, 2) := by decide +kernel
theorem dX2_isJoined_7 : decode cX2_isJoined 7 = .ok (.aload_n 0, 1) := by decide +kernel
theorem dX2_isJoined_8 : decode cX2_isJoined 8 = .ok (.iload_n 2, 1) := by decide +kernel
theorem dX2_isJoined_9 : decode cX2_isJoined 9 = .ok (.invokevirtual 63, 3) := by decide +kernel
theorem dX2_isJoined_12 : decode cX2_isJoined 12 = .ok (.astore 5, 2) := by decide +kernel
theorem dX2_isJoined_14 : decode cX2_isJoined 14 = .ok (.aload 4, 2) := by decide +kernel
theorem dX2_isJoined_16 : decode cX2_isJoined 16 = .ok (.ifnull 18, 3) := by decide +kernel
theorem dX2_isJoined_19 : decode cX2_isJoined 19 = .ok (.aload 5, 2) := by decide +kernel
theorem dX2_isJoined_21 : decode cX2_isJoined 21 = .ok (.ifnull 13, 3) := by decide +kernel
theorem dX2_isJoined_24 : decode cX2_isJoined 24 = .ok (.aload 4, 2) := by decide +kernel
theorem dX2_isJoined_26 : decode cX2_isJoined 26 = .ok (.aload 5, 2) := by decide +kernel
theorem dX2_isJoined_28 : decode cX2_isJoined 28 = .ok (.invokevirtual 67, 3) := by decide +kernel
theorem dX2_isJoined_31 : decode cX2_isJoined 31 = .ok (.ifCond .ne 5, 3) := by decide +kernel
theorem dX2_isJoined_34 : decode cX2_isJoined 34 = .ok (.iconst 0, 1) := by decide +kernel
theorem dX2_isJoined_35 : decode cX2_isJoined 35 = .ok (.ireturn, 1) := by decide +kernel
theorem dX2_isJoined_36 : decode cX2_isJoined 36 = .ok (.aload_n 0, 1) := by decide +kernel
theorem dX2_isJoined_37 : decode cX2_isJoined 37 = .ok (.iload_n 1, 1) := by decide +kernel
theorem dX2_isJoined_38 : decode cX2_isJoined 38 = .ok (.iload_n 2, 1) := by decide +kernel
theorem dX2_isJoined_39 : decode cX2_isJoined 39 = .ok (.invokevirtual 51, 3) := by decide +kernel
theorem dX2_isJoined_42 : decode cX2_isJoined 42 = .ok (.istore 6, 2) := by decide +kernel
theorem dX2_isJoined_44 : decode cX2_isJoined 44 = .ok (.iload 6, 2) := by decide +kernel
theorem dX2_isJoined_46 : decode cX2_isJoined 46 = .ok (.iconst (-1), 1) := by decide +kernel
theorem dX2_isJoined_47 : decode cX2_isJoined 47 = .ok (.if_icmp .eq 29, 3) := by decide +kernel
theorem dX2_isJoined_50 : decode cX2_isJoined 50 = .ok (.aload_n 0, 1) := by decide +kernel
theorem dX2_isJoined_51 : decode cX2_isJoined 51 = .ok (.getfield 21, 3) := by decide +kernel
theorem dX2_isJoined_54 : decode cX2_isJoined 54 = .ok (.iload 6, 2) := by decide +kernel
theorem dX2_isJoined_56 : decode cX2_isJoined 56 = .ok (.iaload, 1) := by decide +kernel
theorem dX2_isJoined_57 : decode cX2_isJoined 57 = .ok (.iconst (-1), 1) := by decide +kernel
theorem dX2_isJoined_58 : decode cX2_isJoined 58 = .ok (.if_icmp .eq 14, 3) := by decide +kernel
theorem dX2_isJoined_61 : decode cX2_isJoined 61 = .ok (.aload_n 0, 1) := by decide +kernel
theorem dX2_isJoined_62 : decode cX2_isJoined 62 = .ok (.getfield 21, 3) := by decide +kernel
theorem dX2_isJoined_65 : decode cX2_isJoined 65 = .ok (.iload 6, 2) := by decide +kernel
theorem dX2_isJoined_67 : decode cX2_isJoined 67 = .ok (.iaload, 1) := by decide +kernel
theorem dX2_isJoined_68 : decode cX2_isJoined 68 = .ok (.iload_n 3, 1) := by decide +kernel
theorem dX2_isJoined_69 : decode cX2_isJoined 69 = .ok (.if_icmp .le 7, 3) := by decide +kernel
theorem dX2_isJoined_72 : decode cX2_isJoined 72 = .ok (.iconst 1, 1) := by decide +kernel
theorem dX2_isJoined_73 : decode cX2_isJoined 73 = .ok (.goto 4, 3) := by decide +kernel
theorem dX2_isJoined_76 : decode cX2_isJoined 76 = .ok (.iconst 0, 1) := by decide +kernel
theorem dX2_isJoined_77 : decode cX2_isJoined 77 = .ok (.ireturn, 1) := by decide +kernel
set_option maxRecDepth 20000 in
theorem ggX2_gatherHoards_J7_fill_53178 : GoodIn wsX2_gatherHoards wsJ7_fill_53178 := goodIn_r _ [6] (by decide +kernel) (by decide +kernel)
set_option maxRecDepth 20000 in
theorem gX2_gatherHoards_J7_fill_53178 : GoodIn wsX2_gatherHoards (va_wsS RX2 37 yJ7_fill_53178 wsJ7_fill_53178) := goodIn_app (goodIn_of _ (by decide +kernel)) ggX2_gatherHoards_J7_fill_53178
set_option maxRecDepth 20000 in
theorem ggX2_gatherHoards_X2_knownBy : GoodIn wsX2_gatherHoards wsX2_knownBy := goodIn_r _ [11, 12, 13, 14, 15, 16, 10, 17, 18, 19, 20, 21, 22, 56, 57, 58, 59, 60, 61, 62, 63, 64, 65, 66, 67, 68, 69, 70, 71, 72, 73] (by decide +kernel) (by decide +kernel)
set_option maxRecDepth 20000 in
theorem gX2_gatherHoards_X2_knownBy : GoodIn wsX2_gatherHoards (wsV RX2 71 RX2 yX2_knownBy wsX2_knownBy) := goodIn_app (goodIn_of _ (by decide +kernel)) ggX2_gatherHoards_X2_knownBy
set_option maxRecDepth 20000 in
theorem ggX2_gatherHoards_X2_gatherFrom : GoodIn wsX2_gatherHoards wsX2_gatherFrom := goodIn_r _ [26, 1, 27, 28, 29, 30, 10, 31, 32, 14, 15, 16, 17, 18, 19, 20, 21, 22, 12, 33, 34, 35, 36, 37, 38, 39, 40, 41, 42, 43, 44, 45, 46, 47, 48, 49, 50, 51, 52, 53, 54, 55, 56, 57, 58, 59, 60, 61, 62, 63, 64, 65, 66, 67, 68, 69, 70, 71, 72, 73] (by decide +kernel) (by decide +kernel)
set_option maxRecDepth 20000 in
theorem gX2_gatherHoards_X2_gatherFrom : GoodIn wsX2_gatherHoards (wsV RX2 75 RX2 yX2_gatherFrom wsX2_gatherFrom) := goodIn_app (goodIn_of _ (by decide +kernel)) ggX2_gatherHoards_X2_gatherFrom
theorem dX2_gatherHoards_0 : decode cX2_gatherHoards 0 = .ok (.aload_n 0, 1) := by decide +kernel
theorem dX2_gatherHoards_1 : decode cX2_gatherHoards 1 = .ok (.getfield 28, 3) := by decide +kernel
theorem dX2_gatherHoards_4 : decode cX2_gatherHoards 4 = .ok (.iconst (-1), 1) := by decide +kernel
theorem dX2_gatherHoards_5 : decode cX2_gatherHoards 5 = .ok (.invokestatic 37, 3) := by decide +kernel
theorem dX2_gatherHoards_8 : decode cX2_gatherHoards 8 = .ok (.aload_n 0, 1) := by decide +kernel
theorem dX2_gatherHoards_9 : decode cX2_gatherHoards 9 = .ok (.iload_n 1, 1) := by decide +kernel
theorem dX2_gatherHoards_10 : decode cX2_gatherHoards 10 = .ok (.invokevirtual 71, 3) := by decide +kernel
theorem dX2_gatherHoards_13 : decode cX2_gatherHoards 13 = .ok (.istore_n 2, 1) := by decide +kernel
theorem dX2_gatherHoards_14 : decode cX2_gatherHoards 14 = .ok (.iconst 0, 1) := by decide +kernel
theorem dX2_gatherHoards_15 : decode cX2_gatherHoards 15 = .ok (.istore_n 3, 1) := by decide +kernel
theorem dX2_gatherHoards_16 : decode cX2_gatherHoards 16 = .ok (.iload_n 3, 1) := by decide +kernel
theorem dX2_gatherHoards_17 : decode cX2_gatherHoards 17 = .ok (.iload_n 2, 1) := by decide +kernel
theorem dX2_gatherHoards_18 : decode cX2_gatherHoards 18 = .ok (.if_icmp .ge 38, 3) := by decide +kernel
theorem dX2_gatherHoards_21 : decode cX2_gatherHoards 21 = .ok (.iload_n 3, 1) := by decide +kernel
theorem dX2_gatherHoards_22 : decode cX2_gatherHoards 22 = .ok (.bipush 50, 2) := by decide +kernel
theorem dX2_gatherHoards_24 : decode cX2_gatherHoards 24 = .ok (.if_icmp .ge 32, 3) := by decide +kernel
theorem dX2_gatherHoards_27 : decode cX2_gatherHoards 27 = .ok (.aload_n 0, 1) := by decide +kernel
theorem dX2_gatherHoards_28 : decode cX2_gatherHoards 28 = .ok (.getfield 28, 3) := by decide +kernel
theorem dX2_gatherHoards_31 : decode cX2_gatherHoards 31 = .ok (.iload_n 3, 1) := by decide +kernel
theorem dX2_gatherHoards_32 : decode cX2_gatherHoards 32 = .ok (.iaload, 1) := by decide +kernel
theorem dX2_gatherHoards_33 : decode cX2_gatherHoards 33 = .ok (.iconst (-1), 1) := by decide +kernel
theorem dX2_gatherHoards_34 : decode cX2_gatherHoards 34 = .ok (.if_icmp .ne 16, 3) := by decide +kernel
theorem dX2_gatherHoards_37 : decode cX2_gatherHoards 37 = .ok (.aload_n 0, 1) := by decide +kernel
theorem dX2_gatherHoards_38 : decode cX2_gatherHoards 38 = .ok (.getfield 31, 3) := by decide +kernel
theorem dX2_gatherHoards_41 : decode cX2_gatherHoards 41 = .ok (.iload_n 3, 1) := by decide +kernel
theorem dX2_gatherHoards_42 : decode cX2_gatherHoards 42 = .ok (.aload_n 0, 1) := by decide +kernel
theorem dX2_gatherHoards_43 : decode cX2_gatherHoards 43 = .ok (.iload_n 3, 1) := by decide +kernel
theorem dX2_gatherHoards_44 : decode cX2_gatherHoards 44 = .ok (.iload_n 2, 1) := by decide +kernel
theorem dX2_gatherHoards_45 : decode cX2_gatherHoards 45 = .ok (.iload_n 1, 1) := by decide +kernel
theorem dX2_gatherHoards_46 : decode cX2_gatherHoards 46 = .ok (.invokevirtual 75, 3) := by decide +kernel
theorem dX2_gatherHoards_49 : decode cX2_gatherHoards 49 = .ok (.iastore, 1) := by decide +kernel
theorem dX2_gatherHoards_50 : decode cX2_gatherHoards 50 = .ok (.iinc 3 1, 3) := by decide +kernel
theorem dX2_gatherHoards_53 : decode cX2_gatherHoards 53 = .ok (.goto (-37), 3) := by decide +kernel
theorem dX2_gatherHoards_56 : decode cX2_gatherHoards 56 = .ok (.return_, 1) := by decide +kernel
set_option maxRecDepth 20000 in
theorem ggX2_knownBy_X2_numbered : GoodIn wsX2_knownBy wsX2_numbered := goodIn_r _ [7, 8, 9, 10, 11, 6, 12, 1, 13, 14, 15, 16, 17, 18, 19] (by decide +kernel) (by decide +kernel)
set_option maxRecDepth 20000 in
theorem gX2_knownBy_X2_numbered : GoodIn wsX2_knownBy (wsV RX2 63 RX2 yX2_numbered wsX2_numbered) := goodIn_app (goodIn_of _ (by decide +kernel)) ggX2_knownBy_X2_numbered
theorem dX2_knownBy_0 : decode cX2_knownBy 0 = .ok (.iconst 0, 1) := by decide +kernel
theorem dX2_knownBy_1 : decode cX2_knownBy 1 = .ok (.istore_n 2, 1) := by decide +kernel
theorem dX2_knownBy_2 : decode cX2_knownBy 2 = .ok (.iconst 0, 1) := by decide +kernel
theorem dX2_knownBy_3 : decode cX2_knownBy 3 = .ok (.istore_n 3, 1) := by decide +kernel
theorem dX2_knownBy_4 : decode cX2_knownBy 4 = .ok (.iload_n 3, 1) := by decide +kernel
theorem dX2_knownBy_5 : decode cX2_knownBy 5 = .ok (.aload_n 0, 1) := by decide +kernel
theorem dX2_knownBy_6 : decode cX2_knownBy 6 = .ok (.getfield 17, 3) := by decide +kernel
theorem dX2_knownBy_9 : decode cX2_knownBy 9 = .ok (.if_icmp .ge 34, 3) := by decide +kernel
theorem dX2_knownBy_12 : decode cX2_knownBy 12 = .ok (.aload_n 0, 1) := by decide +kernel
theorem dX2_knownBy_13 : decode cX2_knownBy 13 = .ok (.iload_n 3, 1) := by decide +kernel
theorem dX2_knownBy_14 : decode cX2_knownBy 14 = .ok (.invokevirtual 63, 3) := by decide +kernel
theorem dX2_knownBy_17 : decode cX2_knownBy 17 = .ok (.astore 4, 2) := by decide +kernel
theorem dX2_knownBy_19 : decode cX2_knownBy 19 = .ok (.aload 4, 2) := by decide +kernel
theorem dX2_knownBy_21 : decode cX2_knownBy 21 = .ok (.ifnull 16, 3) := by decide +kernel
theorem dX2_knownBy_24 : decode cX2_knownBy 24 = .ok (.aload 4, 2) := by decide +kernel
theorem dX2_knownBy_26 : decode cX2_knownBy 26 = .ok (.getfield 79, 3) := by decide +kernel
theorem dX2_knownBy_29 : decode cX2_knownBy 29 = .ok (.iload_n 1, 1) := by decide +kernel
theorem dX2_knownBy_30 : decode cX2_knownBy 30 = .ok (.if_icmp .gt 7, 3) := by decide +kernel
theorem dX2_knownBy_33 : decode cX2_knownBy 33 = .ok (.iload_n 3, 1) := by decide +kernel
theorem dX2_knownBy_34 : decode cX2_knownBy 34 = .ok (.iconst 1, 1) := by decide +kernel
theorem dX2_knownBy_35 : decode cX2_knownBy 35 = .ok (.iadd, 1) := by decide +kernel
theorem dX2_knownBy_36 : decode cX2_knownBy 36 = .ok (.istore_n 2, 1) := by decide +kernel
theorem dX2_knownBy_37 : decode cX2_knownBy 37 = .ok (.iinc 3 1, 3) := by decide +kernel
theorem dX2_knownBy_40 : decode cX2_knownBy 40 = .ok (.goto (-36), 3) := by decide +kernel
theorem dX2_knownBy_43 : decode cX2_knownBy 43 = .ok (.iload_n 2, 1) := by decide +kernel
theorem dX2_knownBy_44 : decode cX2_knownBy 44 = .ok (.ireturn, 1) := by decide +kernel
set_option maxRecDepth 20000 in
theorem ggX2_gatherFrom_X2_isJoined : GoodIn wsX2_gatherFrom wsX2_isJoined := goodIn_r _ [7, 8, 9, 10, 11, 6, 12, 13, 14, 15, 16, 17, 18, 19, 20, 21, 22, 23, 24, 25, 26, 27, 28, 29, 30, 31, 32, 33, 34, 35, 36, 37, 38, 39, 40, 41, 42, 43, 44, 45, 46, 47, 48, 49, 50, 51, 52, 53, 54, 55, 56, 57, 58, 59] (by decide +kernel) (by decide +kernel)
set_option maxRecDepth 20000 in
theorem gX2_gatherFrom_X2_isJoined : GoodIn wsX2_gatherFrom (wsV RX2 82 RX2 yX2_isJoined wsX2_isJoined) := goodIn_app (goodIn_of _ (by decide +kernel)) ggX2_gatherFrom_X2_isJoined
theorem dX2_gatherFrom_0 : decode cX2_gatherFrom 0 = .ok (.aload_n 0, 1) := by decide +kernel
theorem dX2_gatherFrom_1 : decode cX2_gatherFrom 1 = .ok (.getfield 28, 3) := by decide +kernel
theorem dX2_gatherFrom_4 : decode cX2_gatherFrom 4 = .ok (.iload_n 1, 1) := by decide +kernel
theorem dX2_gatherFrom_5 : decode cX2_gatherFrom 5 = .ok (.iload_n 1, 1) := by decide +kernel
theorem dX2_gatherFrom_6 : decode cX2_gatherFrom 6 = .ok (.iastore, 1) := by decide +kernel
theorem dX2_gatherFrom_7 : decode cX2_gatherFrom 7 = .ok (.aload_n 0, 1) := by decide +kernel
theorem dX2_gatherFrom_8 : decode cX2_gatherFrom 8 = .ok (.getfield 34, 3) := by decide +kernel
theorem dX2_gatherFrom_11 : decode cX2_gatherFrom 11 = .ok (.iconst 0, 1) := by decide +kernel
theorem dX2_gatherFrom_12 : decode cX2_gatherFrom 12 = .ok (.iload_n 1, 1) := by decide +kernel
theorem dX2_gatherFrom_13 : decode cX2_gatherFrom 13 = .ok (.iastore, 1) := by decide +kernel
theorem dX2_gatherFrom_14 : decode cX2_gatherFrom 14 = .ok (.iconst 1, 1) := by decide +kernel
theorem dX2_gatherFrom_15 : decode cX2_gatherFrom 15 = .ok (.istore 4, 2) := by decide +kernel
theorem dX2_gatherFrom_17 : decode cX2_gatherFrom 17 = .ok (.iconst 0, 1) := by decide +kernel
theorem dX2_gatherFrom_18 : decode cX2_gatherFrom 18 = .ok (.istore 5, 2) := by decide +kernel
theorem dX2_gatherFrom_20 : decode cX2_gatherFrom 20 = .ok (.iload 5, 2) := by decide +kernel
theorem dX2_gatherFrom_22 : decode cX2_gatherFrom 22 = .ok (.iload 4, 2) := by decide +kernel
theorem dX2_gatherFrom_24 : decode cX2_gatherFrom 24 = .ok (.if_icmp .ge 107, 3) := by decide +kernel
theorem dX2_gatherFrom_27 : decode cX2_gatherFrom 27 = .ok (.iload 5, 2) := by decide +kernel
theorem dX2_gatherFrom_29 : decode cX2_gatherFrom 29 = .ok (.bipush 50, 2) := by decide +kernel
theorem dX2_gatherFrom_31 : decode cX2_gatherFrom 31 = .ok (.if_icmp .ge 100, 3) := by decide +kernel
theorem dX2_gatherFrom_34 : decode cX2_gatherFrom 34 = .ok (.iload_n 1, 1) := by decide +kernel
theorem dX2_gatherFrom_35 : decode cX2_gatherFrom 35 = .ok (.iconst 1, 1) := by decide +kernel
theorem dX2_gatherFrom_36 : decode cX2_gatherFrom 36 = .ok (.iadd, 1) := by decide +kernel
theorem dX2_gatherFrom_37 : decode cX2_gatherFrom 37 = .ok (.istore 6, 2) := by decide +kernel
theorem dX2_gatherFrom_39 : decode cX2_gatherFrom 39 = .ok (.iload 6, 2) := by decide +kernel
theorem dX2_gatherFrom_41 : decode cX2_gatherFrom 41 = .ok (.iload_n 2, 1) := by decide +kernel
theorem dX2_gatherFrom_42 : decode cX2_gatherFrom 42 = .ok (.if_icmp .ge 83, 3) := by decide +kernel
theorem dX2_gatherFrom_45 : decode cX2_gatherFrom 45 = .ok (.iload 6, 2) := by decide +kernel
theorem dX2_gatherFrom_47 : decode cX2_gatherFrom 47 = .ok (.bipush 50, 2) := by decide +kernel
theorem dX2_gatherFrom_49 : decode cX2_gatherFrom 49 = .ok (.if_icmp .ge 76, 3) := by decide +kernel
theorem dX2_gatherFrom_52 : decode cX2_gatherFrom 52 = .ok (.aload_n 0, 1) := by decide +kernel
theorem dX2_gatherFrom_53 : decode cX2_gatherFrom 53 = .ok (.getfield 28, 3) := by decide +kernel
theorem dX2_gatherFrom_56 : decode cX2_gatherFrom 56 = .ok (.iload 6, 2) := by decide +kernel
theorem dX2_gatherFrom_58 : decode cX2_gatherFrom 58 = .ok (.iaload, 1) := by decide +kernel
theorem dX2_gatherFrom_59 : decode cX2_gatherFrom 59 = .ok (.iconst (-1), 1) := by decide +kernel
theorem dX2_gatherFrom_60 : decode cX2_gatherFrom 60 = .ok (.if_icmp .ne 14, 3) := by decide +kernel
theorem dX2_gatherFrom_63 : decode cX2_gatherFrom 63 = .ok (.iload 4, 2) := by decide +kernel
theorem dX2_gatherFrom_65 : decode cX2_gatherFrom 65 = .ok (.bipush 50, 2) := by decide +kernel
theorem dX2_gatherFrom_67 : decode cX2_gatherFrom 67 = .ok (.if_icmp .ge 7, 3) := by decide +kernel
theorem dX2_gatherFrom_70 : decode cX2_gatherFrom 70 = .ok (.iconst 1, 1) := by decide +kernel
theorem dX2_gatherFrom_71 : decode cX2_gatherFrom 71 = .ok (.goto 4, 3) := by decide +kernel
theorem dX2_gatherFrom_74 : decode cX2_gatherFrom 74 = .ok (.iconst 0, 1) := by decide +kernel
theorem dX2_gatherFrom_75 : decode cX2_gatherFrom 75 = .ok (.istore 7, 2) := by decide +kernel
theorem dX2_gatherFrom_77 : decode cX2_gatherFrom 77 = .ok (.iload 7, 2) := by decide +kernel
theorem dX2_gatherFrom_79 : decode cX2_gatherFrom 79 = .ok (.ifCond .eq 40, 3) := by decide +kernel
theorem dX2_gatherFrom_82 : decode cX2_gatherFrom 82 = .ok (.aload_n 0, 1) := by decide +kernel
theorem dX2_gatherFrom_83 : decode cX2_gatherFrom 83 = .ok (.aload_n 0, 1) := by decide +kernel
theorem dX2_gatherFrom_84 : decode cX2_gatherFrom 84 = .ok (.getfield 34, 3) := by decide +kernel
theorem dX2_gatherFrom_87 : decode cX2_gatherFrom 87 = .ok (.iload 5, 2) := by decide +kernel
theorem dX2_gatherFrom_89 : decode cX2_gatherFrom 89 = .ok (.iaload, 1) := by decide +kernel
theorem dX2_gatherFrom_90 : decode cX2_gatherFrom 90 = .ok (.iload 6, 2) := by decide +kernel
theorem dX2_gatherFrom_92 : decode cX2_gatherFrom 92 = .ok (.iload_n 3, 1) := by decide +kernel
theorem dX2_gatherFrom_93 : decode cX2_gatherFrom 93 = .ok (.invokevirtual 82, 3) := by decide +kernel
theorem dX2_gatherFrom_96 : decode cX2_gatherFrom 96 = .ok (.ifCond .eq 23, 3) := by decide +kernel
theorem dX2_gatherFrom_99 : decode cX2_gatherFrom 99 = .ok (.aload_n 0, 1) := by decide +kernel
theorem dX2_gatherFrom_100 : decode cX2_gatherFrom 100 = .ok (.getfield 28, 3) := by decide +kernel
theorem dX2_gatherFrom_103 : decode cX2_gatherFrom 103 = .ok (.iload 6, 2) := by decide +kernel
theorem dX2_gatherFrom_105 : decode cX2_gatherFrom 105 = .ok (.iload_n 1, 1) := by decide +kernel
theorem dX2_gatherFrom_106 : decode cX2_gatherFrom 106 = .ok (.iastore, 1) := by decide +kernel
theorem dX2_gatherFrom_107 : decode cX2_gatherFrom 107 = .ok (.aload_n 0, 1) := by decide +kernel
theorem dX2_gatherFrom_108 : decode cX2_gatherFrom 108 = .ok (.getfield 34, 3) := by decide +kernel
theorem dX2_gatherFrom_111 : decode cX2_gatherFrom 111 = .ok (.iload 4, 2) := by decide +kernel
theorem dX2_gatherFrom_113 : decode cX2_gatherFrom 113 = .ok (.iload 6, 2) := by decide +kernel
theorem dX2_gatherFrom_115 : decode cX2_gatherFrom 115 = .ok (.iastore, 1) := by decide +kernel
theorem dX2_gatherFrom_116 : decode cX2_gatherFrom 116 = .ok (.iinc 4 1, 3) := by decide +kernel
theorem dX2_gatherFrom_119 : decode cX2_gatherFrom 119 = .ok (.iinc 6 1, 3) := by decide +kernel
theorem dX2_gatherFrom_122 : decode cX2_gatherFrom 122 = .ok (.goto (-83), 3) := by decide +kernel
theorem dX2_gatherFrom_125 : decode cX2_gatherFrom 125 = .ok (.iinc 5 1, 3) := by decide +kernel
theorem dX2_gatherFrom_128 : decode cX2_gatherFrom 128 = .ok (.goto (-108), 3) := by decide +kernel
theorem dX2_gatherFrom_131 : decode cX2_gatherFrom 131 = .ok (.iload 4, 2) := by decide +kernel
theorem dX2_gatherFrom_133 : decode cX2_gatherFrom 133 = .ok (.ireturn, 1) := by decide +kernel
set_option maxRecDepth 20000 in
theorem ggX2_hoardNumber_X2_isTold : GoodIn wsX2_hoardNumber wsX2_isTold := goodIn_r _ [6, 7, 8, 9, 10, 11, 12, 13, 14] (by decide +kernel) (by decide +kernel)
set_option maxRecDepth 20000 in
theorem gX2_hoardNumber_X2_isTold : GoodIn wsX2_hoardNumber (wsV RX2 47 RX2 yX2_isTold wsX2_isTold) := goodIn_app (goodIn_of _ (by decide +kernel)) ggX2_hoardNumber_X2_isTold
theorem dX2_hoardNumber_0 : decode cX2_hoardNumber 0 = .ok (.aload_n 0, 1) := by decide +kernel
theorem dX2_hoardNumber_1 : decode cX2_hoardNumber 1 = .ok (.iload_n 1, 1) := by decide +kernel
theorem dX2_hoardNumber_2 : decode cX2_hoardNumber 2 = .ok (.invokevirtual 47, 3) := by decide +kernel
theorem dX2_hoardNumber_5 : decode cX2_hoardNumber 5 = .ok (.ifCond .eq 12, 3) := by decide +kernel
theorem dX2_hoardNumber_8 : decode cX2_hoardNumber 8 = .ok (.aload_n 0, 1) := by decide +kernel
theorem dX2_hoardNumber_9 : decode cX2_hoardNumber 9 = .ok (.getfield 28, 3) := by decide +kernel
theorem dX2_hoardNumber_12 : decode cX2_hoardNumber 12 = .ok (.iload_n 1, 1) := by decide +kernel
theorem dX2_hoardNumber_13 : decode cX2_hoardNumber 13 = .ok (.iaload, 1) := by decide +kernel
theorem dX2_hoardNumber_14 : decode cX2_hoardNumber 14 = .ok (.goto 4, 3) := by decide +kernel
theorem dX2_hoardNumber_17 : decode cX2_hoardNumber 17 = .ok (.iconst (-1), 1) := by decide +kernel
theorem dX2_hoardNumber_18 : decode cX2_hoardNumber 18 = .ok (.ireturn, 1) := by decide +kernel
set_option maxRecDepth 20000 in
theorem ggX2_hoardSize_X2_isTold : GoodIn wsX2_hoardSize wsX2_isTold := goodIn_r _ [7, 8, 9, 10, 11, 12, 13, 14, 15] (by decide +kernel) (by decide +kernel)
set_option maxRecDepth 20000 in
theorem gX2_hoardSize_X2_isTold : GoodIn wsX2_hoardSize (wsV RX2 47 RX2 yX2_isTold wsX2_isTold) := goodIn_app (goodIn_of _ (by decide +kernel)) ggX2_hoardSize_X2_isTold
theorem dX2_hoardSize_0 : decode cX2_hoardSize 0 = .ok (.aload_n 0, 1) := by decide +kernel
theorem dX2_hoardSize_1 : decode cX2_hoardSize 1 = .ok (.iload_n 1, 1) := by decide +kernel
theorem dX2_hoardSize_2 : decode cX2_hoardSize 2 = .ok (.invokevirtual 47, 3) := by decide +kernel
theorem dX2_hoardSize_5 : decode cX2_hoardSize 5 = .ok (.ifCond .eq 12, 3) := by decide +kernel
theorem dX2_hoardSize_8 : decode cX2_hoardSize 8 = .ok (.aload_n 0, 1) := by decide +kernel
theorem dX2_hoardSize_9 : decode cX2_hoardSize 9 = .ok (.getfield 28, 3) := by decide +kernel
theorem dX2_hoardSize_12 : decode cX2_hoardSize 12 = .ok (.iload_n 1, 1) := by decide +kernel
theorem dX2_hoardSize_13 : decode cX2_hoardSize 13 = .ok (.iaload, 1) := by decide +kernel
theorem dX2_hoardSize_14 : decode cX2_hoardSize 14 = .ok (.goto 4, 3) := by decide +kernel
theorem dX2_hoardSize_17 : decode cX2_hoardSize 17 = .ok (.iconst (-1), 1) := by decide +kernel
theorem dX2_hoardSize_18 : decode cX2_hoardSize 18 = .ok (.istore_n 2, 1) := by decide +kernel
theorem dX2_hoardSize_19 : decode cX2_hoardSize 19 = .ok (.aload_n 0, 1) := by decide +kernel
theorem dX2_hoardSize_20 : decode cX2_hoardSize 20 = .ok (.iload_n 2, 1) := by decide +kernel
theorem dX2_hoardSize_21 : decode cX2_hoardSize 21 = .ok (.invokevirtual 47, 3) := by decide +kernel
theorem dX2_hoardSize_24 : decode cX2_hoardSize 24 = .ok (.ifCond .eq 12, 3) := by decide +kernel
theorem dX2_hoardSize_27 : decode cX2_hoardSize 27 = .ok (.aload_n 0, 1) := by decide +kernel
theorem dX2_hoardSize_28 : decode cX2_hoardSize 28 = .ok (.getfield 31, 3) := by decide +kernel
theorem dX2_hoardSize_31 : decode cX2_hoardSize 31 = .ok (.iload_n 2, 1) := by decide +kernel
theorem dX2_hoardSize_32 : decode cX2_hoardSize 32 = .ok (.iaload, 1) := by decide +kernel
theorem dX2_hoardSize_33 : decode cX2_hoardSize 33 = .ok (.goto 4, 3) := by decide +kernel
theorem dX2_hoardSize_36 : decode cX2_hoardSize 36 = .ok (.iconst (-1), 1) := by decide +kernel
theorem dX2_hoardSize_37 : decode cX2_hoardSize 37 = .ok (.ireturn, 1) := by decide +kernel
set_option maxRecDepth 20000 in
theorem ggX2_tally_X2_numbered : GoodIn wsX2_tally wsX2_numbered := goodIn_r _ [8, 9, 10, 11, 12, 7, 13, 1, 17, 18, 19, 20, 21, 22, 23] (by decide +kernel) (by decide +kernel)
set_option maxRecDepth 20000 in
theorem gX2_tally_X2_numbered : GoodIn wsX2_tally (wsV RX2 63 RX2 yX2_numbered wsX2_numbered) := goodIn_app (goodIn_of _ (by decide +kernel)) ggX2_tally_X2_numbered
set_option maxRecDepth 20000 in
theorem ggX2_tally_X9_isBetween : GoodIn wsX2_tally wsX9_isBetween := goodIn_r _ [16] (by decide +kernel) (by decide +kernel)
set_option maxRecDepth 20000 in
theorem gX2_tally_X9_isBetween_n89 : GoodIn wsX2_tally (wsX9_isBetween) := ggX2_tally_X9_isBetween
theorem dX2_tally_0 : decode cX2_tally 0 = .ok (.iconst 0, 1) := by decide +kernel
theorem dX2_tally_1 : decode cX2_tally 1 = .ok (.istore 5, 2) := by decide +kernel
theorem dX2_tally_3 : decode cX2_tally 3 = .ok (.iconst 0, 1) := by decide +kernel
theorem dX2_tally_4 : decode cX2_tally 4 = .ok (.istore 6, 2) := by decide +kernel
theorem dX2_tally_6 : decode cX2_tally 6 = .ok (.iload 6, 2) := by decide +kernel
theorem dX2_tally_8 : decode cX2_tally 8 = .ok (.aload_n 0, 1) := by decide +kernel
theorem dX2_tally_9 : decode cX2_tally 9 = .ok (.getfield 17, 3) := by decide +kernel
theorem dX2_tally_12 : decode cX2_tally 12 = .ok (.if_icmp .ge 56, 3) := by decide +kernel
theorem dX2_tally_15 : decode cX2_tally 15 = .ok (.aload_n 0, 1) := by decide +kernel
theorem dX2_tally_16 : decode cX2_tally 16 = .ok (.iload 6, 2) := by decide +kernel
theorem dX2_tally_18 : decode cX2_tally 18 = .ok (.invokevirtual 63, 3) := by decide +kernel
theorem dX2_tally_21 : decode cX2_tally 21 = .ok (.astore 7, 2) := by decide +kernel
theorem dX2_tally_23 : decode cX2_tally 23 = .ok (.aload 7, 2) := by decide +kernel
theorem dX2_tally_25 : decode cX2_tally 25 = .ok (.ifnull 37, 3) := by decide +kernel
theorem dX2_tally_28 : decode cX2_tally 28 = .ok (.aload 7, 2) := by decide +kernel
theorem dX2_tally_30 : decode cX2_tally 30 = .ok (.getfield 86, 3) := by decide +kernel
theorem dX2_tally_33 : decode cX2_tally 33 = .ok (.iload_n 1, 1) := by decide +kernel
theorem dX2_tally_34 : decode cX2_tally 34 = .ok (.iload_n 2, 1) := by decide +kernel
theorem dX2_tally_35 : decode cX2_tally 35 = .ok (.iconst 1, 1) := by decide +kernel
theorem dX2_tally_36 : decode cX2_tally 36 = .ok (.isub, 1) := by decide +kernel
theorem dX2_tally_37 : decode cX2_tally 37 = .ok (.invokestatic 89, 3) := by decide +kernel
theorem dX2_tally_40 : decode cX2_tally 40 = .ok (.ifCond .eq 22, 3) := by decide +kernel
theorem dX2_tally_43 : decode cX2_tally 43 = .ok (.aload 7, 2) := by decide +kernel
theorem dX2_tally_45 : decode cX2_tally 45 = .ok (.getfield 92, 3) := by decide +kernel
theorem dX2_tally_48 : decode cX2_tally 48 = .ok (.iload_n 3, 1) := by decide +kernel
theorem dX2_tally_49 : decode cX2_tally 49 = .ok (.iload 4, 2) := by decide +kernel
theorem dX2_tally_51 : decode cX2_tally 51 = .ok (.iconst 1, 1) := by decide +kernel
theorem dX2_tally_52 : decode cX2_tally 52 = .ok (.isub, 1) := by decide +kernel
theorem dX2_tally_53 : decode cX2_tally 53 = .ok (.invokestatic 89, 3) := by decide +kernel
theorem dX2_tally_56 : decode cX2_tally 56 = .ok (.ifCond .eq 6, 3) := by decide +kernel
theorem dX2_tally_59 : decode cX2_tally 59 = .ok (.iinc 5 1, 3) := by decide +kernel
theorem dX2_tally_62 : decode cX2_tally 62 = .ok (.iinc 6 1, 3) := by decide +kernel
theorem dX2_tally_65 : decode cX2_tally 65 = .ok (.goto (-59), 3) := by decide +kernel
theorem dX2_tally_68 : decode cX2_tally 68 = .ok (.iload 5, 2) := by decide +kernel
theorem dX2_tally_70 : decode cX2_tally 70 = .ok (.ireturn, 1) := by decide +kernel
theorem dX3_init_0 : decode cX3_init 0 = .ok (.aload_n 0, 1) := by decide +kernel
theorem dX3_init_1 : decode cX3_init 1 = .ok (.invokespecial 3, 3) := by decide +kernel
theorem dX3_init_4 : decode cX3_init 4 = .ok (.aload_n 0, 1) := by decide +kernel
theorem dX3_init_5 : decode cX3_init 5 = .ok (.bipush 100, 2) := by decide +kernel
theorem dX3_init_7 : decode cX3_init 7 = .ok (.newarray .int, 2) := by decide +kernel
theorem dX3_init_9 : decode cX3_init 9 = .ok (.putfield 11, 3) := by decide +kernel
theorem dX3_init_12 : decode cX3_init 12 = .ok (.aload_n 0, 1) := by decide +kernel
theorem dX3_init_13 : decode cX3_init 13 = .ok (.bipush 100, 2) := by decide +kernel
theorem dX3_init_15 : decode cX3_init 15 = .ok (.newarray .int, 2) := by decide +kernel
theorem dX3_init_17 : decode cX3_init 17 = .ok (.putfield 15, 3) := by decide +kernel
theorem dX3_init_20 : decode cX3_init 20 = .ok (.aload_n 0, 1) := by decide +kernel
theorem dX3_init_21 : decode cX3_init 21 = .ok (.bipush 100, 2) := by decide +kernel
theorem dX3_init_23 : decode cX3_init 23 = .ok (.newarray .int, 2) := by decide +kernel
theorem dX3_init_25 : decode cX3_init 25 = .ok (.putfield 18, 3) := by decide +kernel
theorem dX3_init_28 : decode cX3_init 28 = .ok (.aload_n 0, 1) := by decide +kernel
theorem dX3_init_29 : decode cX3_init 29 = .ok (.iconst 0, 1) := by decide +kernel
theorem dX3_init_30 : decode cX3_init 30 = .ok (.putfield 21, 3) := by decide +kernel
theorem dX3_init_33 : decode cX3_init 33 = .ok (.return_, 1) := by decide +kernel
set_option maxRecDepth 20000 in
theorem ggX3_enter_X9_isBetween : GoodIn wsX3_enter wsX9_isBetween := goodIn_r _ [7] (by decide +kernel) (by decide +kernel)
set_option maxRecDepth 20000 in
theorem gX3_enter_X9_isBetween_n25 : GoodIn wsX3_enter (wsX9_isBetween) := ggX3_enter_X9_isBetween
set_option maxRecDepth 20000 in
theorem ggX3_enter_X9_isDay : GoodIn wsX3_enter wsX9_isDay := goodIn_r _ [9, 10, 5, 6, 7] (by decide +kernel) (by decide +kernel)
set_option maxRecDepth 20000 in
theorem gX3_enter_X9_isDay_n29 : GoodIn wsX3_enter (wsX9_isDay) := ggX3_enter_X9_isDay
set_option maxRecDepth 20000 in
theorem ggX3_enter_X9_isPerson : GoodIn wsX3_enter wsX9_isPerson := goodIn_r _ [12, 10, 5, 6, 7] (by decide +kernel) (by decide +kernel)
set_option maxRecDepth 20000 in
theorem gX3_enter_X9_isPerson_n33 : GoodIn wsX3_enter (wsX9_isPerson) := ggX3_enter_X9_isPerson
theorem dX3_enter_0 : decode cX3_enter 0 = .ok (.iload_n 1, 1) := by decide +kernel
theorem dX3_enter_1 : decode cX3_enter 1 = .ok (.iconst 0, 1) := by decide +kernel
theorem dX3_enter_2 : decode cX3_enter 2 = .ok (.bipush 99, 2) := by decide +kernel
theorem dX3_enter_4 : decode cX3_enter 4 = .ok (.invokestatic 25, 3) := by decide +kernel
theorem dX3_enter_7 : decode cX3_enter 7 = .ok (.ifCond .eq 21, 3) := by decide +kernel
theorem dX3_enter_10 : decode cX3_enter 10 = .ok (.iload_n 2, 1) := by decide +kernel
theorem dX3_enter_11 : decode cX3_enter 11 = .ok (.invokestatic 29, 3) := by decide +kernel
theorem dX3_enter_14 : decode cX3_enter 14 = .ok (.ifCond .eq 14, 3) := by decide +kernel
theorem dX3_enter_17 : decode cX3_enter 17 = .ok (.iload_n 3, 1) := by decide +kernel
theorem dX3_enter_18 : decode cX3_enter 18 = .ok (.invokestatic 33, 3) := by decide +kernel
theorem dX3_enter_21 : decode cX3_enter 21 = .ok (.ifCond .eq 7, 3) := by decide +kernel
theorem dX3_enter_24 : decode cX3_enter 24 = .ok (.iconst 1, 1) := by decide +kernel
theorem dX3_enter_25 : decode cX3_enter 25 = .ok (.goto 4, 3) := by decide +kernel
theorem dX3_enter_28 : decode cX3_enter 28 = .ok (.iconst 0, 1) := by decide +kernel
theorem dX3_enter_29 : decode cX3_enter 29 = .ok (.istore 4, 2) := by decide +kernel
theorem dX3_enter_31 : decode cX3_enter 31 = .ok (.aload_n 0, 1) := by decide +kernel
theorem dX3_enter_32 : decode cX3_enter 32 = .ok (.getfield 21, 3) := by decide +kernel
theorem dX3_enter_35 : decode cX3_enter 35 = .ok (.bipush 100, 2) := by decide +kernel
theorem dX3_enter_37 : decode cX3_enter 37 = .ok (.if_icmp .ge 8, 3) := by decide +kernel
theorem dX3_enter_40 : decode cX3_enter 40 = .ok (.iload 4, 2) := by decide +kernel
theorem dX3_enter_42 : decode cX3_enter 42 = .ok (.ifCond .ne 5, 3) := by decide +kernel
theorem dX3_enter_45 : decode cX3_enter 45 = .ok (.iconst 0, 1) := by decide +kernel
theorem dX3_enter_46 : decode cX3_enter 46 = .ok (.ireturn, 1) := by decide +kernel
theorem dX3_enter_47 : decode cX3_enter 47 = .ok (.aload_n 0, 1) := by decide +kernel
theorem dX3_enter_48 : decode cX3_enter 48 = .ok (.getfield 11, 3) := by decide +kernel
theorem dX3_enter_51 : decode cX3_enter 51 = .ok (.aload_n 0, 1) := by decide +kernel
theorem dX3_enter_52 : decode cX3_enter 52 = .ok (.getfield 21, 3) := by decide +kernel
theorem dX3_enter_55 : decode cX3_enter 55 = .ok (.iload_n 1, 1) := by decide +kernel
theorem dX3_enter_56 : decode cX3_enter 56 = .ok (.iastore, 1) := by decide +kernel
theorem dX3_enter_57 : decode cX3_enter 57 = .ok (.aload_n 0, 1) := by decide +kernel
theorem dX3_enter_58 : decode cX3_enter 58 = .ok (.getfield 15, 3) := by decide +kernel
theorem dX3_enter_61 : decode cX3_enter 61 = .ok (.aload_n 0, 1) := by decide +kernel
theorem dX3_enter_62 : decode cX3_enter 62 = .ok (.getfield 21, 3) := by decide +kernel
theorem dX3_enter_65 : decode cX3_enter 65 = .ok (.iload_n 2, 1) := by decide +kernel
theorem dX3_enter_66 : decode cX3_enter 66 = .ok (.iastore, 1) := by decide +kernel
theorem dX3_enter_67 : decode cX3_enter 67 = .ok (.aload_n 0, 1) := by decide +kernel
theorem dX3_enter_68 : decode cX3_enter 68 = .ok (.getfield 18, 3) := by decide +kernel
theorem dX3_enter_71 : decode cX3_enter 71 = .ok (.aload_n 0, 1) := by decide +kernel
theorem dX3_enter_72 : decode cX3_enter 72 = .ok (.getfield 21, 3) := by decide +kernel
theorem dX3_enter_75 : decode cX3_enter 75 = .ok (.iload_n 3, 1) := by decide +kernel
theorem dX3_enter_76 : decode cX3_enter 76 = .ok (.iastore, 1) := by decide +kernel
theorem dX3_enter_77 : decode cX3_enter 77 = .ok (.aload_n 0, 1) := by decide +kernel
theorem dX3_enter_78 : decode cX3_enter 78 = .ok (.dup, 1) := by decide +kernel
theorem dX3_enter_79 : decode cX3_enter 79 = .ok (.getfield 21, 3) := by decide +kernel
theorem dX3_enter_82 : decode cX3_enter 82 = .ok (.iconst 1, 1) := by decide +kernel
theorem dX3_enter_83 : decode cX3_enter 83 = .ok (.iadd, 1) := by decide +kernel
theorem dX3_enter_84 : decode cX3_enter 84 = .ok (.putfield 21, 3) := by decide +kernel
theorem dX3_enter_87 : decode cX3_enter 87 = .ok (.iconst 1, 1) := by decide +kernel
theorem dX3_enter_88 : decode cX3_enter 88 = .ok (.ireturn, 1) := by decide +kernel
theorem dX3_holderOn_0 : decode cX3_holderOn 0 = .ok (.iconst 0, 1) := by decide +kernel
theorem dX3_holderOn_1 : decode cX3_holderOn 1 = .ok (.istore_n 3, 1) := by decide +kernel
theorem dX3_holderOn_2 : decode cX3_holderOn 2 = .ok (.iconst 0, 1) := by decide +kernel
theorem dX3_holderOn_3 : decode cX3_holderOn 3 = .ok (.istore 4, 2) := by decide +kernel
theorem dX3_holderOn_5 : decode cX3_holderOn 5 = .ok (.iconst 0, 1) := by decide +kernel
theorem dX3_holderOn_6 : decode cX3_holderOn 6 = .ok (.istore 5, 2) := by decide +kernel
theorem dX3_holderOn_8 : decode cX3_holderOn 8 = .ok (.iload 5, 2) := by decide +kernel
theorem dX3_holderOn_10 : decode cX3_holderOn 10 = .ok (.aload_n 0, 1) := by decide +kernel
theorem dX3_holderOn_11 : decode cX3_holderOn 11 = .ok (.getfield 21, 3) := by decide +kernel
theorem dX3_holderOn_14 : decode cX3_holderOn 14 = .ok (.if_icmp .ge 67, 3) := by decide +kernel
theorem dX3_holderOn_17 : decode cX3_holderOn 17 = .ok (.iload 5, 2) := by decide +kernel
theorem dX3_holderOn_19 : decode cX3_holderOn 19 = .ok (.bipush 100, 2) := by decide +kernel
theorem dX3_holderOn_21 : decode cX3_holderOn 21 = .ok (.if_icmp .ge 60, 3) := by decide +kernel
theorem dX3_holderOn_24 : decode cX3_holderOn 24 = .ok (.aload_n 0, 1) := by decide +kernel
theorem dX3_holderOn_25 : decode cX3_holderOn 25 = .ok (.getfield 11, 3) := by decide +kernel
theorem dX3_holderOn_28 : decode cX3_holderOn 28 = .ok (.iload 5, 2) := by decide +kernel
theorem dX3_holderOn_30 : decode cX3_holderOn 30 = .ok (.iaload, 1) := by decide +kernel
theorem dX3_holderOn_31 : decode cX3_holderOn 31 = .ok (.iload_n 1, 1) := by decide +kernel
theorem dX3_holderOn_32 : decode cX3_holderOn 32 = .ok (.if_icmp .ne 43, 3) := by decide +kernel
theorem dX3_holderOn_35 : decode cX3_holderOn 35 = .ok (.aload_n 0, 1) := by decide +kernel
theorem dX3_holderOn_36 : decode cX3_holderOn 36 = .ok (.getfield 15, 3) := by decide +kernel
theorem dX3_holderOn_39 : decode cX3_holderOn 39 = .ok (.iload 5, 2) := by decide +kernel
theorem dX3_holderOn_41 : decode cX3_holderOn 41 = .ok (.iaload, 1) := by decide +kernel
theorem dX3_holderOn_42 : decode cX3_holderOn 42 = .ok (.iload_n 2, 1) := by decide +kernel
theorem dX3_holderOn_43 : decode cX3_holderOn 43 = .ok (.if_icmp .gt 32, 3) := by decide +kernel
theorem dX3_holderOn_46 : decode cX3_holderOn 46 = .ok (.aload_n 0, 1) := by decide +kernel
theorem dX3_holderOn_47 : decode cX3_holderOn 47 = .ok (.getfield 15, 3) := by decide +kernel
theorem dX3_holderOn_50 : decode cX3_holderOn 50 = .ok (.iload 5, 2) := by decide +kernel
theorem dX3_holderOn_52 : decode cX3_holderOn 52 = .ok (.iaload, 1) := by decide +kernel
theorem dX3_holderOn_53 : decode cX3_holderOn 53 = .ok (.iload 4, 2) := by decide +kernel
theorem dX3_holderOn_55 : decode cX3_holderOn 55 = .ok (.if_icmp .lt 20, 3) := by decide +kernel
theorem dX3_holderOn_58 : decode cX3_holderOn 58 = .ok (.aload_n 0, 1) := by decide +kernel
theorem dX3_holderOn_59 : decode cX3_holderOn 59 = .ok (.getfield 18, 3) := by decide +kernel
theorem dX3_holderOn_62 : decode cX3_holderOn 62 = .ok (.iload 5, 2) := by decide +kernel
theorem dX3_holderOn_64 : decode cX3_holderOn 64 = .ok (.iaload, 1) := by decide +kernel
theorem dX3_holderOn_65 : decode cX3_holderOn 65 = .ok (.istore_n 3, 1) := by decide +kernel
theorem dX3_holderOn_66 : decode cX3_holderOn 66 = .ok (.aload_n 0, 1) := by decide +kernel
theorem dX3_holderOn_67 : decode cX3_holderOn 67 = .ok (.getfield 15, 3) := by decide +kernel
theorem dX3_holderOn_70 : decode cX3_holderOn 70 = .ok (.iload 5, 2) := by decide +kernel
theorem dX3_holderOn_72 : decode cX3_holderOn 72 = .ok (.iaload, 1) := by decide +kernel
theorem dX3_holderOn_73 : decode cX3_holderOn 73 = .ok (.istore 4, 2) := by decide +kernel
theorem dX3_holderOn_75 : decode cX3_holderOn 75 = .ok (.iinc 5 1, 3) := by decide +kernel
theorem dX3_holderOn_78 : decode cX3_holderOn 78 = .ok (.goto (-70), 3) := by decide +kernel
theorem dX3_holderOn_81 : decode cX3_holderOn 81 = .ok (.iload_n 3, 1) := by decide +kernel
theorem dX3_holderOn_82 : decode cX3_holderOn 82 = .ok (.ireturn, 1) := by decide +kernel
theorem dX4_init_0 : decode cX4_init 0 = .ok (.aload_n 0, 1) := by decide +kernel
theorem dX4_init_1 : decode cX4_init 1 = .ok (.invokespecial 1, 3) := by decide +kernel
theorem dX4_init_4 : decode cX4_init 4 = .ok (.aload_n 0, 1) := by decide +kernel
theorem dX4_init_5 : decode cX4_init 5 = .ok (.iload_n 1, 1) := by decide +kernel
theorem dX4_init_6 : decode cX4_init 6 = .ok (.putfield 7, 3) := by decide +kernel
theorem dX4_init_9 : decode cX4_init 9 = .ok (.aload_n 0, 1) := by decide +kernel
theorem dX4_init_10 : decode cX4_init 10 = .ok (.iload_n 2, 1) := by decide +kernel
theorem dX4_init_11 : decode cX4_init 11 = .ok (.ldc 13, 2) := by decide +kernel
theorem dX4_init_13 : decode cX4_init 13 = .ok (.idiv, 1) := by decide +kernel
theorem dX4_init_14 : decode cX4_init 14 = .ok (.putfield 14, 3) := by decide +kernel
theorem dX4_init_17 : decode cX4_init 17 = .ok (.aload_n 0, 1) := by decide +kernel
theorem dX4_init_18 : decode cX4_init 18 = .ok (.iload_n 2, 1) := by decide +kernel
theorem dX4_init_19 : decode cX4_init 19 = .ok (.sipush 1000, 3) := by decide +kernel
theorem dX4_init_22 : decode cX4_init 22 = .ok (.idiv, 1) := by decide +kernel
theorem dX4_init_23 : decode cX4_init 23 = .ok (.sipush 1000, 3) := by decide +kernel
theorem dX4_init_26 : decode cX4_init 26 = .ok (.irem, 1) := by decide +kernel
theorem dX4_init_27 : decode cX4_init 27 = .ok (.putfield 17, 3) := by decide +kernel
theorem dX4_init_30 : decode cX4_init 30 = .ok (.aload_n 0, 1) := by decide +kernel
theorem dX4_init_31 : decode cX4_init 31 = .ok (.iload_n 2, 1) := by decide +kernel
theorem dX4_init_32 : decode cX4_init 32 = .ok (.sipush 1000, 3) := by decide +kernel
theorem dX4_init_35 : decode cX4_init 35 = .ok (.irem, 1) := by decide +kernel
theorem dX4_init_36 : decode cX4_init 36 = .ok (.putfield 20, 3) := by decide +kernel
theorem dX4_init_39 : decode cX4_init 39 = .ok (.aload_n 0, 1) := by decide +kernel
theorem dX4_init_40 : decode cX4_init 40 = .ok (.iload_n 3, 1) := by decide +kernel
theorem dX4_init_41 : decode cX4_init 41 = .ok (.putfield 23, 3) := by decide +kernel
theorem dX4_init_44 : decode cX4_init 44 = .ok (.return_, 1) := by decide +kernel
set_option maxRecDepth 20000 in
theorem ggX4_isPossible_X9_isDay : GoodIn wsX4_isPossible wsX9_isDay := goodIn_r _ [8, 9, 10, 7, 11] (by decide +kernel) (by decide +kernel)
set_option maxRecDepth 20000 in
theorem gX4_isPossible_X9_isDay_n26 : GoodIn wsX4_isPossible (wsX9_isDay) := ggX4_isPossible_X9_isDay
set_option maxRecDepth 20000 in
theorem ggX4_isPossible_X9_isBetween : GoodIn wsX4_isPossible wsX9_isBetween := goodIn_r _ [11] (by decide +kernel) (by decide +kernel)
set_option maxRecDepth 20000 in
theorem gX4_isPossible_X9_isBetween_n32 : GoodIn wsX4_isPossible (wsX9_isBetween) := ggX4_isPossible_X9_isBetween
theorem dX4_isPossible_0 : decode cX4_isPossible 0 = .ok (.aload_n 0, 1) := by decide +kernel
theorem dX4_isPossible_1 : decode cX4_isPossible 1 = .ok (.getfield 7, 3) := by decide +kernel
theorem dX4_isPossible_4 : decode cX4_isPossible 4 = .ok (.invokestatic 26, 3) := by decide +kernel
theorem dX4_isPossible_7 : decode cX4_isPossible 7 = .ok (.ifCond .eq 61, 3) := by decide +kernel
theorem dX4_isPossible_10 : decode cX4_isPossible 10 = .ok (.aload_n 0, 1) := by decide +kernel
theorem dX4_isPossible_11 : decode cX4_isPossible 11 = .ok (.getfield 14, 3) := by decide +kernel
theorem dX4_isPossible_14 : decode cX4_isPossible 14 = .ok (.iconst 0, 1) := by decide +kernel
theorem dX4_isPossible_15 : decode cX4_isPossible 15 = .ok (.sipush 2000, 3) := by decide +kernel
theorem dX4_isPossible_18 : decode cX4_isPossible 18 = .ok (.invokestatic 32, 3) := by decide +kernel
theorem dX4_isPossible_21 : decode cX4_isPossible 21 = .ok (.ifCond .eq 47, 3) := by decide +kernel
theorem dX4_isPossible_24 : decode cX4_isPossible 24 = .ok (.aload_n 0, 1) := by decide +kernel
theorem dX4_isPossible_25 : decode cX4_isPossible 25 = .ok (.getfield 17, 3) := by decide +kernel
theorem dX4_isPossible_28 : decode cX4_isPossible 28 = .ok (.iconst 0, 1) := by decide +kernel
theorem dX4_isPossible_29 : decode cX4_isPossible 29 = .ok (.sipush 999, 3) := by decide +kernel
theorem dX4_isPossible_32 : decode cX4_isPossible 32 = .ok (.invokestatic 32, 3) := by decide +kernel
theorem dX4_isPossible_35 : decode cX4_isPossible 35 = .ok (.ifCond .eq 33, 3) := by decide +kernel
theorem dX4_isPossible_38 : decode cX4_isPossible 38 = .ok (.aload_n 0, 1) := by decide +kernel
theorem dX4_isPossible_39 : decode cX4_isPossible 39 = .ok (.getfield 20, 3) := by decide +kernel
theorem dX4_isPossible_42 : decode cX4_isPossible 42 = .ok (.iconst 0, 1) := by decide +kernel
theorem dX4_isPossible_43 : decode cX4_isPossible 43 = .ok (.bipush 100, 2) := by decide +kernel
theorem dX4_isPossible_45 : decode cX4_isPossible 45 = .ok (.invokestatic 32, 3) := by decide +kernel
theorem dX4_isPossible_48 : decode cX4_isPossible 48 = .ok (.ifCond .eq 20, 3) := by decide +kernel
theorem dX4_isPossible_51 : decode cX4_isPossible 51 = .ok (.aload_n 0, 1) := by decide +kernel
theorem dX4_isPossible_52 : decode cX4_isPossible 52 = .ok (.getfield 23, 3) := by decide +kernel
theorem dX4_isPossible_55 : decode cX4_isPossible 55 = .ok (.iconst 1, 1) := by decide +kernel
theorem dX4_isPossible_56 : decode cX4_isPossible 56 = .ok (.bipush 50, 2) := by decide +kernel
theorem dX4_isPossible_58 : decode cX4_isPossible 58 = .ok (.invokestatic 32, 3) := by decide +kernel
theorem dX4_isPossible_61 : decode cX4_isPossible 61 = .ok (.ifCond .eq 7, 3) := by decide +kernel
theorem dX4_isPossible_64 : decode cX4_isPossible 64 = .ok (.iconst 1, 1) := by decide +kernel
theorem dX4_isPossible_65 : decode cX4_isPossible 65 = .ok (.goto 4, 3) := by decide +kernel
theorem dX4_isPossible_68 : decode cX4_isPossible 68 = .ok (.iconst 0, 1) := by decide +kernel
theorem dX4_isPossible_69 : decode cX4_isPossible 69 = .ok (.ireturn, 1) := by decide +kernel
set_option maxRecDepth 20000 in
theorem ggX4_covers_X9_yearOf : GoodIn wsX4_covers wsX9_yearOf := goodIn_r _ [10] (by decide +kernel) (by decide +kernel)
set_option maxRecDepth 20000 in
theorem gX4_covers_X9_yearOf_n43 : GoodIn wsX4_covers (wsX9_yearOf) := ggX4_covers_X9_yearOf
theorem dX4_covers_0 : decode cX4_covers 0 = .ok (.aload_n 1, 1) := by decide +kernel
theorem dX4_covers_1 : decode cX4_covers 1 = .ok (.getfield 38, 3) := by decide +kernel
theorem dX4_covers_4 : decode cX4_covers 4 = .ok (.invokestatic 43, 3) := by decide +kernel
theorem dX4_covers_7 : decode cX4_covers 7 = .ok (.aload_n 1, 1) := by decide +kernel
theorem dX4_covers_8 : decode cX4_covers 8 = .ok (.getfield 47, 3) := by decide +kernel
theorem dX4_covers_11 : decode cX4_covers 11 = .ok (.isub, 1) := by decide +kernel
theorem dX4_covers_12 : decode cX4_covers 12 = .ok (.aload_n 0, 1) := by decide +kernel
theorem dX4_covers_13 : decode cX4_covers 13 = .ok (.getfield 14, 3) := by decide +kernel
theorem dX4_covers_16 : decode cX4_covers 16 = .ok (.if_icmp .lt 7, 3) := by decide +kernel
theorem dX4_covers_19 : decode cX4_covers 19 = .ok (.iconst 1, 1) := by decide +kernel
theorem dX4_covers_20 : decode cX4_covers 20 = .ok (.goto 4, 3) := by decide +kernel
theorem dX4_covers_23 : decode cX4_covers 23 = .ok (.iconst 0, 1) := by decide +kernel
theorem dX4_covers_24 : decode cX4_covers 24 = .ok (.istore_n 3, 1) := by decide +kernel
theorem dX4_covers_25 : decode cX4_covers 25 = .ok (.aload_n 1, 1) := by decide +kernel
theorem dX4_covers_26 : decode cX4_covers 26 = .ok (.getfield 50, 3) := by decide +kernel
theorem dX4_covers_29 : decode cX4_covers 29 = .ok (.ifCond .eq 18, 3) := by decide +kernel
theorem dX4_covers_32 : decode cX4_covers 32 = .ok (.aload_n 1, 1) := by decide +kernel
theorem dX4_covers_33 : decode cX4_covers 33 = .ok (.getfield 53, 3) := by decide +kernel
theorem dX4_covers_36 : decode cX4_covers 36 = .ok (.aload_n 0, 1) := by decide +kernel
theorem dX4_covers_37 : decode cX4_covers 37 = .ok (.getfield 17, 3) := by decide +kernel
theorem dX4_covers_40 : decode cX4_covers 40 = .ok (.if_icmp .lt 7, 3) := by decide +kernel
theorem dX4_covers_43 : decode cX4_covers 43 = .ok (.iconst 1, 1) := by decide +kernel
theorem dX4_covers_44 : decode cX4_covers 44 = .ok (.goto 4, 3) := by decide +kernel
theorem dX4_covers_47 : decode cX4_covers 47 = .ok (.iconst 0, 1) := by decide +kernel
theorem dX4_covers_48 : decode cX4_covers 48 = .ok (.istore 4, 2) := by decide +kernel
theorem dX4_covers_50 : decode cX4_covers 50 = .ok (.iload_n 3, 1) := by decide +kernel
theorem dX4_covers_51 : decode cX4_covers 51 = .ok (.ifCond .eq 20, 3) := by decide +kernel
theorem dX4_covers_54 : decode cX4_covers 54 = .ok (.iload 4, 2) := by decide +kernel
theorem dX4_covers_56 : decode cX4_covers 56 = .ok (.ifCond .ne 11, 3) := by decide +kernel
theorem dX4_covers_59 : decode cX4_covers 59 = .ok (.iload_n 2, 1) := by decide +kernel
theorem dX4_covers_60 : decode cX4_covers 60 = .ok (.aload_n 0, 1) := by decide +kernel
theorem dX4_covers_61 : decode cX4_covers 61 = .ok (.getfield 23, 3) := by decide +kernel
theorem dX4_covers_64 : decode cX4_covers 64 = .ok (.if_icmp .lt 7, 3) := by decide +kernel
theorem dX4_covers_67 : decode cX4_covers 67 = .ok (.iconst 1, 1) := by decide +kernel
theorem dX4_covers_68 : decode cX4_covers 68 = .ok (.goto 4, 3) := by decide +kernel
theorem dX4_covers_71 : decode cX4_covers 71 = .ok (.iconst 0, 1) := by decide +kernel
theorem dX4_covers_72 : decode cX4_covers 72 = .ok (.ireturn, 1) := by decide +kernel
theorem dX5_init_0 : decode cX5_init 0 = .ok (.aload_n 0, 1) := by decide +kernel
theorem dX5_init_1 : decode cX5_init 1 = .ok (.invokespecial 3, 3) := by decide +kernel
theorem dX5_init_4 : decode cX5_init 4 = .ok (.aload_n 0, 1) := by decide +kernel
theorem dX5_init_5 : decode cX5_init 5 = .ok (.bipush 20, 2) := by decide +kernel
theorem dX5_init_7 : decode cX5_init 7 = .ok (.anewarray 11, 3) := by decide +kernel
theorem dX5_init_10 : decode cX5_init 10 = .ok (.putfield 13, 3) := by decide +kernel
theorem dX5_init_13 : decode cX5_init 13 = .ok (.aload_n 0, 1) := by decide +kernel
theorem dX5_init_14 : decode cX5_init 14 = .ok (.iconst 0, 1) := by decide +kernel
theorem dX5_init_15 : decode cX5_init 15 = .ok (.putfield 17, 3) := by decide +kernel
theorem dX5_init_18 : decode cX5_init 18 = .ok (.return_, 1) := by decide +kernel
set_option maxRecDepth 20000 in
theorem ggX5_enact_X4_isPossible : GoodIn wsX5_enact wsX4_isPossible := goodIn_r _ [7, 8, 9, 10, 11, 12, 13, 14, 15, 16, 17, 18, 21, 22, 23, 24, 25] (by decide +kernel) (by decide +kernel)
set_option maxRecDepth 20000 in
theorem gX5_enact_X4_isPossible : GoodIn wsX5_enact (wsV RX5 21 RX4 yX4_isPossible wsX4_isPossible) := goodIn_app (goodIn_of _ (by decide +kernel)) ggX5_enact_X4_isPossible
theorem dX5_enact_0 : decode cX5_enact 0 = .ok (.aload_n 0, 1) := by decide +kernel
theorem dX5_enact_1 : decode cX5_enact 1 = .ok (.getfield 17, 3) := by decide +kernel
theorem dX5_enact_4 : decode cX5_enact 4 = .ok (.bipush 20, 2) := by decide +kernel
theorem dX5_enact_6 : decode cX5_enact 6 = .ok (.if_icmp .ge 10, 3) := by decide +kernel
theorem dX5_enact_9 : decode cX5_enact 9 = .ok (.aload_n 1, 1) := by decide +kernel
theorem dX5_enact_10 : decode cX5_enact 10 = .ok (.invokevirtual 21, 3) := by decide +kernel
theorem dX5_enact_13 : decode cX5_enact 13 = .ok (.ifCond .ne 5, 3) := by decide +kernel
theorem dX5_enact_16 : decode cX5_enact 16 = .ok (.iconst (-1), 1) := by decide +kernel
theorem dX5_enact_17 : decode cX5_enact 17 = .ok (.ireturn, 1) := by decide +kernel
theorem dX5_enact_18 : decode cX5_enact 18 = .ok (.aload_n 0, 1) := by decide +kernel
theorem dX5_enact_19 : decode cX5_enact 19 = .ok (.getfield 13, 3) := by decide +kernel
theorem dX5_enact_22 : decode cX5_enact 22 = .ok (.aload_n 0, 1) := by decide +kernel
theorem dX5_enact_23 : decode cX5_enact 23 = .ok (.getfield 17, 3) := by decide +kernel
theorem dX5_enact_26 : decode cX5_enact 26 = .ok (.aload_n 1, 1) := by decide +kernel
theorem dX5_enact_27 : decode cX5_enact 27 = .ok (.aastore, 1) := by decide +kernel
theorem dX5_enact_28 : decode cX5_enact 28 = .ok (.aload_n 0, 1) := by decide +kernel
theorem dX5_enact_29 : decode cX5_enact 29 = .ok (.dup, 1) := by decide +kernel
theorem dX5_enact_30 : decode cX5_enact 30 = .ok (.getfield 17, 3) := by decide +kernel
theorem dX5_enact_33 : decode cX5_enact 33 = .ok (.iconst 1, 1) := by decide +kernel
theorem dX5_enact_34 : decode cX5_enact 34 = .ok (.iadd, 1) := by decide +kernel
theorem dX5_enact_35 : decode cX5_enact 35 = .ok (.putfield 17, 3) := by decide +kernel
theorem dX5_enact_38 : decode cX5_enact 38 = .ok (.aload_n 0, 1) := by decide +kernel
theorem dX5_enact_39 : decode cX5_enact 39 = .ok (.getfield 17, 3) := by decide +kernel
theorem dX5_enact_42 : decode cX5_enact 42 = .ok (.ireturn, 1) := by decide +kernel
theorem dX5_inForce_0 : decode cX5_inForce 0 = .ok (.aconst_null, 1) := by decide +kernel
theorem dX5_inForce_1 : decode cX5_inForce 1 = .ok (.astore_n 2, 1) := by decide +kernel
theorem dX5_inForce_2 : decode cX5_inForce 2 = .ok (.iconst 0, 1) := by decide +kernel
theorem dX5_inForce_3 : decode cX5_inForce 3 = .ok (.istore_n 3, 1) := by decide +kernel
theorem dX5_inForce_4 : decode cX5_inForce 4 = .ok (.iload_n 3, 1) := by decide +kernel
theorem dX5_inForce_5 : decode cX5_inForce 5 = .ok (.aload_n 0, 1) := by decide +kernel
theorem dX5_inForce_6 : decode cX5_inForce 6 = .ok (.getfield 17, 3) := by decide +kernel
theorem dX5_inForce_9 : decode cX5_inForce 9 = .ok (.if_icmp .ge 56, 3) := by decide +kernel
theorem dX5_inForce_12 : decode cX5_inForce 12 = .ok (.iload_n 3, 1) := by decide +kernel
theorem dX5_inForce_13 : decode cX5_inForce 13 = .ok (.bipush 20, 2) := by decide +kernel
theorem dX5_inForce_15 : decode cX5_inForce 15 = .ok (.if_icmp .ge 50, 3) := by decide +kernel
theorem dX5_inForce_18 : decode cX5_inForce 18 = .ok (.aload_n 0, 1) := by decide +kernel
theorem dX5_inForce_19 : decode cX5_inForce 19 = .ok (.getfield 13, 3) := by decide +kernel
theorem dX5_inForce_22 : decode cX5_inForce 22 = .ok (.iload_n 3, 1) := by decide +kernel
theorem dX5_inForce_23 : decode cX5_inForce 23 = .ok (.aaload, 1) := by decide +kernel
theorem dX5_inForce_24 : decode cX5_inForce 24 = .ok (.astore 4, 2) := by decide +kernel
theorem dX5_inForce_26 : decode cX5_inForce 26 = .ok (.aload 4, 2) := by decide +kernel
theorem dX5_inForce_28 : decode cX5_inForce 28 = .ok (.ifnull 31, 3) := by decide +kernel
theorem dX5_inForce_31 : decode cX5_inForce 31 = .ok (.aload 4, 2) := by decide +kernel
end
section
theorem dX5_inForce_33 : decode cX5_inForce 33 = .ok (.getfield 25, 3) := by decide +kernel
theorem dX5_inForce_36 : decode cX5_inForce 36 = .ok (.iload_n 1, 1) := by decide +kernel
theorem dX5_inForce_37 : decode cX5_inForce 37 = .ok (.if_icmp .gt 22, 3) := by decide +kernel
theorem dX5_inForce_40 : decode cX5_inForce 40 = .ok (.aload_n 2, 1) := by decide +kernel
theorem dX5_inForce_41 : decode cX5_inForce 41 = .ok (.ifnull 15, 3) := by decide +kernel
theorem dX5_inForce_44 : decode cX5_inForce 44 = .ok (.aload 4, 2) := by decide +kernel
theorem dX5_inForce_46 : decode cX5_inForce 46 = .ok (.getfield 25, 3) := by decide +kernel
theorem dX5_inForce_49 : decode cX5_inForce 49 = .ok (.aload_n 2, 1) := by decide +kernel
theorem dX5_inForce_50 : decode cX5_inForce 50 = .ok (.getfield 25, 3) := by decide +kernel
theorem dX5_inForce_53 : decode cX5_inForce 53 = .ok (.if_icmp .lt 6, 3) := by decide +kernel
theorem dX5_inForce_56 : decode cX5_inForce 56 = .ok (.aload 4, 2) := by decide +kernel
theorem dX5_inForce_58 : decode cX5_inForce 58 = .ok (.astore_n 2, 1) := by decide +kernel
theorem dX5_inForce_59 : decode cX5_inForce 59 = .ok (.iinc 3 1, 3) := by decide +kernel
theorem dX5_inForce_62 : decode cX5_inForce 62 = .ok (.goto (-58), 3) := by decide +kernel
theorem dX5_inForce_65 : decode cX5_inForce 65 = .ok (.aload_n 2, 1) := by decide +kernel
theorem dX5_inForce_66 : decode cX5_inForce 66 = .ok (.areturn, 1) := by decide +kernel
set_option maxRecDepth 20000 in
theorem ggX6_init_J7_fill_53178 : GoodIn wsX6_init wsJ7_fill_53178 := goodIn_r _ [12] (by decide +kernel) (by decide +kernel)
set_option maxRecDepth 20000 in
theorem gX6_init_J7_fill_53178 : GoodIn wsX6_init (va_wsS RX6 25 yJ7_fill_53178 wsJ7_fill_53178) := goodIn_app (goodIn_of _ (by decide +kernel)) ggX6_init_J7_fill_53178
theorem dX6_init_0 : decode cX6_init 0 = .ok (.aload_n 0, 1) := by decide +kernel
theorem dX6_init_1 : decode cX6_init 1 = .ok (.invokespecial 3, 3) := by decide +kernel
theorem dX6_init_4 : decode cX6_init 4 = .ok (.aload_n 0, 1) := by decide +kernel
theorem dX6_init_5 : decode cX6_init 5 = .ok (.bipush 60, 2) := by decide +kernel
theorem dX6_init_7 : decode cX6_init 7 = .ok (.anewarray 11, 3) := by decide +kernel
theorem dX6_init_10 : decode cX6_init 10 = .ok (.putfield 13, 3) := by decide +kernel
theorem dX6_init_13 : decode cX6_init 13 = .ok (.aload_n 0, 1) := by decide +kernel
theorem dX6_init_14 : decode cX6_init 14 = .ok (.iconst 0, 1) := by decide +kernel
theorem dX6_init_15 : decode cX6_init 15 = .ok (.putfield 17, 3) := by decide +kernel
theorem dX6_init_18 : decode cX6_init 18 = .ok (.aload_n 0, 1) := by decide +kernel
theorem dX6_init_19 : decode cX6_init 19 = .ok (.bipush 55, 2) := by decide +kernel
theorem dX6_init_21 : decode cX6_init 21 = .ok (.newarray .int, 2) := by decide +kernel
theorem dX6_init_23 : decode cX6_init 23 = .ok (.putfield 21, 3) := by decide +kernel
theorem dX6_init_26 : decode cX6_init 26 = .ok (.aload_n 0, 1) := by decide +kernel
theorem dX6_init_27 : decode cX6_init 27 = .ok (.getfield 21, 3) := by decide +kernel
theorem dX6_init_30 : decode cX6_init 30 = .ok (.bipush 100, 2) := by decide +kernel
theorem dX6_init_32 : decode cX6_init 32 = .ok (.invokestatic 25, 3) := by decide +kernel
theorem dX6_init_35 : decode cX6_init 35 = .ok (.return_, 1) := by decide +kernel
set_option maxRecDepth 20000 in
theorem ggX6_setLevel_X9_isBetween : GoodIn wsX6_setLevel wsX9_isBetween := goodIn_r _ [4] (by decide +kernel) (by decide +kernel)
set_option maxRecDepth 20000 in
theorem gX6_setLevel_X9_isBetween_n31 : GoodIn wsX6_setLevel (wsX9_isBetween) := ggX6_setLevel_X9_isBetween
theorem dX6_setLevel_0 : decode cX6_setLevel 0 = .ok (.iload_n 1, 1) := by decide +kernel
theorem dX6_setLevel_1 : decode cX6_setLevel 1 = .ok (.sipush 1950, 3) := by decide +kernel
theorem dX6_setLevel_4 : decode cX6_setLevel 4 = .ok (.sipush 2004, 3) := by decide +kernel
theorem dX6_setLevel_7 : decode cX6_setLevel 7 = .ok (.invokestatic 31, 3) := by decide +kernel
theorem dX6_setLevel_10 : decode cX6_setLevel 10 = .ok (.ifCond .eq 14, 3) := by decide +kernel
theorem dX6_setLevel_13 : decode cX6_setLevel 13 = .ok (.iload_n 2, 1) := by decide +kernel
theorem dX6_setLevel_14 : decode cX6_setLevel 14 = .ok (.iconst 1, 1) := by decide +kernel
theorem dX6_setLevel_15 : decode cX6_setLevel 15 = .ok (.sipush 10000, 3) := by decide +kernel
theorem dX6_setLevel_18 : decode cX6_setLevel 18 = .ok (.invokestatic 31, 3) := by decide +kernel
theorem dX6_setLevel_21 : decode cX6_setLevel 21 = .ok (.ifCond .ne 5, 3) := by decide +kernel
theorem dX6_setLevel_24 : decode cX6_setLevel 24 = .ok (.iconst 0, 1) := by decide +kernel
theorem dX6_setLevel_25 : decode cX6_setLevel 25 = .ok (.ireturn, 1) := by decide +kernel
theorem dX6_setLevel_26 : decode cX6_setLevel 26 = .ok (.aload_n 0, 1) := by decide +kernel
theorem dX6_setLevel_27 : decode cX6_setLevel 27 = .ok (.getfield 21, 3) := by decide +kernel
theorem dX6_setLevel_30 : decode cX6_setLevel 30 = .ok (.iload_n 1, 1) := by decide +kernel
theorem dX6_setLevel_31 : decode cX6_setLevel 31 = .ok (.sipush 1950, 3) := by decide +kernel
theorem dX6_setLevel_34 : decode cX6_setLevel 34 = .ok (.isub, 1) := by decide +kernel
theorem dX6_setLevel_35 : decode cX6_setLevel 35 = .ok (.iload_n 2, 1) := by decide +kernel
theorem dX6_setLevel_36 : decode cX6_setLevel 36 = .ok (.iastore, 1) := by decide +kernel
theorem dX6_setLevel_37 : decode cX6_setLevel 37 = .ok (.iconst 1, 1) := by decide +kernel
theorem dX6_setLevel_38 : decode cX6_setLevel 38 = .ok (.ireturn, 1) := by decide +kernel
theorem dX6_levelIn_0 : decode cX6_levelIn 0 = .ok (.iload_n 1, 1) := by decide +kernel
theorem dX6_levelIn_1 : decode cX6_levelIn 1 = .ok (.sipush 1950, 3) := by decide +kernel
theorem dX6_levelIn_4 : decode cX6_levelIn 4 = .ok (.isub, 1) := by decide +kernel
theorem dX6_levelIn_5 : decode cX6_levelIn 5 = .ok (.istore_n 2, 1) := by decide +kernel
theorem dX6_levelIn_6 : decode cX6_levelIn 6 = .ok (.iload_n 2, 1) := by decide +kernel
theorem dX6_levelIn_7 : decode cX6_levelIn 7 = .ok (.ifCond .lt 21, 3) := by decide +kernel
theorem dX6_levelIn_10 : decode cX6_levelIn 10 = .ok (.iload_n 2, 1) := by decide +kernel
theorem dX6_levelIn_11 : decode cX6_levelIn 11 = .ok (.aload_n 0, 1) := by decide +kernel
theorem dX6_levelIn_12 : decode cX6_levelIn 12 = .ok (.getfield 21, 3) := by decide +kernel
theorem dX6_levelIn_15 : decode cX6_levelIn 15 = .ok (.arraylength, 1) := by decide +kernel
theorem dX6_levelIn_16 : decode cX6_levelIn 16 = .ok (.if_icmp .ge 12, 3) := by decide +kernel
theorem dX6_levelIn_19 : decode cX6_levelIn 19 = .ok (.aload_n 0, 1) := by decide +kernel
theorem dX6_levelIn_20 : decode cX6_levelIn 20 = .ok (.getfield 21, 3) := by decide +kernel
theorem dX6_levelIn_23 : decode cX6_levelIn 23 = .ok (.iload_n 2, 1) := by decide +kernel
theorem dX6_levelIn_24 : decode cX6_levelIn 24 = .ok (.iaload, 1) := by decide +kernel
theorem dX6_levelIn_25 : decode cX6_levelIn 25 = .ok (.goto 5, 3) := by decide +kernel
theorem dX6_levelIn_28 : decode cX6_levelIn 28 = .ok (.bipush 100, 2) := by decide +kernel
theorem dX6_levelIn_30 : decode cX6_levelIn 30 = .ok (.ireturn, 1) := by decide +kernel
set_option maxRecDepth 20000 in
theorem ggX6_enter_X8_isPossible : GoodIn wsX6_enter wsX8_isPossible := goodIn_r _ [8, 9, 10, 11, 12, 13, 14, 15, 16, 17, 18, 19, 20, 21, 30, 31, 32, 33] (by decide +kernel) (by decide +kernel)
set_option maxRecDepth 20000 in
theorem gX6_enter_X8_isPossible : GoodIn wsX6_enter (wsV RX6 35 RX8 yX8_isPossible wsX8_isPossible) := goodIn_app (goodIn_of _ (by decide +kernel)) ggX6_enter_X8_isPossible
set_option maxRecDepth 20000 in
theorem ggX6_enter_X6_salesOf : GoodIn wsX6_enter wsX6_salesOf := goodIn_r _ [26, 1, 2, 3, 27, 28, 29, 30, 31, 32, 33] (by decide +kernel) (by decide +kernel)
set_option maxRecDepth 20000 in
theorem gX6_enter_X6_salesOf : GoodIn wsX6_enter (wsV RX6 42 RX6 yX6_salesOf wsX6_salesOf) := goodIn_app (goodIn_of _ (by decide +kernel)) ggX6_enter_X6_salesOf
theorem dX6_enter_0 : decode cX6_enter 0 = .ok (.aload_n 0, 1) := by decide +kernel
theorem dX6_enter_1 : decode cX6_enter 1 = .ok (.getfield 17, 3) := by decide +kernel
theorem dX6_enter_4 : decode cX6_enter 4 = .ok (.bipush 60, 2) := by decide +kernel
theorem dX6_enter_6 : decode cX6_enter 6 = .ok (.if_icmp .ge 10, 3) := by decide +kernel
theorem dX6_enter_9 : decode cX6_enter 9 = .ok (.aload_n 1, 1) := by decide +kernel
theorem dX6_enter_10 : decode cX6_enter 10 = .ok (.invokevirtual 35, 3) := by decide +kernel
theorem dX6_enter_13 : decode cX6_enter 13 = .ok (.ifCond .ne 5, 3) := by decide +kernel
theorem dX6_enter_16 : decode cX6_enter 16 = .ok (.iconst (-1), 1) := by decide +kernel
theorem dX6_enter_17 : decode cX6_enter 17 = .ok (.ireturn, 1) := by decide +kernel
theorem dX6_enter_18 : decode cX6_enter 18 = .ok (.aload_n 0, 1) := by decide +kernel
theorem dX6_enter_19 : decode cX6_enter 19 = .ok (.getfield 13, 3) := by decide +kernel
theorem dX6_enter_22 : decode cX6_enter 22 = .ok (.aload_n 0, 1) := by decide +kernel
theorem dX6_enter_23 : decode cX6_enter 23 = .ok (.getfield 17, 3) := by decide +kernel
theorem dX6_enter_26 : decode cX6_enter 26 = .ok (.aload_n 1, 1) := by decide +kernel
theorem dX6_enter_27 : decode cX6_enter 27 = .ok (.aastore, 1) := by decide +kernel
theorem dX6_enter_28 : decode cX6_enter 28 = .ok (.aload_n 0, 1) := by decide +kernel
theorem dX6_enter_29 : decode cX6_enter 29 = .ok (.dup, 1) := by decide +kernel
theorem dX6_enter_30 : decode cX6_enter 30 = .ok (.getfield 17, 3) := by decide +kernel
theorem dX6_enter_33 : decode cX6_enter 33 = .ok (.iconst 1, 1) := by decide +kernel
theorem dX6_enter_34 : decode cX6_enter 34 = .ok (.iadd, 1) := by decide +kernel
theorem dX6_enter_35 : decode cX6_enter 35 = .ok (.putfield 17, 3) := by decide +kernel
theorem dX6_enter_38 : decode cX6_enter 38 = .ok (.aload_n 0, 1) := by decide +kernel
theorem dX6_enter_39 : decode cX6_enter 39 = .ok (.aload_n 1, 1) := by decide +kernel
theorem dX6_enter_40 : decode cX6_enter 40 = .ok (.getfield 39, 3) := by decide +kernel
theorem dX6_enter_43 : decode cX6_enter 43 = .ok (.invokevirtual 42, 3) := by decide +kernel
theorem dX6_enter_46 : decode cX6_enter 46 = .ok (.ireturn, 1) := by decide +kernel
theorem dX6_salesOf_0 : decode cX6_salesOf 0 = .ok (.iconst 0, 1) := by decide +kernel
theorem dX6_salesOf_1 : decode cX6_salesOf 1 = .ok (.istore_n 2, 1) := by decide +kernel
theorem dX6_salesOf_2 : decode cX6_salesOf 2 = .ok (.iconst 0, 1) := by decide +kernel
theorem dX6_salesOf_3 : decode cX6_salesOf 3 = .ok (.istore_n 3, 1) := by decide +kernel
theorem dX6_salesOf_4 : decode cX6_salesOf 4 = .ok (.iload_n 3, 1) := by decide +kernel
theorem dX6_salesOf_5 : decode cX6_salesOf 5 = .ok (.aload_n 0, 1) := by decide +kernel
theorem dX6_salesOf_6 : decode cX6_salesOf 6 = .ok (.getfield 17, 3) := by decide +kernel
theorem dX6_salesOf_9 : decode cX6_salesOf 9 = .ok (.if_icmp .ge 40, 3) := by decide +kernel
theorem dX6_salesOf_12 : decode cX6_salesOf 12 = .ok (.iload_n 3, 1) := by decide +kernel
theorem dX6_salesOf_13 : decode cX6_salesOf 13 = .ok (.bipush 60, 2) := by decide +kernel
theorem dX6_salesOf_15 : decode cX6_salesOf 15 = .ok (.if_icmp .ge 34, 3) := by decide +kernel
theorem dX6_salesOf_18 : decode cX6_salesOf 18 = .ok (.aload_n 0, 1) := by decide +kernel
theorem dX6_salesOf_19 : decode cX6_salesOf 19 = .ok (.getfield 13, 3) := by decide +kernel
theorem dX6_salesOf_22 : decode cX6_salesOf 22 = .ok (.iload_n 3, 1) := by decide +kernel
theorem dX6_salesOf_23 : decode cX6_salesOf 23 = .ok (.aaload, 1) := by decide +kernel
theorem dX6_salesOf_24 : decode cX6_salesOf 24 = .ok (.astore 4, 2) := by decide +kernel
theorem dX6_salesOf_26 : decode cX6_salesOf 26 = .ok (.aload 4, 2) := by decide +kernel
theorem dX6_salesOf_28 : decode cX6_salesOf 28 = .ok (.ifnull 15, 3) := by decide +kernel
theorem dX6_salesOf_31 : decode cX6_salesOf 31 = .ok (.aload 4, 2) := by decide +kernel
theorem dX6_salesOf_33 : decode cX6_salesOf 33 = .ok (.getfield 39, 3) := by decide +kernel
theorem dX6_salesOf_36 : decode cX6_salesOf 36 = .ok (.iload_n 1, 1) := by decide +kernel
theorem dX6_salesOf_37 : decode cX6_salesOf 37 = .ok (.if_icmp .ne 6, 3) := by decide +kernel
theorem dX6_salesOf_40 : decode cX6_salesOf 40 = .ok (.iinc 2 1, 3) := by decide +kernel
theorem dX6_salesOf_43 : decode cX6_salesOf 43 = .ok (.iinc 3 1, 3) := by decide +kernel
theorem dX6_salesOf_46 : decode cX6_salesOf 46 = .ok (.goto (-42), 3) := by decide +kernel
theorem dX6_salesOf_49 : decode cX6_salesOf 49 = .ok (.iload_n 2, 1) := by decide +kernel
theorem dX6_salesOf_50 : decode cX6_salesOf 50 = .ok (.ireturn, 1) := by decide +kernel
set_option maxRecDepth 20000 in
theorem ggX6_appraise_X6_priceIn : GoodIn wsX6_appraise wsX6_priceIn := goodIn_r _ [14, 15, 16, 17, 18, 19, 20, 21, 22, 13, 23, 24, 28, 29, 30, 31, 25, 26, 27] (by decide +kernel) (by decide +kernel)
set_option maxRecDepth 20000 in
theorem gX6_appraise_X6_priceIn : GoodIn wsX6_appraise (wsV RX6 46 RX6 yX6_priceIn wsX6_priceIn) := goodIn_app (goodIn_of _ (by decide +kernel)) ggX6_appraise_X6_priceIn
theorem dX6_appraise_0 : decode cX6_appraise 0 = .ok (.lconst 0, 1) := by decide +kernel
theorem dX6_appraise_1 : decode cX6_appraise 1 = .ok (.lstore 4, 2) := by decide +kernel
theorem dX6_appraise_3 : decode cX6_appraise 3 = .ok (.lconst 0, 1) := by decide +kernel
theorem dX6_appraise_4 : decode cX6_appraise 4 = .ok (.lstore 6, 2) := by decide +kernel
theorem dX6_appraise_6 : decode cX6_appraise 6 = .ok (.iconst 0, 1) := by decide +kernel
theorem dX6_appraise_7 : decode cX6_appraise 7 = .ok (.istore 8, 2) := by decide +kernel
theorem dX6_appraise_9 : decode cX6_appraise 9 = .ok (.iload 8, 2) := by decide +kernel
theorem dX6_appraise_11 : decode cX6_appraise 11 = .ok (.aload_n 0, 1) := by decide +kernel
theorem dX6_appraise_12 : decode cX6_appraise 12 = .ok (.getfield 17, 3) := by decide +kernel
theorem dX6_appraise_15 : decode cX6_appraise 15 = .ok (.if_icmp .ge 62, 3) := by decide +kernel
theorem dX6_appraise_18 : decode cX6_appraise 18 = .ok (.iload 8, 2) := by decide +kernel
theorem dX6_appraise_20 : decode cX6_appraise 20 = .ok (.bipush 60, 2) := by decide +kernel
theorem dX6_appraise_22 : decode cX6_appraise 22 = .ok (.if_icmp .ge 55, 3) := by decide +kernel
theorem dX6_appraise_25 : decode cX6_appraise 25 = .ok (.aload_n 0, 1) := by decide +kernel
theorem dX6_appraise_26 : decode cX6_appraise 26 = .ok (.getfield 13, 3) := by decide +kernel
theorem dX6_appraise_29 : decode cX6_appraise 29 = .ok (.iload 8, 2) := by decide +kernel
theorem dX6_appraise_31 : decode cX6_appraise 31 = .ok (.aaload, 1) := by decide +kernel
theorem dX6_appraise_32 : decode cX6_appraise 32 = .ok (.astore 9, 2) := by decide +kernel
theorem dX6_appraise_34 : decode cX6_appraise 34 = .ok (.aload 9, 2) := by decide +kernel
theorem dX6_appraise_36 : decode cX6_appraise 36 = .ok (.ifnull 35, 3) := by decide +kernel
theorem dX6_appraise_39 : decode cX6_appraise 39 = .ok (.aload 9, 2) := by decide +kernel
theorem dX6_appraise_41 : decode cX6_appraise 41 = .ok (.getfield 39, 3) := by decide +kernel
theorem dX6_appraise_44 : decode cX6_appraise 44 = .ok (.iload_n 1, 1) := by decide +kernel
theorem dX6_appraise_45 : decode cX6_appraise 45 = .ok (.if_icmp .ne 26, 3) := by decide +kernel
theorem dX6_appraise_48 : decode cX6_appraise 48 = .ok (.lload 4, 2) := by decide +kernel
theorem dX6_appraise_50 : decode cX6_appraise 50 = .ok (.aload_n 0, 1) := by decide +kernel
theorem dX6_appraise_51 : decode cX6_appraise 51 = .ok (.iload_n 3, 1) := by decide +kernel
theorem dX6_appraise_52 : decode cX6_appraise 52 = .ok (.aload 9, 2) := by decide +kernel
theorem dX6_appraise_54 : decode cX6_appraise 54 = .ok (.invokevirtual 46, 3) := by decide +kernel
theorem dX6_appraise_57 : decode cX6_appraise 57 = .ok (.ladd, 1) := by decide +kernel
theorem dX6_appraise_58 : decode cX6_appraise 58 = .ok (.lstore 4, 2) := by decide +kernel
theorem dX6_appraise_60 : decode cX6_appraise 60 = .ok (.lload 6, 2) := by decide +kernel
theorem dX6_appraise_62 : decode cX6_appraise 62 = .ok (.aload 9, 2) := by decide +kernel
theorem dX6_appraise_64 : decode cX6_appraise 64 = .ok (.getfield 50, 3) := by decide +kernel
theorem dX6_appraise_67 : decode cX6_appraise 67 = .ok (.i2l, 1) := by decide +kernel
theorem dX6_appraise_68 : decode cX6_appraise 68 = .ok (.ladd, 1) := by decide +kernel
theorem dX6_appraise_69 : decode cX6_appraise 69 = .ok (.lstore 6, 2) := by decide +kernel
theorem dX6_appraise_71 : decode cX6_appraise 71 = .ok (.iinc 8 1, 3) := by decide +kernel
theorem dX6_appraise_74 : decode cX6_appraise 74 = .ok (.goto (-65), 3) := by decide +kernel
theorem dX6_appraise_77 : decode cX6_appraise 77 = .ok (.lload 6, 2) := by decide +kernel
theorem dX6_appraise_79 : decode cX6_appraise 79 = .ok (.lconst 0, 1) := by decide +kernel
theorem dX6_appraise_80 : decode cX6_appraise 80 = .ok (.lcmp, 1) := by decide +kernel
theorem dX6_appraise_81 : decode cX6_appraise 81 = .ok (.ifCond .gt 5, 3) := by decide +kernel
theorem dX6_appraise_84 : decode cX6_appraise 84 = .ok (.iconst 0, 1) := by decide +kernel
theorem dX6_appraise_85 : decode cX6_appraise 85 = .ok (.ireturn, 1) := by decide +kernel
theorem dX6_appraise_86 : decode cX6_appraise 86 = .ok (.lload 4, 2) := by decide +kernel
theorem dX6_appraise_88 : decode cX6_appraise 88 = .ok (.iload_n 2, 1) := by decide +kernel
theorem dX6_appraise_89 : decode cX6_appraise 89 = .ok (.i2l, 1) := by decide +kernel
theorem dX6_appraise_90 : decode cX6_appraise 90 = .ok (.lmul, 1) := by decide +kernel
theorem dX6_appraise_91 : decode cX6_appraise 91 = .ok (.lload 6, 2) := by decide +kernel
theorem dX6_appraise_93 : decode cX6_appraise 93 = .ok (.ldiv, 1) := by decide +kernel
theorem dX6_appraise_94 : decode cX6_appraise 94 = .ok (.ldc2_w 53, 3) := by decide +kernel
theorem dX6_appraise_97 : decode cX6_appraise 97 = .ok (.invokestatic 55, 3) := by decide +kernel
theorem dX6_appraise_100 : decode cX6_appraise 100 = .ok (.l2i, 1) := by decide +kernel
theorem dX6_appraise_101 : decode cX6_appraise 101 = .ok (.ireturn, 1) := by decide +kernel
set_option maxRecDepth 20000 in
theorem ggX6_priceIn_X9_yearOf : GoodIn wsX6_priceIn wsX9_yearOf := goodIn_r _ [5] (by decide +kernel) (by decide +kernel)
set_option maxRecDepth 20000 in
theorem gX6_priceIn_X9_yearOf_n64 : GoodIn wsX6_priceIn (wsX9_yearOf) := ggX6_priceIn_X9_yearOf
set_option maxRecDepth 20000 in
theorem ggX6_priceIn_X6_levelIn : GoodIn wsX6_priceIn wsX6_levelIn := goodIn_r _ [10, 11, 16, 17, 18] (by decide +kernel) (by decide +kernel)
set_option maxRecDepth 20000 in
theorem gX6_priceIn_X6_levelIn : GoodIn wsX6_priceIn (wsV RX6 67 RX6 yX6_levelIn wsX6_levelIn) := goodIn_app (goodIn_of _ (by decide +kernel)) ggX6_priceIn_X6_levelIn
theorem dX6_priceIn_0 : decode cX6_priceIn 0 = .ok (.aload_n 0, 1) := by decide +kernel
theorem dX6_priceIn_1 : decode cX6_priceIn 1 = .ok (.aload_n 2, 1) := by decide +kernel
theorem dX6_priceIn_2 : decode cX6_priceIn 2 = .ok (.getfield 61, 3) := by decide +kernel
theorem dX6_priceIn_5 : decode cX6_priceIn 5 = .ok (.invokestatic 64, 3) := by decide +kernel
theorem dX6_priceIn_8 : decode cX6_priceIn 8 = .ok (.invokevirtual 67, 3) := by decide +kernel
theorem dX6_priceIn_11 : decode cX6_priceIn 11 = .ok (.istore_n 3, 1) := by decide +kernel
theorem dX6_priceIn_12 : decode cX6_priceIn 12 = .ok (.iload_n 3, 1) := by decide +kernel
theorem dX6_priceIn_13 : decode cX6_priceIn 13 = .ok (.ifCond .le 21, 3) := by decide +kernel
theorem dX6_priceIn_16 : decode cX6_priceIn 16 = .ok (.aload_n 2, 1) := by decide +kernel
theorem dX6_priceIn_17 : decode cX6_priceIn 17 = .ok (.getfield 70, 3) := by decide +kernel
theorem dX6_priceIn_20 : decode cX6_priceIn 20 = .ok (.i2l, 1) := by decide +kernel
theorem dX6_priceIn_21 : decode cX6_priceIn 21 = .ok (.aload_n 0, 1) := by decide +kernel
theorem dX6_priceIn_22 : decode cX6_priceIn 22 = .ok (.iload_n 1, 1) := by decide +kernel
theorem dX6_priceIn_23 : decode cX6_priceIn 23 = .ok (.invokevirtual 67, 3) := by decide +kernel
theorem dX6_priceIn_26 : decode cX6_priceIn 26 = .ok (.i2l, 1) := by decide +kernel
theorem dX6_priceIn_27 : decode cX6_priceIn 27 = .ok (.lmul, 1) := by decide +kernel
theorem dX6_priceIn_28 : decode cX6_priceIn 28 = .ok (.iload_n 3, 1) := by decide +kernel
theorem dX6_priceIn_29 : decode cX6_priceIn 29 = .ok (.i2l, 1) := by decide +kernel
theorem dX6_priceIn_30 : decode cX6_priceIn 30 = .ok (.ldiv, 1) := by decide +kernel
theorem dX6_priceIn_31 : decode cX6_priceIn 31 = .ok (.goto 4, 3) := by decide +kernel
theorem dX6_priceIn_34 : decode cX6_priceIn 34 = .ok (.lconst 0, 1) := by decide +kernel
theorem dX6_priceIn_35 : decode cX6_priceIn 35 = .ok (.lreturn, 1) := by decide +kernel
theorem dX7_init_0 : decode cX7_init 0 = .ok (.aload_n 0, 1) := by decide +kernel
theorem dX7_init_1 : decode cX7_init 1 = .ok (.invokespecial 3, 3) := by decide +kernel
theorem dX7_init_4 : decode cX7_init 4 = .ok (.aload_n 0, 1) := by decide +kernel
theorem dX7_init_5 : decode cX7_init 5 = .ok (.iload_n 1, 1) := by decide +kernel
theorem dX7_init_6 : decode cX7_init 6 = .ok (.putfield 9, 3) := by decide +kernel
theorem dX7_init_9 : decode cX7_init 9 = .ok (.aload_n 0, 1) := by decide +kernel
theorem dX7_init_10 : decode cX7_init 10 = .ok (.iload_n 2, 1) := by decide +kernel
theorem dX7_init_11 : decode cX7_init 11 = .ok (.putfield 15, 3) := by decide +kernel
theorem dX7_init_14 : decode cX7_init 14 = .ok (.aload_n 0, 1) := by decide +kernel
theorem dX7_init_15 : decode cX7_init 15 = .ok (.iconst 0, 1) := by decide +kernel
theorem dX7_init_16 : decode cX7_init 16 = .ok (.putfield 18, 3) := by decide +kernel
theorem dX7_init_19 : decode cX7_init 19 = .ok (.return_, 1) := by decide +kernel
set_option maxRecDepth 20000 in
theorem ggX7_isPossible_X9_isBetween : GoodIn wsX7_isPossible wsX9_isBetween := goodIn_r _ [6] (by decide +kernel) (by decide +kernel)
set_option maxRecDepth 20000 in
theorem gX7_isPossible_X9_isBetween_n21 : GoodIn wsX7_isPossible (wsX9_isBetween) := ggX7_isPossible_X9_isBetween
theorem dX7_isPossible_0 : decode cX7_isPossible 0 = .ok (.aload_n 0, 1) := by decide +kernel
theorem dX7_isPossible_1 : decode cX7_isPossible 1 = .ok (.getfield 9, 3) := by decide +kernel
theorem dX7_isPossible_4 : decode cX7_isPossible 4 = .ok (.iconst 0, 1) := by decide +kernel
theorem dX7_isPossible_5 : decode cX7_isPossible 5 = .ok (.bipush 7, 2) := by decide +kernel
theorem dX7_isPossible_7 : decode cX7_isPossible 7 = .ok (.invokestatic 21, 3) := by decide +kernel
theorem dX7_isPossible_10 : decode cX7_isPossible 10 = .ok (.ifCond .eq 20, 3) := by decide +kernel
theorem dX7_isPossible_13 : decode cX7_isPossible 13 = .ok (.aload_n 0, 1) := by decide +kernel
theorem dX7_isPossible_14 : decode cX7_isPossible 14 = .ok (.getfield 15, 3) := by decide +kernel
theorem dX7_isPossible_17 : decode cX7_isPossible 17 = .ok (.iconst 0, 1) := by decide +kernel
theorem dX7_isPossible_18 : decode cX7_isPossible 18 = .ok (.ldc 25, 2) := by decide +kernel
theorem dX7_isPossible_20 : decode cX7_isPossible 20 = .ok (.invokestatic 21, 3) := by decide +kernel
theorem dX7_isPossible_23 : decode cX7_isPossible 23 = .ok (.ifCond .eq 7, 3) := by decide +kernel
theorem dX7_isPossible_26 : decode cX7_isPossible 26 = .ok (.iconst 1, 1) := by decide +kernel
theorem dX7_isPossible_27 : decode cX7_isPossible 27 = .ok (.goto 4, 3) := by decide +kernel
theorem dX7_isPossible_30 : decode cX7_isPossible 30 = .ok (.iconst 0, 1) := by decide +kernel
theorem dX7_isPossible_31 : decode cX7_isPossible 31 = .ok (.ireturn, 1) := by decide +kernel
theorem dX7_takes_0 : decode cX7_takes 0 = .ok (.aload_n 0, 1) := by decide +kernel
theorem dX7_takes_1 : decode cX7_takes 1 = .ok (.getfield 9, 3) := by decide +kernel
theorem dX7_takes_4 : decode cX7_takes 4 = .ok (.iload_n 1, 1) := by decide +kernel
theorem dX7_takes_5 : decode cX7_takes 5 = .ok (.ishr, 1) := by decide +kernel
theorem dX7_takes_6 : decode cX7_takes 6 = .ok (.iconst 1, 1) := by decide +kernel
theorem dX7_takes_7 : decode cX7_takes 7 = .ok (.iand, 1) := by decide +kernel
theorem dX7_takes_8 : decode cX7_takes 8 = .ok (.iconst 1, 1) := by decide +kernel
theorem dX7_takes_9 : decode cX7_takes 9 = .ok (.if_icmp .ne 15, 3) := by decide +kernel
theorem dX7_takes_12 : decode cX7_takes 12 = .ok (.iload_n 2, 1) := by decide +kernel
theorem dX7_takes_13 : decode cX7_takes 13 = .ok (.aload_n 0, 1) := by decide +kernel
theorem dX7_takes_14 : decode cX7_takes 14 = .ok (.getfield 15, 3) := by decide +kernel
theorem dX7_takes_17 : decode cX7_takes 17 = .ok (.if_icmp .gt 7, 3) := by decide +kernel
theorem dX7_takes_20 : decode cX7_takes 20 = .ok (.iconst 1, 1) := by decide +kernel
theorem dX7_takes_21 : decode cX7_takes 21 = .ok (.goto 4, 3) := by decide +kernel
theorem dX7_takes_24 : decode cX7_takes 24 = .ok (.iconst 0, 1) := by decide +kernel
theorem dX7_takes_25 : decode cX7_takes 25 = .ok (.ireturn, 1) := by decide +kernel
theorem dX8_init_0 : decode cX8_init 0 = .ok (.aload_n 0, 1) := by decide +kernel
theorem dX8_init_1 : decode cX8_init 1 = .ok (.invokespecial 3, 3) := by decide +kernel
theorem dX8_init_4 : decode cX8_init 4 = .ok (.aload_n 0, 1) := by decide +kernel
theorem dX8_init_5 : decode cX8_init 5 = .ok (.iload_n 1, 1) := by decide +kernel
theorem dX8_init_6 : decode cX8_init 6 = .ok (.putfield 9, 3) := by decide +kernel
theorem dX8_init_9 : decode cX8_init 9 = .ok (.aload_n 0, 1) := by decide +kernel
theorem dX8_init_10 : decode cX8_init 10 = .ok (.iload_n 2, 1) := by decide +kernel
theorem dX8_init_11 : decode cX8_init 11 = .ok (.putfield 15, 3) := by decide +kernel
theorem dX8_init_14 : decode cX8_init 14 = .ok (.aload_n 0, 1) := by decide +kernel
theorem dX8_init_15 : decode cX8_init 15 = .ok (.iload_n 3, 1) := by decide +kernel
theorem dX8_init_16 : decode cX8_init 16 = .ok (.putfield 18, 3) := by decide +kernel
theorem dX8_init_19 : decode cX8_init 19 = .ok (.aload_n 0, 1) := by decide +kernel
theorem dX8_init_20 : decode cX8_init 20 = .ok (.iload 4, 2) := by decide +kernel
theorem dX8_init_22 : decode cX8_init 22 = .ok (.putfield 21, 3) := by decide +kernel
theorem dX8_init_25 : decode cX8_init 25 = .ok (.return_, 1) := by decide +kernel
set_option maxRecDepth 20000 in
theorem ggX8_isPossible_X9_isMetal : GoodIn wsX8_isPossible wsX9_isMetal := goodIn_r _ [8, 9, 10, 7, 11] (by decide +kernel) (by decide +kernel)
set_option maxRecDepth 20000 in
theorem gX8_isPossible_X9_isMetal_n24 : GoodIn wsX8_isPossible (wsX9_isMetal) := ggX8_isPossible_X9_isMetal
set_option maxRecDepth 20000 in
theorem ggX8_isPossible_X9_isDay : GoodIn wsX8_isPossible wsX9_isDay := goodIn_r _ [13, 9, 10, 7, 11] (by decide +kernel) (by decide +kernel)
set_option maxRecDepth 20000 in
theorem gX8_isPossible_X9_isDay_n28 : GoodIn wsX8_isPossible (wsX9_isDay) := ggX8_isPossible_X9_isDay
set_option maxRecDepth 20000 in
theorem ggX8_isPossible_X9_isBetween : GoodIn wsX8_isPossible wsX9_isBetween := goodIn_r _ [11] (by decide +kernel) (by decide +kernel)
set_option maxRecDepth 20000 in
theorem gX8_isPossible_X9_isBetween_n31 : GoodIn wsX8_isPossible (wsX9_isBetween) := ggX8_isPossible_X9_isBetween
theorem dX8_isPossible_0 : decode cX8_isPossible 0 = .ok (.aload_n 0, 1) := by decide +kernel
theorem dX8_isPossible_1 : decode cX8_isPossible 1 = .ok (.getfield 9, 3) := by decide +kernel
theorem dX8_isPossible_4 : decode cX8_isPossible 4 = .ok (.invokestatic 24, 3) := by decide +kernel
theorem dX8_isPossible_7 : decode cX8_isPossible 7 = .ok (.ifCond .eq 44, 3) := by decide +kernel
theorem dX8_isPossible_10 : decode cX8_isPossible 10 = .ok (.aload_n 0, 1) := by decide +kernel
theorem dX8_isPossible_11 : decode cX8_isPossible 11 = .ok (.getfield 15, 3) := by decide +kernel
theorem dX8_isPossible_14 : decode cX8_isPossible 14 = .ok (.invokestatic 28, 3) := by decide +kernel
theorem dX8_isPossible_17 : decode cX8_isPossible 17 = .ok (.ifCond .eq 34, 3) := by decide +kernel
theorem dX8_isPossible_20 : decode cX8_isPossible 20 = .ok (.aload_n 0, 1) := by decide +kernel
theorem dX8_isPossible_21 : decode cX8_isPossible 21 = .ok (.getfield 18, 3) := by decide +kernel
theorem dX8_isPossible_24 : decode cX8_isPossible 24 = .ok (.iconst 1, 1) := by decide +kernel
theorem dX8_isPossible_25 : decode cX8_isPossible 25 = .ok (.sipush 10000, 3) := by decide +kernel
theorem dX8_isPossible_28 : decode cX8_isPossible 28 = .ok (.invokestatic 31, 3) := by decide +kernel
theorem dX8_isPossible_31 : decode cX8_isPossible 31 = .ok (.ifCond .eq 20, 3) := by decide +kernel
theorem dX8_isPossible_34 : decode cX8_isPossible 34 = .ok (.aload_n 0, 1) := by decide +kernel
theorem dX8_isPossible_35 : decode cX8_isPossible 35 = .ok (.getfield 21, 3) := by decide +kernel
theorem dX8_isPossible_38 : decode cX8_isPossible 38 = .ok (.iconst 0, 1) := by decide +kernel
theorem dX8_isPossible_39 : decode cX8_isPossible 39 = .ok (.ldc 35, 2) := by decide +kernel
theorem dX8_isPossible_41 : decode cX8_isPossible 41 = .ok (.invokestatic 31, 3) := by decide +kernel
theorem dX8_isPossible_44 : decode cX8_isPossible 44 = .ok (.ifCond .eq 7, 3) := by decide +kernel
theorem dX8_isPossible_47 : decode cX8_isPossible 47 = .ok (.iconst 1, 1) := by decide +kernel
theorem dX8_isPossible_48 : decode cX8_isPossible 48 = .ok (.goto 4, 3) := by decide +kernel
theorem dX8_isPossible_51 : decode cX8_isPossible 51 = .ok (.iconst 0, 1) := by decide +kernel
theorem dX8_isPossible_52 : decode cX8_isPossible 52 = .ok (.ireturn, 1) := by decide +kernel
set_option maxRecDepth 20000 in
theorem ggX9_init_X5_init : GoodIn wsX9_init wsX5_init := goodIn_r _ [28, 29, 2, 3, 30, 31, 32, 79, 80] (by decide +kernel) (by decide +kernel)
set_option maxRecDepth 20000 in
theorem gX9_init_X5_init_n15 : GoodIn wsX9_init (wsX5_init) := ggX9_init_X5_init
set_option maxRecDepth 20000 in
theorem ggX9_init_X3_init : GoodIn wsX9_init wsX3_init := goodIn_r _ [34, 35, 2, 3, 25, 36, 37, 38, 39, 81, 82, 83, 84] (by decide +kernel) (by decide +kernel)
set_option maxRecDepth 20000 in
theorem gX9_init_X3_init_n22 : GoodIn wsX9_init (wsX3_init) := ggX9_init_X3_init
set_option maxRecDepth 20000 in
theorem ggX9_init_X2_init : GoodIn wsX9_init wsX2_init := goodIn_r _ [42, 43, 2, 3, 44, 45, 46, 25, 47, 48, 49, 50, 51, 52, 53, 54, 55, 85, 86, 87, 88, 89, 90, 91] (by decide +kernel) (by decide +kernel)
set_option maxRecDepth 20000 in
theorem gX9_init_X2_init : GoodIn wsX9_init (wsX2_init) := ggX9_init_X2_init
set_option maxRecDepth 20000 in
theorem ggX9_init_X6_init : GoodIn wsX9_init wsX6_init := goodIn_r _ [58, 59, 2, 3, 60, 61, 62, 25, 63, 64, 53, 54, 55, 92, 93, 94] (by decide +kernel) (by decide +kernel)
set_option maxRecDepth 20000 in
theorem gX9_init_X6_init : GoodIn wsX9_init (wsX6_init) := ggX9_init_X6_init
set_option maxRecDepth 20000 in
theorem ggX9_init_X0_init : GoodIn wsX9_init wsX0_init := goodIn_r _ [66, 67, 2, 3, 68, 69, 70, 71, 95, 96, 97] (by decide +kernel) (by decide +kernel)
set_option maxRecDepth 20000 in
theorem gX9_init_X0_init_n43 : GoodIn wsX9_init (wsX0_init) := ggX9_init_X0_init
theorem dX9_init_0 : decode cX9_init 0 = .ok (.aload_n 0, 1) := by decide +kernel
theorem dX9_init_1 : decode cX9_init 1 = .ok (.invokespecial 1, 3) := by decide +kernel
theorem dX9_init_4 : decode cX9_init 4 = .ok (.aload_n 0, 1) := by decide +kernel
theorem dX9_init_5 : decode cX9_init 5 = .ok (.iconst 0, 1) := by decide +kernel
theorem dX9_init_6 : decode cX9_init 6 = .ok (.putfield 7, 3) := by decide +kernel
theorem dX9_init_9 : decode cX9_init 9 = .ok (.aload_n 0, 1) := by decide +kernel
theorem dX9_init_10 : decode cX9_init 10 = .ok (.new 13, 3) := by decide +kernel
theorem dX9_init_13 : decode cX9_init 13 = .ok (.dup, 1) := by decide +kernel
theorem dX9_init_14 : decode cX9_init 14 = .ok (.invokespecial 15, 3) := by decide +kernel
theorem dX9_init_17 : decode cX9_init 17 = .ok (.putfield 16, 3) := by decide +kernel
theorem dX9_init_20 : decode cX9_init 20 = .ok (.aload_n 0, 1) := by decide +kernel
theorem dX9_init_21 : decode cX9_init 21 = .ok (.new 20, 3) := by decide +kernel
theorem dX9_init_24 : decode cX9_init 24 = .ok (.dup, 1) := by decide +kernel
theorem dX9_init_25 : decode cX9_init 25 = .ok (.invokespecial 22, 3) := by decide +kernel
theorem dX9_init_28 : decode cX9_init 28 = .ok (.putfield 23, 3) := by decide +kernel
theorem dX9_init_31 : decode cX9_init 31 = .ok (.aload_n 0, 1) := by decide +kernel
theorem dX9_init_32 : decode cX9_init 32 = .ok (.new 27, 3) := by decide +kernel
theorem dX9_init_35 : decode cX9_init 35 = .ok (.dup, 1) := by decide +kernel
theorem dX9_init_36 : decode cX9_init 36 = .ok (.invokespecial 29, 3) := by decide +kernel
theorem dX9_init_39 : decode cX9_init 39 = .ok (.putfield 30, 3) := by decide +kernel
theorem dX9_init_42 : decode cX9_init 42 = .ok (.aload_n 0, 1) := by decide +kernel
theorem dX9_init_43 : decode cX9_init 43 = .ok (.new 34, 3) := by decide +kernel
theorem dX9_init_46 : decode cX9_init 46 = .ok (.dup, 1) := by decide +kernel
theorem dX9_init_47 : decode cX9_init 47 = .ok (.invokespecial 36, 3) := by decide +kernel
theorem dX9_init_50 : decode cX9_init 50 = .ok (.putfield 37, 3) := by decide +kernel
theorem dX9_init_53 : decode cX9_init 53 = .ok (.aload_n 0, 1) := by decide +kernel
theorem dX9_init_54 : decode cX9_init 54 = .ok (.new 41, 3) := by decide +kernel
theorem dX9_init_57 : decode cX9_init 57 = .ok (.dup, 1) := by decide +kernel
theorem dX9_init_58 : decode cX9_init 58 = .ok (.invokespecial 43, 3) := by decide +kernel
theorem dX9_init_61 : decode cX9_init 61 = .ok (.putfield 44, 3) := by decide +kernel
theorem dX9_init_64 : decode cX9_init 64 = .ok (.aload_n 0, 1) := by decide +kernel
theorem dX9_init_65 : decode cX9_init 65 = .ok (.bipush 30, 2) := by decide +kernel
theorem dX9_init_67 : decode cX9_init 67 = .ok (.newarray .int, 2) := by decide +kernel
theorem dX9_init_69 : decode cX9_init 69 = .ok (.putfield 48, 3) := by decide +kernel
theorem dX9_init_72 : decode cX9_init 72 = .ok (.return_, 1) := by decide +kernel
set_option maxRecDepth 20000 in
theorem ggX9_go_X9_isBetween : GoodIn wsX9_go wsX9_isBetween := goodIn_r _ [9] (by decide +kernel) (by decide +kernel)
set_option maxRecDepth 20000 in
theorem gX9_go_X9_isBetween : GoodIn wsX9_go (va_wsS RX9 52 yX9_isBetween wsX9_isBetween) := goodIn_app (goodIn_of _ (by decide +kernel)) ggX9_go_X9_isBetween
theorem dX9_go_0 : decode cX9_go 0 = .ok (.iload_n 1, 1) := by decide +kernel
theorem dX9_go_1 : decode cX9_go 1 = .ok (.iconst 0, 1) := by decide +kernel
theorem dX9_go_2 : decode cX9_go 2 = .ok (.sipush 20000, 3) := by decide +kernel
theorem dX9_go_5 : decode cX9_go 5 = .ok (.invokestatic 52, 3) := by decide +kernel
theorem dX9_go_8 : decode cX9_go 8 = .ok (.ifCond .ne 5, 3) := by decide +kernel
theorem dX9_go_11 : decode cX9_go 11 = .ok (.iconst (-1), 1) := by decide +kernel
theorem dX9_go_12 : decode cX9_go 12 = .ok (.ireturn, 1) := by decide +kernel
theorem dX9_go_13 : decode cX9_go 13 = .ok (.aload_n 0, 1) := by decide +kernel
theorem dX9_go_14 : decode cX9_go 14 = .ok (.aload_n 0, 1) := by decide +kernel
theorem dX9_go_15 : decode cX9_go 15 = .ok (.getfield 7, 3) := by decide +kernel
theorem dX9_go_18 : decode cX9_go 18 = .ok (.iload_n 1, 1) := by decide +kernel
theorem dX9_go_19 : decode cX9_go 19 = .ok (.iadd, 1) := by decide +kernel
theorem dX9_go_20 : decode cX9_go 20 = .ok (.sipush 20000, 3) := by decide +kernel
theorem dX9_go_23 : decode cX9_go 23 = .ok (.invokestatic 56, 3) := by decide +kernel
theorem dX9_go_26 : decode cX9_go 26 = .ok (.putfield 7, 3) := by decide +kernel
theorem dX9_go_29 : decode cX9_go 29 = .ok (.aload_n 0, 1) := by decide +kernel
theorem dX9_go_30 : decode cX9_go 30 = .ok (.getfield 7, 3) := by decide +kernel
theorem dX9_go_33 : decode cX9_go 33 = .ok (.ireturn, 1) := by decide +kernel
set_option maxRecDepth 20000 in
theorem ggX9_law_X4_init : GoodIn wsX9_law wsX4_init := goodIn_r _ [7, 8, 9, 10, 11, 12, 13, 14, 15, 16, 41, 42, 43, 44, 45] (by decide +kernel) (by decide +kernel)
set_option maxRecDepth 20000 in
theorem gX9_law_X4_init : GoodIn wsX9_law (wsX4_init) := ggX9_law_X4_init
set_option maxRecDepth 20000 in
theorem ggX9_law_X5_enact : GoodIn wsX9_law wsX5_enact := goodIn_r _ [21, 22, 23, 24, 25, 26, 4, 27, 11, 13, 14, 15, 16, 28, 29, 30, 31, 32, 33, 46, 47, 41, 42, 43, 44, 45] (by decide +kernel) (by decide +kernel)
set_option maxRecDepth 20000 in
theorem gX9_law_X5_enact : GoodIn wsX9_law (wsV RX9 67 RX5 yX5_enact wsX5_enact) := goodIn_app (goodIn_of _ (by decide +kernel)) ggX9_law_X5_enact
theorem dX9_law_0 : decode cX9_law 0 = .ok (.aload_n 0, 1) := by decide +kernel
theorem dX9_law_1 : decode cX9_law 1 = .ok (.getfield 16, 3) := by decide +kernel
theorem dX9_law_4 : decode cX9_law 4 = .ok (.new 62, 3) := by decide +kernel
theorem dX9_law_7 : decode cX9_law 7 = .ok (.dup, 1) := by decide +kernel
theorem dX9_law_8 : decode cX9_law 8 = .ok (.iload_n 1, 1) := by decide +kernel
theorem dX9_law_9 : decode cX9_law 9 = .ok (.iload_n 2, 1) := by decide +kernel
theorem dX9_law_10 : decode cX9_law 10 = .ok (.iload_n 3, 1) := by decide +kernel
theorem dX9_law_11 : decode cX9_law 11 = .ok (.invokespecial 64, 3) := by decide +kernel
theorem dX9_law_14 : decode cX9_law 14 = .ok (.invokevirtual 67, 3) := by decide +kernel
theorem dX9_law_17 : decode cX9_law 17 = .ok (.ireturn, 1) := by decide +kernel
set_option maxRecDepth 20000 in
theorem ggX9_owner_X3_enter : GoodIn wsX9_owner wsX3_enter := goodIn_r _ [6, 7, 8, 9, 10, 11, 12, 13, 14, 15, 16, 17, 18, 26, 27, 28, 29] (by decide +kernel) (by decide +kernel)
set_option maxRecDepth 20000 in
theorem gX9_owner_X3_enter : GoodIn wsX9_owner (wsV RX9 71 RX3 yX3_enter wsX3_enter) := goodIn_app (goodIn_of _ (by decide +kernel)) ggX9_owner_X3_enter
theorem dX9_owner_0 : decode cX9_owner 0 = .ok (.aload_n 0, 1) := by decide +kernel
theorem dX9_owner_1 : decode cX9_owner 1 = .ok (.getfield 23, 3) := by decide +kernel
theorem dX9_owner_4 : decode cX9_owner 4 = .ok (.iload_n 1, 1) := by decide +kernel
theorem dX9_owner_5 : decode cX9_owner 5 = .ok (.iload_n 2, 1) := by decide +kernel
theorem dX9_owner_6 : decode cX9_owner 6 = .ok (.iload_n 3, 1) := by decide +kernel
theorem dX9_owner_7 : decode cX9_owner 7 = .ok (.invokevirtual 71, 3) := by decide +kernel
theorem dX9_owner_10 : decode cX9_owner 10 = .ok (.ireturn, 1) := by decide +kernel
set_option maxRecDepth 20000 in
theorem ggX9_find_X1_init : GoodIn wsX9_find wsX1_init := goodIn_r _ [8, 9, 10, 11, 12, 13, 14, 15, 16, 17, 18, 19, 20, 21, 22, 23, 50, 51, 52, 53, 54, 55, 56, 57, 58, 59, 60] (by decide +kernel) (by decide +kernel)
set_option maxRecDepth 20000 in
theorem gX9_find_X1_init : GoodIn wsX9_find (wsX1_init) := ggX9_find_X1_init
set_option maxRecDepth 20000 in
theorem ggX9_find_X2_enter : GoodIn wsX9_find wsX2_enter := goodIn_r _ [28, 29, 30, 31, 32, 33, 4, 34, 12, 13, 15, 16, 17, 18, 19, 20, 22, 21, 35, 36, 37, 38, 39, 40, 41, 42, 61, 62, 63, 64, 65, 66, 67, 50, 51, 52, 53, 54, 55, 56, 57, 58, 59, 60] (by decide +kernel) (by decide +kernel)
set_option maxRecDepth 20000 in
theorem gX9_find_X2_enter : GoodIn wsX9_find (wsV RX9 79 RX2 yX2_enter wsX2_enter) := goodIn_app (goodIn_of _ (by decide +kernel)) ggX9_find_X2_enter
theorem dX9_find_0 : decode cX9_find 0 = .ok (.aload_n 0, 1) := by decide +kernel
theorem dX9_find_1 : decode cX9_find 1 = .ok (.getfield 30, 3) := by decide +kernel
theorem dX9_find_4 : decode cX9_find 4 = .ok (.new 74, 3) := by decide +kernel
theorem dX9_find_7 : decode cX9_find 7 = .ok (.dup, 1) := by decide +kernel
theorem dX9_find_8 : decode cX9_find 8 = .ok (.iload_n 1, 1) := by decide +kernel
theorem dX9_find_9 : decode cX9_find 9 = .ok (.iload_n 2, 1) := by decide +kernel
theorem dX9_find_10 : decode cX9_find 10 = .ok (.iload_n 3, 1) := by decide +kernel
theorem dX9_find_11 : decode cX9_find 11 = .ok (.iload 4, 2) := by decide +kernel
theorem dX9_find_13 : decode cX9_find 13 = .ok (.aload_n 0, 1) := by decide +kernel
theorem dX9_find_14 : decode cX9_find 14 = .ok (.getfield 7, 3) := by decide +kernel
theorem dX9_find_17 : decode cX9_find 17 = .ok (.invokespecial 76, 3) := by decide +kernel
theorem dX9_find_20 : decode cX9_find 20 = .ok (.invokevirtual 79, 3) := by decide +kernel
theorem dX9_find_23 : decode cX9_find 23 = .ok (.ireturn, 1) := by decide +kernel
set_option maxRecDepth 20000 in
theorem ggX9_part_X2_separate : GoodIn wsX9_part wsX2_separate := goodIn_r _ [7, 8, 9, 10, 11, 12, 6, 13, 14, 15, 16, 17, 18, 19, 20, 21, 22, 23, 24, 25, 33, 34, 35, 36, 37, 38, 39] (by decide +kernel) (by decide +kernel)
set_option maxRecDepth 20000 in
theorem gX9_part_X2_separate : GoodIn wsX9_part (wsV RX9 82 RX2 yX2_separate wsX2_separate) := goodIn_app (goodIn_of _ (by decide +kernel)) ggX9_part_X2_separate
theorem dX9_part_0 : decode cX9_part 0 = .ok (.aload_n 0, 1) := by decide +kernel
theorem dX9_part_1 : decode cX9_part 1 = .ok (.getfield 30, 3) := by decide +kernel
theorem dX9_part_4 : decode cX9_part 4 = .ok (.iload_n 1, 1) := by decide +kernel
theorem dX9_part_5 : decode cX9_part 5 = .ok (.iload_n 2, 1) := by decide +kernel
theorem dX9_part_6 : decode cX9_part 6 = .ok (.aload_n 0, 1) := by decide +kernel
theorem dX9_part_7 : decode cX9_part 7 = .ok (.getfield 7, 3) := by decide +kernel
theorem dX9_part_10 : decode cX9_part 10 = .ok (.invokevirtual 82, 3) := by decide +kernel
theorem dX9_part_13 : decode cX9_part 13 = .ok (.ireturn, 1) := by decide +kernel
set_option maxRecDepth 20000 in
theorem ggX9_hoard_X2_gatherHoards : GoodIn wsX9_hoard wsX2_gatherHoards := goodIn_r _ [7, 8, 9, 10, 11, 12, 13, 14, 15, 16, 6, 17, 18, 19, 20, 21, 22, 23, 24, 25, 26, 27, 28, 29, 30, 31, 32, 33, 34, 35, 36, 37, 38, 39, 40, 41, 42, 43, 44, 45, 46, 47, 48, 49, 50, 51, 52, 53, 54, 55, 56, 57, 58, 59, 60, 61, 73, 74, 75, 76, 77, 78, 79, 80, 81, 82, 83, 84, 85, 86, 87, 88, 89, 90] (by decide +kernel) (by decide +kernel)
set_option maxRecDepth 20000 in
theorem gX9_hoard_X2_gatherHoards : GoodIn wsX9_hoard (wsV RX9 85 RX2 yX2_gatherHoards wsX2_gatherHoards) := goodIn_app (goodIn_of _ (by decide +kernel)) ggX9_hoard_X2_gatherHoards
set_option maxRecDepth 20000 in
theorem ggX9_hoard_X2_hoardNumber : GoodIn wsX9_hoard wsX2_hoardNumber := goodIn_r _ [65, 8, 25, 26, 27, 6, 28, 18, 73, 74, 75, 76, 77, 78, 79] (by decide +kernel) (by decide +kernel)
set_option maxRecDepth 20000 in
theorem gX9_hoard_X2_hoardNumber : GoodIn wsX9_hoard (wsV RX9 89 RX2 yX2_hoardNumber wsX2_hoardNumber) := goodIn_app (goodIn_of _ (by decide +kernel)) ggX9_hoard_X2_hoardNumber
theorem dX9_hoard_0 : decode cX9_hoard 0 = .ok (.aload_n 0, 1) := by decide +kernel
theorem dX9_hoard_1 : decode cX9_hoard 1 = .ok (.getfield 30, 3) := by decide +kernel
theorem dX9_hoard_4 : decode cX9_hoard 4 = .ok (.aload_n 0, 1) := by decide +kernel
theorem dX9_hoard_5 : decode cX9_hoard 5 = .ok (.getfield 7, 3) := by decide +kernel
theorem dX9_hoard_8 : decode cX9_hoard 8 = .ok (.invokevirtual 85, 3) := by decide +kernel
theorem dX9_hoard_11 : decode cX9_hoard 11 = .ok (.aload_n 0, 1) := by decide +kernel
theorem dX9_hoard_12 : decode cX9_hoard 12 = .ok (.getfield 30, 3) := by decide +kernel
theorem dX9_hoard_15 : decode cX9_hoard 15 = .ok (.iload_n 1, 1) := by decide +kernel
theorem dX9_hoard_16 : decode cX9_hoard 16 = .ok (.invokevirtual 89, 3) := by decide +kernel
theorem dX9_hoard_19 : decode cX9_hoard 19 = .ok (.ireturn, 1) := by decide +kernel
set_option maxRecDepth 20000 in
theorem ggX9_size_X9_isPast : GoodIn wsX9_size wsX9_isPast := goodIn_r _ [5, 6, 7, 8, 4, 9, 78, 79, 80, 81, 82, 83, 84] (by decide +kernel) (by decide +kernel)
set_option maxRecDepth 20000 in
theorem gX9_size_X9_isPast : GoodIn wsX9_size (wsV RX9 93 RX9 yX9_isPast wsX9_isPast) := goodIn_app (goodIn_of _ (by decide +kernel)) ggX9_size_X9_isPast
set_option maxRecDepth 20000 in
theorem ggX9_size_X9_hoardSizeOn : GoodIn wsX9_size wsX9_hoardSizeOn := goodIn_r _ [13, 14, 15, 16, 17, 18, 19, 20, 21, 22, 23, 24, 25, 26, 27, 28, 29, 30, 31, 32, 33, 34, 35, 36, 37, 38, 39, 40, 41, 42, 43, 44, 45, 46, 47, 48, 49, 50, 51, 52, 53, 54, 55, 56, 57, 58, 59, 60, 61, 62, 63, 64, 65, 66, 67, 68, 69, 70, 71, 72, 73, 74, 75, 76, 77, 78, 79, 80, 81, 82, 83, 84, 85, 86, 87, 88, 89, 90, 91, 92, 93, 94, 95, 96, 97, 98, 99, 100, 101, 102] (by decide +kernel) (by decide +kernel)
set_option maxRecDepth 20000 in
theorem gX9_size_X9_hoardSizeOn : GoodIn wsX9_size (wsV RX9 97 RX9 yX9_hoardSizeOn wsX9_hoardSizeOn) := goodIn_app (goodIn_of _ (by decide +kernel)) ggX9_size_X9_hoardSizeOn
theorem dX9_size_0 : decode cX9_size 0 = .ok (.aload_n 0, 1) := by decide +kernel
theorem dX9_size_1 : decode cX9_size 1 = .ok (.iload_n 2, 1) := by decide +kernel
theorem dX9_size_2 : decode cX9_size 2 = .ok (.invokevirtual 93, 3) := by decide +kernel
theorem dX9_size_5 : decode cX9_size 5 = .ok (.ifCond .eq 12, 3) := by decide +kernel
theorem dX9_size_8 : decode cX9_size 8 = .ok (.aload_n 0, 1) := by decide +kernel
theorem dX9_size_9 : decode cX9_size 9 = .ok (.iload_n 1, 1) := by decide +kernel
theorem dX9_size_10 : decode cX9_size 10 = .ok (.iload_n 2, 1) := by decide +kernel
theorem dX9_size_11 : decode cX9_size 11 = .ok (.invokevirtual 97, 3) := by decide +kernel
theorem dX9_size_14 : decode cX9_size 14 = .ok (.goto 4, 3) := by decide +kernel
theorem dX9_size_17 : decode cX9_size 17 = .ok (.iconst (-1), 1) := by decide +kernel
theorem dX9_size_18 : decode cX9_size 18 = .ok (.ireturn, 1) := by decide +kernel
set_option maxRecDepth 20000 in
theorem ggX9_counts_X9_isTreasureOn : GoodIn wsX9_counts wsX9_isTreasureOn := goodIn_r _ [6, 7, 8, 9, 10, 11, 12, 13, 14, 15, 16, 17, 18, 19, 20, 21, 22, 23, 24, 25, 26, 27, 28, 29, 30, 31, 32, 33, 34, 35, 36, 37, 38, 39, 40, 41, 42, 43, 44, 45, 46, 47, 48, 49, 50, 51, 52, 53, 54, 55, 56, 57, 58, 59, 60, 61, 62, 63, 64, 65, 66, 67, 68, 69, 5, 70, 71, 72, 73, 74, 75, 76, 77, 78, 79, 80, 81, 82, 83, 84, 85, 86, 87, 88, 89, 90, 91, 92, 93, 94, 95, 96, 97, 98, 99, 100, 101, 102, 103, 104, 105, 106, 107, 108, 109, 110, 111, 112, 113, 114, 115, 116, 117, 118, 119, 120, 121, 122, 123, 124, 125, 126, 127, 128, 129, 130, 131] (by decide +kernel) (by decide +kernel)
set_option maxRecDepth 20000 in
theorem gX9_counts_X9_isTreasureOn : GoodIn wsX9_counts (wsV RX9 100 RX9 yX9_isTreasureOn wsX9_isTreasureOn) := goodIn_app (goodIn_of _ (by decide +kernel)) ggX9_counts_X9_isTreasureOn
theorem dX9_counts_0 : decode cX9_counts 0 = .ok (.aload_n 0, 1) := by decide +kernel
theorem dX9_counts_1 : decode cX9_counts 1 = .ok (.iload_n 1, 1) := by decide +kernel
theorem dX9_counts_2 : decode cX9_counts 2 = .ok (.aload_n 0, 1) := by decide +kernel
theorem dX9_counts_3 : decode cX9_counts 3 = .ok (.getfield 7, 3) := by decide +kernel
theorem dX9_counts_6 : decode cX9_counts 6 = .ok (.invokevirtual 100, 3) := by decide +kernel
theorem dX9_counts_9 : decode cX9_counts 9 = .ok (.ireturn, 1) := by decide +kernel
set_option maxRecDepth 20000 in
theorem ggX9_counted_X9_isPast : GoodIn wsX9_counted wsX9_isPast := goodIn_r _ [5, 6, 7, 8, 4, 9, 107, 108, 109, 110, 111, 112, 113] (by decide +kernel) (by decide +kernel)
set_option maxRecDepth 20000 in
theorem gX9_counted_X9_isPast : GoodIn wsX9_counted (wsV RX9 93 RX9 yX9_isPast wsX9_isPast) := goodIn_app (goodIn_of _ (by decide +kernel)) ggX9_counted_X9_isPast
set_option maxRecDepth 20000 in
theorem ggX9_counted_X9_isTreasureOn : GoodIn wsX9_counted wsX9_isTreasureOn := goodIn_r _ [13, 14, 15, 16, 17, 18, 19, 20, 21, 22, 23, 24, 25, 26, 27, 28, 29, 30, 31, 32, 33, 34, 35, 36, 37, 38, 39, 40, 41, 42, 43, 44, 45, 46, 47, 48, 49, 50, 51, 52, 53, 54, 55, 56, 57, 58, 59, 60, 61, 62, 63, 64, 65, 66, 67, 68, 69, 70, 71, 72, 73, 74, 75, 76, 4, 77, 78, 79, 80, 81, 82, 83, 84, 85, 86, 87, 88, 89, 90, 91, 92, 93, 94, 95, 96, 97, 98, 99, 100, 101, 102, 103, 104, 105, 106, 107, 108, 109, 110, 111, 112, 113, 114, 115, 116, 117, 118, 119, 120, 121, 122, 123, 124, 125, 126, 127, 128, 129, 130, 131, 132, 133, 134, 135, 136, 137, 138] (by decide +kernel) (by decide +kernel)
set_option maxRecDepth 20000 in
theorem gX9_counted_X9_isTreasureOn : GoodIn wsX9_counted (wsV RX9 100 RX9 yX9_isTreasureOn wsX9_isTreasureOn) := goodIn_app (goodIn_of _ (by decide +kernel)) ggX9_counted_X9_isTreasureOn
theorem dX9_counted_0 : decode cX9_counted 0 = .ok (.aload_n 0, 1) := by decide +kernel
theorem dX9_counted_1 : decode cX9_counted 1 = .ok (.iload_n 2, 1) := by decide +kernel
theorem dX9_counted_2 : decode cX9_counted 2 = .ok (.invokevirtual 93, 3) := by decide +kernel
theorem dX9_counted_5 : decode cX9_counted 5 = .ok (.ifCond .eq 16, 3) := by decide +kernel
theorem dX9_counted_8 : decode cX9_counted 8 = .ok (.aload_n 0, 1) := by decide +kernel
theorem dX9_counted_9 : decode cX9_counted 9 = .ok (.iload_n 1, 1) := by decide +kernel
theorem dX9_counted_10 : decode cX9_counted 10 = .ok (.iload_n 2, 1) := by decide +kernel
theorem dX9_counted_11 : decode cX9_counted 11 = .ok (.invokevirtual 100, 3) := by decide +kernel
theorem dX9_counted_14 : decode cX9_counted 14 = .ok (.ifCond .eq 7, 3) := by decide +kernel
theorem dX9_counted_17 : decode cX9_counted 17 = .ok (.iconst 1, 1) := by decide +kernel
theorem dX9_counted_18 : decode cX9_counted 18 = .ok (.goto 4, 3) := by decide +kernel
theorem dX9_counted_21 : decode cX9_counted 21 = .ok (.iconst 0, 1) := by decide +kernel
theorem dX9_counted_22 : decode cX9_counted 22 = .ok (.ireturn, 1) := by decide +kernel
set_option maxRecDepth 20000 in
theorem ggX9_told_X2_numbered : GoodIn wsX9_told wsX2_numbered := goodIn_r _ [16, 17, 18, 19, 20, 15, 21, 22, 63, 64, 65, 66, 67, 68, 69] (by decide +kernel) (by decide +kernel)
set_option maxRecDepth 20000 in
theorem gX9_told_X2_numbered : GoodIn wsX9_told (wsV RX9 104 RX2 yX2_numbered wsX2_numbered) := goodIn_app (goodIn_of _ (by decide +kernel)) ggX9_told_X2_numbered
set_option maxRecDepth 20000 in
theorem ggX9_told_X9_landownerOf : GoodIn wsX9_told wsX9_landownerOf := goodIn_r _ [27, 28, 3, 29, 30, 31, 32, 33, 34, 35, 36, 37, 38, 39, 40, 41, 42, 43, 44, 45, 46, 47, 48, 49, 50, 51, 52, 53, 54, 55, 56, 57, 58, 59, 60, 61, 62, 70, 71, 72, 73] (by decide +kernel) (by decide +kernel)
set_option maxRecDepth 20000 in
theorem gX9_told_X9_landownerOf : GoodIn wsX9_told (wsV RX9 133 RX9 yX9_landownerOf wsX9_landownerOf) := goodIn_app (goodIn_of _ (by decide +kernel)) ggX9_told_X9_landownerOf
theorem dX9_told_0 : decode cX9_told 0 = .ok (.aload_n 0, 1) := by decide +kernel
theorem dX9_told_1 : decode cX9_told 1 = .ok (.getfield 30, 3) := by decide +kernel
theorem dX9_told_4 : decode cX9_told 4 = .ok (.iload_n 1, 1) := by decide +kernel
theorem dX9_told_5 : decode cX9_told 5 = .ok (.invokevirtual 104, 3) := by decide +kernel
theorem dX9_told_8 : decode cX9_told 8 = .ok (.astore_n 3, 1) := by decide +kernel
theorem dX9_told_9 : decode cX9_told 9 = .ok (.aload_n 3, 1) := by decide +kernel
theorem dX9_told_10 : decode cX9_told 10 = .ok (.ifnonnull 6, 3) := by decide +kernel
theorem dX9_told_13 : decode cX9_told 13 = .ok (.ldc 108, 2) := by decide +kernel
theorem dX9_told_15 : decode cX9_told 15 = .ok (.ireturn, 1) := by decide +kernel
theorem dX9_told_16 : decode cX9_told 16 = .ok (.iload_n 2, 1) := by decide +kernel
theorem dX9_told_17 : decode cX9_told 17 = .ok (.tableswitch 106 0 9 #[55, 60, 65, 70, 75, 80, 85, 90, 95, 101], 55) := by decide +kernel
theorem dX9_told_72 : decode cX9_told 72 = .ok (.aload_n 3, 1) := by decide +kernel
theorem dX9_told_73 : decode cX9_told 73 = .ok (.getfield 109, 3) := by decide +kernel
theorem dX9_told_76 : decode cX9_told 76 = .ok (.ireturn, 1) := by decide +kernel
theorem dX9_told_77 : decode cX9_told 77 = .ok (.aload_n 3, 1) := by decide +kernel
theorem dX9_told_78 : decode cX9_told 78 = .ok (.getfield 112, 3) := by decide +kernel
theorem dX9_told_81 : decode cX9_told 81 = .ok (.ireturn, 1) := by decide +kernel
theorem dX9_told_82 : decode cX9_told 82 = .ok (.aload_n 3, 1) := by decide +kernel
theorem dX9_told_83 : decode cX9_told 83 = .ok (.getfield 115, 3) := by decide +kernel
theorem dX9_told_86 : decode cX9_told 86 = .ok (.ireturn, 1) := by decide +kernel
theorem dX9_told_87 : decode cX9_told 87 = .ok (.aload_n 3, 1) := by decide +kernel
theorem dX9_told_88 : decode cX9_told 88 = .ok (.getfield 118, 3) := by decide +kernel
theorem dX9_told_91 : decode cX9_told 91 = .ok (.ireturn, 1) := by decide +kernel
theorem dX9_told_92 : decode cX9_told 92 = .ok (.aload_n 3, 1) := by decide +kernel
theorem dX9_told_93 : decode cX9_told 93 = .ok (.getfield 121, 3) := by decide +kernel
theorem dX9_told_96 : decode cX9_told 96 = .ok (.ireturn, 1) := by decide +kernel
theorem dX9_told_97 : decode cX9_told 97 = .ok (.aload_n 3, 1) := by decide +kernel
theorem dX9_told_98 : decode cX9_told 98 = .ok (.getfield 124, 3) := by decide +kernel
theorem dX9_told_101 : decode cX9_told 101 = .ok (.ireturn, 1) := by decide +kernel
theorem dX9_told_102 : decode cX9_told 102 = .ok (.aload_n 3, 1) := by decide +kernel
theorem dX9_told_103 : decode cX9_told 103 = .ok (.getfield 127, 3) := by decide +kernel
theorem dX9_told_106 : decode cX9_told 106 = .ok (.ireturn, 1) := by decide +kernel
theorem dX9_told_107 : decode cX9_told 107 = .ok (.aload_n 3, 1) := by decide +kernel
theorem dX9_told_108 : decode cX9_told 108 = .ok (.getfield 130, 3) := by decide +kernel
theorem dX9_told_111 : decode cX9_told 111 = .ok (.ireturn, 1) := by decide +kernel
theorem dX9_told_112 : decode cX9_told 112 = .ok (.aload_n 0, 1) := by decide +kernel
theorem dX9_told_113 : decode cX9_told 113 = .ok (.aload_n 3, 1) := by decide +kernel
theorem dX9_told_114 : decode cX9_told 114 = .ok (.invokevirtual 133, 3) := by decide +kernel
theorem dX9_told_117 : decode cX9_told 117 = .ok (.ireturn, 1) := by decide +kernel
theorem dX9_told_118 : decode cX9_told 118 = .ok (.aload_n 3, 1) := by decide +kernel
theorem dX9_told_119 : decode cX9_told 119 = .ok (.getfield 136, 3) := by decide +kernel
theorem dX9_told_122 : decode cX9_told 122 = .ok (.ireturn, 1) := by decide +kernel
theorem dX9_told_123 : decode cX9_told 123 = .ok (.ldc 108, 2) := by decide +kernel
theorem dX9_told_125 : decode cX9_told 125 = .ok (.ireturn, 1) := by decide +kernel
set_option maxRecDepth 20000 in
theorem ggX9_index_X6_setLevel : GoodIn wsX9_index wsX6_setLevel := goodIn_r _ [6, 7, 8, 9, 10, 18, 19, 20] (by decide +kernel) (by decide +kernel)
set_option maxRecDepth 20000 in
theorem gX9_index_X6_setLevel : GoodIn wsX9_index (wsV RX9 139 RX6 yX6_setLevel wsX6_setLevel) := goodIn_app (goodIn_of _ (by decide +kernel)) ggX9_index_X6_setLevel
theorem dX9_index_0 : decode cX9_index 0 = .ok (.aload_n 0, 1) := by decide +kernel
theorem dX9_index_1 : decode cX9_index 1 = .ok (.getfield 37, 3) := by decide +kernel
theorem dX9_index_4 : decode cX9_index 4 = .ok (.iload_n 1, 1) := by decide +kernel
theorem dX9_index_5 : decode cX9_index 5 = .ok (.iload_n 2, 1) := by decide +kernel
theorem dX9_index_6 : decode cX9_index 6 = .ok (.invokevirtual 139, 3) := by decide +kernel
theorem dX9_index_9 : decode cX9_index 9 = .ok (.ireturn, 1) := by decide +kernel
set_option maxRecDepth 20000 in
theorem ggX9_sale_X9_isPast : GoodIn wsX9_sale wsX9_isPast := goodIn_r _ [9, 10, 11, 12, 8, 13, 45, 46, 47, 48, 49, 50, 51] (by decide +kernel) (by decide +kernel)
set_option maxRecDepth 20000 in
theorem gX9_sale_X9_isPast : GoodIn wsX9_sale (wsV RX9 93 RX9 yX9_isPast wsX9_isPast) := goodIn_app (goodIn_of _ (by decide +kernel)) ggX9_sale_X9_isPast
set_option maxRecDepth 20000 in
theorem ggX9_sale_X8_init : GoodIn wsX9_sale wsX8_init := goodIn_r _ [16, 17, 18, 19, 20, 21, 22, 23, 52, 53, 54, 55] (by decide +kernel) (by decide +kernel)
set_option maxRecDepth 20000 in
theorem gX9_sale_X8_init : GoodIn wsX9_sale (wsX8_init) := ggX9_sale_X8_init
set_option maxRecDepth 20000 in
theorem ggX9_sale_X6_enter : GoodIn wsX9_sale wsX6_enter := goodIn_r _ [28, 29, 30, 31, 32, 33, 34, 4, 35, 20, 21, 22, 23, 36, 37, 8, 38, 11, 12, 13, 39, 40, 41, 42, 43, 27, 44, 56, 57, 58, 52, 53, 54, 55] (by decide +kernel) (by decide +kernel)
set_option maxRecDepth 20000 in
theorem gX9_sale_X6_enter : GoodIn wsX9_sale (wsV RX9 147 RX6 yX6_enter wsX6_enter) := goodIn_app (goodIn_of _ (by decide +kernel)) ggX9_sale_X6_enter
theorem dX9_sale_0 : decode cX9_sale 0 = .ok (.aload_n 0, 1) := by decide +kernel
theorem dX9_sale_1 : decode cX9_sale 1 = .ok (.iload_n 2, 1) := by decide +kernel
theorem dX9_sale_2 : decode cX9_sale 2 = .ok (.invokevirtual 93, 3) := by decide +kernel
theorem dX9_sale_5 : decode cX9_sale 5 = .ok (.ifCond .eq 25, 3) := by decide +kernel
theorem dX9_sale_8 : decode cX9_sale 8 = .ok (.aload_n 0, 1) := by decide +kernel
theorem dX9_sale_9 : decode cX9_sale 9 = .ok (.getfield 37, 3) := by decide +kernel
theorem dX9_sale_12 : decode cX9_sale 12 = .ok (.new 142, 3) := by decide +kernel
theorem dX9_sale_15 : decode cX9_sale 15 = .ok (.dup, 1) := by decide +kernel
theorem dX9_sale_16 : decode cX9_sale 16 = .ok (.iload_n 1, 1) := by decide +kernel
theorem dX9_sale_17 : decode cX9_sale 17 = .ok (.iload_n 2, 1) := by decide +kernel
theorem dX9_sale_18 : decode cX9_sale 18 = .ok (.iload_n 3, 1) := by decide +kernel
theorem dX9_sale_19 : decode cX9_sale 19 = .ok (.iload 4, 2) := by decide +kernel
theorem dX9_sale_21 : decode cX9_sale 21 = .ok (.invokespecial 144, 3) := by decide +kernel
theorem dX9_sale_24 : decode cX9_sale 24 = .ok (.invokevirtual 147, 3) := by decide +kernel
theorem dX9_sale_27 : decode cX9_sale 27 = .ok (.goto 4, 3) := by decide +kernel
theorem dX9_sale_30 : decode cX9_sale 30 = .ok (.iconst (-1), 1) := by decide +kernel
theorem dX9_sale_31 : decode cX9_sale 31 = .ok (.ireturn, 1) := by decide +kernel
set_option maxRecDepth 20000 in
theorem ggX9_worth_X2_numbered : GoodIn wsX9_worth wsX2_numbered := goodIn_r _ [6, 7, 8, 9, 10, 5, 11, 12, 57, 58, 59, 60, 61, 62, 63] (by decide +kernel) (by decide +kernel)
set_option maxRecDepth 20000 in
theorem gX9_worth_X2_numbered : GoodIn wsX9_worth (wsV RX9 104 RX2 yX2_numbered wsX2_numbered) := goodIn_app (goodIn_of _ (by decide +kernel)) ggX9_worth_X2_numbered
set_option maxRecDepth 20000 in
theorem ggX9_worth_X9_worthNow : GoodIn wsX9_worth wsX9_worthNow := goodIn_r _ [17, 18, 19, 20, 21, 22, 23, 16, 24, 25, 26, 27, 28, 29, 30, 31, 32, 33, 34, 35, 36, 37, 38, 39, 40, 41, 42, 43, 44, 45, 46, 47, 48, 49, 50, 51, 52, 53, 54, 55, 56, 64, 65, 66, 67, 68, 69, 70, 71, 72, 73, 74, 75, 76, 77, 78, 79, 80, 81] (by decide +kernel) (by decide +kernel)
set_option maxRecDepth 20000 in
theorem gX9_worth_X9_worthNow : GoodIn wsX9_worth (wsV RX9 150 RX9 yX9_worthNow wsX9_worthNow) := goodIn_app (goodIn_of _ (by decide +kernel)) ggX9_worth_X9_worthNow
theorem dX9_worth_0 : decode cX9_worth 0 = .ok (.aload_n 0, 1) := by decide +kernel
theorem dX9_worth_1 : decode cX9_worth 1 = .ok (.getfield 30, 3) := by decide +kernel
theorem dX9_worth_4 : decode cX9_worth 4 = .ok (.iload_n 1, 1) := by decide +kernel
theorem dX9_worth_5 : decode cX9_worth 5 = .ok (.invokevirtual 104, 3) := by decide +kernel
theorem dX9_worth_8 : decode cX9_worth 8 = .ok (.astore_n 2, 1) := by decide +kernel
theorem dX9_worth_9 : decode cX9_worth 9 = .ok (.aload_n 2, 1) := by decide +kernel
theorem dX9_worth_10 : decode cX9_worth 10 = .ok (.ifnonnull 7, 3) := by decide +kernel
theorem dX9_worth_13 : decode cX9_worth 13 = .ok (.iconst (-1), 1) := by decide +kernel
theorem dX9_worth_14 : decode cX9_worth 14 = .ok (.goto 8, 3) := by decide +kernel
theorem dX9_worth_17 : decode cX9_worth 17 = .ok (.aload_n 0, 1) := by decide +kernel
theorem dX9_worth_18 : decode cX9_worth 18 = .ok (.aload_n 2, 1) := by decide +kernel
theorem dX9_worth_19 : decode cX9_worth 19 = .ok (.invokevirtual 150, 3) := by decide +kernel
theorem dX9_worth_22 : decode cX9_worth 22 = .ok (.ireturn, 1) := by decide +kernel
set_option maxRecDepth 20000 in
theorem ggX9_share_X9_isPerson : GoodIn wsX9_share wsX9_isPerson := goodIn_r _ [6, 7, 8, 5, 9] (by decide +kernel) (by decide +kernel)
set_option maxRecDepth 20000 in
theorem gX9_share_X9_isPerson : GoodIn wsX9_share (va_wsS RX9 153 yX9_isPerson wsX9_isPerson) := goodIn_app (goodIn_of _ (by decide +kernel)) ggX9_share_X9_isPerson
set_option maxRecDepth 20000 in
theorem ggX9_share_X2_gatherHoards : GoodIn wsX9_share wsX2_gatherHoards := goodIn_r _ [14, 15, 16, 17, 18, 19, 20, 21, 22, 23, 13, 24, 25, 26, 27, 28, 29, 30, 31, 32, 33, 34, 35, 36, 37, 38, 39, 40, 41, 42, 43, 44, 45, 46, 47, 48, 49, 50, 51, 52, 53, 54, 55, 56, 57, 58, 59, 60, 61, 62, 63, 64, 65, 66, 67, 68, 165, 166, 167, 168, 169, 170, 171, 172, 173, 174, 175, 176, 177, 178, 179, 180, 181, 182] (by decide +kernel) (by decide +kernel)
set_option maxRecDepth 20000 in
theorem gX9_share_X2_gatherHoards : GoodIn wsX9_share (wsV RX9 85 RX2 yX2_gatherHoards wsX2_gatherHoards) := goodIn_app (goodIn_of _ (by decide +kernel)) ggX9_share_X2_gatherHoards
set_option maxRecDepth 20000 in
theorem ggX9_share_X9_rewardFor : GoodIn wsX9_share wsX9_rewardFor := goodIn_r _ [72, 1, 73, 74, 75, 28, 29, 13, 30, 31, 32, 33, 34, 35, 25, 76, 77, 78, 5, 79, 80, 81, 82, 83, 84, 85, 15, 16, 86, 87, 88, 89, 90, 91, 92, 93, 94, 95, 96, 97, 98, 99, 100, 101, 102, 103, 104, 105, 106, 107, 108, 109, 110, 111, 112, 113, 114, 2, 115, 116, 117, 118, 119, 120, 121, 122, 123, 124, 125, 126, 127, 54, 128, 129, 130, 131, 132, 133, 134, 135, 136, 137, 138, 139, 140, 141, 142, 143, 144, 145, 146, 147, 49, 148, 51, 56, 149, 150, 151, 152, 153, 154, 155, 156, 157, 158, 159, 160, 161, 162, 163, 164, 183, 184, 185, 186, 187, 172, 173, 174, 175, 176, 177, 178, 179, 180, 181, 182, 165, 166, 167, 168, 169, 170, 171, 188, 189, 190, 191, 192, 193, 194, 195, 196, 197, 198, 199, 200] (by decide +kernel) (by decide +kernel)
set_option maxRecDepth 20000 in
theorem gX9_share_X9_rewardFor : GoodIn wsX9_share (wsV RX9 156 RX9 yX9_rewardFor wsX9_rewardFor) := goodIn_app (goodIn_of _ (by decide +kernel)) ggX9_share_X9_rewardFor
theorem dX9_share_0 : decode cX9_share 0 = .ok (.iload_n 2, 1) := by decide +kernel
theorem dX9_share_1 : decode cX9_share 1 = .ok (.invokestatic 153, 3) := by decide +kernel
theorem dX9_share_4 : decode cX9_share 4 = .ok (.ifCond .ne 5, 3) := by decide +kernel
theorem dX9_share_7 : decode cX9_share 7 = .ok (.iconst 0, 1) := by decide +kernel
theorem dX9_share_8 : decode cX9_share 8 = .ok (.ireturn, 1) := by decide +kernel
theorem dX9_share_9 : decode cX9_share 9 = .ok (.aload_n 0, 1) := by decide +kernel
theorem dX9_share_10 : decode cX9_share 10 = .ok (.getfield 30, 3) := by decide +kernel
theorem dX9_share_13 : decode cX9_share 13 = .ok (.aload_n 0, 1) := by decide +kernel
theorem dX9_share_14 : decode cX9_share 14 = .ok (.getfield 7, 3) := by decide +kernel
theorem dX9_share_17 : decode cX9_share 17 = .ok (.invokevirtual 85, 3) := by decide +kernel
theorem dX9_share_20 : decode cX9_share 20 = .ok (.aload_n 0, 1) := by decide +kernel
theorem dX9_share_21 : decode cX9_share 21 = .ok (.iload_n 1, 1) := by decide +kernel
theorem dX9_share_22 : decode cX9_share 22 = .ok (.iload_n 2, 1) := by decide +kernel
theorem dX9_share_23 : decode cX9_share 23 = .ok (.invokevirtual 156, 3) := by decide +kernel
theorem dX9_share_26 : decode cX9_share 26 = .ok (.ireturn, 1) := by decide +kernel
set_option maxRecDepth 20000 in
theorem ggX9_due_X9_isPerson : GoodIn wsX9_due wsX9_isPerson := goodIn_r _ [4, 5, 6, 3, 7] (by decide +kernel) (by decide +kernel)
set_option maxRecDepth 20000 in
theorem gX9_due_X9_isPerson : GoodIn wsX9_due (va_wsS RX9 153 yX9_isPerson wsX9_isPerson) := goodIn_app (goodIn_of _ (by decide +kernel)) ggX9_due_X9_isPerson
set_option maxRecDepth 20000 in
theorem ggX9_due_X9_stillOpen : GoodIn wsX9_due wsX9_stillOpen := goodIn_r _ [11, 12, 13, 14, 15, 16, 17, 18, 19, 20, 21, 22, 23, 24, 25, 26, 27, 28, 29, 30, 31, 32, 33, 34, 35, 36, 37, 38, 39, 40, 41, 42, 43, 44, 45, 46, 47, 48, 49, 50, 51, 52, 53, 54, 55, 56, 57, 58, 59, 60, 61, 62, 63, 64, 65, 66, 67, 68, 69, 70, 71, 72, 73, 74, 1, 2, 3, 4, 5, 6, 7, 75, 76, 77, 78, 79, 80, 81, 82, 83, 84, 85, 86, 87, 88, 89, 90, 91, 92, 93, 94, 95, 96, 97, 98, 99, 100, 101, 102, 103, 104, 105, 106, 107, 108, 109, 110, 111, 112, 113, 114, 115, 116, 117, 118, 119, 120, 121, 122, 123, 124, 125, 126, 127, 128, 129, 130, 131, 132, 133, 134, 135, 136, 137, 138, 139, 140, 141, 142, 143, 144, 145, 146, 147, 148, 149, 150, 151, 152, 153, 154, 155, 156, 157, 158, 159, 160, 161, 162, 163, 164, 165, 166, 167, 168, 169, 170, 171, 172, 173, 174, 175, 176, 177, 178, 179, 180, 181, 182, 183, 184, 185, 186, 187, 188, 189, 190, 191, 192, 193, 194, 195, 196, 197, 198, 199, 200, 201, 202, 203, 204, 205, 206] (by decide +kernel) (by decide +kernel)
set_option maxRecDepth 20000 in
theorem gX9_due_X9_stillOpen : GoodIn wsX9_due (wsV RX9 159 RX9 yX9_stillOpen wsX9_stillOpen) := goodIn_app (goodIn_of _ (by decide +kernel)) ggX9_due_X9_stillOpen
theorem dX9_due_0 : decode cX9_due 0 = .ok (.iload_n 1, 1) := by decide +kernel
theorem dX9_due_1 : decode cX9_due 1 = .ok (.invokestatic 153, 3) := by decide +kernel
theorem dX9_due_4 : decode cX9_due 4 = .ok (.ifCond .eq 11, 3) := by decide +kernel
theorem dX9_due_7 : decode cX9_due 7 = .ok (.aload_n 0, 1) := by decide +kernel
theorem dX9_due_8 : decode cX9_due 8 = .ok (.iload_n 1, 1) := by decide +kernel
theorem dX9_due_9 : decode cX9_due 9 = .ok (.invokevirtual 159, 3) := by decide +kernel
theorem dX9_due_12 : decode cX9_due 12 = .ok (.goto 4, 3) := by decide +kernel
theorem dX9_due_15 : decode cX9_due 15 = .ok (.iconst 0, 1) := by decide +kernel
theorem dX9_due_16 : decode cX9_due 16 = .ok (.ireturn, 1) := by decide +kernel
set_option maxRecDepth 20000 in
theorem ggX9_settle_X9_isPerson : GoodIn wsX9_settle wsX9_isPerson := goodIn_r _ [5, 6, 7, 4, 8] (by decide +kernel) (by decide +kernel)
set_option maxRecDepth 20000 in
theorem gX9_settle_X9_isPerson : GoodIn wsX9_settle (va_wsS RX9 153 yX9_isPerson wsX9_isPerson) := goodIn_app (goodIn_of _ (by decide +kernel)) ggX9_settle_X9_isPerson
set_option maxRecDepth 20000 in
theorem ggX9_settle_X9_stillOpen : GoodIn wsX9_settle wsX9_stillOpen := goodIn_r _ [12, 13, 14, 1, 15, 16, 17, 18, 19, 20, 21, 22, 23, 24, 25, 26, 27, 28, 29, 30, 31, 32, 33, 34, 35, 36, 37, 38, 39, 40, 41, 42, 43, 44, 45, 46, 47, 48, 49, 50, 51, 52, 53, 54, 55, 56, 57, 58, 59, 60, 61, 62, 63, 64, 65, 66, 67, 68, 69, 70, 71, 72, 73, 74, 2, 3, 4, 5, 6, 7, 8, 75, 76, 77, 78, 79, 80, 81, 82, 83, 84, 85, 86, 87, 88, 89, 90, 91, 92, 93, 94, 95, 96, 97, 98, 99, 100, 101, 102, 103, 104, 105, 106, 107, 108, 109, 110, 111, 112, 113, 114, 115, 116, 117, 118, 119, 120, 121, 122, 123, 124, 125, 126, 127, 128, 129, 130, 131, 132, 133, 134, 135, 136, 137, 138, 139, 140, 141, 142, 143, 144, 145, 146, 147, 148, 149, 150, 151, 152, 153, 154, 155, 156, 157, 158, 159, 160, 161, 162, 163, 164, 165, 166, 167, 168, 169, 170, 171, 172, 173, 174, 175, 176, 177, 178, 179, 180, 181, 182, 183, 184, 185, 186, 187, 188, 189, 190, 191, 192, 193, 194, 195, 196, 197, 198, 199, 200, 201, 202, 203, 204, 205, 206] (by decide +kernel) (by decide +kernel)
set_option maxRecDepth 20000 in
theorem gX9_settle_X9_stillOpen : GoodIn wsX9_settle (wsV RX9 159 RX9 yX9_stillOpen wsX9_stillOpen) := goodIn_app (goodIn_of _ (by decide +kernel)) ggX9_settle_X9_stillOpen
theorem dX9_settle_0 : decode cX9_settle 0 = .ok (.iload_n 1, 1) := by decide +kernel
theorem dX9_settle_1 : decode cX9_settle 1 = .ok (.invokestatic 153, 3) := by decide +kernel
theorem dX9_settle_4 : decode cX9_settle 4 = .ok (.ifCond .ne 5, 3) := by decide +kernel
theorem dX9_settle_7 : decode cX9_settle 7 = .ok (.iconst 0, 1) := by decide +kernel
theorem dX9_settle_8 : decode cX9_settle 8 = .ok (.ireturn, 1) := by decide +kernel
theorem dX9_settle_9 : decode cX9_settle 9 = .ok (.aload_n 0, 1) := by decide +kernel
theorem dX9_settle_10 : decode cX9_settle 10 = .ok (.iload_n 1, 1) := by decide +kernel
theorem dX9_settle_11 : decode cX9_settle 11 = .ok (.invokevirtual 159, 3) := by decide +kernel
theorem dX9_settle_14 : decode cX9_settle 14 = .ok (.istore_n 2, 1) := by decide +kernel
theorem dX9_settle_15 : decode cX9_settle 15 = .ok (.aload_n 0, 1) := by decide +kernel
theorem dX9_settle_16 : decode cX9_settle 16 = .ok (.getfield 48, 3) := by decide +kernel
theorem dX9_settle_19 : decode cX9_settle 19 = .ok (.iload_n 1, 1) := by decide +kernel
theorem dX9_settle_20 : decode cX9_settle 20 = .ok (.dup2, 1) := by decide +kernel
theorem dX9_settle_21 : decode cX9_settle 21 = .ok (.iaload, 1) := by decide +kernel
theorem dX9_settle_22 : decode cX9_settle 22 = .ok (.iload_n 2, 1) := by decide +kernel
theorem dX9_settle_23 : decode cX9_settle 23 = .ok (.iadd, 1) := by decide +kernel
theorem dX9_settle_24 : decode cX9_settle 24 = .ok (.iastore, 1) := by decide +kernel
theorem dX9_settle_25 : decode cX9_settle 25 = .ok (.iload_n 2, 1) := by decide +kernel
theorem dX9_settle_26 : decode cX9_settle 26 = .ok (.ireturn, 1) := by decide +kernel
set_option maxRecDepth 20000 in
theorem ggX9_paid_X9_isPerson : GoodIn wsX9_paid wsX9_isPerson := goodIn_r _ [5, 6, 7, 4, 8] (by decide +kernel) (by decide +kernel)
set_option maxRecDepth 20000 in
theorem gX9_paid_X9_isPerson : GoodIn wsX9_paid (va_wsS RX9 153 yX9_isPerson wsX9_isPerson) := goodIn_app (goodIn_of _ (by decide +kernel)) ggX9_paid_X9_isPerson
theorem dX9_paid_0 : decode cX9_paid 0 = .ok (.iload_n 1, 1) := by decide +kernel
theorem dX9_paid_1 : decode cX9_paid 1 = .ok (.invokestatic 153, 3) := by decide +kernel
theorem dX9_paid_4 : decode cX9_paid 4 = .ok (.ifCond .eq 12, 3) := by decide +kernel
theorem dX9_paid_7 : decode cX9_paid 7 = .ok (.aload_n 0, 1) := by decide +kernel
theorem dX9_paid_8 : decode cX9_paid 8 = .ok (.getfield 48, 3) := by decide +kernel
theorem dX9_paid_11 : decode cX9_paid 11 = .ok (.iload_n 1, 1) := by decide +kernel
theorem dX9_paid_12 : decode cX9_paid 12 = .ok (.iaload, 1) := by decide +kernel
theorem dX9_paid_13 : decode cX9_paid 13 = .ok (.goto 4, 3) := by decide +kernel
theorem dX9_paid_16 : decode cX9_paid 16 = .ok (.iconst 0, 1) := by decide +kernel
theorem dX9_paid_17 : decode cX9_paid 17 = .ok (.ireturn, 1) := by decide +kernel
set_option maxRecDepth 20000 in
theorem ggX9_place_X2_numbered : GoodIn wsX9_place wsX2_numbered := goodIn_r _ [8, 9, 10, 11, 12, 7, 13, 14, 44, 45, 46, 47, 48, 49, 50] (by decide +kernel) (by decide +kernel)
set_option maxRecDepth 20000 in
theorem gX9_place_X2_numbered : GoodIn wsX9_place (wsV RX9 104 RX2 yX2_numbered wsX2_numbered) := goodIn_app (goodIn_of _ (by decide +kernel)) ggX9_place_X2_numbered
set_option maxRecDepth 20000 in
theorem ggX9_place_X9_isRank : GoodIn wsX9_place wsX9_isRank := goodIn_r _ [18, 19, 20, 21, 17, 22] (by decide +kernel) (by decide +kernel)
set_option maxRecDepth 20000 in
theorem gX9_place_X9_isRank : GoodIn wsX9_place (va_wsS RX9 162 yX9_isRank wsX9_isRank) := goodIn_app (goodIn_of _ (by decide +kernel)) ggX9_place_X9_isRank
set_option maxRecDepth 20000 in
theorem ggX9_place_X9_roundDown : GoodIn wsX9_place wsX9_roundDown := goodIn_r _ [25, 19, 15, 16, 17, 18, 20, 21, 22] (by decide +kernel) (by decide +kernel)
set_option maxRecDepth 20000 in
theorem gX9_place_X9_roundDown : GoodIn wsX9_place (va_wsS RX9 168 yX9_roundDown wsX9_roundDown) := goodIn_app (goodIn_of _ (by decide +kernel)) ggX9_place_X9_roundDown
theorem dX9_place_0 : decode cX9_place 0 = .ok (.aload_n 0, 1) := by decide +kernel
theorem dX9_place_1 : decode cX9_place 1 = .ok (.getfield 30, 3) := by decide +kernel
theorem dX9_place_4 : decode cX9_place 4 = .ok (.iload_n 1, 1) := by decide +kernel
theorem dX9_place_5 : decode cX9_place 5 = .ok (.invokevirtual 104, 3) := by decide +kernel
theorem dX9_place_8 : decode cX9_place 8 = .ok (.astore_n 3, 1) := by decide +kernel
theorem dX9_place_9 : decode cX9_place 9 = .ok (.aload_n 3, 1) := by decide +kernel
theorem dX9_place_10 : decode cX9_place 10 = .ok (.ifnull 10, 3) := by decide +kernel
theorem dX9_place_13 : decode cX9_place 13 = .ok (.iload_n 2, 1) := by decide +kernel
theorem dX9_place_14 : decode cX9_place 14 = .ok (.invokestatic 162, 3) := by decide +kernel
theorem dX9_place_17 : decode cX9_place 17 = .ok (.ifCond .ne 5, 3) := by decide +kernel
theorem dX9_place_20 : decode cX9_place 20 = .ok (.iconst (-1), 1) := by decide +kernel
theorem dX9_place_21 : decode cX9_place 21 = .ok (.ireturn, 1) := by decide +kernel
theorem dX9_place_22 : decode cX9_place 22 = .ok (.aload_n 3, 1) := by decide +kernel
theorem dX9_place_23 : decode cX9_place 23 = .ok (.getfield 165, 3) := by decide +kernel
theorem dX9_place_26 : decode cX9_place 26 = .ok (.iload_n 2, 1) := by decide +kernel
theorem dX9_place_27 : decode cX9_place 27 = .ok (.invokestatic 168, 3) := by decide +kernel
theorem dX9_place_30 : decode cX9_place 30 = .ok (.sipush 1000, 3) := by decide +kernel
theorem dX9_place_33 : decode cX9_place 33 = .ok (.imul, 1) := by decide +kernel
theorem dX9_place_34 : decode cX9_place 34 = .ok (.aload_n 3, 1) := by decide +kernel
theorem dX9_place_35 : decode cX9_place 35 = .ok (.getfield 171, 3) := by decide +kernel
theorem dX9_place_38 : decode cX9_place 38 = .ok (.iload_n 2, 1) := by decide +kernel
theorem dX9_place_39 : decode cX9_place 39 = .ok (.invokestatic 168, 3) := by decide +kernel
theorem dX9_place_42 : decode cX9_place 42 = .ok (.iadd, 1) := by decide +kernel
theorem dX9_place_43 : decode cX9_place 43 = .ok (.ireturn, 1) := by decide +kernel
set_option maxRecDepth 20000 in
theorem ggX9_within_X9_isRank : GoodIn wsX9_within wsX9_isRank := goodIn_r _ [5, 6, 7, 8, 4, 9] (by decide +kernel) (by decide +kernel)
set_option maxRecDepth 20000 in
theorem gX9_within_X9_isRank : GoodIn wsX9_within (va_wsS RX9 162 yX9_isRank wsX9_isRank) := goodIn_app (goodIn_of _ (by decide +kernel)) ggX9_within_X9_isRank
set_option maxRecDepth 20000 in
theorem ggX9_within_X9_isCorner : GoodIn wsX9_within wsX9_isCorner := goodIn_r _ [12, 13, 7, 8, 4, 9, 14, 15, 16, 6, 2, 3, 5] (by decide +kernel) (by decide +kernel)
set_option maxRecDepth 20000 in
theorem gX9_within_X9_isCorner : GoodIn wsX9_within (va_wsS RX9 174 yX9_isCorner wsX9_isCorner) := goodIn_app (goodIn_of _ (by decide +kernel)) ggX9_within_X9_isCorner
set_option maxRecDepth 20000 in
theorem ggX9_within_X2_tally : GoodIn wsX9_within wsX2_tally := goodIn_r _ [21, 22, 23, 24, 25, 26, 27, 20, 28, 29, 30, 31, 32, 33, 8, 4, 9, 41, 42, 43, 44, 45, 46, 47, 48, 49, 50, 51, 52, 53, 54, 55, 56, 57, 58] (by decide +kernel) (by decide +kernel)
set_option maxRecDepth 20000 in
theorem gX9_within_X2_tally : GoodIn wsX9_within (wsV RX9 177 RX2 yX2_tally wsX2_tally) := goodIn_app (goodIn_of _ (by decide +kernel)) ggX9_within_X2_tally
theorem dX9_within_0 : decode cX9_within 0 = .ok (.iload_n 3, 1) := by decide +kernel
theorem dX9_within_1 : decode cX9_within 1 = .ok (.invokestatic 162, 3) := by decide +kernel
theorem dX9_within_4 : decode cX9_within 4 = .ok (.ifCond .eq 19, 3) := by decide +kernel
theorem dX9_within_7 : decode cX9_within 7 = .ok (.iload_n 1, 1) := by decide +kernel
theorem dX9_within_8 : decode cX9_within 8 = .ok (.iload_n 3, 1) := by decide +kernel
theorem dX9_within_9 : decode cX9_within 9 = .ok (.invokestatic 174, 3) := by decide +kernel
theorem dX9_within_12 : decode cX9_within 12 = .ok (.ifCond .eq 11, 3) := by decide +kernel
theorem dX9_within_15 : decode cX9_within 15 = .ok (.iload_n 2, 1) := by decide +kernel
theorem dX9_within_16 : decode cX9_within 16 = .ok (.iload_n 3, 1) := by decide +kernel
theorem dX9_within_17 : decode cX9_within 17 = .ok (.invokestatic 174, 3) := by decide +kernel
theorem dX9_within_20 : decode cX9_within 20 = .ok (.ifCond .ne 5, 3) := by decide +kernel
theorem dX9_within_23 : decode cX9_within 23 = .ok (.iconst (-1), 1) := by decide +kernel
theorem dX9_within_24 : decode cX9_within 24 = .ok (.ireturn, 1) := by decide +kernel
theorem dX9_within_25 : decode cX9_within 25 = .ok (.iload_n 1, 1) := by decide +kernel
theorem dX9_within_26 : decode cX9_within 26 = .ok (.sipush 1001, 3) := by decide +kernel
theorem dX9_within_29 : decode cX9_within 29 = .ok (.idiv, 1) := by decide +kernel
theorem dX9_within_30 : decode cX9_within 30 = .ok (.istore 4, 2) := by decide +kernel
theorem dX9_within_32 : decode cX9_within 32 = .ok (.iload_n 1, 1) := by decide +kernel
theorem dX9_within_33 : decode cX9_within 33 = .ok (.sipush 1001, 3) := by decide +kernel
theorem dX9_within_36 : decode cX9_within 36 = .ok (.irem, 1) := by decide +kernel
theorem dX9_within_37 : decode cX9_within 37 = .ok (.istore 5, 2) := by decide +kernel
theorem dX9_within_39 : decode cX9_within 39 = .ok (.iload_n 2, 1) := by decide +kernel
theorem dX9_within_40 : decode cX9_within 40 = .ok (.sipush 1001, 3) := by decide +kernel
theorem dX9_within_43 : decode cX9_within 43 = .ok (.idiv, 1) := by decide +kernel
theorem dX9_within_44 : decode cX9_within 44 = .ok (.istore 6, 2) := by decide +kernel
theorem dX9_within_46 : decode cX9_within 46 = .ok (.iload_n 2, 1) := by decide +kernel
theorem dX9_within_47 : decode cX9_within 47 = .ok (.sipush 1001, 3) := by decide +kernel
theorem dX9_within_50 : decode cX9_within 50 = .ok (.irem, 1) := by decide +kernel
theorem dX9_within_51 : decode cX9_within 51 = .ok (.istore 7, 2) := by decide +kernel
theorem dX9_within_53 : decode cX9_within 53 = .ok (.iload 6, 2) := by decide +kernel
theorem dX9_within_55 : decode cX9_within 55 = .ok (.iload 4, 2) := by decide +kernel
theorem dX9_within_57 : decode cX9_within 57 = .ok (.if_icmp .le 10, 3) := by decide +kernel
theorem dX9_within_60 : decode cX9_within 60 = .ok (.iload 7, 2) := by decide +kernel
theorem dX9_within_62 : decode cX9_within 62 = .ok (.iload 5, 2) := by decide +kernel
theorem dX9_within_64 : decode cX9_within 64 = .ok (.if_icmp .gt 5, 3) := by decide +kernel
theorem dX9_within_67 : decode cX9_within 67 = .ok (.iconst (-1), 1) := by decide +kernel
theorem dX9_within_68 : decode cX9_within 68 = .ok (.ireturn, 1) := by decide +kernel
theorem dX9_within_69 : decode cX9_within 69 = .ok (.aload_n 0, 1) := by decide +kernel
theorem dX9_within_70 : decode cX9_within 70 = .ok (.getfield 30, 3) := by decide +kernel
theorem dX9_within_73 : decode cX9_within 73 = .ok (.iload 4, 2) := by decide +kernel
theorem dX9_within_75 : decode cX9_within 75 = .ok (.iload 6, 2) := by decide +kernel
theorem dX9_within_77 : decode cX9_within 77 = .ok (.iload 5, 2) := by decide +kernel
theorem dX9_within_79 : decode cX9_within 79 = .ok (.iload 7, 2) := by decide +kernel
theorem dX9_within_81 : decode cX9_within 81 = .ok (.invokevirtual 177, 3) := by decide +kernel
theorem dX9_within_84 : decode cX9_within 84 = .ok (.ireturn, 1) := by decide +kernel
set_option maxRecDepth 20000 in
theorem ggX9_museum_X7_init : GoodIn wsX9_museum wsX7_init := goodIn_r _ [7, 8, 9, 10, 11, 12, 13, 36, 37, 38] (by decide +kernel) (by decide +kernel)
set_option maxRecDepth 20000 in
theorem gX9_museum_X7_init : GoodIn wsX9_museum (wsX7_init) := ggX9_museum_X7_init
set_option maxRecDepth 20000 in
theorem ggX9_museum_X0_enter : GoodIn wsX9_museum wsX0_enter := goodIn_r _ [18, 19, 20, 21, 22, 23, 4, 24, 11, 12, 25, 26, 27, 28, 39, 40, 41, 36, 37, 38] (by decide +kernel) (by decide +kernel)
set_option maxRecDepth 20000 in
theorem gX9_museum_X0_enter : GoodIn wsX9_museum (wsV RX9 186 RX0 yX0_enter wsX0_enter) := goodIn_app (goodIn_of _ (by decide +kernel)) ggX9_museum_X0_enter
theorem dX9_museum_0 : decode cX9_museum 0 = .ok (.aload_n 0, 1) := by decide +kernel
theorem dX9_museum_1 : decode cX9_museum 1 = .ok (.getfield 44, 3) := by decide +kernel
theorem dX9_museum_4 : decode cX9_museum 4 = .ok (.new 181, 3) := by decide +kernel
theorem dX9_museum_7 : decode cX9_museum 7 = .ok (.dup, 1) := by decide +kernel
theorem dX9_museum_8 : decode cX9_museum 8 = .ok (.iload_n 1, 1) := by decide +kernel
theorem dX9_museum_9 : decode cX9_museum 9 = .ok (.iload_n 2, 1) := by decide +kernel
theorem dX9_museum_10 : decode cX9_museum 10 = .ok (.invokespecial 183, 3) := by decide +kernel
theorem dX9_museum_13 : decode cX9_museum 13 = .ok (.invokevirtual 186, 3) := by decide +kernel
theorem dX9_museum_16 : decode cX9_museum 16 = .ok (.ireturn, 1) := by decide +kernel
set_option maxRecDepth 20000 in
theorem ggX9_offer_X2_numbered : GoodIn wsX9_offer wsX2_numbered := goodIn_r _ [10, 11, 12, 13, 14, 9, 15, 16, 176, 177, 178, 179, 180, 181, 182] (by decide +kernel) (by decide +kernel)
set_option maxRecDepth 20000 in
theorem gX9_offer_X2_numbered : GoodIn wsX9_offer (wsV RX9 104 RX2 yX2_numbered wsX2_numbered) := goodIn_app (goodIn_of _ (by decide +kernel)) ggX9_offer_X2_numbered
set_option maxRecDepth 20000 in
theorem ggX9_offer_X9_isTreasureOn : GoodIn wsX9_offer wsX9_isTreasureOn := goodIn_r _ [21, 1, 22, 23, 24, 9, 25, 26, 27, 28, 29, 30, 31, 32, 33, 34, 35, 16, 36, 37, 7, 8, 10, 11, 12, 13, 14, 15, 38, 39, 40, 41, 42, 43, 44, 45, 46, 47, 48, 49, 50, 51, 52, 53, 54, 55, 56, 57, 58, 59, 60, 61, 62, 63, 64, 65, 66, 67, 68, 69, 70, 71, 72, 73, 20, 74, 75, 76, 6, 77, 78, 79, 80, 81, 82, 83, 84, 85, 86, 87, 88, 89, 90, 91, 92, 93, 94, 95, 96, 97, 98, 99, 100, 101, 102, 158, 159, 160, 161, 162, 163, 164, 176, 177, 178, 179, 180, 181, 182, 165, 166, 167, 168, 169, 170, 171, 172, 173, 174, 175, 183, 184, 185, 186, 187, 188, 189] (by decide +kernel) (by decide +kernel)
set_option maxRecDepth 20000 in
theorem gX9_offer_X9_isTreasureOn : GoodIn wsX9_offer (wsV RX9 100 RX9 yX9_isTreasureOn wsX9_isTreasureOn) := goodIn_app (goodIn_of _ (by decide +kernel)) ggX9_offer_X9_isTreasureOn
set_option maxRecDepth 20000 in
theorem ggX9_offer_X9_worthNow : GoodIn wsX9_offer wsX9_worthNow := goodIn_r _ [106, 107, 5, 108, 3, 109, 101, 20, 102, 110, 111, 112, 113, 114, 115, 116, 117, 118, 119, 120, 121, 56, 122, 123, 124, 125, 126, 127, 128, 129, 130, 131, 132, 133, 158, 159, 160, 161, 162, 163, 164, 165, 166, 167, 168, 169, 170, 171, 172, 173, 174, 175, 190, 191, 192, 193, 194, 195, 196] (by decide +kernel) (by decide +kernel)
set_option maxRecDepth 20000 in
theorem gX9_offer_X9_worthNow : GoodIn wsX9_offer (wsV RX9 150 RX9 yX9_worthNow wsX9_worthNow) := goodIn_app (goodIn_of _ (by decide +kernel)) ggX9_offer_X9_worthNow
set_option maxRecDepth 20000 in
theorem ggX9_offer_X0_sell : GoodIn wsX9_offer wsX0_sell := goodIn_r _ [138, 139, 140, 141, 142, 143, 144, 137, 145, 146, 147, 148, 149, 150, 151, 152, 153, 154, 155, 156, 157, 197, 198, 199, 200, 201, 202] (by decide +kernel) (by decide +kernel)
set_option maxRecDepth 20000 in
theorem gX9_offer_X0_sell : GoodIn wsX9_offer (wsV RX9 189 RX0 yX0_sell wsX0_sell) := goodIn_app (goodIn_of _ (by decide +kernel)) ggX9_offer_X0_sell
theorem dX9_offer_0 : decode cX9_offer 0 = .ok (.aload_n 0, 1) := by decide +kernel
theorem dX9_offer_1 : decode cX9_offer 1 = .ok (.getfield 30, 3) := by decide +kernel
theorem dX9_offer_4 : decode cX9_offer 4 = .ok (.iload_n 1, 1) := by decide +kernel
theorem dX9_offer_5 : decode cX9_offer 5 = .ok (.invokevirtual 104, 3) := by decide +kernel
theorem dX9_offer_8 : decode cX9_offer 8 = .ok (.astore_n 2, 1) := by decide +kernel
theorem dX9_offer_9 : decode cX9_offer 9 = .ok (.aload_n 2, 1) := by decide +kernel
theorem dX9_offer_10 : decode cX9_offer 10 = .ok (.ifnull 23, 3) := by decide +kernel
theorem dX9_offer_13 : decode cX9_offer 13 = .ok (.aload_n 2, 1) := by decide +kernel
theorem dX9_offer_14 : decode cX9_offer 14 = .ok (.getfield 136, 3) := by decide +kernel
theorem dX9_offer_17 : decode cX9_offer 17 = .ok (.iconst (-1), 1) := by decide +kernel
theorem dX9_offer_18 : decode cX9_offer 18 = .ok (.if_icmp .ne 15, 3) := by decide +kernel
theorem dX9_offer_21 : decode cX9_offer 21 = .ok (.aload_n 0, 1) := by decide +kernel
theorem dX9_offer_22 : decode cX9_offer 22 = .ok (.iload_n 1, 1) := by decide +kernel
theorem dX9_offer_23 : decode cX9_offer 23 = .ok (.aload_n 0, 1) := by decide +kernel
theorem dX9_offer_24 : decode cX9_offer 24 = .ok (.getfield 7, 3) := by decide +kernel
theorem dX9_offer_27 : decode cX9_offer 27 = .ok (.invokevirtual 100, 3) := by decide +kernel
theorem dX9_offer_30 : decode cX9_offer 30 = .ok (.ifCond .ne 5, 3) := by decide +kernel
theorem dX9_offer_33 : decode cX9_offer 33 = .ok (.iconst (-1), 1) := by decide +kernel
theorem dX9_offer_34 : decode cX9_offer 34 = .ok (.ireturn, 1) := by decide +kernel
theorem dX9_offer_35 : decode cX9_offer 35 = .ok (.aload_n 2, 1) := by decide +kernel
theorem dX9_offer_36 : decode cX9_offer 36 = .ok (.aload_n 0, 1) := by decide +kernel
theorem dX9_offer_37 : decode cX9_offer 37 = .ok (.getfield 44, 3) := by decide +kernel
theorem dX9_offer_40 : decode cX9_offer 40 = .ok (.aload_n 2, 1) := by decide +kernel
theorem dX9_offer_41 : decode cX9_offer 41 = .ok (.getfield 115, 3) := by decide +kernel
theorem dX9_offer_44 : decode cX9_offer 44 = .ok (.aload_n 0, 1) := by decide +kernel
theorem dX9_offer_45 : decode cX9_offer 45 = .ok (.aload_n 2, 1) := by decide +kernel
theorem dX9_offer_46 : decode cX9_offer 46 = .ok (.invokevirtual 150, 3) := by decide +kernel
theorem dX9_offer_49 : decode cX9_offer 49 = .ok (.invokevirtual 189, 3) := by decide +kernel
theorem dX9_offer_52 : decode cX9_offer 52 = .ok (.putfield 136, 3) := by decide +kernel
theorem dX9_offer_55 : decode cX9_offer 55 = .ok (.aload_n 2, 1) := by decide +kernel
theorem dX9_offer_56 : decode cX9_offer 56 = .ok (.getfield 136, 3) := by decide +kernel
theorem dX9_offer_59 : decode cX9_offer 59 = .ok (.ireturn, 1) := by decide +kernel
set_option maxRecDepth 20000 in
theorem ggX9_spent_X0_numbered : GoodIn wsX9_spent wsX0_numbered := goodIn_r _ [7, 8, 9, 20, 21, 22] (by decide +kernel) (by decide +kernel)
set_option maxRecDepth 20000 in
theorem gX9_spent_X0_numbered : GoodIn wsX9_spent (wsV RX9 192 RX0 yX0_numbered wsX0_numbered) := goodIn_app (goodIn_of _ (by decide +kernel)) ggX9_spent_X0_numbered
theorem dX9_spent_0 : decode cX9_spent 0 = .ok (.aload_n 0, 1) := by decide +kernel
theorem dX9_spent_1 : decode cX9_spent 1 = .ok (.getfield 44, 3) := by decide +kernel
theorem dX9_spent_4 : decode cX9_spent 4 = .ok (.iload_n 1, 1) := by decide +kernel
theorem dX9_spent_5 : decode cX9_spent 5 = .ok (.invokevirtual 192, 3) := by decide +kernel
theorem dX9_spent_8 : decode cX9_spent 8 = .ok (.astore_n 2, 1) := by decide +kernel
theorem dX9_spent_9 : decode cX9_spent 9 = .ok (.aload_n 2, 1) := by decide +kernel
theorem dX9_spent_10 : decode cX9_spent 10 = .ok (.ifnonnull 7, 3) := by decide +kernel
theorem dX9_spent_13 : decode cX9_spent 13 = .ok (.iconst (-1), 1) := by decide +kernel
theorem dX9_spent_14 : decode cX9_spent 14 = .ok (.goto 7, 3) := by decide +kernel
theorem dX9_spent_17 : decode cX9_spent 17 = .ok (.aload_n 2, 1) := by decide +kernel
theorem dX9_spent_18 : decode cX9_spent 18 = .ok (.getfield 195, 3) := by decide +kernel
theorem dX9_spent_21 : decode cX9_spent 21 = .ok (.ireturn, 1) := by decide +kernel
set_option maxRecDepth 20000 in
theorem ggX9_count_X9_hoardsNow : GoodIn wsX9_count wsX9_hoardsNow := goodIn_r _ [15, 2, 1, 3, 16, 17, 18, 19, 20, 21, 22, 23, 24, 25, 26, 27, 28, 29, 30, 31, 32, 33, 34, 35, 36, 37, 38, 39, 40, 41, 42, 43, 44, 45, 46, 47, 48, 49, 50, 51, 52, 53, 54, 55, 56, 57, 58, 59, 60, 61, 62, 63, 64, 65, 66, 67, 68, 69, 70, 71, 72, 73, 74, 75, 76, 77, 78, 122, 123, 124, 125, 126, 127, 128, 129, 130, 131, 132, 133, 134, 135, 144, 145, 146, 147, 148, 149, 150, 151, 152, 153, 154] (by decide +kernel) (by decide +kernel)
set_option maxRecDepth 20000 in
theorem gX9_count_X9_hoardsNow : GoodIn wsX9_count (wsV RX9 201 RX9 yX9_hoardsNow wsX9_hoardsNow) := goodIn_app (goodIn_of _ (by decide +kernel)) ggX9_count_X9_hoardsNow
set_option maxRecDepth 20000 in
theorem ggX9_count_X9_treasuresNow : GoodIn wsX9_count wsX9_treasuresNow := goodIn_r _ [82, 2, 1, 3, 16, 17, 18, 19, 20, 21, 22, 23, 24, 25, 26, 27, 28, 29, 30, 31, 32, 33, 34, 35, 36, 37, 38, 39, 40, 41, 42, 43, 44, 45, 46, 47, 48, 49, 50, 51, 52, 53, 54, 55, 56, 57, 58, 59, 60, 61, 62, 63, 64, 65, 66, 67, 68, 69, 70, 71, 72, 73, 74, 83, 84, 85, 14, 86, 4, 87, 88, 89, 90, 91, 92, 93, 94, 95, 96, 97, 98, 99, 100, 101, 102, 103, 104, 105, 106, 107, 108, 109, 110, 111, 112, 113, 114, 122, 123, 124, 125, 126, 127, 128, 129, 130, 131, 132, 133, 134, 135, 144, 145, 146, 147, 148, 149, 150, 151, 152, 153, 154, 136, 137, 155, 156, 157, 158, 159] (by decide +kernel) (by decide +kernel)
set_option maxRecDepth 20000 in
theorem gX9_count_X9_treasuresNow : GoodIn wsX9_count (wsV RX9 211 RX9 yX9_treasuresNow wsX9_treasuresNow) := goodIn_app (goodIn_of _ (by decide +kernel)) ggX9_count_X9_treasuresNow
set_option maxRecDepth 20000 in
theorem ggX9_count_X0_next : GoodIn wsX9_count wsX0_next := goodIn_r _ [119, 120, 121, 141, 142, 143] (by decide +kernel) (by decide +kernel)
set_option maxRecDepth 20000 in
theorem gX9_count_X0_next : GoodIn wsX9_count (wsV RX9 214 RX0 yX0_next wsX0_next) := goodIn_app (goodIn_of _ (by decide +kernel)) ggX9_count_X0_next
theorem dX9_count_0 : decode cX9_count 0 = .ok (.iload_n 1, 1) := by decide +kernel
theorem dX9_count_1 : decode cX9_count 1 = .ok (.tableswitch 114 0 8 #[51, 56, 64, 69, 77, 85, 93, 101, 106], 51) := by decide +kernel
theorem dX9_count_52 : decode cX9_count 52 = .ok (.aload_n 0, 1) := by decide +kernel
theorem dX9_count_53 : decode cX9_count 53 = .ok (.getfield 7, 3) := by decide +kernel
theorem dX9_count_56 : decode cX9_count 56 = .ok (.ireturn, 1) := by decide +kernel
theorem dX9_count_57 : decode cX9_count 57 = .ok (.aload_n 0, 1) := by decide +kernel
theorem dX9_count_58 : decode cX9_count 58 = .ok (.getfield 30, 3) := by decide +kernel
theorem dX9_count_61 : decode cX9_count 61 = .ok (.getfield 198, 3) := by decide +kernel
theorem dX9_count_64 : decode cX9_count 64 = .ok (.ireturn, 1) := by decide +kernel
theorem dX9_count_65 : decode cX9_count 65 = .ok (.aload_n 0, 1) := by decide +kernel
theorem dX9_count_66 : decode cX9_count 66 = .ok (.invokevirtual 201, 3) := by decide +kernel
theorem dX9_count_69 : decode cX9_count 69 = .ok (.ireturn, 1) := by decide +kernel
theorem dX9_count_70 : decode cX9_count 70 = .ok (.aload_n 0, 1) := by decide +kernel
theorem dX9_count_71 : decode cX9_count 71 = .ok (.getfield 16, 3) := by decide +kernel
theorem dX9_count_74 : decode cX9_count 74 = .ok (.getfield 205, 3) := by decide +kernel
theorem dX9_count_77 : decode cX9_count 77 = .ok (.ireturn, 1) := by decide +kernel
theorem dX9_count_78 : decode cX9_count 78 = .ok (.aload_n 0, 1) := by decide +kernel
theorem dX9_count_79 : decode cX9_count 79 = .ok (.getfield 37, 3) := by decide +kernel
theorem dX9_count_82 : decode cX9_count 82 = .ok (.getfield 206, 3) := by decide +kernel
theorem dX9_count_85 : decode cX9_count 85 = .ok (.ireturn, 1) := by decide +kernel
theorem dX9_count_86 : decode cX9_count 86 = .ok (.aload_n 0, 1) := by decide +kernel
theorem dX9_count_87 : decode cX9_count 87 = .ok (.getfield 44, 3) := by decide +kernel
theorem dX9_count_90 : decode cX9_count 90 = .ok (.getfield 207, 3) := by decide +kernel
theorem dX9_count_93 : decode cX9_count 93 = .ok (.ireturn, 1) := by decide +kernel
theorem dX9_count_94 : decode cX9_count 94 = .ok (.aload_n 0, 1) := by decide +kernel
theorem dX9_count_95 : decode cX9_count 95 = .ok (.getfield 30, 3) := by decide +kernel
theorem dX9_count_98 : decode cX9_count 98 = .ok (.getfield 208, 3) := by decide +kernel
theorem dX9_count_101 : decode cX9_count 101 = .ok (.ireturn, 1) := by decide +kernel
theorem dX9_count_102 : decode cX9_count 102 = .ok (.aload_n 0, 1) := by decide +kernel
theorem dX9_count_103 : decode cX9_count 103 = .ok (.invokevirtual 211, 3) := by decide +kernel
theorem dX9_count_106 : decode cX9_count 106 = .ok (.ireturn, 1) := by decide +kernel
theorem dX9_count_107 : decode cX9_count 107 = .ok (.aload_n 0, 1) := by decide +kernel
theorem dX9_count_108 : decode cX9_count 108 = .ok (.getfield 44, 3) := by decide +kernel
theorem dX9_count_111 : decode cX9_count 111 = .ok (.invokevirtual 214, 3) := by decide +kernel
theorem dX9_count_114 : decode cX9_count 114 = .ok (.ireturn, 1) := by decide +kernel
theorem dX9_count_115 : decode cX9_count 115 = .ok (.iconst (-1), 1) := by decide +kernel
theorem dX9_count_116 : decode cX9_count 116 = .ok (.ireturn, 1) := by decide +kernel
theorem dX9_isBetween_0 : decode cX9_isBetween 0 = .ok (.iload_n 0, 1) := by decide +kernel
theorem dX9_isBetween_1 : decode cX9_isBetween 1 = .ok (.iload_n 1, 1) := by decide +kernel
theorem dX9_isBetween_2 : decode cX9_isBetween 2 = .ok (.if_icmp .lt 12, 3) := by decide +kernel
theorem dX9_isBetween_5 : decode cX9_isBetween 5 = .ok (.iload_n 0, 1) := by decide +kernel
theorem dX9_isBetween_6 : decode cX9_isBetween 6 = .ok (.iload_n 2, 1) := by decide +kernel
theorem dX9_isBetween_7 : decode cX9_isBetween 7 = .ok (.if_icmp .gt 7, 3) := by decide +kernel
theorem dX9_isBetween_10 : decode cX9_isBetween 10 = .ok (.iconst 1, 1) := by decide +kernel
theorem dX9_isBetween_11 : decode cX9_isBetween 11 = .ok (.goto 4, 3) := by decide +kernel
theorem dX9_isBetween_14 : decode cX9_isBetween 14 = .ok (.iconst 0, 1) := by decide +kernel
theorem dX9_isBetween_15 : decode cX9_isBetween 15 = .ok (.ireturn, 1) := by decide +kernel
set_option maxRecDepth 20000 in
theorem ggX9_isDay_X9_isBetween : GoodIn wsX9_isDay wsX9_isBetween := goodIn_r _ [4] (by decide +kernel) (by decide +kernel)
set_option maxRecDepth 20000 in
theorem gX9_isDay_X9_isBetween : GoodIn wsX9_isDay (va_wsS RX9 52 yX9_isBetween wsX9_isBetween) := goodIn_app (goodIn_of _ (by decide +kernel)) ggX9_isDay_X9_isBetween
theorem dX9_isDay_0 : decode cX9_isDay 0 = .ok (.iload_n 0, 1) := by decide +kernel
theorem dX9_isDay_1 : decode cX9_isDay 1 = .ok (.iconst 0, 1) := by decide +kernel
theorem dX9_isDay_2 : decode cX9_isDay 2 = .ok (.sipush 20000, 3) := by decide +kernel
theorem dX9_isDay_5 : decode cX9_isDay 5 = .ok (.invokestatic 52, 3) := by decide +kernel
theorem dX9_isDay_8 : decode cX9_isDay 8 = .ok (.ireturn, 1) := by decide +kernel
set_option maxRecDepth 20000 in
theorem ggX9_isPerson_X9_isBetween : GoodIn wsX9_isPerson wsX9_isBetween := goodIn_r _ [4] (by decide +kernel) (by decide +kernel)
set_option maxRecDepth 20000 in
theorem gX9_isPerson_X9_isBetween : GoodIn wsX9_isPerson (va_wsS RX9 52 yX9_isBetween wsX9_isBetween) := goodIn_app (goodIn_of _ (by decide +kernel)) ggX9_isPerson_X9_isBetween
theorem dX9_isPerson_0 : decode cX9_isPerson 0 = .ok (.iload_n 0, 1) := by decide +kernel
theorem dX9_isPerson_1 : decode cX9_isPerson 1 = .ok (.iconst 0, 1) := by decide +kernel
theorem dX9_isPerson_2 : decode cX9_isPerson 2 = .ok (.bipush 29, 2) := by decide +kernel
theorem dX9_isPerson_4 : decode cX9_isPerson 4 = .ok (.invokestatic 52, 3) := by decide +kernel
theorem dX9_isPerson_7 : decode cX9_isPerson 7 = .ok (.ireturn, 1) := by decide +kernel
set_option maxRecDepth 20000 in
theorem ggX9_isMetal_X9_isBetween : GoodIn wsX9_isMetal wsX9_isBetween := goodIn_r _ [4] (by decide +kernel) (by decide +kernel)
set_option maxRecDepth 20000 in
theorem gX9_isMetal_X9_isBetween : GoodIn wsX9_isMetal (va_wsS RX9 52 yX9_isBetween wsX9_isBetween) := goodIn_app (goodIn_of _ (by decide +kernel)) ggX9_isMetal_X9_isBetween
theorem dX9_isMetal_0 : decode cX9_isMetal 0 = .ok (.iload_n 0, 1) := by decide +kernel
theorem dX9_isMetal_1 : decode cX9_isMetal 1 = .ok (.iconst 0, 1) := by decide +kernel
theorem dX9_isMetal_2 : decode cX9_isMetal 2 = .ok (.iconst 2, 1) := by decide +kernel
theorem dX9_isMetal_3 : decode cX9_isMetal 3 = .ok (.invokestatic 52, 3) := by decide +kernel
theorem dX9_isMetal_6 : decode cX9_isMetal 6 = .ok (.ireturn, 1) := by decide +kernel
set_option maxRecDepth 20000 in
theorem ggX9_isRank_X9_isBetween : GoodIn wsX9_isRank wsX9_isBetween := goodIn_r _ [5] (by decide +kernel) (by decide +kernel)
set_option maxRecDepth 20000 in
theorem gX9_isRank_X9_isBetween : GoodIn wsX9_isRank (va_wsS RX9 52 yX9_isBetween wsX9_isBetween) := goodIn_app (goodIn_of _ (by decide +kernel)) ggX9_isRank_X9_isBetween
theorem dX9_isRank_0 : decode cX9_isRank 0 = .ok (.iload_n 0, 1) := by decide +kernel
theorem dX9_isRank_1 : decode cX9_isRank 1 = .ok (.iconst 0, 1) := by decide +kernel
end
section
theorem dX9_isRank_2 : decode cX9_isRank 2 = .ok (.getstatic 217, 3) := by decide +kernel
theorem dX9_isRank_5 : decode cX9_isRank 5 = .ok (.arraylength, 1) := by decide +kernel
theorem dX9_isRank_6 : decode cX9_isRank 6 = .ok (.iconst 1, 1) := by decide +kernel
theorem dX9_isRank_7 : decode cX9_isRank 7 = .ok (.isub, 1) := by decide +kernel
theorem dX9_isRank_8 : decode cX9_isRank 8 = .ok (.invokestatic 52, 3) := by decide +kernel
theorem dX9_isRank_11 : decode cX9_isRank 11 = .ok (.ireturn, 1) := by decide +kernel
theorem dX9_yearOf_0 : decode cX9_yearOf 0 = .ok (.sipush 1950, 3) := by decide +kernel
theorem dX9_yearOf_3 : decode cX9_yearOf 3 = .ok (.iload_n 0, 1) := by decide +kernel
theorem dX9_yearOf_4 : decode cX9_yearOf 4 = .ok (.sipush 365, 3) := by decide +kernel
theorem dX9_yearOf_7 : decode cX9_yearOf 7 = .ok (.idiv, 1) := by decide +kernel
theorem dX9_yearOf_8 : decode cX9_yearOf 8 = .ok (.iadd, 1) := by decide +kernel
theorem dX9_yearOf_9 : decode cX9_yearOf 9 = .ok (.ireturn, 1) := by decide +kernel
set_option maxRecDepth 20000 in
theorem ggX9_roundDown_X9_isRank : GoodIn wsX9_roundDown wsX9_isRank := goodIn_r _ [5, 1, 6, 7, 4, 8] (by decide +kernel) (by decide +kernel)
set_option maxRecDepth 20000 in
theorem gX9_roundDown_X9_isRank : GoodIn wsX9_roundDown (va_wsS RX9 162 yX9_isRank wsX9_isRank) := goodIn_app (goodIn_of _ (by decide +kernel)) ggX9_roundDown_X9_isRank
theorem dX9_roundDown_0 : decode cX9_roundDown 0 = .ok (.iload_n 1, 1) := by decide +kernel
theorem dX9_roundDown_1 : decode cX9_roundDown 1 = .ok (.invokestatic 162, 3) := by decide +kernel
theorem dX9_roundDown_4 : decode cX9_roundDown 4 = .ok (.ifCond .eq 11, 3) := by decide +kernel
theorem dX9_roundDown_7 : decode cX9_roundDown 7 = .ok (.getstatic 217, 3) := by decide +kernel
theorem dX9_roundDown_10 : decode cX9_roundDown 10 = .ok (.iload_n 1, 1) := by decide +kernel
theorem dX9_roundDown_11 : decode cX9_roundDown 11 = .ok (.iaload, 1) := by decide +kernel
theorem dX9_roundDown_12 : decode cX9_roundDown 12 = .ok (.goto 4, 3) := by decide +kernel
theorem dX9_roundDown_15 : decode cX9_roundDown 15 = .ok (.iconst 1, 1) := by decide +kernel
theorem dX9_roundDown_16 : decode cX9_roundDown 16 = .ok (.istore_n 2, 1) := by decide +kernel
theorem dX9_roundDown_17 : decode cX9_roundDown 17 = .ok (.iload_n 2, 1) := by decide +kernel
theorem dX9_roundDown_18 : decode cX9_roundDown 18 = .ok (.ifCond .le 11, 3) := by decide +kernel
theorem dX9_roundDown_21 : decode cX9_roundDown 21 = .ok (.iload_n 0, 1) := by decide +kernel
theorem dX9_roundDown_22 : decode cX9_roundDown 22 = .ok (.iload_n 0, 1) := by decide +kernel
theorem dX9_roundDown_23 : decode cX9_roundDown 23 = .ok (.iload_n 2, 1) := by decide +kernel
theorem dX9_roundDown_24 : decode cX9_roundDown 24 = .ok (.irem, 1) := by decide +kernel
theorem dX9_roundDown_25 : decode cX9_roundDown 25 = .ok (.isub, 1) := by decide +kernel
theorem dX9_roundDown_26 : decode cX9_roundDown 26 = .ok (.goto 4, 3) := by decide +kernel
theorem dX9_roundDown_29 : decode cX9_roundDown 29 = .ok (.iload_n 0, 1) := by decide +kernel
theorem dX9_roundDown_30 : decode cX9_roundDown 30 = .ok (.ireturn, 1) := by decide +kernel
set_option maxRecDepth 20000 in
theorem ggX9_isCorner_X9_isBetween : GoodIn wsX9_isCorner wsX9_isBetween := goodIn_r _ [5] (by decide +kernel) (by decide +kernel)
set_option maxRecDepth 20000 in
theorem gX9_isCorner_X9_isBetween : GoodIn wsX9_isCorner (va_wsS RX9 52 yX9_isBetween wsX9_isBetween) := goodIn_app (goodIn_of _ (by decide +kernel)) ggX9_isCorner_X9_isBetween
set_option maxRecDepth 20000 in
theorem ggX9_isCorner_X9_roundDown : GoodIn wsX9_isCorner wsX9_roundDown := goodIn_r _ [8, 9, 10, 11, 4, 12, 2, 3, 5] (by decide +kernel) (by decide +kernel)
set_option maxRecDepth 20000 in
theorem gX9_isCorner_X9_roundDown : GoodIn wsX9_isCorner (va_wsS RX9 168 yX9_roundDown wsX9_roundDown) := goodIn_app (goodIn_of _ (by decide +kernel)) ggX9_isCorner_X9_roundDown
theorem dX9_isCorner_0 : decode cX9_isCorner 0 = .ok (.iload_n 0, 1) := by decide +kernel
theorem dX9_isCorner_1 : decode cX9_isCorner 1 = .ok (.iconst 0, 1) := by decide +kernel
theorem dX9_isCorner_2 : decode cX9_isCorner 2 = .ok (.ldc 220, 2) := by decide +kernel
theorem dX9_isCorner_4 : decode cX9_isCorner 4 = .ok (.invokestatic 52, 3) := by decide +kernel
theorem dX9_isCorner_7 : decode cX9_isCorner 7 = .ok (.ifCond .ne 5, 3) := by decide +kernel
theorem dX9_isCorner_10 : decode cX9_isCorner 10 = .ok (.iconst 0, 1) := by decide +kernel
theorem dX9_isCorner_11 : decode cX9_isCorner 11 = .ok (.ireturn, 1) := by decide +kernel
theorem dX9_isCorner_12 : decode cX9_isCorner 12 = .ok (.iload_n 0, 1) := by decide +kernel
theorem dX9_isCorner_13 : decode cX9_isCorner 13 = .ok (.sipush 1001, 3) := by decide +kernel
theorem dX9_isCorner_16 : decode cX9_isCorner 16 = .ok (.idiv, 1) := by decide +kernel
theorem dX9_isCorner_17 : decode cX9_isCorner 17 = .ok (.istore_n 2, 1) := by decide +kernel
theorem dX9_isCorner_18 : decode cX9_isCorner 18 = .ok (.iload_n 0, 1) := by decide +kernel
theorem dX9_isCorner_19 : decode cX9_isCorner 19 = .ok (.sipush 1001, 3) := by decide +kernel
theorem dX9_isCorner_22 : decode cX9_isCorner 22 = .ok (.irem, 1) := by decide +kernel
theorem dX9_isCorner_23 : decode cX9_isCorner 23 = .ok (.istore_n 3, 1) := by decide +kernel
theorem dX9_isCorner_24 : decode cX9_isCorner 24 = .ok (.iload_n 2, 1) := by decide +kernel
theorem dX9_isCorner_25 : decode cX9_isCorner 25 = .ok (.iload_n 2, 1) := by decide +kernel
theorem dX9_isCorner_26 : decode cX9_isCorner 26 = .ok (.iload_n 1, 1) := by decide +kernel
theorem dX9_isCorner_27 : decode cX9_isCorner 27 = .ok (.invokestatic 168, 3) := by decide +kernel
theorem dX9_isCorner_30 : decode cX9_isCorner 30 = .ok (.if_icmp .ne 16, 3) := by decide +kernel
theorem dX9_isCorner_33 : decode cX9_isCorner 33 = .ok (.iload_n 3, 1) := by decide +kernel
theorem dX9_isCorner_34 : decode cX9_isCorner 34 = .ok (.iload_n 3, 1) := by decide +kernel
theorem dX9_isCorner_35 : decode cX9_isCorner 35 = .ok (.iload_n 1, 1) := by decide +kernel
theorem dX9_isCorner_36 : decode cX9_isCorner 36 = .ok (.invokestatic 168, 3) := by decide +kernel
theorem dX9_isCorner_39 : decode cX9_isCorner 39 = .ok (.if_icmp .ne 7, 3) := by decide +kernel
theorem dX9_isCorner_42 : decode cX9_isCorner 42 = .ok (.iconst 1, 1) := by decide +kernel
theorem dX9_isCorner_43 : decode cX9_isCorner 43 = .ok (.goto 4, 3) := by decide +kernel
theorem dX9_isCorner_46 : decode cX9_isCorner 46 = .ok (.iconst 0, 1) := by decide +kernel
theorem dX9_isCorner_47 : decode cX9_isCorner 47 = .ok (.ireturn, 1) := by decide +kernel
set_option maxRecDepth 20000 in
theorem ggX9_isPast_X9_isBetween : GoodIn wsX9_isPast wsX9_isBetween := goodIn_r _ [5] (by decide +kernel) (by decide +kernel)
set_option maxRecDepth 20000 in
theorem gX9_isPast_X9_isBetween : GoodIn wsX9_isPast (va_wsS RX9 52 yX9_isBetween wsX9_isBetween) := goodIn_app (goodIn_of _ (by decide +kernel)) ggX9_isPast_X9_isBetween
theorem dX9_isPast_0 : decode cX9_isPast 0 = .ok (.iload_n 1, 1) := by decide +kernel
theorem dX9_isPast_1 : decode cX9_isPast 1 = .ok (.iconst 0, 1) := by decide +kernel
theorem dX9_isPast_2 : decode cX9_isPast 2 = .ok (.aload_n 0, 1) := by decide +kernel
theorem dX9_isPast_3 : decode cX9_isPast 3 = .ok (.getfield 7, 3) := by decide +kernel
theorem dX9_isPast_6 : decode cX9_isPast 6 = .ok (.invokestatic 52, 3) := by decide +kernel
theorem dX9_isPast_9 : decode cX9_isPast 9 = .ok (.ireturn, 1) := by decide +kernel
set_option maxRecDepth 20000 in
theorem ggX9_landownerOf_X1_plot : GoodIn wsX9_landownerOf wsX1_plot := goodIn_r _ [7, 8, 9, 26, 27, 28, 29, 30, 31, 32, 33, 34, 35, 36] (by decide +kernel) (by decide +kernel)
set_option maxRecDepth 20000 in
theorem gX9_landownerOf_X1_plot : GoodIn wsX9_landownerOf (wsV RX9 221 RX1 yX1_plot wsX1_plot) := goodIn_app (goodIn_of _ (by decide +kernel)) ggX9_landownerOf_X1_plot
set_option maxRecDepth 20000 in
theorem ggX9_landownerOf_X3_holderOn : GoodIn wsX9_landownerOf wsX3_holderOn := goodIn_r _ [14, 15, 16, 17, 18, 37, 38, 39, 40] (by decide +kernel) (by decide +kernel)
set_option maxRecDepth 20000 in
theorem gX9_landownerOf_X3_holderOn : GoodIn wsX9_landownerOf (wsV RX9 224 RX3 yX3_holderOn wsX3_holderOn) := goodIn_app (goodIn_of _ (by decide +kernel)) ggX9_landownerOf_X3_holderOn
theorem dX9_landownerOf_0 : decode cX9_landownerOf 0 = .ok (.aload_n 0, 1) := by decide +kernel
theorem dX9_landownerOf_1 : decode cX9_landownerOf 1 = .ok (.getfield 23, 3) := by decide +kernel
theorem dX9_landownerOf_4 : decode cX9_landownerOf 4 = .ok (.aload_n 1, 1) := by decide +kernel
theorem dX9_landownerOf_5 : decode cX9_landownerOf 5 = .ok (.invokevirtual 221, 3) := by decide +kernel
theorem dX9_landownerOf_8 : decode cX9_landownerOf 8 = .ok (.aload_n 1, 1) := by decide +kernel
theorem dX9_landownerOf_9 : decode cX9_landownerOf 9 = .ok (.getfield 109, 3) := by decide +kernel
theorem dX9_landownerOf_12 : decode cX9_landownerOf 12 = .ok (.invokevirtual 224, 3) := by decide +kernel
theorem dX9_landownerOf_15 : decode cX9_landownerOf 15 = .ok (.ireturn, 1) := by decide +kernel
set_option maxRecDepth 20000 in
theorem ggX9_worthNow_X9_yearOf : GoodIn wsX9_worthNow wsX9_yearOf := goodIn_r _ [8] (by decide +kernel) (by decide +kernel)
set_option maxRecDepth 20000 in
theorem gX9_worthNow_X9_yearOf : GoodIn wsX9_worthNow (va_wsS RX9 227 yX9_yearOf wsX9_yearOf) := goodIn_app (goodIn_of _ (by decide +kernel)) ggX9_worthNow_X9_yearOf
set_option maxRecDepth 20000 in
theorem ggX9_worthNow_X6_appraise : GoodIn wsX9_worthNow wsX6_appraise := goodIn_r _ [13, 14, 15, 16, 17, 18, 19, 20, 21, 22, 23, 24, 25, 12, 26, 27, 28, 6, 7, 8, 29, 30, 31, 32, 33, 52, 53, 54, 55, 56, 57, 58] (by decide +kernel) (by decide +kernel)
set_option maxRecDepth 20000 in
theorem gX9_worthNow_X6_appraise : GoodIn wsX9_worthNow (wsV RX9 230 RX6 yX6_appraise wsX6_appraise) := goodIn_app (goodIn_of _ (by decide +kernel)) ggX9_worthNow_X6_appraise
theorem dX9_worthNow_0 : decode cX9_worthNow 0 = .ok (.aload_n 0, 1) := by decide +kernel
theorem dX9_worthNow_1 : decode cX9_worthNow 1 = .ok (.getfield 37, 3) := by decide +kernel
theorem dX9_worthNow_4 : decode cX9_worthNow 4 = .ok (.aload_n 1, 1) := by decide +kernel
theorem dX9_worthNow_5 : decode cX9_worthNow 5 = .ok (.getfield 115, 3) := by decide +kernel
theorem dX9_worthNow_8 : decode cX9_worthNow 8 = .ok (.aload_n 1, 1) := by decide +kernel
theorem dX9_worthNow_9 : decode cX9_worthNow 9 = .ok (.getfield 121, 3) := by decide +kernel
theorem dX9_worthNow_12 : decode cX9_worthNow 12 = .ok (.aload_n 0, 1) := by decide +kernel
theorem dX9_worthNow_13 : decode cX9_worthNow 13 = .ok (.getfield 7, 3) := by decide +kernel
theorem dX9_worthNow_16 : decode cX9_worthNow 16 = .ok (.invokestatic 227, 3) := by decide +kernel
theorem dX9_worthNow_19 : decode cX9_worthNow 19 = .ok (.invokevirtual 230, 3) := by decide +kernel
theorem dX9_worthNow_22 : decode cX9_worthNow 22 = .ok (.ireturn, 1) := by decide +kernel
set_option maxRecDepth 20000 in
theorem ggX9_hoardSizeOn_X2_gatherHoards : GoodIn wsX9_hoardSizeOn wsX2_gatherHoards := goodIn_r _ [6, 7, 8, 9, 10, 11, 12, 13, 14, 15, 5, 16, 17, 18, 19, 20, 21, 22, 23, 24, 25, 26, 27, 28, 29, 30, 31, 32, 33, 34, 35, 36, 37, 38, 39, 40, 41, 42, 43, 44, 45, 46, 47, 48, 49, 50, 51, 52, 53, 54, 55, 56, 57, 58, 59, 60, 72, 73, 74, 75, 76, 77, 78, 79, 80, 81, 82, 83, 84, 85, 86, 87, 88, 89] (by decide +kernel) (by decide +kernel)
set_option maxRecDepth 20000 in
theorem gX9_hoardSizeOn_X2_gatherHoards : GoodIn wsX9_hoardSizeOn (wsV RX9 85 RX2 yX2_gatherHoards wsX2_gatherHoards) := goodIn_app (goodIn_of _ (by decide +kernel)) ggX9_hoardSizeOn_X2_gatherHoards
set_option maxRecDepth 20000 in
theorem ggX9_hoardSizeOn_X2_hoardSize : GoodIn wsX9_hoardSizeOn wsX2_hoardSize := goodIn_r _ [64, 7, 8, 24, 25, 26, 5, 27, 17, 72, 73, 74, 75, 76, 77, 78] (by decide +kernel) (by decide +kernel)
set_option maxRecDepth 20000 in
theorem gX9_hoardSizeOn_X2_hoardSize : GoodIn wsX9_hoardSizeOn (wsV RX9 234 RX2 yX2_hoardSize wsX2_hoardSize) := goodIn_app (goodIn_of _ (by decide +kernel)) ggX9_hoardSizeOn_X2_hoardSize
theorem dX9_hoardSizeOn_0 : decode cX9_hoardSizeOn 0 = .ok (.aload_n 0, 1) := by decide +kernel
theorem dX9_hoardSizeOn_1 : decode cX9_hoardSizeOn 1 = .ok (.getfield 30, 3) := by decide +kernel
theorem dX9_hoardSizeOn_4 : decode cX9_hoardSizeOn 4 = .ok (.iload_n 2, 1) := by decide +kernel
theorem dX9_hoardSizeOn_5 : decode cX9_hoardSizeOn 5 = .ok (.invokevirtual 85, 3) := by decide +kernel
theorem dX9_hoardSizeOn_8 : decode cX9_hoardSizeOn 8 = .ok (.aload_n 0, 1) := by decide +kernel
theorem dX9_hoardSizeOn_9 : decode cX9_hoardSizeOn 9 = .ok (.getfield 30, 3) := by decide +kernel
theorem dX9_hoardSizeOn_12 : decode cX9_hoardSizeOn 12 = .ok (.iload_n 1, 1) := by decide +kernel
theorem dX9_hoardSizeOn_13 : decode cX9_hoardSizeOn 13 = .ok (.invokevirtual 234, 3) := by decide +kernel
theorem dX9_hoardSizeOn_16 : decode cX9_hoardSizeOn 16 = .ok (.ireturn, 1) := by decide +kernel
set_option maxRecDepth 20000 in
theorem ggX9_isTreasureOn_X2_gatherHoards : GoodIn wsX9_isTreasureOn wsX2_gatherHoards := goodIn_r _ [6, 7, 8, 9, 10, 11, 12, 13, 14, 15, 5, 16, 17, 18, 19, 20, 21, 22, 23, 24, 25, 26, 27, 28, 29, 30, 31, 32, 33, 34, 35, 36, 37, 38, 39, 40, 41, 42, 43, 44, 45, 46, 47, 48, 49, 50, 51, 52, 53, 54, 55, 56, 57, 58, 59, 60, 102, 103, 104, 105, 106, 107, 108, 109, 110, 111, 112, 113, 114, 115, 116, 117, 118, 119] (by decide +kernel) (by decide +kernel)
set_option maxRecDepth 20000 in
theorem gX9_isTreasureOn_X2_gatherHoards : GoodIn wsX9_isTreasureOn (wsV RX9 85 RX2 yX2_gatherHoards wsX2_gatherHoards) := goodIn_app (goodIn_of _ (by decide +kernel)) ggX9_isTreasureOn_X2_gatherHoards
set_option maxRecDepth 20000 in
theorem ggX9_isTreasureOn_X9_lawThatCounts : GoodIn wsX9_isTreasureOn wsX9_lawThatCounts := goodIn_r _ [65, 1, 66, 67, 68, 20, 21, 5, 22, 23, 24, 25, 26, 27, 17, 69, 70, 71, 72, 7, 8, 73, 74, 75, 76, 77, 78, 79, 80, 81, 82, 83, 84, 85, 86, 87, 88, 89, 90, 91, 92, 93, 64, 94, 95, 96, 97, 98, 99, 100, 101, 109, 110, 111, 112, 113, 114, 115, 116, 117, 118, 119, 102, 103, 104, 105, 106, 107, 108, 120, 121, 122, 123, 124, 125, 126] (by decide +kernel) (by decide +kernel)
set_option maxRecDepth 20000 in
theorem gX9_isTreasureOn_X9_lawThatCounts : GoodIn wsX9_isTreasureOn (wsV RX9 237 RX9 yX9_lawThatCounts wsX9_lawThatCounts) := goodIn_app (goodIn_of _ (by decide +kernel)) ggX9_isTreasureOn_X9_lawThatCounts
theorem dX9_isTreasureOn_0 : decode cX9_isTreasureOn 0 = .ok (.aload_n 0, 1) := by decide +kernel
theorem dX9_isTreasureOn_1 : decode cX9_isTreasureOn 1 = .ok (.getfield 30, 3) := by decide +kernel
theorem dX9_isTreasureOn_4 : decode cX9_isTreasureOn 4 = .ok (.iload_n 2, 1) := by decide +kernel
theorem dX9_isTreasureOn_5 : decode cX9_isTreasureOn 5 = .ok (.invokevirtual 85, 3) := by decide +kernel
theorem dX9_isTreasureOn_8 : decode cX9_isTreasureOn 8 = .ok (.aload_n 0, 1) := by decide +kernel
theorem dX9_isTreasureOn_9 : decode cX9_isTreasureOn 9 = .ok (.iload_n 1, 1) := by decide +kernel
theorem dX9_isTreasureOn_10 : decode cX9_isTreasureOn 10 = .ok (.invokevirtual 237, 3) := by decide +kernel
theorem dX9_isTreasureOn_13 : decode cX9_isTreasureOn 13 = .ok (.ifnull 7, 3) := by decide +kernel
theorem dX9_isTreasureOn_16 : decode cX9_isTreasureOn 16 = .ok (.iconst 1, 1) := by decide +kernel
theorem dX9_isTreasureOn_17 : decode cX9_isTreasureOn 17 = .ok (.goto 4, 3) := by decide +kernel
theorem dX9_isTreasureOn_20 : decode cX9_isTreasureOn 20 = .ok (.iconst 0, 1) := by decide +kernel
theorem dX9_isTreasureOn_21 : decode cX9_isTreasureOn 21 = .ok (.ireturn, 1) := by decide +kernel
set_option maxRecDepth 20000 in
theorem ggX9_lawThatCounts_X2_numbered : GoodIn wsX9_lawThatCounts wsX2_numbered := goodIn_r _ [8, 9, 10, 11, 12, 7, 13, 14, 62, 63, 64, 65, 66, 67, 68] (by decide +kernel) (by decide +kernel)
set_option maxRecDepth 20000 in
theorem gX9_lawThatCounts_X2_numbered : GoodIn wsX9_lawThatCounts (wsV RX9 104 RX2 yX2_numbered wsX2_numbered) := goodIn_app (goodIn_of _ (by decide +kernel)) ggX9_lawThatCounts_X2_numbered
set_option maxRecDepth 20000 in
theorem ggX9_lawThatCounts_X2_hoardSize : GoodIn wsX9_lawThatCounts wsX2_hoardSize := goodIn_r _ [18, 19, 20, 10, 11, 12, 7, 13, 14, 62, 63, 64, 65, 66, 67, 68] (by decide +kernel) (by decide +kernel)
set_option maxRecDepth 20000 in
theorem gX9_lawThatCounts_X2_hoardSize : GoodIn wsX9_lawThatCounts (wsV RX9 234 RX2 yX2_hoardSize wsX2_hoardSize) := goodIn_app (goodIn_of _ (by decide +kernel)) ggX9_lawThatCounts_X2_hoardSize
set_option maxRecDepth 20000 in
theorem ggX9_lawThatCounts_X5_inForce : GoodIn wsX9_lawThatCounts wsX5_inForce := goodIn_r _ [25, 26, 27, 28, 69, 70, 71, 72, 73, 74, 75] (by decide +kernel) (by decide +kernel)
set_option maxRecDepth 20000 in
theorem gX9_lawThatCounts_X5_inForce : GoodIn wsX9_lawThatCounts (wsV RX9 241 RX5 yX5_inForce wsX5_inForce) := goodIn_app (goodIn_of _ (by decide +kernel)) ggX9_lawThatCounts_X5_inForce
set_option maxRecDepth 20000 in
theorem ggX9_lawThatCounts_X4_covers : GoodIn wsX9_lawThatCounts wsX4_covers := goodIn_r _ [33, 34, 35, 36, 37, 38, 39, 40, 41, 42, 43, 51, 52, 53, 54, 55, 56, 57, 58, 59, 60, 61, 71, 72, 73, 74, 75] (by decide +kernel) (by decide +kernel)
set_option maxRecDepth 20000 in
theorem gX9_lawThatCounts_X4_covers : GoodIn wsX9_lawThatCounts (wsV RX9 244 RX4 yX4_covers wsX4_covers) := goodIn_app (goodIn_of _ (by decide +kernel)) ggX9_lawThatCounts_X4_covers
theorem dX9_lawThatCounts_0 : decode cX9_lawThatCounts 0 = .ok (.aload_n 0, 1) := by decide +kernel
theorem dX9_lawThatCounts_1 : decode cX9_lawThatCounts 1 = .ok (.getfield 30, 3) := by decide +kernel
theorem dX9_lawThatCounts_4 : decode cX9_lawThatCounts 4 = .ok (.iload_n 1, 1) := by decide +kernel
theorem dX9_lawThatCounts_5 : decode cX9_lawThatCounts 5 = .ok (.invokevirtual 104, 3) := by decide +kernel
theorem dX9_lawThatCounts_8 : decode cX9_lawThatCounts 8 = .ok (.astore_n 2, 1) := by decide +kernel
theorem dX9_lawThatCounts_9 : decode cX9_lawThatCounts 9 = .ok (.aload_n 0, 1) := by decide +kernel
theorem dX9_lawThatCounts_10 : decode cX9_lawThatCounts 10 = .ok (.getfield 30, 3) := by decide +kernel
theorem dX9_lawThatCounts_13 : decode cX9_lawThatCounts 13 = .ok (.iload_n 1, 1) := by decide +kernel
theorem dX9_lawThatCounts_14 : decode cX9_lawThatCounts 14 = .ok (.invokevirtual 234, 3) := by decide +kernel
theorem dX9_lawThatCounts_17 : decode cX9_lawThatCounts 17 = .ok (.istore_n 3, 1) := by decide +kernel
theorem dX9_lawThatCounts_18 : decode cX9_lawThatCounts 18 = .ok (.aload_n 2, 1) := by decide +kernel
theorem dX9_lawThatCounts_19 : decode cX9_lawThatCounts 19 = .ok (.ifnull 8, 3) := by decide +kernel
theorem dX9_lawThatCounts_22 : decode cX9_lawThatCounts 22 = .ok (.iload_n 3, 1) := by decide +kernel
theorem dX9_lawThatCounts_23 : decode cX9_lawThatCounts 23 = .ok (.iconst (-1), 1) := by decide +kernel
theorem dX9_lawThatCounts_24 : decode cX9_lawThatCounts 24 = .ok (.if_icmp .ne 5, 3) := by decide +kernel
theorem dX9_lawThatCounts_27 : decode cX9_lawThatCounts 27 = .ok (.aconst_null, 1) := by decide +kernel
theorem dX9_lawThatCounts_28 : decode cX9_lawThatCounts 28 = .ok (.areturn, 1) := by decide +kernel
theorem dX9_lawThatCounts_29 : decode cX9_lawThatCounts 29 = .ok (.aload_n 0, 1) := by decide +kernel
theorem dX9_lawThatCounts_30 : decode cX9_lawThatCounts 30 = .ok (.getfield 16, 3) := by decide +kernel
theorem dX9_lawThatCounts_33 : decode cX9_lawThatCounts 33 = .ok (.aload_n 2, 1) := by decide +kernel
theorem dX9_lawThatCounts_34 : decode cX9_lawThatCounts 34 = .ok (.getfield 109, 3) := by decide +kernel
theorem dX9_lawThatCounts_37 : decode cX9_lawThatCounts 37 = .ok (.invokevirtual 241, 3) := by decide +kernel
theorem dX9_lawThatCounts_40 : decode cX9_lawThatCounts 40 = .ok (.astore 4, 2) := by decide +kernel
theorem dX9_lawThatCounts_42 : decode cX9_lawThatCounts 42 = .ok (.aload 4, 2) := by decide +kernel
theorem dX9_lawThatCounts_44 : decode cX9_lawThatCounts 44 = .ok (.ifnull 18, 3) := by decide +kernel
theorem dX9_lawThatCounts_47 : decode cX9_lawThatCounts 47 = .ok (.aload 4, 2) := by decide +kernel
theorem dX9_lawThatCounts_49 : decode cX9_lawThatCounts 49 = .ok (.aload_n 2, 1) := by decide +kernel
theorem dX9_lawThatCounts_50 : decode cX9_lawThatCounts 50 = .ok (.iload_n 3, 1) := by decide +kernel
theorem dX9_lawThatCounts_51 : decode cX9_lawThatCounts 51 = .ok (.invokevirtual 244, 3) := by decide +kernel
theorem dX9_lawThatCounts_54 : decode cX9_lawThatCounts 54 = .ok (.ifCond .eq 8, 3) := by decide +kernel
theorem dX9_lawThatCounts_57 : decode cX9_lawThatCounts 57 = .ok (.aload 4, 2) := by decide +kernel
theorem dX9_lawThatCounts_59 : decode cX9_lawThatCounts 59 = .ok (.goto 4, 3) := by decide +kernel
theorem dX9_lawThatCounts_62 : decode cX9_lawThatCounts 62 = .ok (.aconst_null, 1) := by decide +kernel
theorem dX9_lawThatCounts_63 : decode cX9_lawThatCounts 63 = .ok (.areturn, 1) := by decide +kernel
set_option maxRecDepth 20000 in
theorem ggX9_rewardFor_X2_numbered : GoodIn wsX9_rewardFor wsX2_numbered := goodIn_r _ [8, 9, 10, 11, 12, 7, 13, 14, 128, 129, 130, 131, 132, 133, 134] (by decide +kernel) (by decide +kernel)
set_option maxRecDepth 20000 in
theorem gX9_rewardFor_X2_numbered : GoodIn wsX9_rewardFor (wsV RX9 104 RX2 yX2_numbered wsX2_numbered) := goodIn_app (goodIn_of _ (by decide +kernel)) ggX9_rewardFor_X2_numbered
set_option maxRecDepth 20000 in
theorem ggX9_rewardFor_X9_lawThatCounts : GoodIn wsX9_rewardFor wsX9_lawThatCounts := goodIn_r _ [19, 1, 20, 21, 4, 5, 6, 7, 8, 9, 10, 11, 12, 13, 14, 22, 23, 24, 25, 26, 27, 28, 29, 30, 31, 32, 33, 34, 35, 36, 37, 38, 39, 40, 41, 42, 43, 44, 45, 46, 47, 48, 18, 49, 105, 106, 107, 108, 109, 110, 111, 117, 118, 119, 120, 121, 122, 123, 124, 125, 126, 127, 128, 129, 130, 131, 132, 133, 134, 135, 136, 112, 113, 114, 115, 116] (by decide +kernel) (by decide +kernel)
set_option maxRecDepth 20000 in
theorem gX9_rewardFor_X9_lawThatCounts : GoodIn wsX9_rewardFor (wsV RX9 237 RX9 yX9_lawThatCounts wsX9_lawThatCounts) := goodIn_app (goodIn_of _ (by decide +kernel)) ggX9_rewardFor_X9_lawThatCounts
set_option maxRecDepth 20000 in
theorem ggX9_rewardFor_X9_worthNow : GoodIn wsX9_rewardFor wsX9_worthNow := goodIn_r _ [53, 54, 55, 56, 57, 58, 48, 18, 49, 59, 60, 61, 62, 63, 64, 65, 66, 67, 68, 69, 70, 71, 72, 73, 74, 75, 76, 77, 78, 79, 80, 81, 82, 83, 105, 106, 107, 108, 109, 110, 111, 117, 118, 119, 120, 121, 122, 123, 124, 125, 126, 127, 137, 138, 139, 140, 141, 142, 143] (by decide +kernel) (by decide +kernel)
set_option maxRecDepth 20000 in
theorem gX9_rewardFor_X9_worthNow : GoodIn wsX9_rewardFor (wsV RX9 150 RX9 yX9_worthNow wsX9_worthNow) := goodIn_app (goodIn_of _ (by decide +kernel)) ggX9_rewardFor_X9_worthNow
set_option maxRecDepth 20000 in
theorem ggX9_rewardFor_X9_landownerOf : GoodIn wsX9_rewardFor wsX9_landownerOf := goodIn_r _ [87, 88, 21, 89, 90, 91, 92, 93, 94, 95, 96, 97, 98, 99, 100, 101, 102, 103, 104, 105, 106, 107, 108, 109, 110, 111, 117, 118, 119, 120, 121, 122, 123, 124, 125, 126, 127, 144, 145, 146, 147] (by decide +kernel) (by decide +kernel)
set_option maxRecDepth 20000 in
theorem gX9_rewardFor_X9_landownerOf : GoodIn wsX9_rewardFor (wsV RX9 133 RX9 yX9_landownerOf wsX9_landownerOf) := goodIn_app (goodIn_of _ (by decide +kernel)) ggX9_rewardFor_X9_landownerOf
theorem dX9_rewardFor_0 : decode cX9_rewardFor 0 = .ok (.aload_n 0, 1) := by decide +kernel
theorem dX9_rewardFor_1 : decode cX9_rewardFor 1 = .ok (.getfield 30, 3) := by decide +kernel
theorem dX9_rewardFor_4 : decode cX9_rewardFor 4 = .ok (.iload_n 1, 1) := by decide +kernel
theorem dX9_rewardFor_5 : decode cX9_rewardFor 5 = .ok (.invokevirtual 104, 3) := by decide +kernel
theorem dX9_rewardFor_8 : decode cX9_rewardFor 8 = .ok (.astore_n 3, 1) := by decide +kernel
theorem dX9_rewardFor_9 : decode cX9_rewardFor 9 = .ok (.aload_n 0, 1) := by decide +kernel
theorem dX9_rewardFor_10 : decode cX9_rewardFor 10 = .ok (.iload_n 1, 1) := by decide +kernel
theorem dX9_rewardFor_11 : decode cX9_rewardFor 11 = .ok (.invokevirtual 237, 3) := by decide +kernel
theorem dX9_rewardFor_14 : decode cX9_rewardFor 14 = .ok (.astore 4, 2) := by decide +kernel
theorem dX9_rewardFor_16 : decode cX9_rewardFor 16 = .ok (.aload_n 3, 1) := by decide +kernel
theorem dX9_rewardFor_17 : decode cX9_rewardFor 17 = .ok (.ifnull 8, 3) := by decide +kernel
theorem dX9_rewardFor_20 : decode cX9_rewardFor 20 = .ok (.aload 4, 2) := by decide +kernel
theorem dX9_rewardFor_22 : decode cX9_rewardFor 22 = .ok (.ifnonnull 5, 3) := by decide +kernel
theorem dX9_rewardFor_25 : decode cX9_rewardFor 25 = .ok (.iconst 0, 1) := by decide +kernel
theorem dX9_rewardFor_26 : decode cX9_rewardFor 26 = .ok (.ireturn, 1) := by decide +kernel
theorem dX9_rewardFor_27 : decode cX9_rewardFor 27 = .ok (.aload_n 0, 1) := by decide +kernel
theorem dX9_rewardFor_28 : decode cX9_rewardFor 28 = .ok (.aload_n 3, 1) := by decide +kernel
theorem dX9_rewardFor_29 : decode cX9_rewardFor 29 = .ok (.invokevirtual 150, 3) := by decide +kernel
theorem dX9_rewardFor_32 : decode cX9_rewardFor 32 = .ok (.istore 5, 2) := by decide +kernel
theorem dX9_rewardFor_34 : decode cX9_rewardFor 34 = .ok (.iload 5, 2) := by decide +kernel
theorem dX9_rewardFor_36 : decode cX9_rewardFor 36 = .ok (.aload 4, 2) := by decide +kernel
theorem dX9_rewardFor_38 : decode cX9_rewardFor 38 = .ok (.getfield 248, 3) := by decide +kernel
theorem dX9_rewardFor_41 : decode cX9_rewardFor 41 = .ok (.imul, 1) := by decide +kernel
theorem dX9_rewardFor_42 : decode cX9_rewardFor 42 = .ok (.bipush 100, 2) := by decide +kernel
theorem dX9_rewardFor_44 : decode cX9_rewardFor 44 = .ok (.idiv, 1) := by decide +kernel
theorem dX9_rewardFor_45 : decode cX9_rewardFor 45 = .ok (.istore 6, 2) := by decide +kernel
theorem dX9_rewardFor_47 : decode cX9_rewardFor 47 = .ok (.aload_n 3, 1) := by decide +kernel
theorem dX9_rewardFor_48 : decode cX9_rewardFor 48 = .ok (.getfield 130, 3) := by decide +kernel
theorem dX9_rewardFor_51 : decode cX9_rewardFor 51 = .ok (.iload_n 2, 1) := by decide +kernel
theorem dX9_rewardFor_52 : decode cX9_rewardFor 52 = .ok (.if_icmp .ne 8, 3) := by decide +kernel
theorem dX9_rewardFor_55 : decode cX9_rewardFor 55 = .ok (.iload 6, 2) := by decide +kernel
theorem dX9_rewardFor_57 : decode cX9_rewardFor 57 = .ok (.goto 4, 3) := by decide +kernel
theorem dX9_rewardFor_60 : decode cX9_rewardFor 60 = .ok (.iconst 0, 1) := by decide +kernel
theorem dX9_rewardFor_61 : decode cX9_rewardFor 61 = .ok (.istore 7, 2) := by decide +kernel
theorem dX9_rewardFor_63 : decode cX9_rewardFor 63 = .ok (.aload_n 0, 1) := by decide +kernel
theorem dX9_rewardFor_64 : decode cX9_rewardFor 64 = .ok (.aload_n 3, 1) := by decide +kernel
theorem dX9_rewardFor_65 : decode cX9_rewardFor 65 = .ok (.invokevirtual 133, 3) := by decide +kernel
theorem dX9_rewardFor_68 : decode cX9_rewardFor 68 = .ok (.iload_n 2, 1) := by decide +kernel
theorem dX9_rewardFor_69 : decode cX9_rewardFor 69 = .ok (.if_icmp .ne 14, 3) := by decide +kernel
theorem dX9_rewardFor_72 : decode cX9_rewardFor 72 = .ok (.iload 7, 2) := by decide +kernel
theorem dX9_rewardFor_74 : decode cX9_rewardFor 74 = .ok (.iload 5, 2) := by decide +kernel
theorem dX9_rewardFor_76 : decode cX9_rewardFor 76 = .ok (.iadd, 1) := by decide +kernel
theorem dX9_rewardFor_77 : decode cX9_rewardFor 77 = .ok (.iload 6, 2) := by decide +kernel
theorem dX9_rewardFor_79 : decode cX9_rewardFor 79 = .ok (.isub, 1) := by decide +kernel
theorem dX9_rewardFor_80 : decode cX9_rewardFor 80 = .ok (.goto 5, 3) := by decide +kernel
theorem dX9_rewardFor_83 : decode cX9_rewardFor 83 = .ok (.iload 7, 2) := by decide +kernel
theorem dX9_rewardFor_85 : decode cX9_rewardFor 85 = .ok (.ireturn, 1) := by decide +kernel
set_option maxRecDepth 20000 in
theorem ggX9_stillOpen_X2_gatherHoards : GoodIn wsX9_stillOpen wsX2_gatherHoards := goodIn_r _ [9, 10, 11, 12, 13, 14, 15, 16, 17, 18, 8, 19, 20, 21, 22, 23, 24, 25, 26, 27, 28, 29, 30, 31, 32, 33, 34, 35, 36, 37, 38, 39, 40, 41, 42, 43, 44, 45, 46, 47, 48, 49, 50, 51, 52, 53, 54, 55, 56, 57, 58, 59, 60, 61, 62, 63, 167, 168, 169, 170, 171, 172, 173, 174, 175, 176, 177, 178, 179, 180, 181, 182, 183, 184] (by decide +kernel) (by decide +kernel)
set_option maxRecDepth 20000 in
theorem gX9_stillOpen_X2_gatherHoards : GoodIn wsX9_stillOpen (wsV RX9 85 RX2 yX2_gatherHoards wsX2_gatherHoards) := goodIn_app (goodIn_of _ (by decide +kernel)) ggX9_stillOpen_X2_gatherHoards
set_option maxRecDepth 20000 in
theorem ggX9_stillOpen_X9_isPerson : GoodIn wsX9_stillOpen wsX9_isPerson := goodIn_r _ [67, 68, 69, 66, 70] (by decide +kernel) (by decide +kernel)
set_option maxRecDepth 20000 in
theorem gX9_stillOpen_X9_isPerson : GoodIn wsX9_stillOpen (va_wsS RX9 153 yX9_isPerson wsX9_isPerson) := goodIn_app (goodIn_of _ (by decide +kernel)) ggX9_stillOpen_X9_isPerson
set_option maxRecDepth 20000 in
theorem ggX9_stillOpen_X9_rewardFor : GoodIn wsX9_stillOpen wsX9_rewardFor := goodIn_r _ [74, 1, 75, 76, 77, 23, 24, 8, 25, 26, 27, 28, 29, 30, 20, 78, 79, 80, 66, 81, 82, 83, 84, 85, 86, 87, 10, 11, 88, 89, 90, 91, 92, 93, 94, 95, 96, 97, 98, 99, 100, 101, 102, 103, 104, 105, 106, 107, 108, 109, 110, 111, 112, 113, 114, 115, 116, 2, 117, 118, 119, 120, 121, 122, 123, 124, 125, 126, 127, 128, 129, 49, 130, 131, 132, 133, 134, 135, 136, 137, 138, 139, 140, 141, 142, 143, 144, 145, 146, 147, 148, 149, 44, 150, 46, 51, 151, 152, 153, 154, 155, 156, 157, 158, 159, 160, 161, 162, 163, 164, 165, 166, 185, 186, 187, 188, 189, 174, 175, 176, 177, 178, 179, 180, 181, 182, 183, 184, 167, 168, 169, 170, 171, 172, 173, 190, 191, 192, 193, 194, 195, 196, 197, 198, 199, 200, 201, 202] (by decide +kernel) (by decide +kernel)
set_option maxRecDepth 20000 in
theorem gX9_stillOpen_X9_rewardFor : GoodIn wsX9_stillOpen (wsV RX9 156 RX9 yX9_rewardFor wsX9_rewardFor) := goodIn_app (goodIn_of _ (by decide +kernel)) ggX9_stillOpen_X9_rewardFor
theorem dX9_stillOpen_0 : decode cX9_stillOpen 0 = .ok (.aload_n 0, 1) := by decide +kernel
theorem dX9_stillOpen_1 : decode cX9_stillOpen 1 = .ok (.getfield 30, 3) := by decide +kernel
theorem dX9_stillOpen_4 : decode cX9_stillOpen 4 = .ok (.aload_n 0, 1) := by decide +kernel
theorem dX9_stillOpen_5 : decode cX9_stillOpen 5 = .ok (.getfield 7, 3) := by decide +kernel
theorem dX9_stillOpen_8 : decode cX9_stillOpen 8 = .ok (.invokevirtual 85, 3) := by decide +kernel
theorem dX9_stillOpen_11 : decode cX9_stillOpen 11 = .ok (.iload_n 1, 1) := by decide +kernel
theorem dX9_stillOpen_12 : decode cX9_stillOpen 12 = .ok (.invokestatic 153, 3) := by decide +kernel
theorem dX9_stillOpen_15 : decode cX9_stillOpen 15 = .ok (.ifCond .eq 13, 3) := by decide +kernel
theorem dX9_stillOpen_18 : decode cX9_stillOpen 18 = .ok (.aload_n 0, 1) := by decide +kernel
theorem dX9_stillOpen_19 : decode cX9_stillOpen 19 = .ok (.getfield 48, 3) := by decide +kernel
theorem dX9_stillOpen_22 : decode cX9_stillOpen 22 = .ok (.iload_n 1, 1) := by decide +kernel
theorem dX9_stillOpen_23 : decode cX9_stillOpen 23 = .ok (.iaload, 1) := by decide +kernel
theorem dX9_stillOpen_24 : decode cX9_stillOpen 24 = .ok (.ineg, 1) := by decide +kernel
theorem dX9_stillOpen_25 : decode cX9_stillOpen 25 = .ok (.goto 4, 3) := by decide +kernel
theorem dX9_stillOpen_28 : decode cX9_stillOpen 28 = .ok (.iconst 0, 1) := by decide +kernel
theorem dX9_stillOpen_29 : decode cX9_stillOpen 29 = .ok (.istore_n 2, 1) := by decide +kernel
theorem dX9_stillOpen_30 : decode cX9_stillOpen 30 = .ok (.iconst 0, 1) := by decide +kernel
theorem dX9_stillOpen_31 : decode cX9_stillOpen 31 = .ok (.istore_n 3, 1) := by decide +kernel
theorem dX9_stillOpen_32 : decode cX9_stillOpen 32 = .ok (.iload_n 3, 1) := by decide +kernel
theorem dX9_stillOpen_33 : decode cX9_stillOpen 33 = .ok (.aload_n 0, 1) := by decide +kernel
theorem dX9_stillOpen_34 : decode cX9_stillOpen 34 = .ok (.getfield 30, 3) := by decide +kernel
theorem dX9_stillOpen_37 : decode cX9_stillOpen 37 = .ok (.getfield 198, 3) := by decide +kernel
theorem dX9_stillOpen_40 : decode cX9_stillOpen 40 = .ok (.if_icmp .ge 18, 3) := by decide +kernel
theorem dX9_stillOpen_43 : decode cX9_stillOpen 43 = .ok (.iload_n 2, 1) := by decide +kernel
theorem dX9_stillOpen_44 : decode cX9_stillOpen 44 = .ok (.aload_n 0, 1) := by decide +kernel
theorem dX9_stillOpen_45 : decode cX9_stillOpen 45 = .ok (.iload_n 3, 1) := by decide +kernel
theorem dX9_stillOpen_46 : decode cX9_stillOpen 46 = .ok (.iload_n 1, 1) := by decide +kernel
theorem dX9_stillOpen_47 : decode cX9_stillOpen 47 = .ok (.invokevirtual 156, 3) := by decide +kernel
theorem dX9_stillOpen_50 : decode cX9_stillOpen 50 = .ok (.iadd, 1) := by decide +kernel
theorem dX9_stillOpen_51 : decode cX9_stillOpen 51 = .ok (.istore_n 2, 1) := by decide +kernel
theorem dX9_stillOpen_52 : decode cX9_stillOpen 52 = .ok (.iinc 3 1, 3) := by decide +kernel
theorem dX9_stillOpen_55 : decode cX9_stillOpen 55 = .ok (.goto (-23), 3) := by decide +kernel
theorem dX9_stillOpen_58 : decode cX9_stillOpen 58 = .ok (.iload_n 2, 1) := by decide +kernel
theorem dX9_stillOpen_59 : decode cX9_stillOpen 59 = .ok (.ireturn, 1) := by decide +kernel
set_option maxRecDepth 20000 in
theorem ggX9_hoardsNow_X2_gatherHoards : GoodIn wsX9_hoardsNow wsX2_gatherHoards := goodIn_r _ [8, 9, 10, 11, 12, 13, 14, 15, 16, 17, 7, 18, 19, 20, 21, 22, 23, 24, 25, 26, 27, 28, 29, 30, 31, 32, 33, 34, 35, 36, 37, 38, 39, 40, 41, 42, 43, 44, 45, 46, 47, 48, 49, 50, 51, 52, 53, 54, 55, 56, 57, 58, 59, 60, 61, 62, 74, 75, 76, 77, 78, 79, 80, 81, 82, 83, 84, 85, 86, 87, 88, 89, 90, 91] (by decide +kernel) (by decide +kernel)
set_option maxRecDepth 20000 in
theorem gX9_hoardsNow_X2_gatherHoards : GoodIn wsX9_hoardsNow (wsV RX9 85 RX2 yX2_gatherHoards wsX2_gatherHoards) := goodIn_app (goodIn_of _ (by decide +kernel)) ggX9_hoardsNow_X2_gatherHoards
set_option maxRecDepth 20000 in
theorem ggX9_hoardsNow_X2_hoardNumber : GoodIn wsX9_hoardsNow wsX2_hoardNumber := goodIn_r _ [66, 9, 26, 27, 28, 7, 29, 19, 74, 75, 76, 77, 78, 79, 80] (by decide +kernel) (by decide +kernel)
set_option maxRecDepth 20000 in
theorem gX9_hoardsNow_X2_hoardNumber : GoodIn wsX9_hoardsNow (wsV RX9 89 RX2 yX2_hoardNumber wsX2_hoardNumber) := goodIn_app (goodIn_of _ (by decide +kernel)) ggX9_hoardsNow_X2_hoardNumber
theorem dX9_hoardsNow_0 : decode cX9_hoardsNow 0 = .ok (.aload_n 0, 1) := by decide +kernel
theorem dX9_hoardsNow_1 : decode cX9_hoardsNow 1 = .ok (.getfield 30, 3) := by decide +kernel
theorem dX9_hoardsNow_4 : decode cX9_hoardsNow 4 = .ok (.aload_n 0, 1) := by decide +kernel
theorem dX9_hoardsNow_5 : decode cX9_hoardsNow 5 = .ok (.getfield 7, 3) := by decide +kernel
theorem dX9_hoardsNow_8 : decode cX9_hoardsNow 8 = .ok (.invokevirtual 85, 3) := by decide +kernel
theorem dX9_hoardsNow_11 : decode cX9_hoardsNow 11 = .ok (.iconst 0, 1) := by decide +kernel
theorem dX9_hoardsNow_12 : decode cX9_hoardsNow 12 = .ok (.istore_n 1, 1) := by decide +kernel
theorem dX9_hoardsNow_13 : decode cX9_hoardsNow 13 = .ok (.iconst 0, 1) := by decide +kernel
theorem dX9_hoardsNow_14 : decode cX9_hoardsNow 14 = .ok (.istore_n 2, 1) := by decide +kernel
theorem dX9_hoardsNow_15 : decode cX9_hoardsNow 15 = .ok (.iload_n 2, 1) := by decide +kernel
theorem dX9_hoardsNow_16 : decode cX9_hoardsNow 16 = .ok (.aload_n 0, 1) := by decide +kernel
theorem dX9_hoardsNow_17 : decode cX9_hoardsNow 17 = .ok (.getfield 30, 3) := by decide +kernel
theorem dX9_hoardsNow_20 : decode cX9_hoardsNow 20 = .ok (.getfield 198, 3) := by decide +kernel
theorem dX9_hoardsNow_23 : decode cX9_hoardsNow 23 = .ok (.if_icmp .ge 24, 3) := by decide +kernel
theorem dX9_hoardsNow_26 : decode cX9_hoardsNow 26 = .ok (.aload_n 0, 1) := by decide +kernel
theorem dX9_hoardsNow_27 : decode cX9_hoardsNow 27 = .ok (.getfield 30, 3) := by decide +kernel
theorem dX9_hoardsNow_30 : decode cX9_hoardsNow 30 = .ok (.iload_n 2, 1) := by decide +kernel
theorem dX9_hoardsNow_31 : decode cX9_hoardsNow 31 = .ok (.invokevirtual 89, 3) := by decide +kernel
theorem dX9_hoardsNow_34 : decode cX9_hoardsNow 34 = .ok (.iload_n 2, 1) := by decide +kernel
theorem dX9_hoardsNow_35 : decode cX9_hoardsNow 35 = .ok (.if_icmp .ne 6, 3) := by decide +kernel
theorem dX9_hoardsNow_38 : decode cX9_hoardsNow 38 = .ok (.iinc 1 1, 3) := by decide +kernel
theorem dX9_hoardsNow_41 : decode cX9_hoardsNow 41 = .ok (.iinc 2 1, 3) := by decide +kernel
theorem dX9_hoardsNow_44 : decode cX9_hoardsNow 44 = .ok (.goto (-29), 3) := by decide +kernel
theorem dX9_hoardsNow_47 : decode cX9_hoardsNow 47 = .ok (.iload_n 1, 1) := by decide +kernel
theorem dX9_hoardsNow_48 : decode cX9_hoardsNow 48 = .ok (.ireturn, 1) := by decide +kernel
set_option maxRecDepth 20000 in
theorem ggX9_treasuresNow_X2_gatherHoards : GoodIn wsX9_treasuresNow wsX2_gatherHoards := goodIn_r _ [8, 9, 10, 11, 12, 13, 14, 15, 16, 17, 7, 18, 19, 20, 21, 22, 23, 24, 25, 26, 27, 28, 29, 30, 31, 32, 33, 34, 35, 36, 37, 38, 39, 40, 41, 42, 43, 44, 45, 46, 47, 48, 49, 50, 51, 52, 53, 54, 55, 56, 57, 58, 59, 60, 61, 62, 104, 105, 106, 107, 108, 109, 110, 111, 112, 113, 114, 115, 116, 117, 118, 119, 120, 121] (by decide +kernel) (by decide +kernel)
set_option maxRecDepth 20000 in
theorem gX9_treasuresNow_X2_gatherHoards : GoodIn wsX9_treasuresNow (wsV RX9 85 RX2 yX2_gatherHoards wsX2_gatherHoards) := goodIn_app (goodIn_of _ (by decide +kernel)) ggX9_treasuresNow_X2_gatherHoards
set_option maxRecDepth 20000 in
theorem ggX9_treasuresNow_X9_lawThatCounts : GoodIn wsX9_treasuresNow wsX9_lawThatCounts := goodIn_r _ [67, 1, 68, 69, 70, 22, 23, 7, 24, 25, 26, 27, 28, 29, 19, 71, 72, 73, 74, 9, 10, 75, 76, 77, 78, 79, 80, 81, 82, 83, 84, 85, 86, 87, 88, 89, 90, 91, 92, 93, 94, 95, 66, 96, 97, 98, 99, 100, 101, 102, 103, 111, 112, 113, 114, 115, 116, 117, 118, 119, 120, 121, 104, 105, 106, 107, 108, 109, 110, 122, 123, 124, 125, 126, 127, 128] (by decide +kernel) (by decide +kernel)
set_option maxRecDepth 20000 in
theorem gX9_treasuresNow_X9_lawThatCounts : GoodIn wsX9_treasuresNow (wsV RX9 237 RX9 yX9_lawThatCounts wsX9_lawThatCounts) := goodIn_app (goodIn_of _ (by decide +kernel)) ggX9_treasuresNow_X9_lawThatCounts
theorem dX9_treasuresNow_0 : decode cX9_treasuresNow 0 = .ok (.aload_n 0, 1) := by decide +kernel
theorem dX9_treasuresNow_1 : decode cX9_treasuresNow 1 = .ok (.getfield 30, 3) := by decide +kernel
theorem dX9_treasuresNow_4 : decode cX9_treasuresNow 4 = .ok (.aload_n 0, 1) := by decide +kernel
theorem dX9_treasuresNow_5 : decode cX9_treasuresNow 5 = .ok (.getfield 7, 3) := by decide +kernel
theorem dX9_treasuresNow_8 : decode cX9_treasuresNow 8 = .ok (.invokevirtual 85, 3) := by decide +kernel
theorem dX9_treasuresNow_11 : decode cX9_treasuresNow 11 = .ok (.iconst 0, 1) := by decide +kernel
theorem dX9_treasuresNow_12 : decode cX9_treasuresNow 12 = .ok (.istore_n 1, 1) := by decide +kernel
theorem dX9_treasuresNow_13 : decode cX9_treasuresNow 13 = .ok (.iconst 0, 1) := by decide +kernel
theorem dX9_treasuresNow_14 : decode cX9_treasuresNow 14 = .ok (.istore_n 2, 1) := by decide +kernel
theorem dX9_treasuresNow_15 : decode cX9_treasuresNow 15 = .ok (.iload_n 2, 1) := by decide +kernel
theorem dX9_treasuresNow_16 : decode cX9_treasuresNow 16 = .ok (.aload_n 0, 1) := by decide +kernel
theorem dX9_treasuresNow_17 : decode cX9_treasuresNow 17 = .ok (.getfield 30, 3) := by decide +kernel
theorem dX9_treasuresNow_20 : decode cX9_treasuresNow 20 = .ok (.getfield 198, 3) := by decide +kernel
theorem dX9_treasuresNow_23 : decode cX9_treasuresNow 23 = .ok (.if_icmp .ge 20, 3) := by decide +kernel
theorem dX9_treasuresNow_26 : decode cX9_treasuresNow 26 = .ok (.aload_n 0, 1) := by decide +kernel
theorem dX9_treasuresNow_27 : decode cX9_treasuresNow 27 = .ok (.iload_n 2, 1) := by decide +kernel
theorem dX9_treasuresNow_28 : decode cX9_treasuresNow 28 = .ok (.invokevirtual 237, 3) := by decide +kernel
theorem dX9_treasuresNow_31 : decode cX9_treasuresNow 31 = .ok (.ifnull 6, 3) := by decide +kernel
theorem dX9_treasuresNow_34 : decode cX9_treasuresNow 34 = .ok (.iinc 1 1, 3) := by decide +kernel
theorem dX9_treasuresNow_37 : decode cX9_treasuresNow 37 = .ok (.iinc 2 1, 3) := by decide +kernel
theorem dX9_treasuresNow_40 : decode cX9_treasuresNow 40 = .ok (.goto (-25), 3) := by decide +kernel
theorem dX9_treasuresNow_43 : decode cX9_treasuresNow 43 = .ok (.iload_n 1, 1) := by decide +kernel
theorem dX9_treasuresNow_44 : decode cX9_treasuresNow 44 = .ok (.ireturn, 1) := by decide +kernel
theorem dX10_init_0 : decode cX10_init 0 = .ok (.aload_n 0, 1) := by decide +kernel
theorem dX10_init_1 : decode cX10_init 1 = .ok (.invokespecial 1, 3) := by decide +kernel
theorem dX10_init_4 : decode cX10_init 4 = .ok (.aload_n 0, 1) := by decide +kernel
theorem dX10_init_5 : decode cX10_init 5 = .ok (.bipush 50, 2) := by decide +kernel
theorem dX10_init_7 : decode cX10_init 7 = .ok (.newarray .int, 2) := by decide +kernel
theorem dX10_init_9 : decode cX10_init 9 = .ok (.putfield 9, 3) := by decide +kernel
theorem dX10_init_12 : decode cX10_init 12 = .ok (.aload_n 0, 1) := by decide +kernel
theorem dX10_init_13 : decode cX10_init 13 = .ok (.bipush 50, 2) := by decide +kernel
theorem dX10_init_15 : decode cX10_init 15 = .ok (.newarray .int, 2) := by decide +kernel
theorem dX10_init_17 : decode cX10_init 17 = .ok (.putfield 13, 3) := by decide +kernel
theorem dX10_init_20 : decode cX10_init 20 = .ok (.aload_n 0, 1) := by decide +kernel
theorem dX10_init_21 : decode cX10_init 21 = .ok (.bipush 50, 2) := by decide +kernel
theorem dX10_init_23 : decode cX10_init 23 = .ok (.newarray .int, 2) := by decide +kernel
theorem dX10_init_25 : decode cX10_init 25 = .ok (.putfield 16, 3) := by decide +kernel
theorem dX10_init_28 : decode cX10_init 28 = .ok (.aload_n 0, 1) := by decide +kernel
theorem dX10_init_29 : decode cX10_init 29 = .ok (.bipush 50, 2) := by decide +kernel
theorem dX10_init_31 : decode cX10_init 31 = .ok (.newarray .int, 2) := by decide +kernel
theorem dX10_init_33 : decode cX10_init 33 = .ok (.putfield 19, 3) := by decide +kernel
theorem dX10_init_36 : decode cX10_init 36 = .ok (.aload_n 0, 1) := by decide +kernel
theorem dX10_init_37 : decode cX10_init 37 = .ok (.bipush 50, 2) := by decide +kernel
theorem dX10_init_39 : decode cX10_init 39 = .ok (.newarray .int, 2) := by decide +kernel
theorem dX10_init_41 : decode cX10_init 41 = .ok (.putfield 22, 3) := by decide +kernel
theorem dX10_init_44 : decode cX10_init 44 = .ok (.aload_n 0, 1) := by decide +kernel
theorem dX10_init_45 : decode cX10_init 45 = .ok (.bipush 50, 2) := by decide +kernel
theorem dX10_init_47 : decode cX10_init 47 = .ok (.newarray .int, 2) := by decide +kernel
theorem dX10_init_49 : decode cX10_init 49 = .ok (.putfield 25, 3) := by decide +kernel
theorem dX10_init_52 : decode cX10_init 52 = .ok (.aload_n 0, 1) := by decide +kernel
theorem dX10_init_53 : decode cX10_init 53 = .ok (.bipush 50, 2) := by decide +kernel
theorem dX10_init_55 : decode cX10_init 55 = .ok (.newarray .int, 2) := by decide +kernel
theorem dX10_init_57 : decode cX10_init 57 = .ok (.putfield 28, 3) := by decide +kernel
theorem dX10_init_60 : decode cX10_init 60 = .ok (.aload_n 0, 1) := by decide +kernel
theorem dX10_init_61 : decode cX10_init 61 = .ok (.bipush 50, 2) := by decide +kernel
theorem dX10_init_63 : decode cX10_init 63 = .ok (.newarray .int, 2) := by decide +kernel
theorem dX10_init_65 : decode cX10_init 65 = .ok (.putfield 31, 3) := by decide +kernel
theorem dX10_init_68 : decode cX10_init 68 = .ok (.aload_n 0, 1) := by decide +kernel
theorem dX10_init_69 : decode cX10_init 69 = .ok (.bipush 50, 2) := by decide +kernel
theorem dX10_init_71 : decode cX10_init 71 = .ok (.newarray .int, 2) := by decide +kernel
theorem dX10_init_73 : decode cX10_init 73 = .ok (.putfield 34, 3) := by decide +kernel
theorem dX10_init_76 : decode cX10_init 76 = .ok (.aload_n 0, 1) := by decide +kernel
theorem dX10_init_77 : decode cX10_init 77 = .ok (.bipush 50, 2) := by decide +kernel
theorem dX10_init_79 : decode cX10_init 79 = .ok (.newarray .int, 2) := by decide +kernel
theorem dX10_init_81 : decode cX10_init 81 = .ok (.putfield 37, 3) := by decide +kernel
theorem dX10_init_84 : decode cX10_init 84 = .ok (.aload_n 0, 1) := by decide +kernel
theorem dX10_init_85 : decode cX10_init 85 = .ok (.bipush 50, 2) := by decide +kernel
theorem dX10_init_87 : decode cX10_init 87 = .ok (.newarray .int, 2) := by decide +kernel
theorem dX10_init_89 : decode cX10_init 89 = .ok (.putfield 40, 3) := by decide +kernel
theorem dX10_init_92 : decode cX10_init 92 = .ok (.aload_n 0, 1) := by decide +kernel
theorem dX10_init_93 : decode cX10_init 93 = .ok (.sipush 2500, 3) := by decide +kernel
theorem dX10_init_96 : decode cX10_init 96 = .ok (.newarray .int, 2) := by decide +kernel
theorem dX10_init_98 : decode cX10_init 98 = .ok (.putfield 43, 3) := by decide +kernel
theorem dX10_init_101 : decode cX10_init 101 = .ok (.aload_n 0, 1) := by decide +kernel
theorem dX10_init_102 : decode cX10_init 102 = .ok (.bipush 20, 2) := by decide +kernel
theorem dX10_init_104 : decode cX10_init 104 = .ok (.newarray .int, 2) := by decide +kernel
theorem dX10_init_106 : decode cX10_init 106 = .ok (.putfield 46, 3) := by decide +kernel
theorem dX10_init_109 : decode cX10_init 109 = .ok (.aload_n 0, 1) := by decide +kernel
theorem dX10_init_110 : decode cX10_init 110 = .ok (.bipush 20, 2) := by decide +kernel
theorem dX10_init_112 : decode cX10_init 112 = .ok (.newarray .int, 2) := by decide +kernel
theorem dX10_init_114 : decode cX10_init 114 = .ok (.putfield 49, 3) := by decide +kernel
theorem dX10_init_117 : decode cX10_init 117 = .ok (.aload_n 0, 1) := by decide +kernel
theorem dX10_init_118 : decode cX10_init 118 = .ok (.bipush 20, 2) := by decide +kernel
theorem dX10_init_120 : decode cX10_init 120 = .ok (.newarray .int, 2) := by decide +kernel
theorem dX10_init_122 : decode cX10_init 122 = .ok (.putfield 52, 3) := by decide +kernel
theorem dX10_init_125 : decode cX10_init 125 = .ok (.aload_n 0, 1) := by decide +kernel
theorem dX10_init_126 : decode cX10_init 126 = .ok (.bipush 20, 2) := by decide +kernel
theorem dX10_init_128 : decode cX10_init 128 = .ok (.newarray .int, 2) := by decide +kernel
theorem dX10_init_130 : decode cX10_init 130 = .ok (.putfield 55, 3) := by decide +kernel
theorem dX10_init_133 : decode cX10_init 133 = .ok (.aload_n 0, 1) := by decide +kernel
theorem dX10_init_134 : decode cX10_init 134 = .ok (.bipush 20, 2) := by decide +kernel
theorem dX10_init_136 : decode cX10_init 136 = .ok (.newarray .int, 2) := by decide +kernel
theorem dX10_init_138 : decode cX10_init 138 = .ok (.putfield 58, 3) := by decide +kernel
theorem dX10_init_141 : decode cX10_init 141 = .ok (.aload_n 0, 1) := by decide +kernel
theorem dX10_init_142 : decode cX10_init 142 = .ok (.bipush 100, 2) := by decide +kernel
theorem dX10_init_144 : decode cX10_init 144 = .ok (.newarray .int, 2) := by decide +kernel
theorem dX10_init_146 : decode cX10_init 146 = .ok (.putfield 61, 3) := by decide +kernel
theorem dX10_init_149 : decode cX10_init 149 = .ok (.aload_n 0, 1) := by decide +kernel
theorem dX10_init_150 : decode cX10_init 150 = .ok (.bipush 100, 2) := by decide +kernel
theorem dX10_init_152 : decode cX10_init 152 = .ok (.newarray .int, 2) := by decide +kernel
theorem dX10_init_154 : decode cX10_init 154 = .ok (.putfield 64, 3) := by decide +kernel
theorem dX10_init_157 : decode cX10_init 157 = .ok (.aload_n 0, 1) := by decide +kernel
theorem dX10_init_158 : decode cX10_init 158 = .ok (.bipush 100, 2) := by decide +kernel
theorem dX10_init_160 : decode cX10_init 160 = .ok (.newarray .int, 2) := by decide +kernel
theorem dX10_init_162 : decode cX10_init 162 = .ok (.putfield 67, 3) := by decide +kernel
theorem dX10_init_165 : decode cX10_init 165 = .ok (.aload_n 0, 1) := by decide +kernel
theorem dX10_init_166 : decode cX10_init 166 = .ok (.bipush 55, 2) := by decide +kernel
theorem dX10_init_168 : decode cX10_init 168 = .ok (.newarray .int, 2) := by decide +kernel
theorem dX10_init_170 : decode cX10_init 170 = .ok (.putfield 70, 3) := by decide +kernel
theorem dX10_init_173 : decode cX10_init 173 = .ok (.aload_n 0, 1) := by decide +kernel
theorem dX10_init_174 : decode cX10_init 174 = .ok (.bipush 60, 2) := by decide +kernel
theorem dX10_init_176 : decode cX10_init 176 = .ok (.newarray .int, 2) := by decide +kernel
theorem dX10_init_178 : decode cX10_init 178 = .ok (.putfield 73, 3) := by decide +kernel
theorem dX10_init_181 : decode cX10_init 181 = .ok (.aload_n 0, 1) := by decide +kernel
theorem dX10_init_182 : decode cX10_init 182 = .ok (.bipush 60, 2) := by decide +kernel
theorem dX10_init_184 : decode cX10_init 184 = .ok (.newarray .int, 2) := by decide +kernel
theorem dX10_init_186 : decode cX10_init 186 = .ok (.putfield 76, 3) := by decide +kernel
theorem dX10_init_189 : decode cX10_init 189 = .ok (.aload_n 0, 1) := by decide +kernel
theorem dX10_init_190 : decode cX10_init 190 = .ok (.bipush 60, 2) := by decide +kernel
theorem dX10_init_192 : decode cX10_init 192 = .ok (.newarray .int, 2) := by decide +kernel
theorem dX10_init_194 : decode cX10_init 194 = .ok (.putfield 79, 3) := by decide +kernel
theorem dX10_init_197 : decode cX10_init 197 = .ok (.aload_n 0, 1) := by decide +kernel
theorem dX10_init_198 : decode cX10_init 198 = .ok (.bipush 60, 2) := by decide +kernel
theorem dX10_init_200 : decode cX10_init 200 = .ok (.newarray .int, 2) := by decide +kernel
theorem dX10_init_202 : decode cX10_init 202 = .ok (.putfield 82, 3) := by decide +kernel
theorem dX10_init_205 : decode cX10_init 205 = .ok (.aload_n 0, 1) := by decide +kernel
theorem dX10_init_206 : decode cX10_init 206 = .ok (.bipush 30, 2) := by decide +kernel
theorem dX10_init_208 : decode cX10_init 208 = .ok (.newarray .int, 2) := by decide +kernel
theorem dX10_init_210 : decode cX10_init 210 = .ok (.putfield 85, 3) := by decide +kernel
theorem dX10_init_213 : decode cX10_init 213 = .ok (.aload_n 0, 1) := by decide +kernel
theorem dX10_init_214 : decode cX10_init 214 = .ok (.bipush 10, 2) := by decide +kernel
theorem dX10_init_216 : decode cX10_init 216 = .ok (.newarray .int, 2) := by decide +kernel
theorem dX10_init_218 : decode cX10_init 218 = .ok (.putfield 88, 3) := by decide +kernel
theorem dX10_init_221 : decode cX10_init 221 = .ok (.aload_n 0, 1) := by decide +kernel
theorem dX10_init_222 : decode cX10_init 222 = .ok (.bipush 10, 2) := by decide +kernel
theorem dX10_init_224 : decode cX10_init 224 = .ok (.newarray .int, 2) := by decide +kernel
theorem dX10_init_226 : decode cX10_init 226 = .ok (.putfield 91, 3) := by decide +kernel
theorem dX10_init_229 : decode cX10_init 229 = .ok (.aload_n 0, 1) := by decide +kernel
theorem dX10_init_230 : decode cX10_init 230 = .ok (.bipush 10, 2) := by decide +kernel
theorem dX10_init_232 : decode cX10_init 232 = .ok (.newarray .int, 2) := by decide +kernel
theorem dX10_init_234 : decode cX10_init 234 = .ok (.putfield 94, 3) := by decide +kernel
theorem dX10_init_237 : decode cX10_init 237 = .ok (.aload_n 0, 1) := by decide +kernel
theorem dX10_init_238 : decode cX10_init 238 = .ok (.iconst (-1), 1) := by decide +kernel
theorem dX10_init_239 : decode cX10_init 239 = .ok (.putfield 97, 3) := by decide +kernel
theorem dX10_init_242 : decode cX10_init 242 = .ok (.aload_n 0, 1) := by decide +kernel
theorem dX10_init_243 : decode cX10_init 243 = .ok (.bipush 50, 2) := by decide +kernel
theorem dX10_init_245 : decode cX10_init 245 = .ok (.newarray .boolean, 2) := by decide +kernel
theorem dX10_init_247 : decode cX10_init 247 = .ok (.putfield 101, 3) := by decide +kernel
theorem dX10_init_250 : decode cX10_init 250 = .ok (.iconst 0, 1) := by decide +kernel
theorem dX10_init_251 : decode cX10_init 251 = .ok (.istore_n 1, 1) := by decide +kernel
theorem dX10_init_252 : decode cX10_init 252 = .ok (.iload_n 1, 1) := by decide +kernel
theorem dX10_init_253 : decode cX10_init 253 = .ok (.sipush 2500, 3) := by decide +kernel
theorem dX10_init_256 : decode cX10_init 256 = .ok (.if_icmp .ge 17, 3) := by decide +kernel
theorem dX10_init_259 : decode cX10_init 259 = .ok (.aload_n 0, 1) := by decide +kernel
theorem dX10_init_260 : decode cX10_init 260 = .ok (.getfield 43, 3) := by decide +kernel
theorem dX10_init_263 : decode cX10_init 263 = .ok (.iload_n 1, 1) := by decide +kernel
theorem dX10_init_264 : decode cX10_init 264 = .ok (.ldc 105, 2) := by decide +kernel
theorem dX10_init_266 : decode cX10_init 266 = .ok (.iastore, 1) := by decide +kernel
theorem dX10_init_267 : decode cX10_init 267 = .ok (.iinc 1 1, 3) := by decide +kernel
theorem dX10_init_270 : decode cX10_init 270 = .ok (.goto (-18), 3) := by decide +kernel
theorem dX10_init_273 : decode cX10_init 273 = .ok (.iconst 0, 1) := by decide +kernel
theorem dX10_init_274 : decode cX10_init 274 = .ok (.istore_n 1, 1) := by decide +kernel
theorem dX10_init_275 : decode cX10_init 275 = .ok (.iload_n 1, 1) := by decide +kernel
theorem dX10_init_276 : decode cX10_init 276 = .ok (.bipush 55, 2) := by decide +kernel
theorem dX10_init_278 : decode cX10_init 278 = .ok (.if_icmp .ge 17, 3) := by decide +kernel
theorem dX10_init_281 : decode cX10_init 281 = .ok (.aload_n 0, 1) := by decide +kernel
theorem dX10_init_282 : decode cX10_init 282 = .ok (.getfield 70, 3) := by decide +kernel
theorem dX10_init_285 : decode cX10_init 285 = .ok (.iload_n 1, 1) := by decide +kernel
theorem dX10_init_286 : decode cX10_init 286 = .ok (.bipush 100, 2) := by decide +kernel
theorem dX10_init_288 : decode cX10_init 288 = .ok (.iastore, 1) := by decide +kernel
theorem dX10_init_289 : decode cX10_init 289 = .ok (.iinc 1 1, 3) := by decide +kernel
theorem dX10_init_292 : decode cX10_init 292 = .ok (.goto (-17), 3) := by decide +kernel
theorem dX10_init_295 : decode cX10_init 295 = .ok (.return_, 1) := by decide +kernel
theorem dX10_in_0 : decode cX10_in 0 = .ok (.iload_n 0, 1) := by decide +kernel
theorem dX10_in_1 : decode cX10_in 1 = .ok (.iload_n 1, 1) := by decide +kernel
theorem dX10_in_2 : decode cX10_in 2 = .ok (.if_icmp .lt 12, 3) := by decide +kernel
theorem dX10_in_5 : decode cX10_in 5 = .ok (.iload_n 0, 1) := by decide +kernel
theorem dX10_in_6 : decode cX10_in 6 = .ok (.iload_n 2, 1) := by decide +kernel
theorem dX10_in_7 : decode cX10_in 7 = .ok (.if_icmp .gt 7, 3) := by decide +kernel
theorem dX10_in_10 : decode cX10_in 10 = .ok (.iconst 1, 1) := by decide +kernel
theorem dX10_in_11 : decode cX10_in 11 = .ok (.goto 4, 3) := by decide +kernel
theorem dX10_in_14 : decode cX10_in 14 = .ok (.iconst 0, 1) := by decide +kernel
theorem dX10_in_15 : decode cX10_in 15 = .ok (.ireturn, 1) := by decide +kernel
set_option maxRecDepth 20000 in
theorem ggX10_isFind_X10_in : GoodIn wsX10_isFind wsX10_in := goodIn_r _ [5] (by decide +kernel) (by decide +kernel)
set_option maxRecDepth 20000 in
theorem gX10_isFind_X10_in : GoodIn wsX10_isFind (va_wsS RX10 109 yX10_in wsX10_in) := goodIn_app (goodIn_of _ (by decide +kernel)) ggX10_isFind_X10_in
theorem dX10_isFind_0 : decode cX10_isFind 0 = .ok (.iload_n 1, 1) := by decide +kernel
theorem dX10_isFind_1 : decode cX10_isFind 1 = .ok (.iconst 0, 1) := by decide +kernel
theorem dX10_isFind_2 : decode cX10_isFind 2 = .ok (.aload_n 0, 1) := by decide +kernel
theorem dX10_isFind_3 : decode cX10_isFind 3 = .ok (.getfield 106, 3) := by decide +kernel
theorem dX10_isFind_6 : decode cX10_isFind 6 = .ok (.iconst 1, 1) := by decide +kernel
theorem dX10_isFind_7 : decode cX10_isFind 7 = .ok (.isub, 1) := by decide +kernel
theorem dX10_isFind_8 : decode cX10_isFind 8 = .ok (.invokestatic 109, 3) := by decide +kernel
theorem dX10_isFind_11 : decode cX10_isFind 11 = .ok (.ireturn, 1) := by decide +kernel
set_option maxRecDepth 20000 in
theorem ggX10_isPerson_X10_in : GoodIn wsX10_isPerson wsX10_in := goodIn_r _ [4] (by decide +kernel) (by decide +kernel)
set_option maxRecDepth 20000 in
theorem gX10_isPerson_X10_in : GoodIn wsX10_isPerson (va_wsS RX10 109 yX10_in wsX10_in) := goodIn_app (goodIn_of _ (by decide +kernel)) ggX10_isPerson_X10_in
theorem dX10_isPerson_0 : decode cX10_isPerson 0 = .ok (.iload_n 0, 1) := by decide +kernel
theorem dX10_isPerson_1 : decode cX10_isPerson 1 = .ok (.iconst 0, 1) := by decide +kernel
theorem dX10_isPerson_2 : decode cX10_isPerson 2 = .ok (.bipush 29, 2) := by decide +kernel
theorem dX10_isPerson_4 : decode cX10_isPerson 4 = .ok (.invokestatic 109, 3) := by decide +kernel
theorem dX10_isPerson_7 : decode cX10_isPerson 7 = .ok (.ireturn, 1) := by decide +kernel
theorem dX10_yearOf_0 : decode cX10_yearOf 0 = .ok (.sipush 1950, 3) := by decide +kernel
theorem dX10_yearOf_3 : decode cX10_yearOf 3 = .ok (.iload_n 0, 1) := by decide +kernel
theorem dX10_yearOf_4 : decode cX10_yearOf 4 = .ok (.sipush 365, 3) := by decide +kernel
theorem dX10_yearOf_7 : decode cX10_yearOf 7 = .ok (.idiv, 1) := by decide +kernel
theorem dX10_yearOf_8 : decode cX10_yearOf 8 = .ok (.iadd, 1) := by decide +kernel
theorem dX10_yearOf_9 : decode cX10_yearOf 9 = .ok (.ireturn, 1) := by decide +kernel
set_option maxRecDepth 20000 in
theorem ggX10_go_X10_in : GoodIn wsX10_go wsX10_in := goodIn_r _ [5] (by decide +kernel) (by decide +kernel)
set_option maxRecDepth 20000 in
theorem gX10_go_X10_in : GoodIn wsX10_go (va_wsS RX10 109 yX10_in wsX10_in) := goodIn_app (goodIn_of _ (by decide +kernel)) ggX10_go_X10_in
theorem dX10_go_0 : decode cX10_go 0 = .ok (.iload_n 1, 1) := by decide +kernel
theorem dX10_go_1 : decode cX10_go 1 = .ok (.iconst 0, 1) := by decide +kernel
theorem dX10_go_2 : decode cX10_go 2 = .ok (.sipush 20000, 3) := by decide +kernel
theorem dX10_go_5 : decode cX10_go 5 = .ok (.invokestatic 109, 3) := by decide +kernel
theorem dX10_go_8 : decode cX10_go 8 = .ok (.ifCond .ne 5, 3) := by decide +kernel
theorem dX10_go_11 : decode cX10_go 11 = .ok (.iconst (-1), 1) := by decide +kernel
theorem dX10_go_12 : decode cX10_go 12 = .ok (.ireturn, 1) := by decide +kernel
theorem dX10_go_13 : decode cX10_go 13 = .ok (.aload_n 0, 1) := by decide +kernel
theorem dX10_go_14 : decode cX10_go 14 = .ok (.aload_n 0, 1) := by decide +kernel
theorem dX10_go_15 : decode cX10_go 15 = .ok (.getfield 113, 3) := by decide +kernel
theorem dX10_go_18 : decode cX10_go 18 = .ok (.iload_n 1, 1) := by decide +kernel
theorem dX10_go_19 : decode cX10_go 19 = .ok (.iadd, 1) := by decide +kernel
theorem dX10_go_20 : decode cX10_go 20 = .ok (.sipush 20000, 3) := by decide +kernel
theorem dX10_go_23 : decode cX10_go 23 = .ok (.if_icmp .le 9, 3) := by decide +kernel
theorem dX10_go_26 : decode cX10_go 26 = .ok (.sipush 20000, 3) := by decide +kernel
theorem dX10_go_29 : decode cX10_go 29 = .ok (.goto 9, 3) := by decide +kernel
theorem dX10_go_32 : decode cX10_go 32 = .ok (.aload_n 0, 1) := by decide +kernel
theorem dX10_go_33 : decode cX10_go 33 = .ok (.getfield 113, 3) := by decide +kernel
theorem dX10_go_36 : decode cX10_go 36 = .ok (.iload_n 1, 1) := by decide +kernel
theorem dX10_go_37 : decode cX10_go 37 = .ok (.iadd, 1) := by decide +kernel
theorem dX10_go_38 : decode cX10_go 38 = .ok (.putfield 113, 3) := by decide +kernel
theorem dX10_go_41 : decode cX10_go 41 = .ok (.aload_n 0, 1) := by decide +kernel
theorem dX10_go_42 : decode cX10_go 42 = .ok (.getfield 113, 3) := by decide +kernel
theorem dX10_go_45 : decode cX10_go 45 = .ok (.ireturn, 1) := by decide +kernel
set_option maxRecDepth 20000 in
theorem ggX10_law_X10_in : GoodIn wsX10_law wsX10_in := goodIn_r _ [11] (by decide +kernel) (by decide +kernel)
set_option maxRecDepth 20000 in
theorem gX10_law_X10_in : GoodIn wsX10_law (va_wsS RX10 109 yX10_in wsX10_in) := goodIn_app (goodIn_of _ (by decide +kernel)) ggX10_law_X10_in
theorem dX10_law_0 : decode cX10_law 0 = .ok (.iload_n 1, 1) := by decide +kernel
theorem dX10_law_1 : decode cX10_law 1 = .ok (.iconst 0, 1) := by decide +kernel
theorem dX10_law_2 : decode cX10_law 2 = .ok (.sipush 20000, 3) := by decide +kernel
theorem dX10_law_5 : decode cX10_law 5 = .ok (.invokestatic 109, 3) := by decide +kernel
theorem dX10_law_8 : decode cX10_law 8 = .ok (.ifCond .eq 46, 3) := by decide +kernel
theorem dX10_law_11 : decode cX10_law 11 = .ok (.iload_n 2, 1) := by decide +kernel
theorem dX10_law_12 : decode cX10_law 12 = .ok (.ifCond .lt 42, 3) := by decide +kernel
theorem dX10_law_15 : decode cX10_law 15 = .ok (.iload_n 2, 1) := by decide +kernel
theorem dX10_law_16 : decode cX10_law 16 = .ok (.ldc 105, 2) := by decide +kernel
theorem dX10_law_18 : decode cX10_law 18 = .ok (.idiv, 1) := by decide +kernel
theorem dX10_law_19 : decode cX10_law 19 = .ok (.sipush 2000, 3) := by decide +kernel
theorem dX10_law_22 : decode cX10_law 22 = .ok (.if_icmp .gt 32, 3) := by decide +kernel
theorem dX10_law_25 : decode cX10_law 25 = .ok (.iload_n 2, 1) := by decide +kernel
theorem dX10_law_26 : decode cX10_law 26 = .ok (.sipush 1000, 3) := by decide +kernel
theorem dX10_law_29 : decode cX10_law 29 = .ok (.irem, 1) := by decide +kernel
theorem dX10_law_30 : decode cX10_law 30 = .ok (.bipush 100, 2) := by decide +kernel
theorem dX10_law_32 : decode cX10_law 32 = .ok (.if_icmp .gt 22, 3) := by decide +kernel
theorem dX10_law_35 : decode cX10_law 35 = .ok (.iload_n 3, 1) := by decide +kernel
theorem dX10_law_36 : decode cX10_law 36 = .ok (.iconst 1, 1) := by decide +kernel
theorem dX10_law_37 : decode cX10_law 37 = .ok (.bipush 50, 2) := by decide +kernel
theorem dX10_law_39 : decode cX10_law 39 = .ok (.invokestatic 109, 3) := by decide +kernel
theorem dX10_law_42 : decode cX10_law 42 = .ok (.ifCond .eq 12, 3) := by decide +kernel
theorem dX10_law_45 : decode cX10_law 45 = .ok (.aload_n 0, 1) := by decide +kernel
theorem dX10_law_46 : decode cX10_law 46 = .ok (.getfield 116, 3) := by decide +kernel
theorem dX10_law_49 : decode cX10_law 49 = .ok (.bipush 20, 2) := by decide +kernel
theorem dX10_law_51 : decode cX10_law 51 = .ok (.if_icmp .ne 5, 3) := by decide +kernel
theorem dX10_law_54 : decode cX10_law 54 = .ok (.iconst (-1), 1) := by decide +kernel
theorem dX10_law_55 : decode cX10_law 55 = .ok (.ireturn, 1) := by decide +kernel
theorem dX10_law_56 : decode cX10_law 56 = .ok (.aload_n 0, 1) := by decide +kernel
theorem dX10_law_57 : decode cX10_law 57 = .ok (.getfield 46, 3) := by decide +kernel
theorem dX10_law_60 : decode cX10_law 60 = .ok (.aload_n 0, 1) := by decide +kernel
theorem dX10_law_61 : decode cX10_law 61 = .ok (.getfield 116, 3) := by decide +kernel
theorem dX10_law_64 : decode cX10_law 64 = .ok (.iload_n 1, 1) := by decide +kernel
theorem dX10_law_65 : decode cX10_law 65 = .ok (.iastore, 1) := by decide +kernel
theorem dX10_law_66 : decode cX10_law 66 = .ok (.aload_n 0, 1) := by decide +kernel
theorem dX10_law_67 : decode cX10_law 67 = .ok (.getfield 49, 3) := by decide +kernel
theorem dX10_law_70 : decode cX10_law 70 = .ok (.aload_n 0, 1) := by decide +kernel
theorem dX10_law_71 : decode cX10_law 71 = .ok (.getfield 116, 3) := by decide +kernel
theorem dX10_law_74 : decode cX10_law 74 = .ok (.iload_n 2, 1) := by decide +kernel
theorem dX10_law_75 : decode cX10_law 75 = .ok (.ldc 105, 2) := by decide +kernel
theorem dX10_law_77 : decode cX10_law 77 = .ok (.idiv, 1) := by decide +kernel
theorem dX10_law_78 : decode cX10_law 78 = .ok (.iastore, 1) := by decide +kernel
theorem dX10_law_79 : decode cX10_law 79 = .ok (.aload_n 0, 1) := by decide +kernel
theorem dX10_law_80 : decode cX10_law 80 = .ok (.getfield 52, 3) := by decide +kernel
theorem dX10_law_83 : decode cX10_law 83 = .ok (.aload_n 0, 1) := by decide +kernel
theorem dX10_law_84 : decode cX10_law 84 = .ok (.getfield 116, 3) := by decide +kernel
theorem dX10_law_87 : decode cX10_law 87 = .ok (.iload_n 2, 1) := by decide +kernel
theorem dX10_law_88 : decode cX10_law 88 = .ok (.sipush 1000, 3) := by decide +kernel
theorem dX10_law_91 : decode cX10_law 91 = .ok (.idiv, 1) := by decide +kernel
theorem dX10_law_92 : decode cX10_law 92 = .ok (.sipush 1000, 3) := by decide +kernel
theorem dX10_law_95 : decode cX10_law 95 = .ok (.irem, 1) := by decide +kernel
theorem dX10_law_96 : decode cX10_law 96 = .ok (.iastore, 1) := by decide +kernel
theorem dX10_law_97 : decode cX10_law 97 = .ok (.aload_n 0, 1) := by decide +kernel
theorem dX10_law_98 : decode cX10_law 98 = .ok (.getfield 55, 3) := by decide +kernel
theorem dX10_law_101 : decode cX10_law 101 = .ok (.aload_n 0, 1) := by decide +kernel
theorem dX10_law_102 : decode cX10_law 102 = .ok (.getfield 116, 3) := by decide +kernel
theorem dX10_law_105 : decode cX10_law 105 = .ok (.iload_n 2, 1) := by decide +kernel
theorem dX10_law_106 : decode cX10_law 106 = .ok (.sipush 1000, 3) := by decide +kernel
theorem dX10_law_109 : decode cX10_law 109 = .ok (.irem, 1) := by decide +kernel
theorem dX10_law_110 : decode cX10_law 110 = .ok (.iastore, 1) := by decide +kernel
theorem dX10_law_111 : decode cX10_law 111 = .ok (.aload_n 0, 1) := by decide +kernel
theorem dX10_law_112 : decode cX10_law 112 = .ok (.getfield 58, 3) := by decide +kernel
theorem dX10_law_115 : decode cX10_law 115 = .ok (.aload_n 0, 1) := by decide +kernel
theorem dX10_law_116 : decode cX10_law 116 = .ok (.getfield 116, 3) := by decide +kernel
theorem dX10_law_119 : decode cX10_law 119 = .ok (.iload_n 3, 1) := by decide +kernel
theorem dX10_law_120 : decode cX10_law 120 = .ok (.iastore, 1) := by decide +kernel
theorem dX10_law_121 : decode cX10_law 121 = .ok (.aload_n 0, 1) := by decide +kernel
theorem dX10_law_122 : decode cX10_law 122 = .ok (.dup, 1) := by decide +kernel
theorem dX10_law_123 : decode cX10_law 123 = .ok (.getfield 116, 3) := by decide +kernel
theorem dX10_law_126 : decode cX10_law 126 = .ok (.iconst 1, 1) := by decide +kernel
theorem dX10_law_127 : decode cX10_law 127 = .ok (.iadd, 1) := by decide +kernel
theorem dX10_law_128 : decode cX10_law 128 = .ok (.putfield 116, 3) := by decide +kernel
theorem dX10_law_131 : decode cX10_law 131 = .ok (.aload_n 0, 1) := by decide +kernel
theorem dX10_law_132 : decode cX10_law 132 = .ok (.getfield 116, 3) := by decide +kernel
theorem dX10_law_135 : decode cX10_law 135 = .ok (.ireturn, 1) := by decide +kernel
set_option maxRecDepth 20000 in
theorem ggX10_owner_X10_in : GoodIn wsX10_owner wsX10_in := goodIn_r _ [8] (by decide +kernel) (by decide +kernel)
set_option maxRecDepth 20000 in
theorem gX10_owner_X10_in : GoodIn wsX10_owner (va_wsS RX10 109 yX10_in wsX10_in) := goodIn_app (goodIn_of _ (by decide +kernel)) ggX10_owner_X10_in
set_option maxRecDepth 20000 in
theorem ggX10_owner_X10_isPerson : GoodIn wsX10_owner wsX10_isPerson := goodIn_r _ [11, 5, 6, 7, 8] (by decide +kernel) (by decide +kernel)
set_option maxRecDepth 20000 in
theorem gX10_owner_X10_isPerson : GoodIn wsX10_owner (va_wsS RX10 119 yX10_isPerson wsX10_isPerson) := goodIn_app (goodIn_of _ (by decide +kernel)) ggX10_owner_X10_isPerson
theorem dX10_owner_0 : decode cX10_owner 0 = .ok (.iload_n 1, 1) := by decide +kernel
theorem dX10_owner_1 : decode cX10_owner 1 = .ok (.iconst 0, 1) := by decide +kernel
theorem dX10_owner_2 : decode cX10_owner 2 = .ok (.bipush 99, 2) := by decide +kernel
theorem dX10_owner_4 : decode cX10_owner 4 = .ok (.invokestatic 109, 3) := by decide +kernel
theorem dX10_owner_7 : decode cX10_owner 7 = .ok (.ifCond .eq 30, 3) := by decide +kernel
theorem dX10_owner_10 : decode cX10_owner 10 = .ok (.iload_n 2, 1) := by decide +kernel
theorem dX10_owner_11 : decode cX10_owner 11 = .ok (.iconst 0, 1) := by decide +kernel
theorem dX10_owner_12 : decode cX10_owner 12 = .ok (.sipush 20000, 3) := by decide +kernel
theorem dX10_owner_15 : decode cX10_owner 15 = .ok (.invokestatic 109, 3) := by decide +kernel
theorem dX10_owner_18 : decode cX10_owner 18 = .ok (.ifCond .eq 19, 3) := by decide +kernel
theorem dX10_owner_21 : decode cX10_owner 21 = .ok (.iload_n 3, 1) := by decide +kernel
theorem dX10_owner_22 : decode cX10_owner 22 = .ok (.invokestatic 119, 3) := by decide +kernel
theorem dX10_owner_25 : decode cX10_owner 25 = .ok (.ifCond .eq 12, 3) := by decide +kernel
theorem dX10_owner_28 : decode cX10_owner 28 = .ok (.aload_n 0, 1) := by decide +kernel
theorem dX10_owner_29 : decode cX10_owner 29 = .ok (.getfield 123, 3) := by decide +kernel
theorem dX10_owner_32 : decode cX10_owner 32 = .ok (.bipush 100, 2) := by decide +kernel
theorem dX10_owner_34 : decode cX10_owner 34 = .ok (.if_icmp .ne 5, 3) := by decide +kernel
theorem dX10_owner_37 : decode cX10_owner 37 = .ok (.iconst 0, 1) := by decide +kernel
theorem dX10_owner_38 : decode cX10_owner 38 = .ok (.ireturn, 1) := by decide +kernel
theorem dX10_owner_39 : decode cX10_owner 39 = .ok (.aload_n 0, 1) := by decide +kernel
theorem dX10_owner_40 : decode cX10_owner 40 = .ok (.getfield 61, 3) := by decide +kernel
theorem dX10_owner_43 : decode cX10_owner 43 = .ok (.aload_n 0, 1) := by decide +kernel
theorem dX10_owner_44 : decode cX10_owner 44 = .ok (.getfield 123, 3) := by decide +kernel
theorem dX10_owner_47 : decode cX10_owner 47 = .ok (.iload_n 1, 1) := by decide +kernel
theorem dX10_owner_48 : decode cX10_owner 48 = .ok (.iastore, 1) := by decide +kernel
theorem dX10_owner_49 : decode cX10_owner 49 = .ok (.aload_n 0, 1) := by decide +kernel
theorem dX10_owner_50 : decode cX10_owner 50 = .ok (.getfield 64, 3) := by decide +kernel
theorem dX10_owner_53 : decode cX10_owner 53 = .ok (.aload_n 0, 1) := by decide +kernel
theorem dX10_owner_54 : decode cX10_owner 54 = .ok (.getfield 123, 3) := by decide +kernel
theorem dX10_owner_57 : decode cX10_owner 57 = .ok (.iload_n 2, 1) := by decide +kernel
theorem dX10_owner_58 : decode cX10_owner 58 = .ok (.iastore, 1) := by decide +kernel
theorem dX10_owner_59 : decode cX10_owner 59 = .ok (.aload_n 0, 1) := by decide +kernel
theorem dX10_owner_60 : decode cX10_owner 60 = .ok (.getfield 67, 3) := by decide +kernel
theorem dX10_owner_63 : decode cX10_owner 63 = .ok (.aload_n 0, 1) := by decide +kernel
theorem dX10_owner_64 : decode cX10_owner 64 = .ok (.getfield 123, 3) := by decide +kernel
theorem dX10_owner_67 : decode cX10_owner 67 = .ok (.iload_n 3, 1) := by decide +kernel
theorem dX10_owner_68 : decode cX10_owner 68 = .ok (.iastore, 1) := by decide +kernel
theorem dX10_owner_69 : decode cX10_owner 69 = .ok (.aload_n 0, 1) := by decide +kernel
theorem dX10_owner_70 : decode cX10_owner 70 = .ok (.dup, 1) := by decide +kernel
theorem dX10_owner_71 : decode cX10_owner 71 = .ok (.getfield 123, 3) := by decide +kernel
theorem dX10_owner_74 : decode cX10_owner 74 = .ok (.iconst 1, 1) := by decide +kernel
theorem dX10_owner_75 : decode cX10_owner 75 = .ok (.iadd, 1) := by decide +kernel
theorem dX10_owner_76 : decode cX10_owner 76 = .ok (.putfield 123, 3) := by decide +kernel
theorem dX10_owner_79 : decode cX10_owner 79 = .ok (.iconst 1, 1) := by decide +kernel
theorem dX10_owner_80 : decode cX10_owner 80 = .ok (.ireturn, 1) := by decide +kernel
set_option maxRecDepth 20000 in
theorem ggX10_find_X10_in : GoodIn wsX10_find wsX10_in := goodIn_r _ [19] (by decide +kernel) (by decide +kernel)
set_option maxRecDepth 20000 in
theorem gX10_find_X10_in : GoodIn wsX10_find (va_wsS RX10 109 yX10_in wsX10_in) := goodIn_app (goodIn_of _ (by decide +kernel)) ggX10_find_X10_in
set_option maxRecDepth 20000 in
theorem ggX10_find_X10_isPerson : GoodIn wsX10_find wsX10_isPerson := goodIn_r _ [22, 16, 17, 18, 19] (by decide +kernel) (by decide +kernel)
set_option maxRecDepth 20000 in
theorem gX10_find_X10_isPerson : GoodIn wsX10_find (va_wsS RX10 119 yX10_isPerson wsX10_isPerson) := goodIn_app (goodIn_of _ (by decide +kernel)) ggX10_find_X10_isPerson
theorem dX10_find_0 : decode cX10_find 0 = .ok (.iload_n 1, 1) := by decide +kernel
theorem dX10_find_1 : decode cX10_find 1 = .ok (.ifCond .lt 22, 3) := by decide +kernel
theorem dX10_find_4 : decode cX10_find 4 = .ok (.iload_n 2, 1) := by decide +kernel
theorem dX10_find_5 : decode cX10_find 5 = .ok (.ifCond .lt 18, 3) := by decide +kernel
theorem dX10_find_8 : decode cX10_find 8 = .ok (.iload_n 3, 1) := by decide +kernel
theorem dX10_find_9 : decode cX10_find 9 = .ok (.ifCond .lt 14, 3) := by decide +kernel
theorem dX10_find_12 : decode cX10_find 12 = .ok (.iload 4, 2) := by decide +kernel
theorem dX10_find_14 : decode cX10_find 14 = .ok (.ifCond .lt 9, 3) := by decide +kernel
theorem dX10_find_17 : decode cX10_find 17 = .ok (.iload_n 1, 1) := by decide +kernel
theorem dX10_find_18 : decode cX10_find 18 = .ok (.ldc 105, 2) := by decide +kernel
theorem dX10_find_20 : decode cX10_find 20 = .ok (.if_icmp .lt 5, 3) := by decide +kernel
theorem dX10_find_23 : decode cX10_find 23 = .ok (.iconst (-1), 1) := by decide +kernel
theorem dX10_find_24 : decode cX10_find 24 = .ok (.ireturn, 1) := by decide +kernel
theorem dX10_find_25 : decode cX10_find 25 = .ok (.iload_n 2, 1) := by decide +kernel
theorem dX10_find_26 : decode cX10_find 26 = .ok (.sipush 10000, 3) := by decide +kernel
theorem dX10_find_29 : decode cX10_find 29 = .ok (.irem, 1) := by decide +kernel
theorem dX10_find_30 : decode cX10_find 30 = .ok (.ifCond .ne 9, 3) := by decide +kernel
theorem dX10_find_33 : decode cX10_find 33 = .ok (.sipush 10000, 3) := by decide +kernel
theorem dX10_find_36 : decode cX10_find 36 = .ok (.goto 8, 3) := by decide +kernel
theorem dX10_find_39 : decode cX10_find 39 = .ok (.iload_n 2, 1) := by decide +kernel
theorem dX10_find_40 : decode cX10_find 40 = .ok (.sipush 10000, 3) := by decide +kernel
theorem dX10_find_43 : decode cX10_find 43 = .ok (.irem, 1) := by decide +kernel
theorem dX10_find_44 : decode cX10_find 44 = .ok (.istore 5, 2) := by decide +kernel
theorem dX10_find_46 : decode cX10_find 46 = .ok (.iload_n 2, 1) := by decide +kernel
theorem dX10_find_47 : decode cX10_find 47 = .ok (.sipush 10000, 3) := by decide +kernel
theorem dX10_find_50 : decode cX10_find 50 = .ok (.idiv, 1) := by decide +kernel
theorem dX10_find_51 : decode cX10_find 51 = .ok (.sipush 10000, 3) := by decide +kernel
theorem dX10_find_54 : decode cX10_find 54 = .ok (.irem, 1) := by decide +kernel
theorem dX10_find_55 : decode cX10_find 55 = .ok (.istore 6, 2) := by decide +kernel
theorem dX10_find_57 : decode cX10_find 57 = .ok (.iload_n 2, 1) := by decide +kernel
theorem dX10_find_58 : decode cX10_find 58 = .ok (.ldc 126, 2) := by decide +kernel
theorem dX10_find_60 : decode cX10_find 60 = .ok (.idiv, 1) := by decide +kernel
theorem dX10_find_61 : decode cX10_find 61 = .ok (.istore 7, 2) := by decide +kernel
theorem dX10_find_63 : decode cX10_find 63 = .ok (.iload_n 3, 1) := by decide +kernel
theorem dX10_find_64 : decode cX10_find 64 = .ok (.sipush 10000, 3) := by decide +kernel
theorem dX10_find_67 : decode cX10_find 67 = .ok (.idiv, 1) := by decide +kernel
theorem dX10_find_68 : decode cX10_find 68 = .ok (.istore 8, 2) := by decide +kernel
theorem dX10_find_70 : decode cX10_find 70 = .ok (.iload_n 3, 1) := by decide +kernel
theorem dX10_find_71 : decode cX10_find 71 = .ok (.sipush 10000, 3) := by decide +kernel
theorem dX10_find_74 : decode cX10_find 74 = .ok (.irem, 1) := by decide +kernel
theorem dX10_find_75 : decode cX10_find 75 = .ok (.istore 9, 2) := by decide +kernel
theorem dX10_find_77 : decode cX10_find 77 = .ok (.iload 7, 2) := by decide +kernel
theorem dX10_find_79 : decode cX10_find 79 = .ok (.iconst 2, 1) := by decide +kernel
theorem dX10_find_80 : decode cX10_find 80 = .ok (.if_icmp .gt 64, 3) := by decide +kernel
theorem dX10_find_83 : decode cX10_find 83 = .ok (.iload 6, 2) := by decide +kernel
theorem dX10_find_85 : decode cX10_find 85 = .ok (.sipush 1000, 3) := by decide +kernel
theorem dX10_find_88 : decode cX10_find 88 = .ok (.if_icmp .gt 56, 3) := by decide +kernel
theorem dX10_find_91 : decode cX10_find 91 = .ok (.iload 8, 2) := by decide +kernel
theorem dX10_find_93 : decode cX10_find 93 = .ok (.sipush 5000, 3) := by decide +kernel
theorem dX10_find_96 : decode cX10_find 96 = .ok (.if_icmp .gt 48, 3) := by decide +kernel
theorem dX10_find_99 : decode cX10_find 99 = .ok (.iload 9, 2) := by decide +kernel
theorem dX10_find_101 : decode cX10_find 101 = .ok (.iload 8, 2) := by decide +kernel
theorem dX10_find_103 : decode cX10_find 103 = .ok (.sipush 5000, 3) := by decide +kernel
theorem dX10_find_106 : decode cX10_find 106 = .ok (.invokestatic 109, 3) := by decide +kernel
theorem dX10_find_109 : decode cX10_find 109 = .ok (.ifCond .eq 35, 3) := by decide +kernel
theorem dX10_find_112 : decode cX10_find 112 = .ok (.iload 4, 2) := by decide +kernel
theorem dX10_find_114 : decode cX10_find 114 = .ok (.bipush 100, 2) := by decide +kernel
theorem dX10_find_116 : decode cX10_find 116 = .ok (.irem, 1) := by decide +kernel
theorem dX10_find_117 : decode cX10_find 117 = .ok (.invokestatic 119, 3) := by decide +kernel
theorem dX10_find_120 : decode cX10_find 120 = .ok (.ifCond .eq 24, 3) := by decide +kernel
theorem dX10_find_123 : decode cX10_find 123 = .ok (.iload 4, 2) := by decide +kernel
theorem dX10_find_125 : decode cX10_find 125 = .ok (.bipush 100, 2) := by decide +kernel
theorem dX10_find_127 : decode cX10_find 127 = .ok (.idiv, 1) := by decide +kernel
theorem dX10_find_128 : decode cX10_find 128 = .ok (.aload_n 0, 1) := by decide +kernel
theorem dX10_find_129 : decode cX10_find 129 = .ok (.getfield 113, 3) := by decide +kernel
theorem dX10_find_132 : decode cX10_find 132 = .ok (.if_icmp .gt 12, 3) := by decide +kernel
theorem dX10_find_135 : decode cX10_find 135 = .ok (.aload_n 0, 1) := by decide +kernel
theorem dX10_find_136 : decode cX10_find 136 = .ok (.getfield 106, 3) := by decide +kernel
theorem dX10_find_139 : decode cX10_find 139 = .ok (.bipush 50, 2) := by decide +kernel
theorem dX10_find_141 : decode cX10_find 141 = .ok (.if_icmp .ne 5, 3) := by decide +kernel
theorem dX10_find_144 : decode cX10_find 144 = .ok (.iconst (-1), 1) := by decide +kernel
theorem dX10_find_145 : decode cX10_find 145 = .ok (.ireturn, 1) := by decide +kernel
theorem dX10_find_146 : decode cX10_find 146 = .ok (.aload_n 0, 1) := by decide +kernel
theorem dX10_find_147 : decode cX10_find 147 = .ok (.getfield 9, 3) := by decide +kernel
theorem dX10_find_150 : decode cX10_find 150 = .ok (.aload_n 0, 1) := by decide +kernel
theorem dX10_find_151 : decode cX10_find 151 = .ok (.getfield 106, 3) := by decide +kernel
theorem dX10_find_154 : decode cX10_find 154 = .ok (.iload_n 1, 1) := by decide +kernel
theorem dX10_find_155 : decode cX10_find 155 = .ok (.sipush 1000, 3) := by decide +kernel
theorem dX10_find_158 : decode cX10_find 158 = .ok (.idiv, 1) := by decide +kernel
theorem dX10_find_159 : decode cX10_find 159 = .ok (.iastore, 1) := by decide +kernel
theorem dX10_find_160 : decode cX10_find 160 = .ok (.aload_n 0, 1) := by decide +kernel
theorem dX10_find_161 : decode cX10_find 161 = .ok (.getfield 13, 3) := by decide +kernel
theorem dX10_find_164 : decode cX10_find 164 = .ok (.aload_n 0, 1) := by decide +kernel
theorem dX10_find_165 : decode cX10_find 165 = .ok (.getfield 106, 3) := by decide +kernel
theorem dX10_find_168 : decode cX10_find 168 = .ok (.iload_n 1, 1) := by decide +kernel
theorem dX10_find_169 : decode cX10_find 169 = .ok (.sipush 1000, 3) := by decide +kernel
theorem dX10_find_172 : decode cX10_find 172 = .ok (.irem, 1) := by decide +kernel
theorem dX10_find_173 : decode cX10_find 173 = .ok (.iastore, 1) := by decide +kernel
theorem dX10_find_174 : decode cX10_find 174 = .ok (.aload_n 0, 1) := by decide +kernel
theorem dX10_find_175 : decode cX10_find 175 = .ok (.getfield 16, 3) := by decide +kernel
theorem dX10_find_178 : decode cX10_find 178 = .ok (.aload_n 0, 1) := by decide +kernel
theorem dX10_find_179 : decode cX10_find 179 = .ok (.getfield 106, 3) := by decide +kernel
theorem dX10_find_182 : decode cX10_find 182 = .ok (.iload 7, 2) := by decide +kernel
theorem dX10_find_184 : decode cX10_find 184 = .ok (.iastore, 1) := by decide +kernel
theorem dX10_find_185 : decode cX10_find 185 = .ok (.aload_n 0, 1) := by decide +kernel
theorem dX10_find_186 : decode cX10_find 186 = .ok (.getfield 19, 3) := by decide +kernel
theorem dX10_find_189 : decode cX10_find 189 = .ok (.aload_n 0, 1) := by decide +kernel
theorem dX10_find_190 : decode cX10_find 190 = .ok (.getfield 106, 3) := by decide +kernel
theorem dX10_find_193 : decode cX10_find 193 = .ok (.iload 6, 2) := by decide +kernel
theorem dX10_find_195 : decode cX10_find 195 = .ok (.iastore, 1) := by decide +kernel
theorem dX10_find_196 : decode cX10_find 196 = .ok (.aload_n 0, 1) := by decide +kernel
theorem dX10_find_197 : decode cX10_find 197 = .ok (.getfield 22, 3) := by decide +kernel
theorem dX10_find_200 : decode cX10_find 200 = .ok (.aload_n 0, 1) := by decide +kernel
theorem dX10_find_201 : decode cX10_find 201 = .ok (.getfield 106, 3) := by decide +kernel
theorem dX10_find_204 : decode cX10_find 204 = .ok (.iload 5, 2) := by decide +kernel
theorem dX10_find_206 : decode cX10_find 206 = .ok (.iastore, 1) := by decide +kernel
theorem dX10_find_207 : decode cX10_find 207 = .ok (.aload_n 0, 1) := by decide +kernel
theorem dX10_find_208 : decode cX10_find 208 = .ok (.getfield 25, 3) := by decide +kernel
theorem dX10_find_211 : decode cX10_find 211 = .ok (.aload_n 0, 1) := by decide +kernel
theorem dX10_find_212 : decode cX10_find 212 = .ok (.getfield 106, 3) := by decide +kernel
theorem dX10_find_215 : decode cX10_find 215 = .ok (.iload 8, 2) := by decide +kernel
theorem dX10_find_217 : decode cX10_find 217 = .ok (.sipush 3000, 3) := by decide +kernel
theorem dX10_find_220 : decode cX10_find 220 = .ok (.isub, 1) := by decide +kernel
theorem dX10_find_221 : decode cX10_find 221 = .ok (.iastore, 1) := by decide +kernel
theorem dX10_find_222 : decode cX10_find 222 = .ok (.aload_n 0, 1) := by decide +kernel
theorem dX10_find_223 : decode cX10_find 223 = .ok (.getfield 28, 3) := by decide +kernel
theorem dX10_find_226 : decode cX10_find 226 = .ok (.aload_n 0, 1) := by decide +kernel
theorem dX10_find_227 : decode cX10_find 227 = .ok (.getfield 106, 3) := by decide +kernel
theorem dX10_find_230 : decode cX10_find 230 = .ok (.iload 9, 2) := by decide +kernel
theorem dX10_find_232 : decode cX10_find 232 = .ok (.sipush 3000, 3) := by decide +kernel
theorem dX10_find_235 : decode cX10_find 235 = .ok (.isub, 1) := by decide +kernel
theorem dX10_find_236 : decode cX10_find 236 = .ok (.iastore, 1) := by decide +kernel
theorem dX10_find_237 : decode cX10_find 237 = .ok (.aload_n 0, 1) := by decide +kernel
theorem dX10_find_238 : decode cX10_find 238 = .ok (.getfield 31, 3) := by decide +kernel
theorem dX10_find_241 : decode cX10_find 241 = .ok (.aload_n 0, 1) := by decide +kernel
theorem dX10_find_242 : decode cX10_find 242 = .ok (.getfield 106, 3) := by decide +kernel
theorem dX10_find_245 : decode cX10_find 245 = .ok (.iload 4, 2) := by decide +kernel
theorem dX10_find_247 : decode cX10_find 247 = .ok (.bipush 100, 2) := by decide +kernel
theorem dX10_find_249 : decode cX10_find 249 = .ok (.irem, 1) := by decide +kernel
theorem dX10_find_250 : decode cX10_find 250 = .ok (.iastore, 1) := by decide +kernel
theorem dX10_find_251 : decode cX10_find 251 = .ok (.aload_n 0, 1) := by decide +kernel
theorem dX10_find_252 : decode cX10_find 252 = .ok (.getfield 34, 3) := by decide +kernel
theorem dX10_find_255 : decode cX10_find 255 = .ok (.aload_n 0, 1) := by decide +kernel
theorem dX10_find_256 : decode cX10_find 256 = .ok (.getfield 106, 3) := by decide +kernel
theorem dX10_find_259 : decode cX10_find 259 = .ok (.iload 4, 2) := by decide +kernel
theorem dX10_find_261 : decode cX10_find 261 = .ok (.bipush 100, 2) := by decide +kernel
theorem dX10_find_263 : decode cX10_find 263 = .ok (.idiv, 1) := by decide +kernel
theorem dX10_find_264 : decode cX10_find 264 = .ok (.iastore, 1) := by decide +kernel
theorem dX10_find_265 : decode cX10_find 265 = .ok (.aload_n 0, 1) := by decide +kernel
theorem dX10_find_266 : decode cX10_find 266 = .ok (.getfield 37, 3) := by decide +kernel
theorem dX10_find_269 : decode cX10_find 269 = .ok (.aload_n 0, 1) := by decide +kernel
theorem dX10_find_270 : decode cX10_find 270 = .ok (.getfield 106, 3) := by decide +kernel
theorem dX10_find_273 : decode cX10_find 273 = .ok (.aload_n 0, 1) := by decide +kernel
theorem dX10_find_274 : decode cX10_find 274 = .ok (.getfield 113, 3) := by decide +kernel
theorem dX10_find_277 : decode cX10_find 277 = .ok (.iastore, 1) := by decide +kernel
theorem dX10_find_278 : decode cX10_find 278 = .ok (.aload_n 0, 1) := by decide +kernel
theorem dX10_find_279 : decode cX10_find 279 = .ok (.getfield 40, 3) := by decide +kernel
theorem dX10_find_282 : decode cX10_find 282 = .ok (.aload_n 0, 1) := by decide +kernel
theorem dX10_find_283 : decode cX10_find 283 = .ok (.getfield 106, 3) := by decide +kernel
theorem dX10_find_286 : decode cX10_find 286 = .ok (.iconst (-1), 1) := by decide +kernel
theorem dX10_find_287 : decode cX10_find 287 = .ok (.iastore, 1) := by decide +kernel
theorem dX10_find_288 : decode cX10_find 288 = .ok (.aload_n 0, 1) := by decide +kernel
theorem dX10_find_289 : decode cX10_find 289 = .ok (.dup, 1) := by decide +kernel
theorem dX10_find_290 : decode cX10_find 290 = .ok (.getfield 106, 3) := by decide +kernel
theorem dX10_find_293 : decode cX10_find 293 = .ok (.iconst 1, 1) := by decide +kernel
theorem dX10_find_294 : decode cX10_find 294 = .ok (.iadd, 1) := by decide +kernel
theorem dX10_find_295 : decode cX10_find 295 = .ok (.putfield 106, 3) := by decide +kernel
theorem dX10_find_298 : decode cX10_find 298 = .ok (.aload_n 0, 1) := by decide +kernel
theorem dX10_find_299 : decode cX10_find 299 = .ok (.getfield 106, 3) := by decide +kernel
theorem dX10_find_302 : decode cX10_find 302 = .ok (.iconst 1, 1) := by decide +kernel
theorem dX10_find_303 : decode cX10_find 303 = .ok (.isub, 1) := by decide +kernel
theorem dX10_find_304 : decode cX10_find 304 = .ok (.ireturn, 1) := by decide +kernel
set_option maxRecDepth 20000 in
theorem ggX10_part_X10_isFind : GoodIn wsX10_part wsX10_isFind := goodIn_r _ [9, 10, 11, 12, 8, 13, 14, 15, 16, 17, 18, 19, 20, 21, 22, 23, 24, 25, 26, 27, 28, 29, 30, 31, 32, 33, 34, 35, 36, 37, 38, 39, 40, 41, 42, 43, 44, 45, 46, 47, 48, 49, 50, 51] (by decide +kernel) (by decide +kernel)
set_option maxRecDepth 20000 in
theorem gX10_part_X10_isFind : GoodIn wsX10_part (wsV RX10 127 RX10 yX10_isFind wsX10_isFind) := goodIn_app (goodIn_of _ (by decide +kernel)) ggX10_part_X10_isFind
theorem dX10_part_0 : decode cX10_part 0 = .ok (.aload_n 0, 1) := by decide +kernel
theorem dX10_part_1 : decode cX10_part 1 = .ok (.iload_n 1, 1) := by decide +kernel
theorem dX10_part_2 : decode cX10_part 2 = .ok (.invokevirtual 127, 3) := by decide +kernel
theorem dX10_part_5 : decode cX10_part 5 = .ok (.ifCond .eq 32, 3) := by decide +kernel
theorem dX10_part_8 : decode cX10_part 8 = .ok (.aload_n 0, 1) := by decide +kernel
theorem dX10_part_9 : decode cX10_part 9 = .ok (.iload_n 2, 1) := by decide +kernel
theorem dX10_part_10 : decode cX10_part 10 = .ok (.invokevirtual 127, 3) := by decide +kernel
theorem dX10_part_13 : decode cX10_part 13 = .ok (.ifCond .eq 24, 3) := by decide +kernel
theorem dX10_part_16 : decode cX10_part 16 = .ok (.iload_n 1, 1) := by decide +kernel
theorem dX10_part_17 : decode cX10_part 17 = .ok (.iload_n 2, 1) := by decide +kernel
theorem dX10_part_18 : decode cX10_part 18 = .ok (.if_icmp .eq 19, 3) := by decide +kernel
theorem dX10_part_21 : decode cX10_part 21 = .ok (.aload_n 0, 1) := by decide +kernel
theorem dX10_part_22 : decode cX10_part 22 = .ok (.getfield 43, 3) := by decide +kernel
theorem dX10_part_25 : decode cX10_part 25 = .ok (.bipush 50, 2) := by decide +kernel
theorem dX10_part_27 : decode cX10_part 27 = .ok (.iload_n 1, 1) := by decide +kernel
theorem dX10_part_28 : decode cX10_part 28 = .ok (.imul, 1) := by decide +kernel
theorem dX10_part_29 : decode cX10_part 29 = .ok (.iload_n 2, 1) := by decide +kernel
theorem dX10_part_30 : decode cX10_part 30 = .ok (.iadd, 1) := by decide +kernel
theorem dX10_part_31 : decode cX10_part 31 = .ok (.iaload, 1) := by decide +kernel
theorem dX10_part_32 : decode cX10_part 32 = .ok (.ldc 105, 2) := by decide +kernel
theorem dX10_part_34 : decode cX10_part 34 = .ok (.if_icmp .eq 5, 3) := by decide +kernel
theorem dX10_part_37 : decode cX10_part 37 = .ok (.iconst 0, 1) := by decide +kernel
theorem dX10_part_38 : decode cX10_part 38 = .ok (.ireturn, 1) := by decide +kernel
theorem dX10_part_39 : decode cX10_part 39 = .ok (.aload_n 0, 1) := by decide +kernel
theorem dX10_part_40 : decode cX10_part 40 = .ok (.getfield 43, 3) := by decide +kernel
theorem dX10_part_43 : decode cX10_part 43 = .ok (.bipush 50, 2) := by decide +kernel
theorem dX10_part_45 : decode cX10_part 45 = .ok (.iload_n 1, 1) := by decide +kernel
theorem dX10_part_46 : decode cX10_part 46 = .ok (.imul, 1) := by decide +kernel
theorem dX10_part_47 : decode cX10_part 47 = .ok (.iload_n 2, 1) := by decide +kernel
theorem dX10_part_48 : decode cX10_part 48 = .ok (.iadd, 1) := by decide +kernel
theorem dX10_part_49 : decode cX10_part 49 = .ok (.aload_n 0, 1) := by decide +kernel
theorem dX10_part_50 : decode cX10_part 50 = .ok (.getfield 113, 3) := by decide +kernel
theorem dX10_part_53 : decode cX10_part 53 = .ok (.iastore, 1) := by decide +kernel
theorem dX10_part_54 : decode cX10_part 54 = .ok (.aload_n 0, 1) := by decide +kernel
theorem dX10_part_55 : decode cX10_part 55 = .ok (.getfield 43, 3) := by decide +kernel
theorem dX10_part_58 : decode cX10_part 58 = .ok (.bipush 50, 2) := by decide +kernel
theorem dX10_part_60 : decode cX10_part 60 = .ok (.iload_n 2, 1) := by decide +kernel
theorem dX10_part_61 : decode cX10_part 61 = .ok (.imul, 1) := by decide +kernel
theorem dX10_part_62 : decode cX10_part 62 = .ok (.iload_n 1, 1) := by decide +kernel
theorem dX10_part_63 : decode cX10_part 63 = .ok (.iadd, 1) := by decide +kernel
theorem dX10_part_64 : decode cX10_part 64 = .ok (.aload_n 0, 1) := by decide +kernel
theorem dX10_part_65 : decode cX10_part 65 = .ok (.getfield 113, 3) := by decide +kernel
theorem dX10_part_68 : decode cX10_part 68 = .ok (.iastore, 1) := by decide +kernel
theorem dX10_part_69 : decode cX10_part 69 = .ok (.aload_n 0, 1) := by decide +kernel
theorem dX10_part_70 : decode cX10_part 70 = .ok (.dup, 1) := by decide +kernel
theorem dX10_part_71 : decode cX10_part 71 = .ok (.getfield 130, 3) := by decide +kernel
theorem dX10_part_74 : decode cX10_part 74 = .ok (.iconst 1, 1) := by decide +kernel
theorem dX10_part_75 : decode cX10_part 75 = .ok (.iadd, 1) := by decide +kernel
theorem dX10_part_76 : decode cX10_part 76 = .ok (.putfield 130, 3) := by decide +kernel
theorem dX10_part_79 : decode cX10_part 79 = .ok (.iconst 1, 1) := by decide +kernel
theorem dX10_part_80 : decode cX10_part 80 = .ok (.ireturn, 1) := by decide +kernel
set_option maxRecDepth 20000 in
theorem ggX10_isJoined_X10_in : GoodIn wsX10_isJoined wsX10_in := goodIn_r _ [9] (by decide +kernel) (by decide +kernel)
set_option maxRecDepth 20000 in
theorem gX10_isJoined_X10_in : GoodIn wsX10_isJoined (va_wsS RX10 109 yX10_in wsX10_in) := goodIn_app (goodIn_of _ (by decide +kernel)) ggX10_isJoined_X10_in
theorem dX10_isJoined_0 : decode cX10_isJoined 0 = .ok (.aload_n 0, 1) := by decide +kernel
theorem dX10_isJoined_1 : decode cX10_isJoined 1 = .ok (.getfield 9, 3) := by decide +kernel
theorem dX10_isJoined_4 : decode cX10_isJoined 4 = .ok (.iload_n 1, 1) := by decide +kernel
theorem dX10_isJoined_5 : decode cX10_isJoined 5 = .ok (.iaload, 1) := by decide +kernel
theorem dX10_isJoined_6 : decode cX10_isJoined 6 = .ok (.aload_n 0, 1) := by decide +kernel
theorem dX10_isJoined_7 : decode cX10_isJoined 7 = .ok (.getfield 9, 3) := by decide +kernel
theorem dX10_isJoined_10 : decode cX10_isJoined 10 = .ok (.iload_n 2, 1) := by decide +kernel
theorem dX10_isJoined_11 : decode cX10_isJoined 11 = .ok (.iaload, 1) := by decide +kernel
theorem dX10_isJoined_12 : decode cX10_isJoined 12 = .ok (.isub, 1) := by decide +kernel
theorem dX10_isJoined_13 : decode cX10_isJoined 13 = .ok (.bipush (-10), 2) := by decide +kernel
theorem dX10_isJoined_15 : decode cX10_isJoined 15 = .ok (.bipush 10, 2) := by decide +kernel
theorem dX10_isJoined_17 : decode cX10_isJoined 17 = .ok (.invokestatic 109, 3) := by decide +kernel
theorem dX10_isJoined_20 : decode cX10_isJoined 20 = .ok (.ifCond .eq 75, 3) := by decide +kernel
theorem dX10_isJoined_23 : decode cX10_isJoined 23 = .ok (.aload_n 0, 1) := by decide +kernel
theorem dX10_isJoined_24 : decode cX10_isJoined 24 = .ok (.getfield 13, 3) := by decide +kernel
theorem dX10_isJoined_27 : decode cX10_isJoined 27 = .ok (.iload_n 1, 1) := by decide +kernel
theorem dX10_isJoined_28 : decode cX10_isJoined 28 = .ok (.iaload, 1) := by decide +kernel
theorem dX10_isJoined_29 : decode cX10_isJoined 29 = .ok (.aload_n 0, 1) := by decide +kernel
theorem dX10_isJoined_30 : decode cX10_isJoined 30 = .ok (.getfield 13, 3) := by decide +kernel
theorem dX10_isJoined_33 : decode cX10_isJoined 33 = .ok (.iload_n 2, 1) := by decide +kernel
theorem dX10_isJoined_34 : decode cX10_isJoined 34 = .ok (.iaload, 1) := by decide +kernel
theorem dX10_isJoined_35 : decode cX10_isJoined 35 = .ok (.isub, 1) := by decide +kernel
theorem dX10_isJoined_36 : decode cX10_isJoined 36 = .ok (.bipush (-10), 2) := by decide +kernel
theorem dX10_isJoined_38 : decode cX10_isJoined 38 = .ok (.bipush 10, 2) := by decide +kernel
theorem dX10_isJoined_40 : decode cX10_isJoined 40 = .ok (.invokestatic 109, 3) := by decide +kernel
theorem dX10_isJoined_43 : decode cX10_isJoined 43 = .ok (.ifCond .eq 52, 3) := by decide +kernel
theorem dX10_isJoined_46 : decode cX10_isJoined 46 = .ok (.aload_n 0, 1) := by decide +kernel
theorem dX10_isJoined_47 : decode cX10_isJoined 47 = .ok (.getfield 25, 3) := by decide +kernel
theorem dX10_isJoined_50 : decode cX10_isJoined 50 = .ok (.iload_n 1, 1) := by decide +kernel
theorem dX10_isJoined_51 : decode cX10_isJoined 51 = .ok (.iaload, 1) := by decide +kernel
theorem dX10_isJoined_52 : decode cX10_isJoined 52 = .ok (.aload_n 0, 1) := by decide +kernel
theorem dX10_isJoined_53 : decode cX10_isJoined 53 = .ok (.getfield 28, 3) := by decide +kernel
theorem dX10_isJoined_56 : decode cX10_isJoined 56 = .ok (.iload_n 2, 1) := by decide +kernel
theorem dX10_isJoined_57 : decode cX10_isJoined 57 = .ok (.iaload, 1) := by decide +kernel
theorem dX10_isJoined_58 : decode cX10_isJoined 58 = .ok (.if_icmp .gt 37, 3) := by decide +kernel
theorem dX10_isJoined_61 : decode cX10_isJoined 61 = .ok (.aload_n 0, 1) := by decide +kernel
theorem dX10_isJoined_62 : decode cX10_isJoined 62 = .ok (.getfield 25, 3) := by decide +kernel
theorem dX10_isJoined_65 : decode cX10_isJoined 65 = .ok (.iload_n 2, 1) := by decide +kernel
theorem dX10_isJoined_66 : decode cX10_isJoined 66 = .ok (.iaload, 1) := by decide +kernel
theorem dX10_isJoined_67 : decode cX10_isJoined 67 = .ok (.aload_n 0, 1) := by decide +kernel
theorem dX10_isJoined_68 : decode cX10_isJoined 68 = .ok (.getfield 28, 3) := by decide +kernel
theorem dX10_isJoined_71 : decode cX10_isJoined 71 = .ok (.iload_n 1, 1) := by decide +kernel
theorem dX10_isJoined_72 : decode cX10_isJoined 72 = .ok (.iaload, 1) := by decide +kernel
theorem dX10_isJoined_73 : decode cX10_isJoined 73 = .ok (.if_icmp .gt 22, 3) := by decide +kernel
theorem dX10_isJoined_76 : decode cX10_isJoined 76 = .ok (.aload_n 0, 1) := by decide +kernel
theorem dX10_isJoined_77 : decode cX10_isJoined 77 = .ok (.getfield 43, 3) := by decide +kernel
theorem dX10_isJoined_80 : decode cX10_isJoined 80 = .ok (.bipush 50, 2) := by decide +kernel
end
section
theorem dX10_isJoined_82 : decode cX10_isJoined 82 = .ok (.iload_n 1, 1) := by decide +kernel
theorem dX10_isJoined_83 : decode cX10_isJoined 83 = .ok (.imul, 1) := by decide +kernel
theorem dX10_isJoined_84 : decode cX10_isJoined 84 = .ok (.iload_n 2, 1) := by decide +kernel
theorem dX10_isJoined_85 : decode cX10_isJoined 85 = .ok (.iadd, 1) := by decide +kernel
theorem dX10_isJoined_86 : decode cX10_isJoined 86 = .ok (.iaload, 1) := by decide +kernel
theorem dX10_isJoined_87 : decode cX10_isJoined 87 = .ok (.iload_n 3, 1) := by decide +kernel
theorem dX10_isJoined_88 : decode cX10_isJoined 88 = .ok (.if_icmp .le 7, 3) := by decide +kernel
theorem dX10_isJoined_91 : decode cX10_isJoined 91 = .ok (.iconst 1, 1) := by decide +kernel
theorem dX10_isJoined_92 : decode cX10_isJoined 92 = .ok (.goto 4, 3) := by decide +kernel
theorem dX10_isJoined_95 : decode cX10_isJoined 95 = .ok (.iconst 0, 1) := by decide +kernel
theorem dX10_isJoined_96 : decode cX10_isJoined 96 = .ok (.ireturn, 1) := by decide +kernel
set_option maxRecDepth 20000 in
theorem ggX10_reaches_X10_isJoined : GoodIn wsX10_reaches wsX10_isJoined := goodIn_r _ [8, 9, 10, 11, 12, 13, 14, 15, 7, 16, 17, 18, 19, 20, 21, 22, 23, 24, 25, 26, 27, 28, 29, 30, 31, 32, 33, 34, 35, 36, 37, 38, 39, 40, 41, 42, 43, 44, 45, 46, 47, 48, 49, 50, 51, 52, 53, 54] (by decide +kernel) (by decide +kernel)
set_option maxRecDepth 20000 in
theorem gX10_reaches_X10_isJoined : GoodIn wsX10_reaches (wsV RX10 133 RX10 yX10_isJoined wsX10_isJoined) := goodIn_app (goodIn_of _ (by decide +kernel)) ggX10_reaches_X10_isJoined
theorem dX10_reaches_0 : decode cX10_reaches 0 = .ok (.iconst 0, 1) := by decide +kernel
theorem dX10_reaches_1 : decode cX10_reaches 1 = .ok (.istore_n 3, 1) := by decide +kernel
theorem dX10_reaches_2 : decode cX10_reaches 2 = .ok (.iload_n 3, 1) := by decide +kernel
theorem dX10_reaches_3 : decode cX10_reaches 3 = .ok (.aload_n 0, 1) := by decide +kernel
theorem dX10_reaches_4 : decode cX10_reaches 4 = .ok (.getfield 106, 3) := by decide +kernel
theorem dX10_reaches_7 : decode cX10_reaches 7 = .ok (.if_icmp .ge 25, 3) := by decide +kernel
theorem dX10_reaches_10 : decode cX10_reaches 10 = .ok (.aload_n 0, 1) := by decide +kernel
theorem dX10_reaches_11 : decode cX10_reaches 11 = .ok (.getfield 101, 3) := by decide +kernel
theorem dX10_reaches_14 : decode cX10_reaches 14 = .ok (.iload_n 3, 1) := by decide +kernel
theorem dX10_reaches_15 : decode cX10_reaches 15 = .ok (.iload_n 3, 1) := by decide +kernel
theorem dX10_reaches_16 : decode cX10_reaches 16 = .ok (.iload_n 1, 1) := by decide +kernel
theorem dX10_reaches_17 : decode cX10_reaches 17 = .ok (.if_icmp .ne 7, 3) := by decide +kernel
theorem dX10_reaches_20 : decode cX10_reaches 20 = .ok (.iconst 1, 1) := by decide +kernel
theorem dX10_reaches_21 : decode cX10_reaches 21 = .ok (.goto 4, 3) := by decide +kernel
theorem dX10_reaches_24 : decode cX10_reaches 24 = .ok (.iconst 0, 1) := by decide +kernel
theorem dX10_reaches_25 : decode cX10_reaches 25 = .ok (.bastore, 1) := by decide +kernel
theorem dX10_reaches_26 : decode cX10_reaches 26 = .ok (.iinc 3 1, 3) := by decide +kernel
theorem dX10_reaches_29 : decode cX10_reaches 29 = .ok (.goto (-27), 3) := by decide +kernel
theorem dX10_reaches_32 : decode cX10_reaches 32 = .ok (.iconst 1, 1) := by decide +kernel
theorem dX10_reaches_33 : decode cX10_reaches 33 = .ok (.istore_n 3, 1) := by decide +kernel
theorem dX10_reaches_34 : decode cX10_reaches 34 = .ok (.iconst 1, 1) := by decide +kernel
theorem dX10_reaches_35 : decode cX10_reaches 35 = .ok (.istore 4, 2) := by decide +kernel
theorem dX10_reaches_37 : decode cX10_reaches 37 = .ok (.iload 4, 2) := by decide +kernel
theorem dX10_reaches_39 : decode cX10_reaches 39 = .ok (.ifCond .eq 105, 3) := by decide +kernel
theorem dX10_reaches_42 : decode cX10_reaches 42 = .ok (.iconst 0, 1) := by decide +kernel
theorem dX10_reaches_43 : decode cX10_reaches 43 = .ok (.istore 4, 2) := by decide +kernel
theorem dX10_reaches_45 : decode cX10_reaches 45 = .ok (.iconst 0, 1) := by decide +kernel
theorem dX10_reaches_46 : decode cX10_reaches 46 = .ok (.istore 5, 2) := by decide +kernel
theorem dX10_reaches_48 : decode cX10_reaches 48 = .ok (.iload 5, 2) := by decide +kernel
theorem dX10_reaches_50 : decode cX10_reaches 50 = .ok (.aload_n 0, 1) := by decide +kernel
theorem dX10_reaches_51 : decode cX10_reaches 51 = .ok (.getfield 106, 3) := by decide +kernel
theorem dX10_reaches_54 : decode cX10_reaches 54 = .ok (.if_icmp .ge 87, 3) := by decide +kernel
theorem dX10_reaches_57 : decode cX10_reaches 57 = .ok (.iconst 0, 1) := by decide +kernel
theorem dX10_reaches_58 : decode cX10_reaches 58 = .ok (.istore 6, 2) := by decide +kernel
theorem dX10_reaches_60 : decode cX10_reaches 60 = .ok (.iload 6, 2) := by decide +kernel
theorem dX10_reaches_62 : decode cX10_reaches 62 = .ok (.aload_n 0, 1) := by decide +kernel
theorem dX10_reaches_63 : decode cX10_reaches 63 = .ok (.getfield 106, 3) := by decide +kernel
theorem dX10_reaches_66 : decode cX10_reaches 66 = .ok (.if_icmp .ge 69, 3) := by decide +kernel
theorem dX10_reaches_69 : decode cX10_reaches 69 = .ok (.aload_n 0, 1) := by decide +kernel
theorem dX10_reaches_70 : decode cX10_reaches 70 = .ok (.getfield 101, 3) := by decide +kernel
theorem dX10_reaches_73 : decode cX10_reaches 73 = .ok (.iload 5, 2) := by decide +kernel
theorem dX10_reaches_75 : decode cX10_reaches 75 = .ok (.baload, 1) := by decide +kernel
theorem dX10_reaches_76 : decode cX10_reaches 76 = .ok (.ifCond .eq 59, 3) := by decide +kernel
theorem dX10_reaches_79 : decode cX10_reaches 79 = .ok (.aload_n 0, 1) := by decide +kernel
theorem dX10_reaches_80 : decode cX10_reaches 80 = .ok (.getfield 101, 3) := by decide +kernel
theorem dX10_reaches_83 : decode cX10_reaches 83 = .ok (.iload 6, 2) := by decide +kernel
theorem dX10_reaches_85 : decode cX10_reaches 85 = .ok (.baload, 1) := by decide +kernel
theorem dX10_reaches_86 : decode cX10_reaches 86 = .ok (.ifCond .ne 43, 3) := by decide +kernel
theorem dX10_reaches_89 : decode cX10_reaches 89 = .ok (.aload_n 0, 1) := by decide +kernel
theorem dX10_reaches_90 : decode cX10_reaches 90 = .ok (.getfield 37, 3) := by decide +kernel
theorem dX10_reaches_93 : decode cX10_reaches 93 = .ok (.iload 6, 2) := by decide +kernel
theorem dX10_reaches_95 : decode cX10_reaches 95 = .ok (.iaload, 1) := by decide +kernel
theorem dX10_reaches_96 : decode cX10_reaches 96 = .ok (.iload_n 2, 1) := by decide +kernel
theorem dX10_reaches_97 : decode cX10_reaches 97 = .ok (.if_icmp .gt 32, 3) := by decide +kernel
theorem dX10_reaches_100 : decode cX10_reaches 100 = .ok (.aload_n 0, 1) := by decide +kernel
theorem dX10_reaches_101 : decode cX10_reaches 101 = .ok (.iload 5, 2) := by decide +kernel
theorem dX10_reaches_103 : decode cX10_reaches 103 = .ok (.iload 6, 2) := by decide +kernel
theorem dX10_reaches_105 : decode cX10_reaches 105 = .ok (.iload_n 2, 1) := by decide +kernel
theorem dX10_reaches_106 : decode cX10_reaches 106 = .ok (.invokevirtual 133, 3) := by decide +kernel
theorem dX10_reaches_109 : decode cX10_reaches 109 = .ok (.ifCond .ne 6, 3) := by decide +kernel
theorem dX10_reaches_112 : decode cX10_reaches 112 = .ok (.goto 17, 3) := by decide +kernel
theorem dX10_reaches_115 : decode cX10_reaches 115 = .ok (.aload_n 0, 1) := by decide +kernel
theorem dX10_reaches_116 : decode cX10_reaches 116 = .ok (.getfield 101, 3) := by decide +kernel
theorem dX10_reaches_119 : decode cX10_reaches 119 = .ok (.iload 6, 2) := by decide +kernel
theorem dX10_reaches_121 : decode cX10_reaches 121 = .ok (.iconst 1, 1) := by decide +kernel
theorem dX10_reaches_122 : decode cX10_reaches 122 = .ok (.bastore, 1) := by decide +kernel
theorem dX10_reaches_123 : decode cX10_reaches 123 = .ok (.iconst 1, 1) := by decide +kernel
theorem dX10_reaches_124 : decode cX10_reaches 124 = .ok (.istore 4, 2) := by decide +kernel
theorem dX10_reaches_126 : decode cX10_reaches 126 = .ok (.iinc 3 1, 3) := by decide +kernel
theorem dX10_reaches_129 : decode cX10_reaches 129 = .ok (.iinc 6 1, 3) := by decide +kernel
theorem dX10_reaches_132 : decode cX10_reaches 132 = .ok (.goto (-72), 3) := by decide +kernel
theorem dX10_reaches_135 : decode cX10_reaches 135 = .ok (.iinc 5 1, 3) := by decide +kernel
theorem dX10_reaches_138 : decode cX10_reaches 138 = .ok (.goto (-90), 3) := by decide +kernel
theorem dX10_reaches_141 : decode cX10_reaches 141 = .ok (.goto (-104), 3) := by decide +kernel
theorem dX10_reaches_144 : decode cX10_reaches 144 = .ok (.iload_n 3, 1) := by decide +kernel
theorem dX10_reaches_145 : decode cX10_reaches 145 = .ok (.ireturn, 1) := by decide +kernel
set_option maxRecDepth 20000 in
theorem ggX10_hoard_X10_isFind : GoodIn wsX10_hoard wsX10_isFind := goodIn_r _ [7, 8, 9, 10, 6, 11, 26, 27, 28, 29, 30, 31, 32, 33, 34, 35, 36, 37, 38, 39, 40, 41, 42, 43, 44, 45, 46, 47, 48, 49, 50, 51, 52, 53, 54, 55, 56, 57, 58, 59, 60, 61, 62, 63] (by decide +kernel) (by decide +kernel)
set_option maxRecDepth 20000 in
theorem gX10_hoard_X10_isFind : GoodIn wsX10_hoard (wsV RX10 127 RX10 yX10_isFind wsX10_isFind) := goodIn_app (goodIn_of _ (by decide +kernel)) ggX10_hoard_X10_isFind
set_option maxRecDepth 20000 in
theorem ggX10_hoard_X10_reaches : GoodIn wsX10_hoard wsX10_reaches := goodIn_r _ [15, 8, 2, 16, 17, 18, 19, 6, 20, 21, 22, 23, 24, 25, 9, 10, 11, 26, 27, 28, 29, 30, 31, 32, 33, 34, 35, 36, 37, 38, 39, 40, 41, 42, 43, 44, 45, 46, 47, 48, 49, 50, 51, 52, 53, 54, 55, 56, 57, 58, 59, 60, 61, 62, 63] (by decide +kernel) (by decide +kernel)
set_option maxRecDepth 20000 in
theorem gX10_hoard_X10_reaches : GoodIn wsX10_hoard (wsV RX10 136 RX10 yX10_reaches wsX10_reaches) := goodIn_app (goodIn_of _ (by decide +kernel)) ggX10_hoard_X10_reaches
theorem dX10_hoard_0 : decode cX10_hoard 0 = .ok (.aload_n 0, 1) := by decide +kernel
theorem dX10_hoard_1 : decode cX10_hoard 1 = .ok (.iload_n 1, 1) := by decide +kernel
theorem dX10_hoard_2 : decode cX10_hoard 2 = .ok (.invokevirtual 127, 3) := by decide +kernel
theorem dX10_hoard_5 : decode cX10_hoard 5 = .ok (.ifCond .ne 5, 3) := by decide +kernel
theorem dX10_hoard_8 : decode cX10_hoard 8 = .ok (.iconst (-1), 1) := by decide +kernel
theorem dX10_hoard_9 : decode cX10_hoard 9 = .ok (.ireturn, 1) := by decide +kernel
theorem dX10_hoard_10 : decode cX10_hoard 10 = .ok (.aload_n 0, 1) := by decide +kernel
theorem dX10_hoard_11 : decode cX10_hoard 11 = .ok (.iload_n 1, 1) := by decide +kernel
theorem dX10_hoard_12 : decode cX10_hoard 12 = .ok (.aload_n 0, 1) := by decide +kernel
theorem dX10_hoard_13 : decode cX10_hoard 13 = .ok (.getfield 113, 3) := by decide +kernel
theorem dX10_hoard_16 : decode cX10_hoard 16 = .ok (.invokevirtual 136, 3) := by decide +kernel
theorem dX10_hoard_19 : decode cX10_hoard 19 = .ok (.pop, 1) := by decide +kernel
theorem dX10_hoard_20 : decode cX10_hoard 20 = .ok (.iconst 0, 1) := by decide +kernel
theorem dX10_hoard_21 : decode cX10_hoard 21 = .ok (.istore_n 2, 1) := by decide +kernel
theorem dX10_hoard_22 : decode cX10_hoard 22 = .ok (.aload_n 0, 1) := by decide +kernel
theorem dX10_hoard_23 : decode cX10_hoard 23 = .ok (.getfield 101, 3) := by decide +kernel
theorem dX10_hoard_26 : decode cX10_hoard 26 = .ok (.iload_n 2, 1) := by decide +kernel
theorem dX10_hoard_27 : decode cX10_hoard 27 = .ok (.baload, 1) := by decide +kernel
theorem dX10_hoard_28 : decode cX10_hoard 28 = .ok (.ifCond .ne 9, 3) := by decide +kernel
theorem dX10_hoard_31 : decode cX10_hoard 31 = .ok (.iinc 2 1, 3) := by decide +kernel
theorem dX10_hoard_34 : decode cX10_hoard 34 = .ok (.goto (-12), 3) := by decide +kernel
theorem dX10_hoard_37 : decode cX10_hoard 37 = .ok (.iload_n 2, 1) := by decide +kernel
theorem dX10_hoard_38 : decode cX10_hoard 38 = .ok (.ireturn, 1) := by decide +kernel
set_option maxRecDepth 20000 in
theorem ggX10_isKnown_X10_isFind : GoodIn wsX10_isKnown wsX10_isFind := goodIn_r _ [7, 8, 9, 10, 6, 11, 12, 13, 14, 15, 16, 17, 18, 19, 20, 21, 22, 23, 24, 25, 26, 27, 28, 29, 30, 31, 32, 33, 34, 35, 36, 37, 38, 39, 40, 41, 42, 43, 44, 45, 46, 47, 48, 49] (by decide +kernel) (by decide +kernel)
set_option maxRecDepth 20000 in
theorem gX10_isKnown_X10_isFind : GoodIn wsX10_isKnown (wsV RX10 127 RX10 yX10_isFind wsX10_isFind) := goodIn_app (goodIn_of _ (by decide +kernel)) ggX10_isKnown_X10_isFind
set_option maxRecDepth 20000 in
theorem ggX10_isKnown_X10_in : GoodIn wsX10_isKnown wsX10_in := goodIn_r _ [11] (by decide +kernel) (by decide +kernel)
set_option maxRecDepth 20000 in
theorem gX10_isKnown_X10_in : GoodIn wsX10_isKnown (va_wsS RX10 109 yX10_in wsX10_in) := goodIn_app (goodIn_of _ (by decide +kernel)) ggX10_isKnown_X10_in
theorem dX10_isKnown_0 : decode cX10_isKnown 0 = .ok (.aload_n 0, 1) := by decide +kernel
theorem dX10_isKnown_1 : decode cX10_isKnown 1 = .ok (.iload_n 1, 1) := by decide +kernel
theorem dX10_isKnown_2 : decode cX10_isKnown 2 = .ok (.invokevirtual 127, 3) := by decide +kernel
theorem dX10_isKnown_5 : decode cX10_isKnown 5 = .ok (.ifCond .eq 29, 3) := by decide +kernel
theorem dX10_isKnown_8 : decode cX10_isKnown 8 = .ok (.iload_n 2, 1) := by decide +kernel
theorem dX10_isKnown_9 : decode cX10_isKnown 9 = .ok (.iconst 0, 1) := by decide +kernel
theorem dX10_isKnown_10 : decode cX10_isKnown 10 = .ok (.aload_n 0, 1) := by decide +kernel
theorem dX10_isKnown_11 : decode cX10_isKnown 11 = .ok (.getfield 113, 3) := by decide +kernel
theorem dX10_isKnown_14 : decode cX10_isKnown 14 = .ok (.invokestatic 109, 3) := by decide +kernel
theorem dX10_isKnown_17 : decode cX10_isKnown 17 = .ok (.ifCond .eq 17, 3) := by decide +kernel
theorem dX10_isKnown_20 : decode cX10_isKnown 20 = .ok (.aload_n 0, 1) := by decide +kernel
theorem dX10_isKnown_21 : decode cX10_isKnown 21 = .ok (.getfield 37, 3) := by decide +kernel
theorem dX10_isKnown_24 : decode cX10_isKnown 24 = .ok (.iload_n 1, 1) := by decide +kernel
theorem dX10_isKnown_25 : decode cX10_isKnown 25 = .ok (.iaload, 1) := by decide +kernel
theorem dX10_isKnown_26 : decode cX10_isKnown 26 = .ok (.iload_n 2, 1) := by decide +kernel
theorem dX10_isKnown_27 : decode cX10_isKnown 27 = .ok (.if_icmp .gt 7, 3) := by decide +kernel
theorem dX10_isKnown_30 : decode cX10_isKnown 30 = .ok (.iconst 1, 1) := by decide +kernel
theorem dX10_isKnown_31 : decode cX10_isKnown 31 = .ok (.goto 4, 3) := by decide +kernel
theorem dX10_isKnown_34 : decode cX10_isKnown 34 = .ok (.iconst 0, 1) := by decide +kernel
theorem dX10_isKnown_35 : decode cX10_isKnown 35 = .ok (.ireturn, 1) := by decide +kernel
set_option maxRecDepth 20000 in
theorem ggX10_size_X10_isKnown : GoodIn wsX10_size wsX10_isKnown := goodIn_r _ [5, 6, 7, 8, 9, 10, 4, 11, 12, 13, 14, 15, 30, 31, 32, 33, 34, 35, 36, 37, 38, 39, 40, 41, 42, 43, 44, 45, 46, 47, 48, 49, 50, 51, 52, 53, 54, 55, 56, 57, 58, 59, 60, 61, 62, 63, 64, 65, 66, 67] (by decide +kernel) (by decide +kernel)
set_option maxRecDepth 20000 in
theorem gX10_size_X10_isKnown : GoodIn wsX10_size (wsV RX10 140 RX10 yX10_isKnown wsX10_isKnown) := goodIn_app (goodIn_of _ (by decide +kernel)) ggX10_size_X10_isKnown
set_option maxRecDepth 20000 in
theorem ggX10_size_X10_reaches : GoodIn wsX10_size wsX10_reaches := goodIn_r _ [19, 12, 20, 7, 21, 22, 23, 4, 24, 25, 26, 27, 28, 29, 13, 14, 15, 30, 31, 32, 33, 34, 35, 36, 37, 38, 39, 40, 41, 42, 43, 44, 45, 46, 47, 48, 49, 50, 51, 52, 53, 54, 55, 56, 57, 58, 59, 60, 61, 62, 63, 64, 65, 66, 67] (by decide +kernel) (by decide +kernel)
set_option maxRecDepth 20000 in
theorem gX10_size_X10_reaches : GoodIn wsX10_size (wsV RX10 136 RX10 yX10_reaches wsX10_reaches) := goodIn_app (goodIn_of _ (by decide +kernel)) ggX10_size_X10_reaches
theorem dX10_size_0 : decode cX10_size 0 = .ok (.aload_n 0, 1) := by decide +kernel
theorem dX10_size_1 : decode cX10_size 1 = .ok (.iload_n 1, 1) := by decide +kernel
theorem dX10_size_2 : decode cX10_size 2 = .ok (.iload_n 2, 1) := by decide +kernel
theorem dX10_size_3 : decode cX10_size 3 = .ok (.invokevirtual 140, 3) := by decide +kernel
theorem dX10_size_6 : decode cX10_size 6 = .ok (.ifCond .eq 12, 3) := by decide +kernel
theorem dX10_size_9 : decode cX10_size 9 = .ok (.aload_n 0, 1) := by decide +kernel
theorem dX10_size_10 : decode cX10_size 10 = .ok (.iload_n 1, 1) := by decide +kernel
theorem dX10_size_11 : decode cX10_size 11 = .ok (.iload_n 2, 1) := by decide +kernel
theorem dX10_size_12 : decode cX10_size 12 = .ok (.invokevirtual 136, 3) := by decide +kernel
theorem dX10_size_15 : decode cX10_size 15 = .ok (.goto 4, 3) := by decide +kernel
theorem dX10_size_18 : decode cX10_size 18 = .ok (.iconst (-1), 1) := by decide +kernel
theorem dX10_size_19 : decode cX10_size 19 = .ok (.ireturn, 1) := by decide +kernel
theorem dX10_lawOf_0 : decode cX10_lawOf 0 = .ok (.iconst (-1), 1) := by decide +kernel
theorem dX10_lawOf_1 : decode cX10_lawOf 1 = .ok (.istore_n 2, 1) := by decide +kernel
theorem dX10_lawOf_2 : decode cX10_lawOf 2 = .ok (.iconst 0, 1) := by decide +kernel
theorem dX10_lawOf_3 : decode cX10_lawOf 3 = .ok (.istore_n 3, 1) := by decide +kernel
theorem dX10_lawOf_4 : decode cX10_lawOf 4 = .ok (.iload_n 3, 1) := by decide +kernel
theorem dX10_lawOf_5 : decode cX10_lawOf 5 = .ok (.aload_n 0, 1) := by decide +kernel
theorem dX10_lawOf_6 : decode cX10_lawOf 6 = .ok (.getfield 116, 3) := by decide +kernel
theorem dX10_lawOf_9 : decode cX10_lawOf 9 = .ok (.if_icmp .ge 41, 3) := by decide +kernel
theorem dX10_lawOf_12 : decode cX10_lawOf 12 = .ok (.aload_n 0, 1) := by decide +kernel
theorem dX10_lawOf_13 : decode cX10_lawOf 13 = .ok (.getfield 46, 3) := by decide +kernel
theorem dX10_lawOf_16 : decode cX10_lawOf 16 = .ok (.iload_n 3, 1) := by decide +kernel
theorem dX10_lawOf_17 : decode cX10_lawOf 17 = .ok (.iaload, 1) := by decide +kernel
theorem dX10_lawOf_18 : decode cX10_lawOf 18 = .ok (.iload_n 1, 1) := by decide +kernel
theorem dX10_lawOf_19 : decode cX10_lawOf 19 = .ok (.if_icmp .gt 25, 3) := by decide +kernel
theorem dX10_lawOf_22 : decode cX10_lawOf 22 = .ok (.iload_n 2, 1) := by decide +kernel
theorem dX10_lawOf_23 : decode cX10_lawOf 23 = .ok (.iconst (-1), 1) := by decide +kernel
theorem dX10_lawOf_24 : decode cX10_lawOf 24 = .ok (.if_icmp .eq 18, 3) := by decide +kernel
theorem dX10_lawOf_27 : decode cX10_lawOf 27 = .ok (.aload_n 0, 1) := by decide +kernel
theorem dX10_lawOf_28 : decode cX10_lawOf 28 = .ok (.getfield 46, 3) := by decide +kernel
theorem dX10_lawOf_31 : decode cX10_lawOf 31 = .ok (.iload_n 3, 1) := by decide +kernel
theorem dX10_lawOf_32 : decode cX10_lawOf 32 = .ok (.iaload, 1) := by decide +kernel
theorem dX10_lawOf_33 : decode cX10_lawOf 33 = .ok (.aload_n 0, 1) := by decide +kernel
theorem dX10_lawOf_34 : decode cX10_lawOf 34 = .ok (.getfield 46, 3) := by decide +kernel
theorem dX10_lawOf_37 : decode cX10_lawOf 37 = .ok (.iload_n 2, 1) := by decide +kernel
theorem dX10_lawOf_38 : decode cX10_lawOf 38 = .ok (.iaload, 1) := by decide +kernel
theorem dX10_lawOf_39 : decode cX10_lawOf 39 = .ok (.if_icmp .lt 5, 3) := by decide +kernel
theorem dX10_lawOf_42 : decode cX10_lawOf 42 = .ok (.iload_n 3, 1) := by decide +kernel
theorem dX10_lawOf_43 : decode cX10_lawOf 43 = .ok (.istore_n 2, 1) := by decide +kernel
theorem dX10_lawOf_44 : decode cX10_lawOf 44 = .ok (.iinc 3 1, 3) := by decide +kernel
theorem dX10_lawOf_47 : decode cX10_lawOf 47 = .ok (.goto (-43), 3) := by decide +kernel
theorem dX10_lawOf_50 : decode cX10_lawOf 50 = .ok (.iload_n 2, 1) := by decide +kernel
theorem dX10_lawOf_51 : decode cX10_lawOf 51 = .ok (.ireturn, 1) := by decide +kernel
set_option maxRecDepth 20000 in
theorem ggX10_counted_X10_isKnown : GoodIn wsX10_counted wsX10_isKnown := goodIn_r _ [12, 13, 14, 15, 16, 17, 11, 18, 19, 20, 21, 22, 45, 46, 47, 48, 49, 50, 51, 52, 53, 54, 55, 56, 57, 58, 59, 60, 61, 62, 63, 64, 65, 66, 67, 68, 69, 70, 71, 72, 73, 74, 75, 76, 77, 78, 79, 80, 81, 82] (by decide +kernel) (by decide +kernel)
set_option maxRecDepth 20000 in
theorem gX10_counted_X10_isKnown : GoodIn wsX10_counted (wsV RX10 140 RX10 yX10_isKnown wsX10_isKnown) := goodIn_app (goodIn_of _ (by decide +kernel)) ggX10_counted_X10_isKnown
set_option maxRecDepth 20000 in
theorem ggX10_counted_X10_lawOf : GoodIn wsX10_counted wsX10_lawOf := goodIn_r _ [26, 27, 28, 45, 46, 47, 48, 49, 50, 51, 52, 53, 54, 55, 56, 57, 58, 59, 60, 61, 62, 63, 64, 65, 66, 67, 68, 69, 70, 71, 72, 73, 74, 75, 76, 77, 78, 79, 80, 81, 82] (by decide +kernel) (by decide +kernel)
set_option maxRecDepth 20000 in
theorem gX10_counted_X10_lawOf : GoodIn wsX10_counted (wsV RX10 144 RX10 yX10_lawOf wsX10_lawOf) := goodIn_app (goodIn_of _ (by decide +kernel)) ggX10_counted_X10_lawOf
set_option maxRecDepth 20000 in
theorem ggX10_counted_X10_yearOf : GoodIn wsX10_counted wsX10_yearOf := goodIn_r _ [31] (by decide +kernel) (by decide +kernel)
set_option maxRecDepth 20000 in
theorem gX10_counted_X10_yearOf : GoodIn wsX10_counted (va_wsS RX10 148 yX10_yearOf wsX10_yearOf) := goodIn_app (goodIn_of _ (by decide +kernel)) ggX10_counted_X10_yearOf
set_option maxRecDepth 20000 in
theorem ggX10_counted_X10_reaches : GoodIn wsX10_counted wsX10_reaches := goodIn_r _ [35, 19, 36, 14, 37, 38, 39, 11, 40, 41, 42, 43, 2, 44, 20, 21, 22, 45, 46, 47, 48, 49, 50, 51, 52, 53, 54, 55, 56, 57, 58, 59, 60, 61, 62, 63, 64, 65, 66, 67, 68, 69, 70, 71, 72, 73, 74, 75, 76, 77, 78, 79, 80, 81, 82] (by decide +kernel) (by decide +kernel)
set_option maxRecDepth 20000 in
theorem gX10_counted_X10_reaches : GoodIn wsX10_counted (wsV RX10 136 RX10 yX10_reaches wsX10_reaches) := goodIn_app (goodIn_of _ (by decide +kernel)) ggX10_counted_X10_reaches
theorem dX10_counted_0 : decode cX10_counted 0 = .ok (.aload_n 0, 1) := by decide +kernel
theorem dX10_counted_1 : decode cX10_counted 1 = .ok (.iload_n 1, 1) := by decide +kernel
theorem dX10_counted_2 : decode cX10_counted 2 = .ok (.iload_n 2, 1) := by decide +kernel
theorem dX10_counted_3 : decode cX10_counted 3 = .ok (.invokevirtual 140, 3) := by decide +kernel
theorem dX10_counted_6 : decode cX10_counted 6 = .ok (.ifCond .ne 5, 3) := by decide +kernel
theorem dX10_counted_9 : decode cX10_counted 9 = .ok (.iconst 0, 1) := by decide +kernel
theorem dX10_counted_10 : decode cX10_counted 10 = .ok (.ireturn, 1) := by decide +kernel
theorem dX10_counted_11 : decode cX10_counted 11 = .ok (.aload_n 0, 1) := by decide +kernel
theorem dX10_counted_12 : decode cX10_counted 12 = .ok (.aload_n 0, 1) := by decide +kernel
theorem dX10_counted_13 : decode cX10_counted 13 = .ok (.getfield 34, 3) := by decide +kernel
theorem dX10_counted_16 : decode cX10_counted 16 = .ok (.iload_n 1, 1) := by decide +kernel
theorem dX10_counted_17 : decode cX10_counted 17 = .ok (.iaload, 1) := by decide +kernel
theorem dX10_counted_18 : decode cX10_counted 18 = .ok (.invokevirtual 144, 3) := by decide +kernel
theorem dX10_counted_21 : decode cX10_counted 21 = .ok (.istore_n 3, 1) := by decide +kernel
theorem dX10_counted_22 : decode cX10_counted 22 = .ok (.iload_n 3, 1) := by decide +kernel
theorem dX10_counted_23 : decode cX10_counted 23 = .ok (.iconst (-1), 1) := by decide +kernel
theorem dX10_counted_24 : decode cX10_counted 24 = .ok (.if_icmp .eq 28, 3) := by decide +kernel
theorem dX10_counted_27 : decode cX10_counted 27 = .ok (.aload_n 0, 1) := by decide +kernel
theorem dX10_counted_28 : decode cX10_counted 28 = .ok (.getfield 34, 3) := by decide +kernel
theorem dX10_counted_31 : decode cX10_counted 31 = .ok (.iload_n 1, 1) := by decide +kernel
theorem dX10_counted_32 : decode cX10_counted 32 = .ok (.iaload, 1) := by decide +kernel
theorem dX10_counted_33 : decode cX10_counted 33 = .ok (.invokestatic 148, 3) := by decide +kernel
theorem dX10_counted_36 : decode cX10_counted 36 = .ok (.aload_n 0, 1) := by decide +kernel
theorem dX10_counted_37 : decode cX10_counted 37 = .ok (.getfield 28, 3) := by decide +kernel
theorem dX10_counted_40 : decode cX10_counted 40 = .ok (.iload_n 1, 1) := by decide +kernel
theorem dX10_counted_41 : decode cX10_counted 41 = .ok (.iaload, 1) := by decide +kernel
theorem dX10_counted_42 : decode cX10_counted 42 = .ok (.isub, 1) := by decide +kernel
theorem dX10_counted_43 : decode cX10_counted 43 = .ok (.aload_n 0, 1) := by decide +kernel
theorem dX10_counted_44 : decode cX10_counted 44 = .ok (.getfield 49, 3) := by decide +kernel
theorem dX10_counted_47 : decode cX10_counted 47 = .ok (.iload_n 3, 1) := by decide +kernel
theorem dX10_counted_48 : decode cX10_counted 48 = .ok (.iaload, 1) := by decide +kernel
theorem dX10_counted_49 : decode cX10_counted 49 = .ok (.if_icmp .ge 5, 3) := by decide +kernel
theorem dX10_counted_52 : decode cX10_counted 52 = .ok (.iconst 0, 1) := by decide +kernel
theorem dX10_counted_53 : decode cX10_counted 53 = .ok (.ireturn, 1) := by decide +kernel
theorem dX10_counted_54 : decode cX10_counted 54 = .ok (.aload_n 0, 1) := by decide +kernel
theorem dX10_counted_55 : decode cX10_counted 55 = .ok (.getfield 16, 3) := by decide +kernel
theorem dX10_counted_58 : decode cX10_counted 58 = .ok (.iload_n 1, 1) := by decide +kernel
theorem dX10_counted_59 : decode cX10_counted 59 = .ok (.iaload, 1) := by decide +kernel
theorem dX10_counted_60 : decode cX10_counted 60 = .ok (.ifCond .eq 18, 3) := by decide +kernel
theorem dX10_counted_63 : decode cX10_counted 63 = .ok (.aload_n 0, 1) := by decide +kernel
theorem dX10_counted_64 : decode cX10_counted 64 = .ok (.getfield 19, 3) := by decide +kernel
theorem dX10_counted_67 : decode cX10_counted 67 = .ok (.iload_n 1, 1) := by decide +kernel
theorem dX10_counted_68 : decode cX10_counted 68 = .ok (.iaload, 1) := by decide +kernel
theorem dX10_counted_69 : decode cX10_counted 69 = .ok (.aload_n 0, 1) := by decide +kernel
theorem dX10_counted_70 : decode cX10_counted 70 = .ok (.getfield 52, 3) := by decide +kernel
theorem dX10_counted_73 : decode cX10_counted 73 = .ok (.iload_n 3, 1) := by decide +kernel
theorem dX10_counted_74 : decode cX10_counted 74 = .ok (.iaload, 1) := by decide +kernel
theorem dX10_counted_75 : decode cX10_counted 75 = .ok (.if_icmp .ge 18, 3) := by decide +kernel
theorem dX10_counted_78 : decode cX10_counted 78 = .ok (.aload_n 0, 1) := by decide +kernel
theorem dX10_counted_79 : decode cX10_counted 79 = .ok (.iload_n 1, 1) := by decide +kernel
theorem dX10_counted_80 : decode cX10_counted 80 = .ok (.iload_n 2, 1) := by decide +kernel
theorem dX10_counted_81 : decode cX10_counted 81 = .ok (.invokevirtual 136, 3) := by decide +kernel
theorem dX10_counted_84 : decode cX10_counted 84 = .ok (.aload_n 0, 1) := by decide +kernel
theorem dX10_counted_85 : decode cX10_counted 85 = .ok (.getfield 58, 3) := by decide +kernel
theorem dX10_counted_88 : decode cX10_counted 88 = .ok (.iload_n 3, 1) := by decide +kernel
theorem dX10_counted_89 : decode cX10_counted 89 = .ok (.iaload, 1) := by decide +kernel
theorem dX10_counted_90 : decode cX10_counted 90 = .ok (.if_icmp .lt 7, 3) := by decide +kernel
theorem dX10_counted_93 : decode cX10_counted 93 = .ok (.iconst 1, 1) := by decide +kernel
theorem dX10_counted_94 : decode cX10_counted 94 = .ok (.goto 4, 3) := by decide +kernel
theorem dX10_counted_97 : decode cX10_counted 97 = .ok (.iconst 0, 1) := by decide +kernel
theorem dX10_counted_98 : decode cX10_counted 98 = .ok (.ireturn, 1) := by decide +kernel
set_option maxRecDepth 20000 in
theorem ggX10_counts_X10_counted : GoodIn wsX10_counts wsX10_counted := goodIn_r _ [6, 7, 8, 9, 10, 11, 12, 13, 14, 15, 16, 5, 17, 1, 18, 19, 20, 21, 22, 23, 24, 25, 26, 27, 28, 29, 30, 31, 32, 33, 34, 35, 36, 37, 38, 39, 40, 41, 42, 43, 44, 45, 46, 47, 48, 49, 50, 51, 52, 53, 54, 55, 56, 57, 58, 59, 60, 61, 62, 63, 64, 65, 66, 67, 68, 69, 70, 71, 72, 73, 74, 75, 76, 77, 78, 79, 80, 81, 82, 83, 84, 85, 86] (by decide +kernel) (by decide +kernel)
set_option maxRecDepth 20000 in
theorem gX10_counts_X10_counted : GoodIn wsX10_counts (wsV RX10 151 RX10 yX10_counted wsX10_counted) := goodIn_app (goodIn_of _ (by decide +kernel)) ggX10_counts_X10_counted
theorem dX10_counts_0 : decode cX10_counts 0 = .ok (.aload_n 0, 1) := by decide +kernel
theorem dX10_counts_1 : decode cX10_counts 1 = .ok (.iload_n 1, 1) := by decide +kernel
theorem dX10_counts_2 : decode cX10_counts 2 = .ok (.aload_n 0, 1) := by decide +kernel
theorem dX10_counts_3 : decode cX10_counts 3 = .ok (.getfield 113, 3) := by decide +kernel
theorem dX10_counts_6 : decode cX10_counts 6 = .ok (.invokevirtual 151, 3) := by decide +kernel
theorem dX10_counts_9 : decode cX10_counts 9 = .ok (.ireturn, 1) := by decide +kernel
theorem dX10_ownerOn_0 : decode cX10_ownerOn 0 = .ok (.iconst (-1), 1) := by decide +kernel
theorem dX10_ownerOn_1 : decode cX10_ownerOn 1 = .ok (.istore_n 3, 1) := by decide +kernel
theorem dX10_ownerOn_2 : decode cX10_ownerOn 2 = .ok (.iconst 0, 1) := by decide +kernel
theorem dX10_ownerOn_3 : decode cX10_ownerOn 3 = .ok (.istore 4, 2) := by decide +kernel
theorem dX10_ownerOn_5 : decode cX10_ownerOn 5 = .ok (.iload 4, 2) := by decide +kernel
theorem dX10_ownerOn_7 : decode cX10_ownerOn 7 = .ok (.aload_n 0, 1) := by decide +kernel
theorem dX10_ownerOn_8 : decode cX10_ownerOn 8 = .ok (.getfield 123, 3) := by decide +kernel
theorem dX10_ownerOn_11 : decode cX10_ownerOn 11 = .ok (.if_icmp .ge 55, 3) := by decide +kernel
theorem dX10_ownerOn_14 : decode cX10_ownerOn 14 = .ok (.aload_n 0, 1) := by decide +kernel
theorem dX10_ownerOn_15 : decode cX10_ownerOn 15 = .ok (.getfield 61, 3) := by decide +kernel
theorem dX10_ownerOn_18 : decode cX10_ownerOn 18 = .ok (.iload 4, 2) := by decide +kernel
theorem dX10_ownerOn_20 : decode cX10_ownerOn 20 = .ok (.iaload, 1) := by decide +kernel
theorem dX10_ownerOn_21 : decode cX10_ownerOn 21 = .ok (.iload_n 1, 1) := by decide +kernel
theorem dX10_ownerOn_22 : decode cX10_ownerOn 22 = .ok (.if_icmp .ne 38, 3) := by decide +kernel
theorem dX10_ownerOn_25 : decode cX10_ownerOn 25 = .ok (.aload_n 0, 1) := by decide +kernel
theorem dX10_ownerOn_26 : decode cX10_ownerOn 26 = .ok (.getfield 64, 3) := by decide +kernel
theorem dX10_ownerOn_29 : decode cX10_ownerOn 29 = .ok (.iload 4, 2) := by decide +kernel
theorem dX10_ownerOn_31 : decode cX10_ownerOn 31 = .ok (.iaload, 1) := by decide +kernel
theorem dX10_ownerOn_32 : decode cX10_ownerOn 32 = .ok (.iload_n 2, 1) := by decide +kernel
theorem dX10_ownerOn_33 : decode cX10_ownerOn 33 = .ok (.if_icmp .gt 27, 3) := by decide +kernel
theorem dX10_ownerOn_36 : decode cX10_ownerOn 36 = .ok (.iload_n 3, 1) := by decide +kernel
theorem dX10_ownerOn_37 : decode cX10_ownerOn 37 = .ok (.iconst (-1), 1) := by decide +kernel
theorem dX10_ownerOn_38 : decode cX10_ownerOn 38 = .ok (.if_icmp .eq 19, 3) := by decide +kernel
theorem dX10_ownerOn_41 : decode cX10_ownerOn 41 = .ok (.aload_n 0, 1) := by decide +kernel
theorem dX10_ownerOn_42 : decode cX10_ownerOn 42 = .ok (.getfield 64, 3) := by decide +kernel
theorem dX10_ownerOn_45 : decode cX10_ownerOn 45 = .ok (.iload 4, 2) := by decide +kernel
theorem dX10_ownerOn_47 : decode cX10_ownerOn 47 = .ok (.iaload, 1) := by decide +kernel
theorem dX10_ownerOn_48 : decode cX10_ownerOn 48 = .ok (.aload_n 0, 1) := by decide +kernel
theorem dX10_ownerOn_49 : decode cX10_ownerOn 49 = .ok (.getfield 64, 3) := by decide +kernel
theorem dX10_ownerOn_52 : decode cX10_ownerOn 52 = .ok (.iload_n 3, 1) := by decide +kernel
theorem dX10_ownerOn_53 : decode cX10_ownerOn 53 = .ok (.iaload, 1) := by decide +kernel
theorem dX10_ownerOn_54 : decode cX10_ownerOn 54 = .ok (.if_icmp .lt 6, 3) := by decide +kernel
theorem dX10_ownerOn_57 : decode cX10_ownerOn 57 = .ok (.iload 4, 2) := by decide +kernel
theorem dX10_ownerOn_59 : decode cX10_ownerOn 59 = .ok (.istore_n 3, 1) := by decide +kernel
theorem dX10_ownerOn_60 : decode cX10_ownerOn 60 = .ok (.iinc 4 1, 3) := by decide +kernel
theorem dX10_ownerOn_63 : decode cX10_ownerOn 63 = .ok (.goto (-58), 3) := by decide +kernel
theorem dX10_ownerOn_66 : decode cX10_ownerOn 66 = .ok (.iload_n 3, 1) := by decide +kernel
theorem dX10_ownerOn_67 : decode cX10_ownerOn 67 = .ok (.iconst (-1), 1) := by decide +kernel
theorem dX10_ownerOn_68 : decode cX10_ownerOn 68 = .ok (.if_icmp .ne 7, 3) := by decide +kernel
theorem dX10_ownerOn_71 : decode cX10_ownerOn 71 = .ok (.iconst 0, 1) := by decide +kernel
theorem dX10_ownerOn_72 : decode cX10_ownerOn 72 = .ok (.goto 9, 3) := by decide +kernel
theorem dX10_ownerOn_75 : decode cX10_ownerOn 75 = .ok (.aload_n 0, 1) := by decide +kernel
theorem dX10_ownerOn_76 : decode cX10_ownerOn 76 = .ok (.getfield 67, 3) := by decide +kernel
theorem dX10_ownerOn_79 : decode cX10_ownerOn 79 = .ok (.iload_n 3, 1) := by decide +kernel
theorem dX10_ownerOn_80 : decode cX10_ownerOn 80 = .ok (.iaload, 1) := by decide +kernel
theorem dX10_ownerOn_81 : decode cX10_ownerOn 81 = .ok (.ireturn, 1) := by decide +kernel
set_option maxRecDepth 20000 in
theorem ggX10_ownerOf_X10_ownerOn : GoodIn wsX10_ownerOf wsX10_ownerOn := goodIn_r _ [8, 9, 10, 11, 12, 13, 14, 15, 16, 17, 18, 19, 20, 21, 22, 23, 24, 25, 26, 27, 28, 29, 30, 31, 32, 33, 34, 35, 36, 37, 38, 39, 40, 41, 42, 43, 44, 45, 46, 47, 48, 49, 50] (by decide +kernel) (by decide +kernel)
set_option maxRecDepth 20000 in
theorem gX10_ownerOf_X10_ownerOn : GoodIn wsX10_ownerOf (wsV RX10 154 RX10 yX10_ownerOn wsX10_ownerOn) := goodIn_app (goodIn_of _ (by decide +kernel)) ggX10_ownerOf_X10_ownerOn
theorem dX10_ownerOf_0 : decode cX10_ownerOf 0 = .ok (.aload_n 0, 1) := by decide +kernel
theorem dX10_ownerOf_1 : decode cX10_ownerOf 1 = .ok (.bipush 10, 2) := by decide +kernel
theorem dX10_ownerOf_3 : decode cX10_ownerOf 3 = .ok (.aload_n 0, 1) := by decide +kernel
theorem dX10_ownerOf_4 : decode cX10_ownerOf 4 = .ok (.getfield 9, 3) := by decide +kernel
theorem dX10_ownerOf_7 : decode cX10_ownerOf 7 = .ok (.iload_n 1, 1) := by decide +kernel
theorem dX10_ownerOf_8 : decode cX10_ownerOf 8 = .ok (.iaload, 1) := by decide +kernel
theorem dX10_ownerOf_9 : decode cX10_ownerOf 9 = .ok (.bipush 100, 2) := by decide +kernel
theorem dX10_ownerOf_11 : decode cX10_ownerOf 11 = .ok (.idiv, 1) := by decide +kernel
theorem dX10_ownerOf_12 : decode cX10_ownerOf 12 = .ok (.imul, 1) := by decide +kernel
theorem dX10_ownerOf_13 : decode cX10_ownerOf 13 = .ok (.aload_n 0, 1) := by decide +kernel
theorem dX10_ownerOf_14 : decode cX10_ownerOf 14 = .ok (.getfield 13, 3) := by decide +kernel
theorem dX10_ownerOf_17 : decode cX10_ownerOf 17 = .ok (.iload_n 1, 1) := by decide +kernel
theorem dX10_ownerOf_18 : decode cX10_ownerOf 18 = .ok (.iaload, 1) := by decide +kernel
theorem dX10_ownerOf_19 : decode cX10_ownerOf 19 = .ok (.bipush 100, 2) := by decide +kernel
theorem dX10_ownerOf_21 : decode cX10_ownerOf 21 = .ok (.idiv, 1) := by decide +kernel
theorem dX10_ownerOf_22 : decode cX10_ownerOf 22 = .ok (.iadd, 1) := by decide +kernel
theorem dX10_ownerOf_23 : decode cX10_ownerOf 23 = .ok (.aload_n 0, 1) := by decide +kernel
theorem dX10_ownerOf_24 : decode cX10_ownerOf 24 = .ok (.getfield 34, 3) := by decide +kernel
theorem dX10_ownerOf_27 : decode cX10_ownerOf 27 = .ok (.iload_n 1, 1) := by decide +kernel
theorem dX10_ownerOf_28 : decode cX10_ownerOf 28 = .ok (.iaload, 1) := by decide +kernel
theorem dX10_ownerOf_29 : decode cX10_ownerOf 29 = .ok (.invokevirtual 154, 3) := by decide +kernel
theorem dX10_ownerOf_32 : decode cX10_ownerOf 32 = .ok (.ireturn, 1) := by decide +kernel
set_option maxRecDepth 20000 in
theorem ggX10_told_X10_isFind : GoodIn wsX10_told wsX10_isFind := goodIn_r _ [15, 16, 17, 18, 14, 19, 34, 35, 36, 37, 38, 39, 40, 41, 42, 43, 44, 45, 46, 47, 48, 49, 50, 51, 52, 53, 54, 55, 56, 57, 58, 59, 60, 61, 62, 63, 64, 65, 66, 67, 68, 69, 70, 71] (by decide +kernel) (by decide +kernel)
set_option maxRecDepth 20000 in
theorem gX10_told_X10_isFind : GoodIn wsX10_told (wsV RX10 127 RX10 yX10_isFind wsX10_isFind) := goodIn_app (goodIn_of _ (by decide +kernel)) ggX10_told_X10_isFind
set_option maxRecDepth 20000 in
theorem ggX10_told_X10_ownerOf : GoodIn wsX10_told wsX10_ownerOf := goodIn_r _ [23, 24, 25, 2, 26, 27, 28, 14, 29, 30, 31, 32, 33, 34, 35, 36, 37, 38, 39, 40, 41, 42, 43, 44, 45, 46, 47, 48, 49, 50, 51, 52, 53, 54, 55, 56, 57, 58, 59, 60, 61, 62, 63, 64, 65, 66, 67, 68, 69, 70, 71] (by decide +kernel) (by decide +kernel)
set_option maxRecDepth 20000 in
theorem gX10_told_X10_ownerOf : GoodIn wsX10_told (wsV RX10 158 RX10 yX10_ownerOf wsX10_ownerOf) := goodIn_app (goodIn_of _ (by decide +kernel)) ggX10_told_X10_ownerOf
theorem dX10_told_0 : decode cX10_told 0 = .ok (.aload_n 0, 1) := by decide +kernel
theorem dX10_told_1 : decode cX10_told 1 = .ok (.iload_n 1, 1) := by decide +kernel
theorem dX10_told_2 : decode cX10_told 2 = .ok (.invokevirtual 127, 3) := by decide +kernel
theorem dX10_told_5 : decode cX10_told 5 = .ok (.ifCond .ne 6, 3) := by decide +kernel
theorem dX10_told_8 : decode cX10_told 8 = .ok (.ldc 157, 2) := by decide +kernel
theorem dX10_told_10 : decode cX10_told 10 = .ok (.ireturn, 1) := by decide +kernel
theorem dX10_told_11 : decode cX10_told 11 = .ok (.iload_n 2, 1) := by decide +kernel
theorem dX10_told_12 : decode cX10_told 12 = .ok (.tableswitch 125 0 9 #[56, 63, 70, 77, 84, 91, 98, 105, 112, 118], 56) := by decide +kernel
theorem dX10_told_68 : decode cX10_told 68 = .ok (.aload_n 0, 1) := by decide +kernel
theorem dX10_told_69 : decode cX10_told 69 = .ok (.getfield 34, 3) := by decide +kernel
theorem dX10_told_72 : decode cX10_told 72 = .ok (.iload_n 1, 1) := by decide +kernel
theorem dX10_told_73 : decode cX10_told 73 = .ok (.iaload, 1) := by decide +kernel
theorem dX10_told_74 : decode cX10_told 74 = .ok (.ireturn, 1) := by decide +kernel
theorem dX10_told_75 : decode cX10_told 75 = .ok (.aload_n 0, 1) := by decide +kernel
theorem dX10_told_76 : decode cX10_told 76 = .ok (.getfield 37, 3) := by decide +kernel
theorem dX10_told_79 : decode cX10_told 79 = .ok (.iload_n 1, 1) := by decide +kernel
theorem dX10_told_80 : decode cX10_told 80 = .ok (.iaload, 1) := by decide +kernel
theorem dX10_told_81 : decode cX10_told 81 = .ok (.ireturn, 1) := by decide +kernel
theorem dX10_told_82 : decode cX10_told 82 = .ok (.aload_n 0, 1) := by decide +kernel
theorem dX10_told_83 : decode cX10_told 83 = .ok (.getfield 16, 3) := by decide +kernel
theorem dX10_told_86 : decode cX10_told 86 = .ok (.iload_n 1, 1) := by decide +kernel
theorem dX10_told_87 : decode cX10_told 87 = .ok (.iaload, 1) := by decide +kernel
theorem dX10_told_88 : decode cX10_told 88 = .ok (.ireturn, 1) := by decide +kernel
theorem dX10_told_89 : decode cX10_told 89 = .ok (.aload_n 0, 1) := by decide +kernel
theorem dX10_told_90 : decode cX10_told 90 = .ok (.getfield 19, 3) := by decide +kernel
theorem dX10_told_93 : decode cX10_told 93 = .ok (.iload_n 1, 1) := by decide +kernel
theorem dX10_told_94 : decode cX10_told 94 = .ok (.iaload, 1) := by decide +kernel
theorem dX10_told_95 : decode cX10_told 95 = .ok (.ireturn, 1) := by decide +kernel
theorem dX10_told_96 : decode cX10_told 96 = .ok (.aload_n 0, 1) := by decide +kernel
theorem dX10_told_97 : decode cX10_told 97 = .ok (.getfield 22, 3) := by decide +kernel
theorem dX10_told_100 : decode cX10_told 100 = .ok (.iload_n 1, 1) := by decide +kernel
theorem dX10_told_101 : decode cX10_told 101 = .ok (.iaload, 1) := by decide +kernel
theorem dX10_told_102 : decode cX10_told 102 = .ok (.ireturn, 1) := by decide +kernel
theorem dX10_told_103 : decode cX10_told 103 = .ok (.aload_n 0, 1) := by decide +kernel
theorem dX10_told_104 : decode cX10_told 104 = .ok (.getfield 25, 3) := by decide +kernel
theorem dX10_told_107 : decode cX10_told 107 = .ok (.iload_n 1, 1) := by decide +kernel
theorem dX10_told_108 : decode cX10_told 108 = .ok (.iaload, 1) := by decide +kernel
theorem dX10_told_109 : decode cX10_told 109 = .ok (.ireturn, 1) := by decide +kernel
theorem dX10_told_110 : decode cX10_told 110 = .ok (.aload_n 0, 1) := by decide +kernel
theorem dX10_told_111 : decode cX10_told 111 = .ok (.getfield 28, 3) := by decide +kernel
theorem dX10_told_114 : decode cX10_told 114 = .ok (.iload_n 1, 1) := by decide +kernel
theorem dX10_told_115 : decode cX10_told 115 = .ok (.iaload, 1) := by decide +kernel
theorem dX10_told_116 : decode cX10_told 116 = .ok (.ireturn, 1) := by decide +kernel
theorem dX10_told_117 : decode cX10_told 117 = .ok (.aload_n 0, 1) := by decide +kernel
theorem dX10_told_118 : decode cX10_told 118 = .ok (.getfield 31, 3) := by decide +kernel
theorem dX10_told_121 : decode cX10_told 121 = .ok (.iload_n 1, 1) := by decide +kernel
theorem dX10_told_122 : decode cX10_told 122 = .ok (.iaload, 1) := by decide +kernel
theorem dX10_told_123 : decode cX10_told 123 = .ok (.ireturn, 1) := by decide +kernel
theorem dX10_told_124 : decode cX10_told 124 = .ok (.aload_n 0, 1) := by decide +kernel
theorem dX10_told_125 : decode cX10_told 125 = .ok (.iload_n 1, 1) := by decide +kernel
theorem dX10_told_126 : decode cX10_told 126 = .ok (.invokevirtual 158, 3) := by decide +kernel
theorem dX10_told_129 : decode cX10_told 129 = .ok (.ireturn, 1) := by decide +kernel
theorem dX10_told_130 : decode cX10_told 130 = .ok (.aload_n 0, 1) := by decide +kernel
theorem dX10_told_131 : decode cX10_told 131 = .ok (.getfield 40, 3) := by decide +kernel
theorem dX10_told_134 : decode cX10_told 134 = .ok (.iload_n 1, 1) := by decide +kernel
theorem dX10_told_135 : decode cX10_told 135 = .ok (.iaload, 1) := by decide +kernel
theorem dX10_told_136 : decode cX10_told 136 = .ok (.ireturn, 1) := by decide +kernel
theorem dX10_told_137 : decode cX10_told 137 = .ok (.ldc 157, 2) := by decide +kernel
theorem dX10_told_139 : decode cX10_told 139 = .ok (.ireturn, 1) := by decide +kernel
set_option maxRecDepth 20000 in
theorem ggX10_index_X10_in : GoodIn wsX10_index wsX10_in := goodIn_r _ [5] (by decide +kernel) (by decide +kernel)
set_option maxRecDepth 20000 in
theorem gX10_index_X10_in : GoodIn wsX10_index (va_wsS RX10 109 yX10_in wsX10_in) := goodIn_app (goodIn_of _ (by decide +kernel)) ggX10_index_X10_in
theorem dX10_index_0 : decode cX10_index 0 = .ok (.iload_n 1, 1) := by decide +kernel
theorem dX10_index_1 : decode cX10_index 1 = .ok (.sipush 1950, 3) := by decide +kernel
theorem dX10_index_4 : decode cX10_index 4 = .ok (.sipush 2004, 3) := by decide +kernel
theorem dX10_index_7 : decode cX10_index 7 = .ok (.invokestatic 109, 3) := by decide +kernel
theorem dX10_index_10 : decode cX10_index 10 = .ok (.ifCond .eq 14, 3) := by decide +kernel
theorem dX10_index_13 : decode cX10_index 13 = .ok (.iload_n 2, 1) := by decide +kernel
theorem dX10_index_14 : decode cX10_index 14 = .ok (.iconst 1, 1) := by decide +kernel
theorem dX10_index_15 : decode cX10_index 15 = .ok (.sipush 10000, 3) := by decide +kernel
theorem dX10_index_18 : decode cX10_index 18 = .ok (.invokestatic 109, 3) := by decide +kernel
theorem dX10_index_21 : decode cX10_index 21 = .ok (.ifCond .ne 5, 3) := by decide +kernel
theorem dX10_index_24 : decode cX10_index 24 = .ok (.iconst 0, 1) := by decide +kernel
theorem dX10_index_25 : decode cX10_index 25 = .ok (.ireturn, 1) := by decide +kernel
theorem dX10_index_26 : decode cX10_index 26 = .ok (.aload_n 0, 1) := by decide +kernel
theorem dX10_index_27 : decode cX10_index 27 = .ok (.getfield 70, 3) := by decide +kernel
theorem dX10_index_30 : decode cX10_index 30 = .ok (.iload_n 1, 1) := by decide +kernel
theorem dX10_index_31 : decode cX10_index 31 = .ok (.sipush 1950, 3) := by decide +kernel
theorem dX10_index_34 : decode cX10_index 34 = .ok (.isub, 1) := by decide +kernel
theorem dX10_index_35 : decode cX10_index 35 = .ok (.iload_n 2, 1) := by decide +kernel
theorem dX10_index_36 : decode cX10_index 36 = .ok (.iastore, 1) := by decide +kernel
theorem dX10_index_37 : decode cX10_index 37 = .ok (.iconst 1, 1) := by decide +kernel
theorem dX10_index_38 : decode cX10_index 38 = .ok (.ireturn, 1) := by decide +kernel
set_option maxRecDepth 20000 in
theorem ggX10_sale_X10_in : GoodIn wsX10_sale wsX10_in := goodIn_r _ [11] (by decide +kernel) (by decide +kernel)
set_option maxRecDepth 20000 in
theorem gX10_sale_X10_in : GoodIn wsX10_sale (va_wsS RX10 109 yX10_in wsX10_in) := goodIn_app (goodIn_of _ (by decide +kernel)) ggX10_sale_X10_in
theorem dX10_sale_0 : decode cX10_sale 0 = .ok (.iload_n 1, 1) := by decide +kernel
theorem dX10_sale_1 : decode cX10_sale 1 = .ok (.iconst 0, 1) := by decide +kernel
theorem dX10_sale_2 : decode cX10_sale 2 = .ok (.iconst 2, 1) := by decide +kernel
theorem dX10_sale_3 : decode cX10_sale 3 = .ok (.invokestatic 109, 3) := by decide +kernel
theorem dX10_sale_6 : decode cX10_sale 6 = .ok (.ifCond .eq 46, 3) := by decide +kernel
theorem dX10_sale_9 : decode cX10_sale 9 = .ok (.iload_n 2, 1) := by decide +kernel
theorem dX10_sale_10 : decode cX10_sale 10 = .ok (.iconst 0, 1) := by decide +kernel
theorem dX10_sale_11 : decode cX10_sale 11 = .ok (.aload_n 0, 1) := by decide +kernel
theorem dX10_sale_12 : decode cX10_sale 12 = .ok (.getfield 113, 3) := by decide +kernel
theorem dX10_sale_15 : decode cX10_sale 15 = .ok (.invokestatic 109, 3) := by decide +kernel
theorem dX10_sale_18 : decode cX10_sale 18 = .ok (.ifCond .eq 34, 3) := by decide +kernel
theorem dX10_sale_21 : decode cX10_sale 21 = .ok (.iload_n 3, 1) := by decide +kernel
theorem dX10_sale_22 : decode cX10_sale 22 = .ok (.iconst 1, 1) := by decide +kernel
theorem dX10_sale_23 : decode cX10_sale 23 = .ok (.sipush 10000, 3) := by decide +kernel
theorem dX10_sale_26 : decode cX10_sale 26 = .ok (.invokestatic 109, 3) := by decide +kernel
theorem dX10_sale_29 : decode cX10_sale 29 = .ok (.ifCond .eq 23, 3) := by decide +kernel
theorem dX10_sale_32 : decode cX10_sale 32 = .ok (.iload 4, 2) := by decide +kernel
theorem dX10_sale_34 : decode cX10_sale 34 = .ok (.iconst 0, 1) := by decide +kernel
theorem dX10_sale_35 : decode cX10_sale 35 = .ok (.ldc 105, 2) := by decide +kernel
theorem dX10_sale_37 : decode cX10_sale 37 = .ok (.invokestatic 109, 3) := by decide +kernel
theorem dX10_sale_40 : decode cX10_sale 40 = .ok (.ifCond .eq 12, 3) := by decide +kernel
theorem dX10_sale_43 : decode cX10_sale 43 = .ok (.aload_n 0, 1) := by decide +kernel
theorem dX10_sale_44 : decode cX10_sale 44 = .ok (.getfield 161, 3) := by decide +kernel
theorem dX10_sale_47 : decode cX10_sale 47 = .ok (.bipush 60, 2) := by decide +kernel
theorem dX10_sale_49 : decode cX10_sale 49 = .ok (.if_icmp .ne 5, 3) := by decide +kernel
theorem dX10_sale_52 : decode cX10_sale 52 = .ok (.iconst (-1), 1) := by decide +kernel
theorem dX10_sale_53 : decode cX10_sale 53 = .ok (.ireturn, 1) := by decide +kernel
theorem dX10_sale_54 : decode cX10_sale 54 = .ok (.aload_n 0, 1) := by decide +kernel
theorem dX10_sale_55 : decode cX10_sale 55 = .ok (.getfield 73, 3) := by decide +kernel
theorem dX10_sale_58 : decode cX10_sale 58 = .ok (.aload_n 0, 1) := by decide +kernel
theorem dX10_sale_59 : decode cX10_sale 59 = .ok (.getfield 161, 3) := by decide +kernel
theorem dX10_sale_62 : decode cX10_sale 62 = .ok (.iload_n 1, 1) := by decide +kernel
theorem dX10_sale_63 : decode cX10_sale 63 = .ok (.iastore, 1) := by decide +kernel
theorem dX10_sale_64 : decode cX10_sale 64 = .ok (.aload_n 0, 1) := by decide +kernel
theorem dX10_sale_65 : decode cX10_sale 65 = .ok (.getfield 76, 3) := by decide +kernel
theorem dX10_sale_68 : decode cX10_sale 68 = .ok (.aload_n 0, 1) := by decide +kernel
theorem dX10_sale_69 : decode cX10_sale 69 = .ok (.getfield 161, 3) := by decide +kernel
theorem dX10_sale_72 : decode cX10_sale 72 = .ok (.iload_n 2, 1) := by decide +kernel
theorem dX10_sale_73 : decode cX10_sale 73 = .ok (.iastore, 1) := by decide +kernel
theorem dX10_sale_74 : decode cX10_sale 74 = .ok (.aload_n 0, 1) := by decide +kernel
theorem dX10_sale_75 : decode cX10_sale 75 = .ok (.getfield 79, 3) := by decide +kernel
theorem dX10_sale_78 : decode cX10_sale 78 = .ok (.aload_n 0, 1) := by decide +kernel
theorem dX10_sale_79 : decode cX10_sale 79 = .ok (.getfield 161, 3) := by decide +kernel
theorem dX10_sale_82 : decode cX10_sale 82 = .ok (.iload_n 3, 1) := by decide +kernel
theorem dX10_sale_83 : decode cX10_sale 83 = .ok (.iastore, 1) := by decide +kernel
theorem dX10_sale_84 : decode cX10_sale 84 = .ok (.aload_n 0, 1) := by decide +kernel
theorem dX10_sale_85 : decode cX10_sale 85 = .ok (.getfield 82, 3) := by decide +kernel
theorem dX10_sale_88 : decode cX10_sale 88 = .ok (.aload_n 0, 1) := by decide +kernel
theorem dX10_sale_89 : decode cX10_sale 89 = .ok (.getfield 161, 3) := by decide +kernel
theorem dX10_sale_92 : decode cX10_sale 92 = .ok (.iload 4, 2) := by decide +kernel
theorem dX10_sale_94 : decode cX10_sale 94 = .ok (.iastore, 1) := by decide +kernel
theorem dX10_sale_95 : decode cX10_sale 95 = .ok (.aload_n 0, 1) := by decide +kernel
theorem dX10_sale_96 : decode cX10_sale 96 = .ok (.dup, 1) := by decide +kernel
theorem dX10_sale_97 : decode cX10_sale 97 = .ok (.getfield 161, 3) := by decide +kernel
theorem dX10_sale_100 : decode cX10_sale 100 = .ok (.iconst 1, 1) := by decide +kernel
theorem dX10_sale_101 : decode cX10_sale 101 = .ok (.iadd, 1) := by decide +kernel
theorem dX10_sale_102 : decode cX10_sale 102 = .ok (.putfield 161, 3) := by decide +kernel
theorem dX10_sale_105 : decode cX10_sale 105 = .ok (.iconst 0, 1) := by decide +kernel
theorem dX10_sale_106 : decode cX10_sale 106 = .ok (.istore 5, 2) := by decide +kernel
theorem dX10_sale_108 : decode cX10_sale 108 = .ok (.iconst 0, 1) := by decide +kernel
theorem dX10_sale_109 : decode cX10_sale 109 = .ok (.istore 6, 2) := by decide +kernel
theorem dX10_sale_111 : decode cX10_sale 111 = .ok (.iload 6, 2) := by decide +kernel
theorem dX10_sale_113 : decode cX10_sale 113 = .ok (.aload_n 0, 1) := by decide +kernel
theorem dX10_sale_114 : decode cX10_sale 114 = .ok (.getfield 161, 3) := by decide +kernel
theorem dX10_sale_117 : decode cX10_sale 117 = .ok (.if_icmp .ge 30, 3) := by decide +kernel
theorem dX10_sale_120 : decode cX10_sale 120 = .ok (.iload 5, 2) := by decide +kernel
theorem dX10_sale_122 : decode cX10_sale 122 = .ok (.aload_n 0, 1) := by decide +kernel
theorem dX10_sale_123 : decode cX10_sale 123 = .ok (.getfield 73, 3) := by decide +kernel
theorem dX10_sale_126 : decode cX10_sale 126 = .ok (.iload 6, 2) := by decide +kernel
theorem dX10_sale_128 : decode cX10_sale 128 = .ok (.iaload, 1) := by decide +kernel
theorem dX10_sale_129 : decode cX10_sale 129 = .ok (.iload_n 1, 1) := by decide +kernel
theorem dX10_sale_130 : decode cX10_sale 130 = .ok (.if_icmp .ne 7, 3) := by decide +kernel
theorem dX10_sale_133 : decode cX10_sale 133 = .ok (.iconst 1, 1) := by decide +kernel
theorem dX10_sale_134 : decode cX10_sale 134 = .ok (.goto 4, 3) := by decide +kernel
theorem dX10_sale_137 : decode cX10_sale 137 = .ok (.iconst 0, 1) := by decide +kernel
theorem dX10_sale_138 : decode cX10_sale 138 = .ok (.iadd, 1) := by decide +kernel
theorem dX10_sale_139 : decode cX10_sale 139 = .ok (.istore 5, 2) := by decide +kernel
theorem dX10_sale_141 : decode cX10_sale 141 = .ok (.iinc 6 1, 3) := by decide +kernel
theorem dX10_sale_144 : decode cX10_sale 144 = .ok (.goto (-33), 3) := by decide +kernel
theorem dX10_sale_147 : decode cX10_sale 147 = .ok (.iload 5, 2) := by decide +kernel
theorem dX10_sale_149 : decode cX10_sale 149 = .ok (.ireturn, 1) := by decide +kernel
set_option maxRecDepth 20000 in
theorem ggX10_worth_X10_isFind : GoodIn wsX10_worth wsX10_isFind := goodIn_r _ [16, 17, 18, 19, 15, 20, 24, 25, 26, 27, 28, 29, 30, 31, 32, 33, 34, 35, 36, 37, 38, 39, 40, 41, 42, 43, 44, 45, 46, 47, 48, 49, 50, 51, 52, 53, 54, 55, 56, 57, 58, 59, 60, 61] (by decide +kernel) (by decide +kernel)
set_option maxRecDepth 20000 in
theorem gX10_worth_X10_isFind : GoodIn wsX10_worth (wsV RX10 127 RX10 yX10_isFind wsX10_isFind) := goodIn_app (goodIn_of _ (by decide +kernel)) ggX10_worth_X10_isFind
set_option maxRecDepth 20000 in
theorem ggX10_worth_X10_yearOf : GoodIn wsX10_worth wsX10_yearOf := goodIn_r _ [23] (by decide +kernel) (by decide +kernel)
set_option maxRecDepth 20000 in
theorem gX10_worth_X10_yearOf : GoodIn wsX10_worth (va_wsS RX10 148 yX10_yearOf wsX10_yearOf) := goodIn_app (goodIn_of _ (by decide +kernel)) ggX10_worth_X10_yearOf
theorem dX10_worth_0 : decode cX10_worth 0 = .ok (.aload_n 0, 1) := by decide +kernel
theorem dX10_worth_1 : decode cX10_worth 1 = .ok (.iload_n 1, 1) := by decide +kernel
theorem dX10_worth_2 : decode cX10_worth 2 = .ok (.invokevirtual 127, 3) := by decide +kernel
theorem dX10_worth_5 : decode cX10_worth 5 = .ok (.ifCond .ne 5, 3) := by decide +kernel
theorem dX10_worth_8 : decode cX10_worth 8 = .ok (.iconst (-1), 1) := by decide +kernel
theorem dX10_worth_9 : decode cX10_worth 9 = .ok (.ireturn, 1) := by decide +kernel
theorem dX10_worth_10 : decode cX10_worth 10 = .ok (.lconst 0, 1) := by decide +kernel
theorem dX10_worth_11 : decode cX10_worth 11 = .ok (.lstore_n 2, 1) := by decide +kernel
theorem dX10_worth_12 : decode cX10_worth 12 = .ok (.lconst 0, 1) := by decide +kernel
theorem dX10_worth_13 : decode cX10_worth 13 = .ok (.lstore 4, 2) := by decide +kernel
theorem dX10_worth_15 : decode cX10_worth 15 = .ok (.iconst 0, 1) := by decide +kernel
theorem dX10_worth_16 : decode cX10_worth 16 = .ok (.istore 6, 2) := by decide +kernel
theorem dX10_worth_18 : decode cX10_worth 18 = .ok (.iload 6, 2) := by decide +kernel
theorem dX10_worth_20 : decode cX10_worth 20 = .ok (.aload_n 0, 1) := by decide +kernel
theorem dX10_worth_21 : decode cX10_worth 21 = .ok (.getfield 161, 3) := by decide +kernel
theorem dX10_worth_24 : decode cX10_worth 24 = .ok (.if_icmp .ge 91, 3) := by decide +kernel
theorem dX10_worth_27 : decode cX10_worth 27 = .ok (.aload_n 0, 1) := by decide +kernel
theorem dX10_worth_28 : decode cX10_worth 28 = .ok (.getfield 73, 3) := by decide +kernel
theorem dX10_worth_31 : decode cX10_worth 31 = .ok (.iload 6, 2) := by decide +kernel
theorem dX10_worth_33 : decode cX10_worth 33 = .ok (.iaload, 1) := by decide +kernel
theorem dX10_worth_34 : decode cX10_worth 34 = .ok (.aload_n 0, 1) := by decide +kernel
theorem dX10_worth_35 : decode cX10_worth 35 = .ok (.getfield 16, 3) := by decide +kernel
theorem dX10_worth_38 : decode cX10_worth 38 = .ok (.iload_n 1, 1) := by decide +kernel
theorem dX10_worth_39 : decode cX10_worth 39 = .ok (.iaload, 1) := by decide +kernel
theorem dX10_worth_40 : decode cX10_worth 40 = .ok (.if_icmp .eq 6, 3) := by decide +kernel
theorem dX10_worth_43 : decode cX10_worth 43 = .ok (.goto 66, 3) := by decide +kernel
theorem dX10_worth_46 : decode cX10_worth 46 = .ok (.lload_n 2, 1) := by decide +kernel
theorem dX10_worth_47 : decode cX10_worth 47 = .ok (.aload_n 0, 1) := by decide +kernel
theorem dX10_worth_48 : decode cX10_worth 48 = .ok (.getfield 82, 3) := by decide +kernel
theorem dX10_worth_51 : decode cX10_worth 51 = .ok (.iload 6, 2) := by decide +kernel
theorem dX10_worth_53 : decode cX10_worth 53 = .ok (.iaload, 1) := by decide +kernel
theorem dX10_worth_54 : decode cX10_worth 54 = .ok (.i2l, 1) := by decide +kernel
theorem dX10_worth_55 : decode cX10_worth 55 = .ok (.aload_n 0, 1) := by decide +kernel
theorem dX10_worth_56 : decode cX10_worth 56 = .ok (.getfield 70, 3) := by decide +kernel
theorem dX10_worth_59 : decode cX10_worth 59 = .ok (.aload_n 0, 1) := by decide +kernel
theorem dX10_worth_60 : decode cX10_worth 60 = .ok (.getfield 113, 3) := by decide +kernel
theorem dX10_worth_63 : decode cX10_worth 63 = .ok (.invokestatic 148, 3) := by decide +kernel
theorem dX10_worth_66 : decode cX10_worth 66 = .ok (.sipush 1950, 3) := by decide +kernel
theorem dX10_worth_69 : decode cX10_worth 69 = .ok (.isub, 1) := by decide +kernel
theorem dX10_worth_70 : decode cX10_worth 70 = .ok (.iaload, 1) := by decide +kernel
theorem dX10_worth_71 : decode cX10_worth 71 = .ok (.i2l, 1) := by decide +kernel
theorem dX10_worth_72 : decode cX10_worth 72 = .ok (.lmul, 1) := by decide +kernel
theorem dX10_worth_73 : decode cX10_worth 73 = .ok (.aload_n 0, 1) := by decide +kernel
theorem dX10_worth_74 : decode cX10_worth 74 = .ok (.getfield 70, 3) := by decide +kernel
theorem dX10_worth_77 : decode cX10_worth 77 = .ok (.aload_n 0, 1) := by decide +kernel
theorem dX10_worth_78 : decode cX10_worth 78 = .ok (.getfield 76, 3) := by decide +kernel
theorem dX10_worth_81 : decode cX10_worth 81 = .ok (.iload 6, 2) := by decide +kernel
theorem dX10_worth_83 : decode cX10_worth 83 = .ok (.iaload, 1) := by decide +kernel
theorem dX10_worth_84 : decode cX10_worth 84 = .ok (.invokestatic 148, 3) := by decide +kernel
theorem dX10_worth_87 : decode cX10_worth 87 = .ok (.sipush 1950, 3) := by decide +kernel
theorem dX10_worth_90 : decode cX10_worth 90 = .ok (.isub, 1) := by decide +kernel
theorem dX10_worth_91 : decode cX10_worth 91 = .ok (.iaload, 1) := by decide +kernel
theorem dX10_worth_92 : decode cX10_worth 92 = .ok (.i2l, 1) := by decide +kernel
theorem dX10_worth_93 : decode cX10_worth 93 = .ok (.ldiv, 1) := by decide +kernel
theorem dX10_worth_94 : decode cX10_worth 94 = .ok (.ladd, 1) := by decide +kernel
theorem dX10_worth_95 : decode cX10_worth 95 = .ok (.lstore_n 2, 1) := by decide +kernel
theorem dX10_worth_96 : decode cX10_worth 96 = .ok (.lload 4, 2) := by decide +kernel
theorem dX10_worth_98 : decode cX10_worth 98 = .ok (.aload_n 0, 1) := by decide +kernel
theorem dX10_worth_99 : decode cX10_worth 99 = .ok (.getfield 79, 3) := by decide +kernel
theorem dX10_worth_102 : decode cX10_worth 102 = .ok (.iload 6, 2) := by decide +kernel
theorem dX10_worth_104 : decode cX10_worth 104 = .ok (.iaload, 1) := by decide +kernel
theorem dX10_worth_105 : decode cX10_worth 105 = .ok (.i2l, 1) := by decide +kernel
theorem dX10_worth_106 : decode cX10_worth 106 = .ok (.ladd, 1) := by decide +kernel
theorem dX10_worth_107 : decode cX10_worth 107 = .ok (.lstore 4, 2) := by decide +kernel
theorem dX10_worth_109 : decode cX10_worth 109 = .ok (.iinc 6 1, 3) := by decide +kernel
theorem dX10_worth_112 : decode cX10_worth 112 = .ok (.goto (-94), 3) := by decide +kernel
theorem dX10_worth_115 : decode cX10_worth 115 = .ok (.lload 4, 2) := by decide +kernel
theorem dX10_worth_117 : decode cX10_worth 117 = .ok (.lconst 0, 1) := by decide +kernel
theorem dX10_worth_118 : decode cX10_worth 118 = .ok (.lcmp, 1) := by decide +kernel
theorem dX10_worth_119 : decode cX10_worth 119 = .ok (.ifCond .ne 5, 3) := by decide +kernel
theorem dX10_worth_122 : decode cX10_worth 122 = .ok (.iconst 0, 1) := by decide +kernel
theorem dX10_worth_123 : decode cX10_worth 123 = .ok (.ireturn, 1) := by decide +kernel
theorem dX10_worth_124 : decode cX10_worth 124 = .ok (.lload_n 2, 1) := by decide +kernel
theorem dX10_worth_125 : decode cX10_worth 125 = .ok (.aload_n 0, 1) := by decide +kernel
theorem dX10_worth_126 : decode cX10_worth 126 = .ok (.getfield 22, 3) := by decide +kernel
theorem dX10_worth_129 : decode cX10_worth 129 = .ok (.iload_n 1, 1) := by decide +kernel
theorem dX10_worth_130 : decode cX10_worth 130 = .ok (.iaload, 1) := by decide +kernel
theorem dX10_worth_131 : decode cX10_worth 131 = .ok (.i2l, 1) := by decide +kernel
theorem dX10_worth_132 : decode cX10_worth 132 = .ok (.lmul, 1) := by decide +kernel
theorem dX10_worth_133 : decode cX10_worth 133 = .ok (.lload 4, 2) := by decide +kernel
theorem dX10_worth_135 : decode cX10_worth 135 = .ok (.ldiv, 1) := by decide +kernel
theorem dX10_worth_136 : decode cX10_worth 136 = .ok (.lstore 6, 2) := by decide +kernel
theorem dX10_worth_138 : decode cX10_worth 138 = .ok (.lload 6, 2) := by decide +kernel
theorem dX10_worth_140 : decode cX10_worth 140 = .ok (.ldc2_w 164, 3) := by decide +kernel
theorem dX10_worth_143 : decode cX10_worth 143 = .ok (.lcmp, 1) := by decide +kernel
theorem dX10_worth_144 : decode cX10_worth 144 = .ok (.ifCond .le 8, 3) := by decide +kernel
theorem dX10_worth_147 : decode cX10_worth 147 = .ok (.ldc 105, 2) := by decide +kernel
theorem dX10_worth_149 : decode cX10_worth 149 = .ok (.goto 6, 3) := by decide +kernel
theorem dX10_worth_152 : decode cX10_worth 152 = .ok (.lload 6, 2) := by decide +kernel
theorem dX10_worth_154 : decode cX10_worth 154 = .ok (.l2i, 1) := by decide +kernel
theorem dX10_worth_155 : decode cX10_worth 155 = .ok (.ireturn, 1) := by decide +kernel
set_option maxRecDepth 20000 in
theorem ggX10_share_X10_isFind : GoodIn wsX10_share wsX10_isFind := goodIn_r _ [9, 10, 11, 12, 8, 13, 84, 85, 86, 87, 88, 89, 90, 91, 92, 93, 94, 95, 96, 97, 98, 99, 100, 101, 102, 103, 104, 105, 106, 107, 108, 109, 110, 111, 112, 113, 114, 115, 116, 117, 118, 119, 120, 121] (by decide +kernel) (by decide +kernel)
set_option maxRecDepth 20000 in
theorem gX10_share_X10_isFind : GoodIn wsX10_share (wsV RX10 127 RX10 yX10_isFind wsX10_isFind) := goodIn_app (goodIn_of _ (by decide +kernel)) ggX10_share_X10_isFind
set_option maxRecDepth 20000 in
theorem ggX10_share_X10_isPerson : GoodIn wsX10_share wsX10_isPerson := goodIn_r _ [16, 11, 12, 8, 13] (by decide +kernel) (by decide +kernel)
set_option maxRecDepth 20000 in
theorem gX10_share_X10_isPerson : GoodIn wsX10_share (va_wsS RX10 119 yX10_isPerson wsX10_isPerson) := goodIn_app (goodIn_of _ (by decide +kernel)) ggX10_share_X10_isPerson
set_option maxRecDepth 20000 in
theorem ggX10_share_X10_counts : GoodIn wsX10_share wsX10_counts := goodIn_r _ [20, 21, 22, 23, 24, 8, 25, 2, 26, 27, 28, 29, 30, 31, 32, 33, 34, 35, 36, 5, 6, 7, 9, 10, 11, 12, 13, 37, 38, 39, 40, 41, 42, 43, 44, 45, 46, 47, 48, 49, 50, 51, 52, 53, 54, 55, 56, 57, 58, 84, 85, 86, 87, 88, 89, 90, 91, 92, 93, 94, 95, 96, 97, 98, 99, 100, 101, 102, 103, 104, 105, 106, 107, 108, 109, 110, 111, 112, 113, 114, 115, 116, 117, 118, 119, 120, 121] (by decide +kernel) (by decide +kernel)
set_option maxRecDepth 20000 in
theorem gX10_share_X10_counts : GoodIn wsX10_share (wsV RX10 166 RX10 yX10_counts wsX10_counts) := goodIn_app (goodIn_of _ (by decide +kernel)) ggX10_share_X10_counts
set_option maxRecDepth 20000 in
theorem ggX10_share_X10_worth : GoodIn wsX10_share wsX10_worth := goodIn_r _ [62, 63, 64, 28, 65, 66, 21, 67, 68, 69, 70, 71, 5, 6, 7, 8, 9, 10, 11, 12, 13, 43, 44, 45, 84, 85, 86, 87, 88, 89, 90, 91, 92, 93, 94, 95, 96, 97, 98, 99, 100, 101, 102, 103, 104, 105, 106, 107, 108, 109, 110, 111, 112, 113, 114, 115, 116, 117, 118, 119, 120, 121] (by decide +kernel) (by decide +kernel)
set_option maxRecDepth 20000 in
theorem gX10_share_X10_worth : GoodIn wsX10_share (wsV RX10 169 RX10 yX10_worth wsX10_worth) := goodIn_app (goodIn_of _ (by decide +kernel)) ggX10_share_X10_worth
set_option maxRecDepth 20000 in
theorem ggX10_share_X10_lawOf : GoodIn wsX10_share wsX10_lawOf := goodIn_r _ [40, 41, 42, 84, 85, 86, 87, 88, 89, 90, 91, 92, 93, 94, 95, 96, 97, 98, 99, 100, 101, 102, 103, 104, 105, 106, 107, 108, 109, 110, 111, 112, 113, 114, 115, 116, 117, 118, 119, 120, 121] (by decide +kernel) (by decide +kernel)
set_option maxRecDepth 20000 in
theorem gX10_share_X10_lawOf : GoodIn wsX10_share (wsV RX10 144 RX10 yX10_lawOf wsX10_lawOf) := goodIn_app (goodIn_of _ (by decide +kernel)) ggX10_share_X10_lawOf
set_option maxRecDepth 20000 in
theorem ggX10_share_X10_ownerOf : GoodIn wsX10_share wsX10_ownerOf := goodIn_r _ [75, 55, 56, 2, 76, 77, 78, 8, 79, 80, 81, 82, 83, 84, 85, 86, 87, 88, 89, 90, 91, 92, 93, 94, 95, 96, 97, 98, 99, 100, 101, 102, 103, 104, 105, 106, 107, 108, 109, 110, 111, 112, 113, 114, 115, 116, 117, 118, 119, 120, 121] (by decide +kernel) (by decide +kernel)
set_option maxRecDepth 20000 in
theorem gX10_share_X10_ownerOf : GoodIn wsX10_share (wsV RX10 158 RX10 yX10_ownerOf wsX10_ownerOf) := goodIn_app (goodIn_of _ (by decide +kernel)) ggX10_share_X10_ownerOf
theorem dX10_share_0 : decode cX10_share 0 = .ok (.aload_n 0, 1) := by decide +kernel
theorem dX10_share_1 : decode cX10_share 1 = .ok (.iload_n 1, 1) := by decide +kernel
theorem dX10_share_2 : decode cX10_share 2 = .ok (.invokevirtual 127, 3) := by decide +kernel
theorem dX10_share_5 : decode cX10_share 5 = .ok (.ifCond .eq 18, 3) := by decide +kernel
theorem dX10_share_8 : decode cX10_share 8 = .ok (.iload_n 2, 1) := by decide +kernel
theorem dX10_share_9 : decode cX10_share 9 = .ok (.invokestatic 119, 3) := by decide +kernel
theorem dX10_share_12 : decode cX10_share 12 = .ok (.ifCond .eq 11, 3) := by decide +kernel
theorem dX10_share_15 : decode cX10_share 15 = .ok (.aload_n 0, 1) := by decide +kernel
theorem dX10_share_16 : decode cX10_share 16 = .ok (.iload_n 1, 1) := by decide +kernel
theorem dX10_share_17 : decode cX10_share 17 = .ok (.invokevirtual 166, 3) := by decide +kernel
theorem dX10_share_20 : decode cX10_share 20 = .ok (.ifCond .ne 5, 3) := by decide +kernel
theorem dX10_share_23 : decode cX10_share 23 = .ok (.iconst 0, 1) := by decide +kernel
theorem dX10_share_24 : decode cX10_share 24 = .ok (.ireturn, 1) := by decide +kernel
theorem dX10_share_25 : decode cX10_share 25 = .ok (.aload_n 0, 1) := by decide +kernel
theorem dX10_share_26 : decode cX10_share 26 = .ok (.iload_n 1, 1) := by decide +kernel
theorem dX10_share_27 : decode cX10_share 27 = .ok (.invokevirtual 169, 3) := by decide +kernel
theorem dX10_share_30 : decode cX10_share 30 = .ok (.istore_n 3, 1) := by decide +kernel
theorem dX10_share_31 : decode cX10_share 31 = .ok (.iload_n 3, 1) := by decide +kernel
theorem dX10_share_32 : decode cX10_share 32 = .ok (.i2l, 1) := by decide +kernel
theorem dX10_share_33 : decode cX10_share 33 = .ok (.aload_n 0, 1) := by decide +kernel
theorem dX10_share_34 : decode cX10_share 34 = .ok (.getfield 55, 3) := by decide +kernel
theorem dX10_share_37 : decode cX10_share 37 = .ok (.aload_n 0, 1) := by decide +kernel
theorem dX10_share_38 : decode cX10_share 38 = .ok (.aload_n 0, 1) := by decide +kernel
theorem dX10_share_39 : decode cX10_share 39 = .ok (.getfield 34, 3) := by decide +kernel
theorem dX10_share_42 : decode cX10_share 42 = .ok (.iload_n 1, 1) := by decide +kernel
theorem dX10_share_43 : decode cX10_share 43 = .ok (.iaload, 1) := by decide +kernel
theorem dX10_share_44 : decode cX10_share 44 = .ok (.invokevirtual 144, 3) := by decide +kernel
theorem dX10_share_47 : decode cX10_share 47 = .ok (.iaload, 1) := by decide +kernel
theorem dX10_share_48 : decode cX10_share 48 = .ok (.i2l, 1) := by decide +kernel
theorem dX10_share_49 : decode cX10_share 49 = .ok (.lmul, 1) := by decide +kernel
theorem dX10_share_50 : decode cX10_share 50 = .ok (.ldc2_w 172, 3) := by decide +kernel
theorem dX10_share_53 : decode cX10_share 53 = .ok (.ldiv, 1) := by decide +kernel
theorem dX10_share_54 : decode cX10_share 54 = .ok (.l2i, 1) := by decide +kernel
theorem dX10_share_55 : decode cX10_share 55 = .ok (.istore 4, 2) := by decide +kernel
theorem dX10_share_57 : decode cX10_share 57 = .ok (.aload_n 0, 1) := by decide +kernel
theorem dX10_share_58 : decode cX10_share 58 = .ok (.getfield 31, 3) := by decide +kernel
theorem dX10_share_61 : decode cX10_share 61 = .ok (.iload_n 1, 1) := by decide +kernel
theorem dX10_share_62 : decode cX10_share 62 = .ok (.iaload, 1) := by decide +kernel
theorem dX10_share_63 : decode cX10_share 63 = .ok (.iload_n 2, 1) := by decide +kernel
theorem dX10_share_64 : decode cX10_share 64 = .ok (.if_icmp .ne 8, 3) := by decide +kernel
theorem dX10_share_67 : decode cX10_share 67 = .ok (.iload 4, 2) := by decide +kernel
theorem dX10_share_69 : decode cX10_share 69 = .ok (.goto 4, 3) := by decide +kernel
theorem dX10_share_72 : decode cX10_share 72 = .ok (.iconst 0, 1) := by decide +kernel
theorem dX10_share_73 : decode cX10_share 73 = .ok (.aload_n 0, 1) := by decide +kernel
theorem dX10_share_74 : decode cX10_share 74 = .ok (.iload_n 1, 1) := by decide +kernel
theorem dX10_share_75 : decode cX10_share 75 = .ok (.invokevirtual 158, 3) := by decide +kernel
theorem dX10_share_78 : decode cX10_share 78 = .ok (.iload_n 2, 1) := by decide +kernel
theorem dX10_share_79 : decode cX10_share 79 = .ok (.if_icmp .ne 10, 3) := by decide +kernel
theorem dX10_share_82 : decode cX10_share 82 = .ok (.iload_n 3, 1) := by decide +kernel
theorem dX10_share_83 : decode cX10_share 83 = .ok (.iload 4, 2) := by decide +kernel
theorem dX10_share_85 : decode cX10_share 85 = .ok (.isub, 1) := by decide +kernel
theorem dX10_share_86 : decode cX10_share 86 = .ok (.goto 4, 3) := by decide +kernel
theorem dX10_share_89 : decode cX10_share 89 = .ok (.iconst 0, 1) := by decide +kernel
theorem dX10_share_90 : decode cX10_share 90 = .ok (.iadd, 1) := by decide +kernel
theorem dX10_share_91 : decode cX10_share 91 = .ok (.ireturn, 1) := by decide +kernel
set_option maxRecDepth 20000 in
theorem ggX10_due_X10_isPerson : GoodIn wsX10_due wsX10_isPerson := goodIn_r _ [6, 7, 8, 5, 9] (by decide +kernel) (by decide +kernel)
set_option maxRecDepth 20000 in
theorem gX10_due_X10_isPerson : GoodIn wsX10_due (va_wsS RX10 119 yX10_isPerson wsX10_isPerson) := goodIn_app (goodIn_of _ (by decide +kernel)) ggX10_due_X10_isPerson
set_option maxRecDepth 20000 in
theorem ggX10_due_X10_share : GoodIn wsX10_due wsX10_share := goodIn_r _ [13, 14, 15, 16, 17, 18, 19, 20, 5, 21, 2, 7, 8, 9, 3, 4, 6, 22, 23, 24, 25, 26, 27, 28, 29, 30, 31, 32, 33, 34, 35, 36, 37, 38, 39, 40, 41, 42, 43, 44, 45, 46, 47, 48, 49, 50, 51, 52, 53, 54, 55, 56, 57, 58, 59, 60, 61, 62, 63, 64, 65, 66, 67, 68, 69, 70, 71, 72, 73, 74, 75, 76, 77, 78, 79, 80, 81, 82, 83, 84, 85, 86, 87, 88, 89, 90, 91, 92, 93, 94, 95, 96, 97, 98, 99, 100, 101, 102, 103, 104, 105, 106, 107, 108, 109, 110, 111, 112, 113, 114, 115, 116, 117, 118, 119, 120, 121, 122, 123, 124, 125, 126] (by decide +kernel) (by decide +kernel)
set_option maxRecDepth 20000 in
theorem gX10_due_X10_share : GoodIn wsX10_due (wsV RX10 174 RX10 yX10_share wsX10_share) := goodIn_app (goodIn_of _ (by decide +kernel)) ggX10_due_X10_share
theorem dX10_due_0 : decode cX10_due 0 = .ok (.iload_n 1, 1) := by decide +kernel
theorem dX10_due_1 : decode cX10_due 1 = .ok (.invokestatic 119, 3) := by decide +kernel
theorem dX10_due_4 : decode cX10_due 4 = .ok (.ifCond .ne 5, 3) := by decide +kernel
theorem dX10_due_7 : decode cX10_due 7 = .ok (.iconst 0, 1) := by decide +kernel
theorem dX10_due_8 : decode cX10_due 8 = .ok (.ireturn, 1) := by decide +kernel
theorem dX10_due_9 : decode cX10_due 9 = .ok (.aload_n 0, 1) := by decide +kernel
theorem dX10_due_10 : decode cX10_due 10 = .ok (.getfield 85, 3) := by decide +kernel
theorem dX10_due_13 : decode cX10_due 13 = .ok (.iload_n 1, 1) := by decide +kernel
theorem dX10_due_14 : decode cX10_due 14 = .ok (.iaload, 1) := by decide +kernel
theorem dX10_due_15 : decode cX10_due 15 = .ok (.ineg, 1) := by decide +kernel
theorem dX10_due_16 : decode cX10_due 16 = .ok (.istore_n 2, 1) := by decide +kernel
theorem dX10_due_17 : decode cX10_due 17 = .ok (.iconst 0, 1) := by decide +kernel
theorem dX10_due_18 : decode cX10_due 18 = .ok (.istore_n 3, 1) := by decide +kernel
theorem dX10_due_19 : decode cX10_due 19 = .ok (.iload_n 3, 1) := by decide +kernel
theorem dX10_due_20 : decode cX10_due 20 = .ok (.aload_n 0, 1) := by decide +kernel
theorem dX10_due_21 : decode cX10_due 21 = .ok (.getfield 106, 3) := by decide +kernel
theorem dX10_due_24 : decode cX10_due 24 = .ok (.if_icmp .ge 18, 3) := by decide +kernel
theorem dX10_due_27 : decode cX10_due 27 = .ok (.iload_n 2, 1) := by decide +kernel
theorem dX10_due_28 : decode cX10_due 28 = .ok (.aload_n 0, 1) := by decide +kernel
theorem dX10_due_29 : decode cX10_due 29 = .ok (.iload_n 3, 1) := by decide +kernel
theorem dX10_due_30 : decode cX10_due 30 = .ok (.iload_n 1, 1) := by decide +kernel
theorem dX10_due_31 : decode cX10_due 31 = .ok (.invokevirtual 174, 3) := by decide +kernel
theorem dX10_due_34 : decode cX10_due 34 = .ok (.iadd, 1) := by decide +kernel
theorem dX10_due_35 : decode cX10_due 35 = .ok (.istore_n 2, 1) := by decide +kernel
theorem dX10_due_36 : decode cX10_due 36 = .ok (.iinc 3 1, 3) := by decide +kernel
theorem dX10_due_39 : decode cX10_due 39 = .ok (.goto (-20), 3) := by decide +kernel
theorem dX10_due_42 : decode cX10_due 42 = .ok (.iload_n 2, 1) := by decide +kernel
theorem dX10_due_43 : decode cX10_due 43 = .ok (.ireturn, 1) := by decide +kernel
set_option maxRecDepth 20000 in
theorem ggX10_settle_X10_due : GoodIn wsX10_settle wsX10_due := goodIn_r _ [6, 1, 7, 8, 9, 5, 10, 11, 12, 13, 14, 15, 16, 17, 18, 19, 20, 21, 22, 23, 24, 25, 26, 27, 28, 29, 30, 31, 32, 33, 34, 35, 36, 37, 38, 39, 40, 41, 42, 43, 44, 45, 46, 47, 48, 49, 50, 51, 52, 53, 54, 55, 56, 57, 58, 59, 60, 61, 62, 63, 64, 65, 66, 67, 68, 69, 70, 71, 72, 73, 74, 75, 76, 77, 78, 79, 80, 81, 82, 83, 84, 85, 86, 87, 88, 89, 90, 91, 92, 93, 94, 95, 96, 97, 98, 99, 100, 101, 102, 103, 104, 105, 106, 107, 108, 109, 110, 111, 112, 113, 114, 115, 116, 117, 118, 119, 120, 121, 122, 123, 124, 125, 126, 127, 128, 129, 130] (by decide +kernel) (by decide +kernel)
set_option maxRecDepth 20000 in
theorem gX10_settle_X10_due : GoodIn wsX10_settle (wsV RX10 177 RX10 yX10_due wsX10_due) := goodIn_app (goodIn_of _ (by decide +kernel)) ggX10_settle_X10_due
set_option maxRecDepth 20000 in
theorem ggX10_settle_X10_isPerson : GoodIn wsX10_settle wsX10_isPerson := goodIn_r _ [10, 11, 12, 5, 13] (by decide +kernel) (by decide +kernel)
set_option maxRecDepth 20000 in
theorem gX10_settle_X10_isPerson : GoodIn wsX10_settle (va_wsS RX10 119 yX10_isPerson wsX10_isPerson) := goodIn_app (goodIn_of _ (by decide +kernel)) ggX10_settle_X10_isPerson
theorem dX10_settle_0 : decode cX10_settle 0 = .ok (.aload_n 0, 1) := by decide +kernel
theorem dX10_settle_1 : decode cX10_settle 1 = .ok (.iload_n 1, 1) := by decide +kernel
theorem dX10_settle_2 : decode cX10_settle 2 = .ok (.invokevirtual 177, 3) := by decide +kernel
theorem dX10_settle_5 : decode cX10_settle 5 = .ok (.istore_n 2, 1) := by decide +kernel
theorem dX10_settle_6 : decode cX10_settle 6 = .ok (.iload_n 1, 1) := by decide +kernel
theorem dX10_settle_7 : decode cX10_settle 7 = .ok (.invokestatic 119, 3) := by decide +kernel
theorem dX10_settle_10 : decode cX10_settle 10 = .ok (.ifCond .eq 13, 3) := by decide +kernel
theorem dX10_settle_13 : decode cX10_settle 13 = .ok (.aload_n 0, 1) := by decide +kernel
theorem dX10_settle_14 : decode cX10_settle 14 = .ok (.getfield 85, 3) := by decide +kernel
theorem dX10_settle_17 : decode cX10_settle 17 = .ok (.iload_n 1, 1) := by decide +kernel
theorem dX10_settle_18 : decode cX10_settle 18 = .ok (.dup2, 1) := by decide +kernel
theorem dX10_settle_19 : decode cX10_settle 19 = .ok (.iaload, 1) := by decide +kernel
theorem dX10_settle_20 : decode cX10_settle 20 = .ok (.iload_n 2, 1) := by decide +kernel
theorem dX10_settle_21 : decode cX10_settle 21 = .ok (.iadd, 1) := by decide +kernel
theorem dX10_settle_22 : decode cX10_settle 22 = .ok (.iastore, 1) := by decide +kernel
theorem dX10_settle_23 : decode cX10_settle 23 = .ok (.iload_n 2, 1) := by decide +kernel
theorem dX10_settle_24 : decode cX10_settle 24 = .ok (.ireturn, 1) := by decide +kernel
set_option maxRecDepth 20000 in
theorem ggX10_paid_X10_isPerson : GoodIn wsX10_paid wsX10_isPerson := goodIn_r _ [5, 6, 7, 4, 8] (by decide +kernel) (by decide +kernel)
set_option maxRecDepth 20000 in
theorem gX10_paid_X10_isPerson : GoodIn wsX10_paid (va_wsS RX10 119 yX10_isPerson wsX10_isPerson) := goodIn_app (goodIn_of _ (by decide +kernel)) ggX10_paid_X10_isPerson
theorem dX10_paid_0 : decode cX10_paid 0 = .ok (.iload_n 1, 1) := by decide +kernel
theorem dX10_paid_1 : decode cX10_paid 1 = .ok (.invokestatic 119, 3) := by decide +kernel
theorem dX10_paid_4 : decode cX10_paid 4 = .ok (.ifCond .eq 12, 3) := by decide +kernel
theorem dX10_paid_7 : decode cX10_paid 7 = .ok (.aload_n 0, 1) := by decide +kernel
theorem dX10_paid_8 : decode cX10_paid 8 = .ok (.getfield 85, 3) := by decide +kernel
theorem dX10_paid_11 : decode cX10_paid 11 = .ok (.iload_n 1, 1) := by decide +kernel
theorem dX10_paid_12 : decode cX10_paid 12 = .ok (.iaload, 1) := by decide +kernel
theorem dX10_paid_13 : decode cX10_paid 13 = .ok (.goto 4, 3) := by decide +kernel
theorem dX10_paid_16 : decode cX10_paid 16 = .ok (.iconst 0, 1) := by decide +kernel
theorem dX10_paid_17 : decode cX10_paid 17 = .ok (.ireturn, 1) := by decide +kernel
theorem dX10_wide_0 : decode cX10_wide 0 = .ok (.iload_n 0, 1) := by decide +kernel
theorem dX10_wide_1 : decode cX10_wide 1 = .ok (.ifCond .ne 9, 3) := by decide +kernel
theorem dX10_wide_4 : decode cX10_wide 4 = .ok (.sipush 500, 3) := by decide +kernel
theorem dX10_wide_7 : decode cX10_wide 7 = .ok (.goto 24, 3) := by decide +kernel
theorem dX10_wide_10 : decode cX10_wide 10 = .ok (.iload_n 0, 1) := by decide +kernel
theorem dX10_wide_11 : decode cX10_wide 11 = .ok (.iconst 1, 1) := by decide +kernel
theorem dX10_wide_12 : decode cX10_wide 12 = .ok (.if_icmp .ne 8, 3) := by decide +kernel
theorem dX10_wide_15 : decode cX10_wide 15 = .ok (.bipush 100, 2) := by decide +kernel
theorem dX10_wide_17 : decode cX10_wide 17 = .ok (.goto 14, 3) := by decide +kernel
theorem dX10_wide_20 : decode cX10_wide 20 = .ok (.iload_n 0, 1) := by decide +kernel
theorem dX10_wide_21 : decode cX10_wide 21 = .ok (.iconst 2, 1) := by decide +kernel
theorem dX10_wide_22 : decode cX10_wide 22 = .ok (.if_icmp .ne 8, 3) := by decide +kernel
theorem dX10_wide_25 : decode cX10_wide 25 = .ok (.bipush 10, 2) := by decide +kernel
theorem dX10_wide_27 : decode cX10_wide 27 = .ok (.goto 4, 3) := by decide +kernel
theorem dX10_wide_30 : decode cX10_wide 30 = .ok (.iconst 1, 1) := by decide +kernel
theorem dX10_wide_31 : decode cX10_wide 31 = .ok (.ireturn, 1) := by decide +kernel
set_option maxRecDepth 20000 in
theorem ggX10_place_X10_isFind : GoodIn wsX10_place wsX10_isFind := goodIn_r _ [7, 8, 9, 10, 6, 11, 15, 16, 17, 18, 19, 20, 21, 22, 23, 24, 25, 26, 27, 28, 29, 30, 31, 32, 33, 34, 35, 36, 37, 38, 39, 40, 41, 42, 43, 44, 45, 46, 47, 48, 49, 50, 51, 52] (by decide +kernel) (by decide +kernel)
set_option maxRecDepth 20000 in
theorem gX10_place_X10_isFind : GoodIn wsX10_place (wsV RX10 127 RX10 yX10_isFind wsX10_isFind) := goodIn_app (goodIn_of _ (by decide +kernel)) ggX10_place_X10_isFind
set_option maxRecDepth 20000 in
theorem ggX10_place_X10_in : GoodIn wsX10_place wsX10_in := goodIn_r _ [11] (by decide +kernel) (by decide +kernel)
set_option maxRecDepth 20000 in
theorem gX10_place_X10_in : GoodIn wsX10_place (va_wsS RX10 109 yX10_in wsX10_in) := goodIn_app (goodIn_of _ (by decide +kernel)) ggX10_place_X10_in
set_option maxRecDepth 20000 in
theorem ggX10_place_X10_wide : GoodIn wsX10_place wsX10_wide := goodIn_r _ [14] (by decide +kernel) (by decide +kernel)
set_option maxRecDepth 20000 in
theorem gX10_place_X10_wide : GoodIn wsX10_place (va_wsS RX10 180 yX10_wide wsX10_wide) := goodIn_app (goodIn_of _ (by decide +kernel)) ggX10_place_X10_wide
theorem dX10_place_0 : decode cX10_place 0 = .ok (.aload_n 0, 1) := by decide +kernel
theorem dX10_place_1 : decode cX10_place 1 = .ok (.iload_n 1, 1) := by decide +kernel
theorem dX10_place_2 : decode cX10_place 2 = .ok (.invokevirtual 127, 3) := by decide +kernel
theorem dX10_place_5 : decode cX10_place 5 = .ok (.ifCond .eq 12, 3) := by decide +kernel
theorem dX10_place_8 : decode cX10_place 8 = .ok (.iload_n 2, 1) := by decide +kernel
theorem dX10_place_9 : decode cX10_place 9 = .ok (.iconst 0, 1) := by decide +kernel
theorem dX10_place_10 : decode cX10_place 10 = .ok (.iconst 3, 1) := by decide +kernel
theorem dX10_place_11 : decode cX10_place 11 = .ok (.invokestatic 109, 3) := by decide +kernel
theorem dX10_place_14 : decode cX10_place 14 = .ok (.ifCond .ne 5, 3) := by decide +kernel
theorem dX10_place_17 : decode cX10_place 17 = .ok (.iconst (-1), 1) := by decide +kernel
theorem dX10_place_18 : decode cX10_place 18 = .ok (.ireturn, 1) := by decide +kernel
theorem dX10_place_19 : decode cX10_place 19 = .ok (.iload_n 2, 1) := by decide +kernel
theorem dX10_place_20 : decode cX10_place 20 = .ok (.invokestatic 180, 3) := by decide +kernel
theorem dX10_place_23 : decode cX10_place 23 = .ok (.istore_n 3, 1) := by decide +kernel
theorem dX10_place_24 : decode cX10_place 24 = .ok (.aload_n 0, 1) := by decide +kernel
theorem dX10_place_25 : decode cX10_place 25 = .ok (.getfield 9, 3) := by decide +kernel
theorem dX10_place_28 : decode cX10_place 28 = .ok (.iload_n 1, 1) := by decide +kernel
theorem dX10_place_29 : decode cX10_place 29 = .ok (.iaload, 1) := by decide +kernel
theorem dX10_place_30 : decode cX10_place 30 = .ok (.aload_n 0, 1) := by decide +kernel
theorem dX10_place_31 : decode cX10_place 31 = .ok (.getfield 9, 3) := by decide +kernel
theorem dX10_place_34 : decode cX10_place 34 = .ok (.iload_n 1, 1) := by decide +kernel
theorem dX10_place_35 : decode cX10_place 35 = .ok (.iaload, 1) := by decide +kernel
theorem dX10_place_36 : decode cX10_place 36 = .ok (.iload_n 3, 1) := by decide +kernel
theorem dX10_place_37 : decode cX10_place 37 = .ok (.irem, 1) := by decide +kernel
theorem dX10_place_38 : decode cX10_place 38 = .ok (.isub, 1) := by decide +kernel
theorem dX10_place_39 : decode cX10_place 39 = .ok (.sipush 1000, 3) := by decide +kernel
theorem dX10_place_42 : decode cX10_place 42 = .ok (.imul, 1) := by decide +kernel
theorem dX10_place_43 : decode cX10_place 43 = .ok (.aload_n 0, 1) := by decide +kernel
theorem dX10_place_44 : decode cX10_place 44 = .ok (.getfield 13, 3) := by decide +kernel
theorem dX10_place_47 : decode cX10_place 47 = .ok (.iload_n 1, 1) := by decide +kernel
theorem dX10_place_48 : decode cX10_place 48 = .ok (.iaload, 1) := by decide +kernel
theorem dX10_place_49 : decode cX10_place 49 = .ok (.iadd, 1) := by decide +kernel
theorem dX10_place_50 : decode cX10_place 50 = .ok (.aload_n 0, 1) := by decide +kernel
theorem dX10_place_51 : decode cX10_place 51 = .ok (.getfield 13, 3) := by decide +kernel
theorem dX10_place_54 : decode cX10_place 54 = .ok (.iload_n 1, 1) := by decide +kernel
theorem dX10_place_55 : decode cX10_place 55 = .ok (.iaload, 1) := by decide +kernel
theorem dX10_place_56 : decode cX10_place 56 = .ok (.iload_n 3, 1) := by decide +kernel
theorem dX10_place_57 : decode cX10_place 57 = .ok (.irem, 1) := by decide +kernel
theorem dX10_place_58 : decode cX10_place 58 = .ok (.isub, 1) := by decide +kernel
theorem dX10_place_59 : decode cX10_place 59 = .ok (.ireturn, 1) := by decide +kernel
set_option maxRecDepth 20000 in
theorem ggX10_within_X10_in : GoodIn wsX10_within wsX10_in := goodIn_r _ [8] (by decide +kernel) (by decide +kernel)
set_option maxRecDepth 20000 in
theorem gX10_within_X10_in : GoodIn wsX10_within (va_wsS RX10 109 yX10_in wsX10_in) := goodIn_app (goodIn_of _ (by decide +kernel)) ggX10_within_X10_in
set_option maxRecDepth 20000 in
theorem ggX10_within_X10_wide : GoodIn wsX10_within wsX10_wide := goodIn_r _ [11] (by decide +kernel) (by decide +kernel)
set_option maxRecDepth 20000 in
theorem gX10_within_X10_wide : GoodIn wsX10_within (va_wsS RX10 180 yX10_wide wsX10_wide) := goodIn_app (goodIn_of _ (by decide +kernel)) ggX10_within_X10_wide
theorem dX10_within_0 : decode cX10_within 0 = .ok (.iload_n 3, 1) := by decide +kernel
theorem dX10_within_1 : decode cX10_within 1 = .ok (.iconst 0, 1) := by decide +kernel
theorem dX10_within_2 : decode cX10_within 2 = .ok (.iconst 3, 1) := by decide +kernel
theorem dX10_within_3 : decode cX10_within 3 = .ok (.invokestatic 109, 3) := by decide +kernel
theorem dX10_within_6 : decode cX10_within 6 = .ok (.ifCond .eq 23, 3) := by decide +kernel
theorem dX10_within_9 : decode cX10_within 9 = .ok (.iload_n 1, 1) := by decide +kernel
theorem dX10_within_10 : decode cX10_within 10 = .ok (.iconst 0, 1) := by decide +kernel
theorem dX10_within_11 : decode cX10_within 11 = .ok (.ldc 183, 2) := by decide +kernel
theorem dX10_within_13 : decode cX10_within 13 = .ok (.invokestatic 109, 3) := by decide +kernel
theorem dX10_within_16 : decode cX10_within 16 = .ok (.ifCond .eq 13, 3) := by decide +kernel
theorem dX10_within_19 : decode cX10_within 19 = .ok (.iload_n 2, 1) := by decide +kernel
theorem dX10_within_20 : decode cX10_within 20 = .ok (.iconst 0, 1) := by decide +kernel
theorem dX10_within_21 : decode cX10_within 21 = .ok (.ldc 183, 2) := by decide +kernel
theorem dX10_within_23 : decode cX10_within 23 = .ok (.invokestatic 109, 3) := by decide +kernel
theorem dX10_within_26 : decode cX10_within 26 = .ok (.ifCond .ne 5, 3) := by decide +kernel
theorem dX10_within_29 : decode cX10_within 29 = .ok (.iconst (-1), 1) := by decide +kernel
theorem dX10_within_30 : decode cX10_within 30 = .ok (.ireturn, 1) := by decide +kernel
theorem dX10_within_31 : decode cX10_within 31 = .ok (.iload_n 1, 1) := by decide +kernel
theorem dX10_within_32 : decode cX10_within 32 = .ok (.sipush 1001, 3) := by decide +kernel
theorem dX10_within_35 : decode cX10_within 35 = .ok (.idiv, 1) := by decide +kernel
theorem dX10_within_36 : decode cX10_within 36 = .ok (.istore 4, 2) := by decide +kernel
theorem dX10_within_38 : decode cX10_within 38 = .ok (.iload_n 1, 1) := by decide +kernel
theorem dX10_within_39 : decode cX10_within 39 = .ok (.sipush 1001, 3) := by decide +kernel
theorem dX10_within_42 : decode cX10_within 42 = .ok (.irem, 1) := by decide +kernel
theorem dX10_within_43 : decode cX10_within 43 = .ok (.istore 5, 2) := by decide +kernel
theorem dX10_within_45 : decode cX10_within 45 = .ok (.iload_n 2, 1) := by decide +kernel
theorem dX10_within_46 : decode cX10_within 46 = .ok (.sipush 1001, 3) := by decide +kernel
theorem dX10_within_49 : decode cX10_within 49 = .ok (.idiv, 1) := by decide +kernel
theorem dX10_within_50 : decode cX10_within 50 = .ok (.istore 6, 2) := by decide +kernel
theorem dX10_within_52 : decode cX10_within 52 = .ok (.iload_n 2, 1) := by decide +kernel
theorem dX10_within_53 : decode cX10_within 53 = .ok (.sipush 1001, 3) := by decide +kernel
theorem dX10_within_56 : decode cX10_within 56 = .ok (.irem, 1) := by decide +kernel
theorem dX10_within_57 : decode cX10_within 57 = .ok (.istore 7, 2) := by decide +kernel
theorem dX10_within_59 : decode cX10_within 59 = .ok (.iload_n 3, 1) := by decide +kernel
theorem dX10_within_60 : decode cX10_within 60 = .ok (.invokestatic 180, 3) := by decide +kernel
theorem dX10_within_63 : decode cX10_within 63 = .ok (.istore 8, 2) := by decide +kernel
theorem dX10_within_65 : decode cX10_within 65 = .ok (.iload 4, 2) := by decide +kernel
theorem dX10_within_67 : decode cX10_within 67 = .ok (.iload 8, 2) := by decide +kernel
theorem dX10_within_69 : decode cX10_within 69 = .ok (.irem, 1) := by decide +kernel
theorem dX10_within_70 : decode cX10_within 70 = .ok (.iload 6, 2) := by decide +kernel
theorem dX10_within_72 : decode cX10_within 72 = .ok (.iload 8, 2) := by decide +kernel
theorem dX10_within_74 : decode cX10_within 74 = .ok (.irem, 1) := by decide +kernel
theorem dX10_within_75 : decode cX10_within 75 = .ok (.iadd, 1) := by decide +kernel
theorem dX10_within_76 : decode cX10_within 76 = .ok (.iload 5, 2) := by decide +kernel
theorem dX10_within_78 : decode cX10_within 78 = .ok (.iload 8, 2) := by decide +kernel
theorem dX10_within_80 : decode cX10_within 80 = .ok (.irem, 1) := by decide +kernel
theorem dX10_within_81 : decode cX10_within 81 = .ok (.iadd, 1) := by decide +kernel
theorem dX10_within_82 : decode cX10_within 82 = .ok (.iload 7, 2) := by decide +kernel
theorem dX10_within_84 : decode cX10_within 84 = .ok (.iload 8, 2) := by decide +kernel
theorem dX10_within_86 : decode cX10_within 86 = .ok (.irem, 1) := by decide +kernel
theorem dX10_within_87 : decode cX10_within 87 = .ok (.iadd, 1) := by decide +kernel
theorem dX10_within_88 : decode cX10_within 88 = .ok (.ifCond .gt 17, 3) := by decide +kernel
theorem dX10_within_91 : decode cX10_within 91 = .ok (.iload 6, 2) := by decide +kernel
theorem dX10_within_93 : decode cX10_within 93 = .ok (.iload 4, 2) := by decide +kernel
theorem dX10_within_95 : decode cX10_within 95 = .ok (.if_icmp .le 10, 3) := by decide +kernel
theorem dX10_within_98 : decode cX10_within 98 = .ok (.iload 7, 2) := by decide +kernel
theorem dX10_within_100 : decode cX10_within 100 = .ok (.iload 5, 2) := by decide +kernel
theorem dX10_within_102 : decode cX10_within 102 = .ok (.if_icmp .gt 5, 3) := by decide +kernel
theorem dX10_within_105 : decode cX10_within 105 = .ok (.iconst (-1), 1) := by decide +kernel
theorem dX10_within_106 : decode cX10_within 106 = .ok (.ireturn, 1) := by decide +kernel
theorem dX10_within_107 : decode cX10_within 107 = .ok (.iconst 0, 1) := by decide +kernel
theorem dX10_within_108 : decode cX10_within 108 = .ok (.istore 9, 2) := by decide +kernel
theorem dX10_within_110 : decode cX10_within 110 = .ok (.iconst 0, 1) := by decide +kernel
theorem dX10_within_111 : decode cX10_within 111 = .ok (.istore 10, 2) := by decide +kernel
theorem dX10_within_113 : decode cX10_within 113 = .ok (.iload 10, 2) := by decide +kernel
theorem dX10_within_115 : decode cX10_within 115 = .ok (.aload_n 0, 1) := by decide +kernel
theorem dX10_within_116 : decode cX10_within 116 = .ok (.getfield 106, 3) := by decide +kernel
theorem dX10_within_119 : decode cX10_within 119 = .ok (.if_icmp .ge 57, 3) := by decide +kernel
theorem dX10_within_122 : decode cX10_within 122 = .ok (.iload 9, 2) := by decide +kernel
theorem dX10_within_124 : decode cX10_within 124 = .ok (.aload_n 0, 1) := by decide +kernel
theorem dX10_within_125 : decode cX10_within 125 = .ok (.getfield 9, 3) := by decide +kernel
theorem dX10_within_128 : decode cX10_within 128 = .ok (.iload 10, 2) := by decide +kernel
theorem dX10_within_130 : decode cX10_within 130 = .ok (.iaload, 1) := by decide +kernel
theorem dX10_within_131 : decode cX10_within 131 = .ok (.iload 4, 2) := by decide +kernel
theorem dX10_within_133 : decode cX10_within 133 = .ok (.iload 6, 2) := by decide +kernel
theorem dX10_within_135 : decode cX10_within 135 = .ok (.iconst 1, 1) := by decide +kernel
theorem dX10_within_136 : decode cX10_within 136 = .ok (.isub, 1) := by decide +kernel
theorem dX10_within_137 : decode cX10_within 137 = .ok (.invokestatic 109, 3) := by decide +kernel
theorem dX10_within_140 : decode cX10_within 140 = .ok (.ifCond .eq 26, 3) := by decide +kernel
theorem dX10_within_143 : decode cX10_within 143 = .ok (.aload_n 0, 1) := by decide +kernel
theorem dX10_within_144 : decode cX10_within 144 = .ok (.getfield 13, 3) := by decide +kernel
theorem dX10_within_147 : decode cX10_within 147 = .ok (.iload 10, 2) := by decide +kernel
theorem dX10_within_149 : decode cX10_within 149 = .ok (.iaload, 1) := by decide +kernel
theorem dX10_within_150 : decode cX10_within 150 = .ok (.iload 5, 2) := by decide +kernel
theorem dX10_within_152 : decode cX10_within 152 = .ok (.iload 7, 2) := by decide +kernel
theorem dX10_within_154 : decode cX10_within 154 = .ok (.iconst 1, 1) := by decide +kernel
theorem dX10_within_155 : decode cX10_within 155 = .ok (.isub, 1) := by decide +kernel
theorem dX10_within_156 : decode cX10_within 156 = .ok (.invokestatic 109, 3) := by decide +kernel
theorem dX10_within_159 : decode cX10_within 159 = .ok (.ifCond .eq 7, 3) := by decide +kernel
theorem dX10_within_162 : decode cX10_within 162 = .ok (.iconst 1, 1) := by decide +kernel
theorem dX10_within_163 : decode cX10_within 163 = .ok (.goto 4, 3) := by decide +kernel
theorem dX10_within_166 : decode cX10_within 166 = .ok (.iconst 0, 1) := by decide +kernel
theorem dX10_within_167 : decode cX10_within 167 = .ok (.iadd, 1) := by decide +kernel
theorem dX10_within_168 : decode cX10_within 168 = .ok (.istore 9, 2) := by decide +kernel
theorem dX10_within_170 : decode cX10_within 170 = .ok (.iinc 10 1, 3) := by decide +kernel
theorem dX10_within_173 : decode cX10_within 173 = .ok (.goto (-60), 3) := by decide +kernel
theorem dX10_within_176 : decode cX10_within 176 = .ok (.iload 9, 2) := by decide +kernel
theorem dX10_within_178 : decode cX10_within 178 = .ok (.ireturn, 1) := by decide +kernel
set_option maxRecDepth 20000 in
theorem ggX10_museum_X10_in : GoodIn wsX10_museum wsX10_in := goodIn_r _ [8] (by decide +kernel) (by decide +kernel)
set_option maxRecDepth 20000 in
theorem gX10_museum_X10_in : GoodIn wsX10_museum (va_wsS RX10 109 yX10_in wsX10_in) := goodIn_app (goodIn_of _ (by decide +kernel)) ggX10_museum_X10_in
theorem dX10_museum_0 : decode cX10_museum 0 = .ok (.iload_n 1, 1) := by decide +kernel
theorem dX10_museum_1 : decode cX10_museum 1 = .ok (.iconst 0, 1) := by decide +kernel
theorem dX10_museum_2 : decode cX10_museum 2 = .ok (.bipush 7, 2) := by decide +kernel
theorem dX10_museum_4 : decode cX10_museum 4 = .ok (.invokestatic 109, 3) := by decide +kernel
theorem dX10_museum_7 : decode cX10_museum 7 = .ok (.ifCond .eq 22, 3) := by decide +kernel
theorem dX10_museum_10 : decode cX10_museum 10 = .ok (.iload_n 2, 1) := by decide +kernel
theorem dX10_museum_11 : decode cX10_museum 11 = .ok (.iconst 0, 1) := by decide +kernel
theorem dX10_museum_12 : decode cX10_museum 12 = .ok (.ldc 105, 2) := by decide +kernel
theorem dX10_museum_14 : decode cX10_museum 14 = .ok (.invokestatic 109, 3) := by decide +kernel
theorem dX10_museum_17 : decode cX10_museum 17 = .ok (.ifCond .eq 12, 3) := by decide +kernel
theorem dX10_museum_20 : decode cX10_museum 20 = .ok (.aload_n 0, 1) := by decide +kernel
theorem dX10_museum_21 : decode cX10_museum 21 = .ok (.getfield 184, 3) := by decide +kernel
theorem dX10_museum_24 : decode cX10_museum 24 = .ok (.bipush 10, 2) := by decide +kernel
theorem dX10_museum_26 : decode cX10_museum 26 = .ok (.if_icmp .ne 5, 3) := by decide +kernel
theorem dX10_museum_29 : decode cX10_museum 29 = .ok (.iconst (-1), 1) := by decide +kernel
theorem dX10_museum_30 : decode cX10_museum 30 = .ok (.ireturn, 1) := by decide +kernel
theorem dX10_museum_31 : decode cX10_museum 31 = .ok (.aload_n 0, 1) := by decide +kernel
theorem dX10_museum_32 : decode cX10_museum 32 = .ok (.getfield 88, 3) := by decide +kernel
theorem dX10_museum_35 : decode cX10_museum 35 = .ok (.aload_n 0, 1) := by decide +kernel
theorem dX10_museum_36 : decode cX10_museum 36 = .ok (.getfield 184, 3) := by decide +kernel
theorem dX10_museum_39 : decode cX10_museum 39 = .ok (.iload_n 1, 1) := by decide +kernel
theorem dX10_museum_40 : decode cX10_museum 40 = .ok (.iastore, 1) := by decide +kernel
theorem dX10_museum_41 : decode cX10_museum 41 = .ok (.aload_n 0, 1) := by decide +kernel
theorem dX10_museum_42 : decode cX10_museum 42 = .ok (.getfield 91, 3) := by decide +kernel
theorem dX10_museum_45 : decode cX10_museum 45 = .ok (.aload_n 0, 1) := by decide +kernel
theorem dX10_museum_46 : decode cX10_museum 46 = .ok (.getfield 184, 3) := by decide +kernel
theorem dX10_museum_49 : decode cX10_museum 49 = .ok (.iload_n 2, 1) := by decide +kernel
theorem dX10_museum_50 : decode cX10_museum 50 = .ok (.iastore, 1) := by decide +kernel
theorem dX10_museum_51 : decode cX10_museum 51 = .ok (.aload_n 0, 1) := by decide +kernel
theorem dX10_museum_52 : decode cX10_museum 52 = .ok (.dup, 1) := by decide +kernel
theorem dX10_museum_53 : decode cX10_museum 53 = .ok (.getfield 184, 3) := by decide +kernel
end
section
theorem dX10_museum_56 : decode cX10_museum 56 = .ok (.iconst 1, 1) := by decide +kernel
theorem dX10_museum_57 : decode cX10_museum 57 = .ok (.iadd, 1) := by decide +kernel
theorem dX10_museum_58 : decode cX10_museum 58 = .ok (.putfield 184, 3) := by decide +kernel
theorem dX10_museum_61 : decode cX10_museum 61 = .ok (.aload_n 0, 1) := by decide +kernel
theorem dX10_museum_62 : decode cX10_museum 62 = .ok (.getfield 184, 3) := by decide +kernel
theorem dX10_museum_65 : decode cX10_museum 65 = .ok (.iconst 1, 1) := by decide +kernel
theorem dX10_museum_66 : decode cX10_museum 66 = .ok (.isub, 1) := by decide +kernel
theorem dX10_museum_67 : decode cX10_museum 67 = .ok (.ireturn, 1) := by decide +kernel
theorem dX10_turn_0 : decode cX10_turn 0 = .ok (.aload_n 0, 1) := by decide +kernel
theorem dX10_turn_1 : decode cX10_turn 1 = .ok (.getfield 184, 3) := by decide +kernel
theorem dX10_turn_4 : decode cX10_turn 4 = .ok (.ifCond .ne 7, 3) := by decide +kernel
theorem dX10_turn_7 : decode cX10_turn 7 = .ok (.iconst (-1), 1) := by decide +kernel
theorem dX10_turn_8 : decode cX10_turn 8 = .ok (.goto 14, 3) := by decide +kernel
theorem dX10_turn_11 : decode cX10_turn 11 = .ok (.aload_n 0, 1) := by decide +kernel
theorem dX10_turn_12 : decode cX10_turn 12 = .ok (.getfield 97, 3) := by decide +kernel
theorem dX10_turn_15 : decode cX10_turn 15 = .ok (.iconst 1, 1) := by decide +kernel
theorem dX10_turn_16 : decode cX10_turn 16 = .ok (.iadd, 1) := by decide +kernel
theorem dX10_turn_17 : decode cX10_turn 17 = .ok (.aload_n 0, 1) := by decide +kernel
theorem dX10_turn_18 : decode cX10_turn 18 = .ok (.getfield 184, 3) := by decide +kernel
theorem dX10_turn_21 : decode cX10_turn 21 = .ok (.irem, 1) := by decide +kernel
theorem dX10_turn_22 : decode cX10_turn 22 = .ok (.ireturn, 1) := by decide +kernel
set_option maxRecDepth 20000 in
theorem ggX10_offer_X10_isFind : GoodIn wsX10_offer wsX10_isFind := goodIn_r _ [12, 13, 14, 15, 11, 16, 76, 77, 78, 79, 80, 81, 82, 83, 84, 85, 86, 87, 88, 89, 90, 91, 92, 93, 94, 95, 96, 97, 98, 99, 100, 101, 102, 103, 104, 105, 106, 107, 108, 109, 110, 111, 112, 113] (by decide +kernel) (by decide +kernel)
set_option maxRecDepth 20000 in
theorem gX10_offer_X10_isFind : GoodIn wsX10_offer (wsV RX10 127 RX10 yX10_isFind wsX10_isFind) := goodIn_app (goodIn_of _ (by decide +kernel)) ggX10_offer_X10_isFind
set_option maxRecDepth 20000 in
theorem ggX10_offer_X10_counts : GoodIn wsX10_offer wsX10_counts := goodIn_r _ [20, 21, 22, 23, 24, 11, 25, 26, 27, 28, 4, 29, 30, 31, 32, 33, 34, 35, 36, 8, 9, 10, 12, 13, 14, 15, 16, 37, 38, 39, 40, 41, 42, 43, 44, 45, 46, 47, 48, 49, 50, 51, 52, 53, 54, 55, 56, 57, 58, 76, 77, 78, 79, 80, 81, 82, 83, 84, 85, 86, 87, 88, 89, 90, 91, 92, 93, 94, 95, 96, 97, 98, 99, 100, 101, 102, 103, 104, 105, 106, 107, 108, 109, 110, 111, 112, 113] (by decide +kernel) (by decide +kernel)
set_option maxRecDepth 20000 in
theorem gX10_offer_X10_counts : GoodIn wsX10_offer (wsV RX10 166 RX10 yX10_counts wsX10_counts) := goodIn_app (goodIn_of _ (by decide +kernel)) ggX10_offer_X10_counts
set_option maxRecDepth 20000 in
theorem ggX10_offer_X10_worth : GoodIn wsX10_offer wsX10_worth := goodIn_r _ [62, 63, 64, 4, 65, 66, 21, 67, 68, 69, 70, 71, 8, 9, 10, 11, 12, 13, 14, 15, 16, 43, 44, 45, 76, 77, 78, 79, 80, 81, 82, 83, 84, 85, 86, 87, 88, 89, 90, 91, 92, 93, 94, 95, 96, 97, 98, 99, 100, 101, 102, 103, 104, 105, 106, 107, 108, 109, 110, 111, 112, 113] (by decide +kernel) (by decide +kernel)
set_option maxRecDepth 20000 in
theorem gX10_offer_X10_worth : GoodIn wsX10_offer (wsV RX10 169 RX10 yX10_worth wsX10_worth) := goodIn_app (goodIn_of _ (by decide +kernel)) ggX10_offer_X10_worth
set_option maxRecDepth 20000 in
theorem ggX10_offer_X10_turn : GoodIn wsX10_offer wsX10_turn := goodIn_r _ [75, 2, 7, 76, 77, 78, 79, 80, 81, 82, 83, 84, 85, 86, 87, 88, 89, 90, 91, 92, 93, 94, 95, 96, 97, 98, 99, 100, 101, 102, 103, 104, 105, 106, 107, 108, 109, 110, 111, 112, 113] (by decide +kernel) (by decide +kernel)
set_option maxRecDepth 20000 in
theorem gX10_offer_X10_turn : GoodIn wsX10_offer (wsV RX10 187 RX10 yX10_turn wsX10_turn) := goodIn_app (goodIn_of _ (by decide +kernel)) ggX10_offer_X10_turn
theorem dX10_offer_0 : decode cX10_offer 0 = .ok (.aload_n 0, 1) := by decide +kernel
theorem dX10_offer_1 : decode cX10_offer 1 = .ok (.iload_n 1, 1) := by decide +kernel
theorem dX10_offer_2 : decode cX10_offer 2 = .ok (.invokevirtual 127, 3) := by decide +kernel
theorem dX10_offer_5 : decode cX10_offer 5 = .ok (.ifCond .eq 21, 3) := by decide +kernel
theorem dX10_offer_8 : decode cX10_offer 8 = .ok (.aload_n 0, 1) := by decide +kernel
theorem dX10_offer_9 : decode cX10_offer 9 = .ok (.getfield 40, 3) := by decide +kernel
theorem dX10_offer_12 : decode cX10_offer 12 = .ok (.iload_n 1, 1) := by decide +kernel
theorem dX10_offer_13 : decode cX10_offer 13 = .ok (.iaload, 1) := by decide +kernel
theorem dX10_offer_14 : decode cX10_offer 14 = .ok (.iconst (-1), 1) := by decide +kernel
theorem dX10_offer_15 : decode cX10_offer 15 = .ok (.if_icmp .ne 11, 3) := by decide +kernel
theorem dX10_offer_18 : decode cX10_offer 18 = .ok (.aload_n 0, 1) := by decide +kernel
theorem dX10_offer_19 : decode cX10_offer 19 = .ok (.iload_n 1, 1) := by decide +kernel
theorem dX10_offer_20 : decode cX10_offer 20 = .ok (.invokevirtual 166, 3) := by decide +kernel
theorem dX10_offer_23 : decode cX10_offer 23 = .ok (.ifCond .ne 5, 3) := by decide +kernel
theorem dX10_offer_26 : decode cX10_offer 26 = .ok (.iconst (-1), 1) := by decide +kernel
theorem dX10_offer_27 : decode cX10_offer 27 = .ok (.ireturn, 1) := by decide +kernel
theorem dX10_offer_28 : decode cX10_offer 28 = .ok (.aload_n 0, 1) := by decide +kernel
theorem dX10_offer_29 : decode cX10_offer 29 = .ok (.iload_n 1, 1) := by decide +kernel
theorem dX10_offer_30 : decode cX10_offer 30 = .ok (.invokevirtual 169, 3) := by decide +kernel
theorem dX10_offer_33 : decode cX10_offer 33 = .ok (.istore_n 2, 1) := by decide +kernel
theorem dX10_offer_34 : decode cX10_offer 34 = .ok (.aload_n 0, 1) := by decide +kernel
theorem dX10_offer_35 : decode cX10_offer 35 = .ok (.invokevirtual 187, 3) := by decide +kernel
theorem dX10_offer_38 : decode cX10_offer 38 = .ok (.istore_n 3, 1) := by decide +kernel
theorem dX10_offer_39 : decode cX10_offer 39 = .ok (.iconst 0, 1) := by decide +kernel
theorem dX10_offer_40 : decode cX10_offer 40 = .ok (.istore 4, 2) := by decide +kernel
theorem dX10_offer_42 : decode cX10_offer 42 = .ok (.iload 4, 2) := by decide +kernel
theorem dX10_offer_44 : decode cX10_offer 44 = .ok (.aload_n 0, 1) := by decide +kernel
theorem dX10_offer_45 : decode cX10_offer 45 = .ok (.getfield 184, 3) := by decide +kernel
theorem dX10_offer_48 : decode cX10_offer 48 = .ok (.if_icmp .ge 81, 3) := by decide +kernel
theorem dX10_offer_51 : decode cX10_offer 51 = .ok (.iload_n 3, 1) := by decide +kernel
theorem dX10_offer_52 : decode cX10_offer 52 = .ok (.iload 4, 2) := by decide +kernel
theorem dX10_offer_54 : decode cX10_offer 54 = .ok (.iadd, 1) := by decide +kernel
theorem dX10_offer_55 : decode cX10_offer 55 = .ok (.aload_n 0, 1) := by decide +kernel
theorem dX10_offer_56 : decode cX10_offer 56 = .ok (.getfield 184, 3) := by decide +kernel
theorem dX10_offer_59 : decode cX10_offer 59 = .ok (.irem, 1) := by decide +kernel
theorem dX10_offer_60 : decode cX10_offer 60 = .ok (.istore 5, 2) := by decide +kernel
theorem dX10_offer_62 : decode cX10_offer 62 = .ok (.aload_n 0, 1) := by decide +kernel
theorem dX10_offer_63 : decode cX10_offer 63 = .ok (.getfield 88, 3) := by decide +kernel
theorem dX10_offer_66 : decode cX10_offer 66 = .ok (.iload 5, 2) := by decide +kernel
theorem dX10_offer_68 : decode cX10_offer 68 = .ok (.iaload, 1) := by decide +kernel
theorem dX10_offer_69 : decode cX10_offer 69 = .ok (.aload_n 0, 1) := by decide +kernel
theorem dX10_offer_70 : decode cX10_offer 70 = .ok (.getfield 16, 3) := by decide +kernel
theorem dX10_offer_73 : decode cX10_offer 73 = .ok (.iload_n 1, 1) := by decide +kernel
theorem dX10_offer_74 : decode cX10_offer 74 = .ok (.iaload, 1) := by decide +kernel
theorem dX10_offer_75 : decode cX10_offer 75 = .ok (.ishr, 1) := by decide +kernel
theorem dX10_offer_76 : decode cX10_offer 76 = .ok (.iconst 1, 1) := by decide +kernel
theorem dX10_offer_77 : decode cX10_offer 77 = .ok (.iand, 1) := by decide +kernel
theorem dX10_offer_78 : decode cX10_offer 78 = .ok (.ifCond .eq 45, 3) := by decide +kernel
theorem dX10_offer_81 : decode cX10_offer 81 = .ok (.iload_n 2, 1) := by decide +kernel
theorem dX10_offer_82 : decode cX10_offer 82 = .ok (.aload_n 0, 1) := by decide +kernel
theorem dX10_offer_83 : decode cX10_offer 83 = .ok (.getfield 91, 3) := by decide +kernel
theorem dX10_offer_86 : decode cX10_offer 86 = .ok (.iload 5, 2) := by decide +kernel
theorem dX10_offer_88 : decode cX10_offer 88 = .ok (.iaload, 1) := by decide +kernel
theorem dX10_offer_89 : decode cX10_offer 89 = .ok (.if_icmp .le 6, 3) := by decide +kernel
theorem dX10_offer_92 : decode cX10_offer 92 = .ok (.goto 31, 3) := by decide +kernel
theorem dX10_offer_95 : decode cX10_offer 95 = .ok (.aload_n 0, 1) := by decide +kernel
theorem dX10_offer_96 : decode cX10_offer 96 = .ok (.getfield 40, 3) := by decide +kernel
theorem dX10_offer_99 : decode cX10_offer 99 = .ok (.iload_n 1, 1) := by decide +kernel
theorem dX10_offer_100 : decode cX10_offer 100 = .ok (.iload 5, 2) := by decide +kernel
theorem dX10_offer_102 : decode cX10_offer 102 = .ok (.iastore, 1) := by decide +kernel
theorem dX10_offer_103 : decode cX10_offer 103 = .ok (.aload_n 0, 1) := by decide +kernel
theorem dX10_offer_104 : decode cX10_offer 104 = .ok (.getfield 94, 3) := by decide +kernel
theorem dX10_offer_107 : decode cX10_offer 107 = .ok (.iload 5, 2) := by decide +kernel
theorem dX10_offer_109 : decode cX10_offer 109 = .ok (.dup2, 1) := by decide +kernel
theorem dX10_offer_110 : decode cX10_offer 110 = .ok (.iaload, 1) := by decide +kernel
theorem dX10_offer_111 : decode cX10_offer 111 = .ok (.iload_n 2, 1) := by decide +kernel
theorem dX10_offer_112 : decode cX10_offer 112 = .ok (.iadd, 1) := by decide +kernel
theorem dX10_offer_113 : decode cX10_offer 113 = .ok (.iastore, 1) := by decide +kernel
theorem dX10_offer_114 : decode cX10_offer 114 = .ok (.aload_n 0, 1) := by decide +kernel
theorem dX10_offer_115 : decode cX10_offer 115 = .ok (.iload 5, 2) := by decide +kernel
theorem dX10_offer_117 : decode cX10_offer 117 = .ok (.putfield 97, 3) := by decide +kernel
theorem dX10_offer_120 : decode cX10_offer 120 = .ok (.iload 5, 2) := by decide +kernel
theorem dX10_offer_122 : decode cX10_offer 122 = .ok (.ireturn, 1) := by decide +kernel
theorem dX10_offer_123 : decode cX10_offer 123 = .ok (.iinc 4 1, 3) := by decide +kernel
theorem dX10_offer_126 : decode cX10_offer 126 = .ok (.goto (-84), 3) := by decide +kernel
theorem dX10_offer_129 : decode cX10_offer 129 = .ok (.iconst (-1), 1) := by decide +kernel
theorem dX10_offer_130 : decode cX10_offer 130 = .ok (.ireturn, 1) := by decide +kernel
set_option maxRecDepth 20000 in
theorem ggX10_spent_X10_in : GoodIn wsX10_spent wsX10_in := goodIn_r _ [6] (by decide +kernel) (by decide +kernel)
set_option maxRecDepth 20000 in
theorem gX10_spent_X10_in : GoodIn wsX10_spent (va_wsS RX10 109 yX10_in wsX10_in) := goodIn_app (goodIn_of _ (by decide +kernel)) ggX10_spent_X10_in
theorem dX10_spent_0 : decode cX10_spent 0 = .ok (.iload_n 1, 1) := by decide +kernel
theorem dX10_spent_1 : decode cX10_spent 1 = .ok (.iconst 0, 1) := by decide +kernel
theorem dX10_spent_2 : decode cX10_spent 2 = .ok (.aload_n 0, 1) := by decide +kernel
theorem dX10_spent_3 : decode cX10_spent 3 = .ok (.getfield 184, 3) := by decide +kernel
theorem dX10_spent_6 : decode cX10_spent 6 = .ok (.iconst 1, 1) := by decide +kernel
theorem dX10_spent_7 : decode cX10_spent 7 = .ok (.isub, 1) := by decide +kernel
theorem dX10_spent_8 : decode cX10_spent 8 = .ok (.invokestatic 109, 3) := by decide +kernel
theorem dX10_spent_11 : decode cX10_spent 11 = .ok (.ifCond .eq 12, 3) := by decide +kernel
theorem dX10_spent_14 : decode cX10_spent 14 = .ok (.aload_n 0, 1) := by decide +kernel
theorem dX10_spent_15 : decode cX10_spent 15 = .ok (.getfield 94, 3) := by decide +kernel
theorem dX10_spent_18 : decode cX10_spent 18 = .ok (.iload_n 1, 1) := by decide +kernel
theorem dX10_spent_19 : decode cX10_spent 19 = .ok (.iaload, 1) := by decide +kernel
theorem dX10_spent_20 : decode cX10_spent 20 = .ok (.goto 4, 3) := by decide +kernel
theorem dX10_spent_23 : decode cX10_spent 23 = .ok (.iconst (-1), 1) := by decide +kernel
theorem dX10_spent_24 : decode cX10_spent 24 = .ok (.ireturn, 1) := by decide +kernel
set_option maxRecDepth 20000 in
theorem ggX10_count_X10_hoard : GoodIn wsX10_count wsX10_hoard := goodIn_r _ [11, 1, 12, 13, 14, 15, 10, 16, 2, 17, 18, 19, 20, 21, 22, 23, 24, 25, 26, 27, 28, 29, 30, 31, 32, 33, 65, 66, 67, 68, 69, 70, 71, 72, 73, 74, 75, 76, 77, 78, 79, 80, 81, 82, 83, 84, 85, 86, 87, 88, 89, 90, 91, 92, 93, 94, 95, 96, 97, 98, 99, 100, 101, 102] (by decide +kernel) (by decide +kernel)
set_option maxRecDepth 20000 in
theorem gX10_count_X10_hoard : GoodIn wsX10_count (wsV RX10 191 RX10 yX10_hoard wsX10_hoard) := goodIn_app (goodIn_of _ (by decide +kernel)) ggX10_count_X10_hoard
set_option maxRecDepth 20000 in
theorem ggX10_count_X10_counts : GoodIn wsX10_count wsX10_counts := goodIn_r _ [37, 1, 38, 39, 40, 10, 41, 42, 32, 43, 44, 45, 46, 47, 48, 49, 50, 51, 24, 13, 14, 15, 16, 2, 17, 18, 19, 52, 53, 54, 55, 3, 56, 57, 58, 59, 20, 21, 22, 23, 12, 25, 26, 27, 28, 29, 30, 31, 33, 65, 66, 67, 68, 69, 70, 71, 72, 73, 74, 75, 76, 77, 78, 79, 80, 81, 82, 83, 84, 85, 86, 87, 88, 89, 90, 91, 92, 93, 94, 95, 96, 97, 98, 99, 100, 101, 102] (by decide +kernel) (by decide +kernel)
set_option maxRecDepth 20000 in
theorem gX10_count_X10_counts : GoodIn wsX10_count (wsV RX10 166 RX10 yX10_counts wsX10_counts) := goodIn_app (goodIn_of _ (by decide +kernel)) ggX10_count_X10_counts
set_option maxRecDepth 20000 in
theorem ggX10_count_X10_turn : GoodIn wsX10_count wsX10_turn := goodIn_r _ [63, 5, 64, 65, 66, 67, 68, 69, 70, 71, 72, 73, 74, 75, 76, 77, 78, 79, 80, 81, 82, 83, 84, 85, 86, 87, 88, 89, 90, 91, 92, 93, 94, 95, 96, 97, 98, 99, 100, 101, 102] (by decide +kernel) (by decide +kernel)
set_option maxRecDepth 20000 in
theorem gX10_count_X10_turn : GoodIn wsX10_count (wsV RX10 187 RX10 yX10_turn wsX10_turn) := goodIn_app (goodIn_of _ (by decide +kernel)) ggX10_count_X10_turn
theorem dX10_count_0 : decode cX10_count 0 = .ok (.iconst 0, 1) := by decide +kernel
theorem dX10_count_1 : decode cX10_count 1 = .ok (.istore_n 2, 1) := by decide +kernel
theorem dX10_count_2 : decode cX10_count 2 = .ok (.iload_n 1, 1) := by decide +kernel
theorem dX10_count_3 : decode cX10_count 3 = .ok (.tableswitch 153 0 8 #[49, 54, 59, 94, 99, 104, 109, 114, 148], 49) := by decide +kernel
theorem dX10_count_52 : decode cX10_count 52 = .ok (.aload_n 0, 1) := by decide +kernel
theorem dX10_count_53 : decode cX10_count 53 = .ok (.getfield 113, 3) := by decide +kernel
theorem dX10_count_56 : decode cX10_count 56 = .ok (.ireturn, 1) := by decide +kernel
theorem dX10_count_57 : decode cX10_count 57 = .ok (.aload_n 0, 1) := by decide +kernel
theorem dX10_count_58 : decode cX10_count 58 = .ok (.getfield 106, 3) := by decide +kernel
theorem dX10_count_61 : decode cX10_count 61 = .ok (.ireturn, 1) := by decide +kernel
theorem dX10_count_62 : decode cX10_count 62 = .ok (.iconst 0, 1) := by decide +kernel
theorem dX10_count_63 : decode cX10_count 63 = .ok (.istore_n 3, 1) := by decide +kernel
theorem dX10_count_64 : decode cX10_count 64 = .ok (.iload_n 3, 1) := by decide +kernel
theorem dX10_count_65 : decode cX10_count 65 = .ok (.aload_n 0, 1) := by decide +kernel
theorem dX10_count_66 : decode cX10_count 66 = .ok (.getfield 106, 3) := by decide +kernel
theorem dX10_count_69 : decode cX10_count 69 = .ok (.if_icmp .ge 26, 3) := by decide +kernel
theorem dX10_count_72 : decode cX10_count 72 = .ok (.iload_n 2, 1) := by decide +kernel
theorem dX10_count_73 : decode cX10_count 73 = .ok (.aload_n 0, 1) := by decide +kernel
theorem dX10_count_74 : decode cX10_count 74 = .ok (.iload_n 3, 1) := by decide +kernel
theorem dX10_count_75 : decode cX10_count 75 = .ok (.invokevirtual 191, 3) := by decide +kernel
theorem dX10_count_78 : decode cX10_count 78 = .ok (.iload_n 3, 1) := by decide +kernel
theorem dX10_count_79 : decode cX10_count 79 = .ok (.if_icmp .ne 7, 3) := by decide +kernel
theorem dX10_count_82 : decode cX10_count 82 = .ok (.iconst 1, 1) := by decide +kernel
theorem dX10_count_83 : decode cX10_count 83 = .ok (.goto 4, 3) := by decide +kernel
theorem dX10_count_86 : decode cX10_count 86 = .ok (.iconst 0, 1) := by decide +kernel
theorem dX10_count_87 : decode cX10_count 87 = .ok (.iadd, 1) := by decide +kernel
theorem dX10_count_88 : decode cX10_count 88 = .ok (.istore_n 2, 1) := by decide +kernel
theorem dX10_count_89 : decode cX10_count 89 = .ok (.iinc 3 1, 3) := by decide +kernel
theorem dX10_count_92 : decode cX10_count 92 = .ok (.goto (-28), 3) := by decide +kernel
theorem dX10_count_95 : decode cX10_count 95 = .ok (.iload_n 2, 1) := by decide +kernel
theorem dX10_count_96 : decode cX10_count 96 = .ok (.ireturn, 1) := by decide +kernel
theorem dX10_count_97 : decode cX10_count 97 = .ok (.aload_n 0, 1) := by decide +kernel
theorem dX10_count_98 : decode cX10_count 98 = .ok (.getfield 116, 3) := by decide +kernel
theorem dX10_count_101 : decode cX10_count 101 = .ok (.ireturn, 1) := by decide +kernel
theorem dX10_count_102 : decode cX10_count 102 = .ok (.aload_n 0, 1) := by decide +kernel
theorem dX10_count_103 : decode cX10_count 103 = .ok (.getfield 161, 3) := by decide +kernel
theorem dX10_count_106 : decode cX10_count 106 = .ok (.ireturn, 1) := by decide +kernel
theorem dX10_count_107 : decode cX10_count 107 = .ok (.aload_n 0, 1) := by decide +kernel
theorem dX10_count_108 : decode cX10_count 108 = .ok (.getfield 184, 3) := by decide +kernel
theorem dX10_count_111 : decode cX10_count 111 = .ok (.ireturn, 1) := by decide +kernel
theorem dX10_count_112 : decode cX10_count 112 = .ok (.aload_n 0, 1) := by decide +kernel
theorem dX10_count_113 : decode cX10_count 113 = .ok (.getfield 130, 3) := by decide +kernel
theorem dX10_count_116 : decode cX10_count 116 = .ok (.ireturn, 1) := by decide +kernel
theorem dX10_count_117 : decode cX10_count 117 = .ok (.iconst 0, 1) := by decide +kernel
theorem dX10_count_118 : decode cX10_count 118 = .ok (.istore_n 3, 1) := by decide +kernel
theorem dX10_count_119 : decode cX10_count 119 = .ok (.iload_n 3, 1) := by decide +kernel
theorem dX10_count_120 : decode cX10_count 120 = .ok (.aload_n 0, 1) := by decide +kernel
theorem dX10_count_121 : decode cX10_count 121 = .ok (.getfield 106, 3) := by decide +kernel
theorem dX10_count_124 : decode cX10_count 124 = .ok (.if_icmp .ge 25, 3) := by decide +kernel
theorem dX10_count_127 : decode cX10_count 127 = .ok (.iload_n 2, 1) := by decide +kernel
theorem dX10_count_128 : decode cX10_count 128 = .ok (.aload_n 0, 1) := by decide +kernel
theorem dX10_count_129 : decode cX10_count 129 = .ok (.iload_n 3, 1) := by decide +kernel
theorem dX10_count_130 : decode cX10_count 130 = .ok (.invokevirtual 166, 3) := by decide +kernel
theorem dX10_count_133 : decode cX10_count 133 = .ok (.ifCond .eq 7, 3) := by decide +kernel
theorem dX10_count_136 : decode cX10_count 136 = .ok (.iconst 1, 1) := by decide +kernel
theorem dX10_count_137 : decode cX10_count 137 = .ok (.goto 4, 3) := by decide +kernel
theorem dX10_count_140 : decode cX10_count 140 = .ok (.iconst 0, 1) := by decide +kernel
theorem dX10_count_141 : decode cX10_count 141 = .ok (.iadd, 1) := by decide +kernel
theorem dX10_count_142 : decode cX10_count 142 = .ok (.istore_n 2, 1) := by decide +kernel
theorem dX10_count_143 : decode cX10_count 143 = .ok (.iinc 3 1, 3) := by decide +kernel
theorem dX10_count_146 : decode cX10_count 146 = .ok (.goto (-27), 3) := by decide +kernel
theorem dX10_count_149 : decode cX10_count 149 = .ok (.iload_n 2, 1) := by decide +kernel
theorem dX10_count_150 : decode cX10_count 150 = .ok (.ireturn, 1) := by decide +kernel
theorem dX10_count_151 : decode cX10_count 151 = .ok (.aload_n 0, 1) := by decide +kernel
theorem dX10_count_152 : decode cX10_count 152 = .ok (.invokevirtual 187, 3) := by decide +kernel
theorem dX10_count_155 : decode cX10_count 155 = .ok (.ireturn, 1) := by decide +kernel
theorem dX10_count_156 : decode cX10_count 156 = .ok (.iconst (-1), 1) := by decide +kernel
theorem dX10_count_157 : decode cX10_count 157 = .ok (.ireturn, 1) := by decide +kernel
theorem dJ9_abs_0f7a4_0 : decode cJ9_abs_0f7a4 0 = .ok (.iload_n 0, 1) := by decide +kernel
theorem dJ9_abs_0f7a4_1 : decode cJ9_abs_0f7a4 1 = .ok (.ifCond .ge 8, 3) := by decide +kernel
theorem dJ9_abs_0f7a4_4 : decode cJ9_abs_0f7a4 4 = .ok (.iload_n 0, 1) := by decide +kernel
theorem dJ9_abs_0f7a4_5 : decode cJ9_abs_0f7a4 5 = .ok (.ineg, 1) := by decide +kernel
theorem dJ9_abs_0f7a4_6 : decode cJ9_abs_0f7a4 6 = .ok (.goto 4, 3) := by decide +kernel
theorem dJ9_abs_0f7a4_9 : decode cJ9_abs_0f7a4 9 = .ok (.iload_n 0, 1) := by decide +kernel
theorem dJ9_abs_0f7a4_10 : decode cJ9_abs_0f7a4 10 = .ok (.ireturn, 1) := by decide +kernel
theorem dJ9_max_7cf53_0 : decode cJ9_max_7cf53 0 = .ok (.iload_n 0, 1) := by decide +kernel
theorem dJ9_max_7cf53_1 : decode cJ9_max_7cf53 1 = .ok (.iload_n 1, 1) := by decide +kernel
theorem dJ9_max_7cf53_2 : decode cJ9_max_7cf53 2 = .ok (.if_icmp .lt 7, 3) := by decide +kernel
theorem dJ9_max_7cf53_5 : decode cJ9_max_7cf53 5 = .ok (.iload_n 0, 1) := by decide +kernel
theorem dJ9_max_7cf53_6 : decode cJ9_max_7cf53 6 = .ok (.goto 4, 3) := by decide +kernel
theorem dJ9_max_7cf53_9 : decode cJ9_max_7cf53 9 = .ok (.iload_n 1, 1) := by decide +kernel
theorem dJ9_max_7cf53_10 : decode cJ9_max_7cf53 10 = .ok (.ireturn, 1) := by decide +kernel
theorem dJ9_min_7cf53_0 : decode cJ9_min_7cf53 0 = .ok (.iload_n 0, 1) := by decide +kernel
theorem dJ9_min_7cf53_1 : decode cJ9_min_7cf53 1 = .ok (.iload_n 1, 1) := by decide +kernel
theorem dJ9_min_7cf53_2 : decode cJ9_min_7cf53 2 = .ok (.if_icmp .gt 7, 3) := by decide +kernel
theorem dJ9_min_7cf53_5 : decode cJ9_min_7cf53 5 = .ok (.iload_n 0, 1) := by decide +kernel
theorem dJ9_min_7cf53_6 : decode cJ9_min_7cf53 6 = .ok (.goto 4, 3) := by decide +kernel
theorem dJ9_min_7cf53_9 : decode cJ9_min_7cf53 9 = .ok (.iload_n 1, 1) := by decide +kernel
theorem dJ9_min_7cf53_10 : decode cJ9_min_7cf53 10 = .ok (.ireturn, 1) := by decide +kernel
theorem dJ9_min_f86c9_0 : decode cJ9_min_f86c9 0 = .ok (.lload_n 0, 1) := by decide +kernel
theorem dJ9_min_f86c9_1 : decode cJ9_min_f86c9 1 = .ok (.lload_n 2, 1) := by decide +kernel
theorem dJ9_min_f86c9_2 : decode cJ9_min_f86c9 2 = .ok (.lcmp, 1) := by decide +kernel
theorem dJ9_min_f86c9_3 : decode cJ9_min_f86c9 3 = .ok (.ifCond .gt 7, 3) := by decide +kernel
theorem dJ9_min_f86c9_6 : decode cJ9_min_f86c9 6 = .ok (.lload_n 0, 1) := by decide +kernel
theorem dJ9_min_f86c9_7 : decode cJ9_min_f86c9 7 = .ok (.goto 4, 3) := by decide +kernel
theorem dJ9_min_f86c9_10 : decode cJ9_min_f86c9 10 = .ok (.lload_n 2, 1) := by decide +kernel
theorem dJ9_min_f86c9_11 : decode cJ9_min_f86c9 11 = .ok (.lreturn, 1) := by decide +kernel
theorem dJ7_fill_53178_0 : decode cJ7_fill_53178 0 = .ok (.iconst 0, 1) := by decide +kernel
theorem dJ7_fill_53178_1 : decode cJ7_fill_53178 1 = .ok (.istore_n 2, 1) := by decide +kernel
theorem dJ7_fill_53178_2 : decode cJ7_fill_53178 2 = .ok (.aload_n 0, 1) := by decide +kernel
theorem dJ7_fill_53178_3 : decode cJ7_fill_53178 3 = .ok (.arraylength, 1) := by decide +kernel
theorem dJ7_fill_53178_4 : decode cJ7_fill_53178 4 = .ok (.istore_n 3, 1) := by decide +kernel
theorem dJ7_fill_53178_5 : decode cJ7_fill_53178 5 = .ok (.iload_n 2, 1) := by decide +kernel
theorem dJ7_fill_53178_6 : decode cJ7_fill_53178 6 = .ok (.iload_n 3, 1) := by decide +kernel
theorem dJ7_fill_53178_7 : decode cJ7_fill_53178 7 = .ok (.if_icmp .ge 13, 3) := by decide +kernel
theorem dJ7_fill_53178_10 : decode cJ7_fill_53178 10 = .ok (.aload_n 0, 1) := by decide +kernel
theorem dJ7_fill_53178_11 : decode cJ7_fill_53178 11 = .ok (.iload_n 2, 1) := by decide +kernel
theorem dJ7_fill_53178_12 : decode cJ7_fill_53178 12 = .ok (.iload_n 1, 1) := by decide +kernel
theorem dJ7_fill_53178_13 : decode cJ7_fill_53178 13 = .ok (.iastore, 1) := by decide +kernel
theorem dJ7_fill_53178_14 : decode cJ7_fill_53178 14 = .ok (.iinc 2 1, 3) := by decide +kernel
theorem dJ7_fill_53178_17 : decode cJ7_fill_53178 17 = .ok (.goto (-12), 3) := by decide +kernel
theorem dJ7_fill_53178_20 : decode cJ7_fill_53178 20 = .ok (.return_, 1) := by decide +kernel
abbrev vwCl : List vw_C := [(RX0, TX0, 3), (RX1, TX1, 11), (RX2, TX2, 7), (RX3, TX3, 4), (RX4, TX4, 5), (RX5, TX5, 2), (RX6, TX6, 3), (RX7, TX7, 3), (RX8, TX8, 4), (RX9, TX9, 7), (RX10, TX10, 38)]
end
section
/-! our words for calls: one that only reads, one that writes -/
def b2 (b : Bool) : Int32 := if b = true then 1 else 0
theorem b2_z {b : Bool} (h : b2 b = 0) : b = false := by cases b <;> first | rfl | (exact absurd h (by decide))
theorem b2_nz {b : Bool} (h : ¬ b2 b = 0) : b = true := by cases b <;> first | rfl | (exact absurd rfl h)
theorem b2_nar (b : Bool) : narrow .boolean (.int (b2 b)) = .int (b2 b) := by cases b <;> rfl
def btw (v lo hi : Int32) : Bool := !decide (v < lo) && !decide (hi < v)
theorem btw_t {v lo hi : Int32} (h : btw v lo hi = true) : ¬ v < lo ∧ ¬ hi < v := by simpa [btw] using h
/-- the calls among nest mates -/
def nestQ : List (String × Nat × MethodName × String) := [(RX9, 15, yX5_init, RX9), (RX9, 22, yX3_init, RX9), (RX9, 43, yX0_init, RX9), (RX4, 26, yX9_isDay, RX9), (RX4, 32, yX9_isBetween, RX9), (RX3, 25, yX9_isBetween, RX9), (RX3, 29, yX9_isDay, RX9), (RX3, 33, yX9_isPerson, RX9), (RX1, 46, yX9_isBetween, RX9), (RX1, 50, yX9_isMetal, RX9), (RX1, 54, yX9_isPerson, RX9), (RX4, 43, yX9_yearOf, RX9), (RX6, 31, yX9_isBetween, RX9), (RX8, 24, yX9_isMetal, RX9), (RX8, 28, yX9_isDay, RX9), (RX8, 31, yX9_isBetween, RX9), (RX6, 64, yX9_yearOf, RX9), (RX2, 89, yX9_isBetween, RX9), (RX7, 21, yX9_isBetween, RX9)]
def tyL (cT : Nat → ClassId) : List (ClassId × FieldType) := [(cT 0, .int), (cT 1, .boolean), (cT 2, .object "FindsOffice$Law"), (cT 3, .object "FindsOffice$Find"), (cT 4, .object "FindsOffice$Sale"), (cT 5, .object "FindsOffice$Museum")]
/-- what of the tables every contract takes along -/
def EV (D : va_G) (cT : Nat → ClassId) (U : State) : Prop := va_K D vwCl (tyL cT) U ∧ ∀ q ∈ nestQ, va_Nw (.methodLinkNest q.1 q.2.1 q.2.2.1 q.2.2.2) U
theorem EV.moved {D : va_G} {cT : Nat → ClassId} {s U : State} (hW : s.WarmedH U.vm) (h : EV D cT s) : EV D cT U := ⟨va_K.moved hW.alike h.1, fun q hq => va_Nw.warmM hW (h.2 q hq)⟩
theorem EV.call {D : va_G} {cT : Nat → ClassId} {U : State} {g : JFrame} {mk : MethodId} {a : Array Value} (h : EV D cT U) : EV D cT (U.calling g mk a) := ⟨va_K.moved (u := U) (U := U.calling g mk a) (Vm.Alike.refl U.vm) h.1, fun q hq => va_Nw.same rfl rfl (h.2 q hq)⟩
def PB (D : va_G) (cT : Nat → ClassId) (ws : va_W) (U : State) : Prop := EV D cT U ∧ va_P D vwCl ws U.heap
def PW (D : va_G) (cT : Nat → ClassId) (ws : va_W) (sz : Nat) (U : State) : Prop := EV D cT U ∧ va_P D vwCl ws U.heap ∧ U.heap.size = sz ∧ va_D (fun _ => True) ws
/-- a call that only reads: its answer is w -/
def QR (w : Value) : Array Value → State → Outcome → State → Prop := fun _ st o t => o = .returned (some w) ∧ t.heap = st.heap
/-- a call that writes within A: its answer is v, and B holds of the heap behind it -/
def QW (v : Option Value) (B : Heap → Prop) (A : Nat → Prop) : Array Value → State → Outcome → State → Prop := fun _ st o t => o = .returned v ∧ B t.heap ∧ va_F A st t
theorem pb_blind {D : va_G} {cT : Nat → ClassId} {ws : va_W} {av : List Value} : FrameBlind (va_Pc av (PB D cT ws)) := fun _ _ _ _ q => ⟨q.1, q.2.1.call, q.2.2⟩
theorem pw_blind {D : va_G} {cT : Nat → ClassId} {ws : va_W} {sz : Nat} {av : List Value} : FrameBlind (va_Pc av (PW D cT ws sz)) := fun _ _ _ _ q => ⟨q.1, q.2.1.call, q.2.2⟩
section BASE
variable {p : Program} {l : Launch} {e : Env} {R : Room} {s : State} {m : MethodId} {args : Array Value} {below : List Frame} {meth : Method} {c : Code} {H : Heap} {locs : List Loc} {cells slots : Nat} {Q : State → Prop} {cc bytes : ByteArray} {pc nL maxL n index mc ms : Nat} {ls : Array Slot} {rest st0 As : List Value} {w : Value} {vo : Option Value} {a : Array Value} {D : va_G} {cT : Nat → ClassId} {wc : va_W} {own C host : String} {y : MethodName} {wsC Ts : List Cond} {rm : Room} {ret : Option FieldType} {b : Addr} {fs : List Value} {q : vw_C} {A0 A1 : Nat → Prop} {H0 : Heap} {free : Addr → Prop} {Bp : Heap → Prop}
theorem ro_go (hr : va_Run p l e R s m args below meth c H locs cells slots 0 0 (F0 m pc ls st0) rest (QR w a) (fun _ => False)) (kk : W p l e R s m args below meth c H locs cells slots Q (F0 m (pc + 3) ls (w :: rest))) : W p l e R s m args below meth c H locs cells slots Q (F0 m pc ls st0) := by
  intro T hT X
  obtain ⟨v', st₀, t, T', L, h0, X', hL, e1, e2, ⟨hv, hh⟩, st⟩ := hr T hT X
  cases hv
  obtain ⟨t2, a1, b1⟩ := kk T' (by rw [e1, hh, h0]) (Stand.forget X' (fun q h => (hL q h).elim))
  exact ⟨t2, st t2 a1, b1⟩
theorem ro_V (S : CallFix p m c cc nL s args Ts own) (hM : Met l y wsC rm (va_Pc (.ref b :: As) (PB D cT wc)) (QR w) 0 0 (fun _ => False)) (cw : CallW R s args own C index y bytes maxL ret wsC rm 0 0 n) (hE : EV D cT s) (hP : va_P D vwCl wc H) (q0 ci : Nat) (he : wc[q0]? = some (b, .inr (ci, fs))) (hc : vwCl[ci]? = some q) (hqC : q.1 = C) (hn : As.length = n) (hsize : ls.size = nL) (hst : st0 = As.reverse ++ .ref b :: rest) (hW : (rest.map fun v => v.category).sum ≤ 8) (hdg : decode cc pc = .ok (.invokevirtual index, 3)) (hf : cells ≤ R.cells ∧ slots ≤ R.slots) (kk : W p l e R s m args below meth c H locs cells slots Q (F0 m (pc + 3) ls (w :: rest))) : W p l e R s m args below meth c H locs cells slots Q (F0 m pc ls st0) :=
  ro_go (va_runV S hM cw ⟨pb_blind, by rw [← hqC]; exact va_recv hE.1 hP hc he, fun U hU hWm => ⟨rfl, EV.moved hWm hE, by rw [hU]; exact hP⟩⟩ rfl hn hsize hst (lv_room hW) hdg hf) kk
theorem ro_S (S : CallFix p m c cc nL s args Ts own) (hM : Met l y wsC rm (va_Pc As (PB D cT wc)) (QR w) 0 0 (fun _ => False)) (cw : CallB R s args own index y bytes maxL ret wsC rm 0 0 n ∧ (Cond.static y).before args s = true) (hE : EV D cT s) (hP : va_P D vwCl wc H) (hn : As.length = n) (hsize : ls.size = nL) (hst : st0 = As.reverse ++ rest) (hW : (rest.map fun v => v.category).sum ≤ 8) (hdg : decode cc pc = .ok (.invokestatic index, 3)) (hf : cells ≤ R.cells ∧ slots ≤ R.slots) (kk : W p l e R s m args below meth c H locs cells slots Q (F0 m (pc + 3) ls (w :: rest))) : W p l e R s m args below meth c H locs cells slots Q (F0 m pc ls st0) :=
  ro_go (va_runS S hM cw ⟨pb_blind, fun U hU hWm => ⟨rfl, EV.moved hWm hE, by rw [hU]; exact hP⟩⟩ rfl hn hsize hst (lv_room hW) hdg hf) kk
theorem ro_SN (S : CallFix p m c cc nL s args Ts own) (hM : Met l y wsC rm (va_Pc As (PB D cT wc)) (QR w) 0 0 (fun _ => False)) (cw : va_CN R s args own index y host bytes maxL ret wsC rm 0 0 n ∧ (Cond.static y).before args s = true ∧ True) (hE : EV D cT s) (hP : va_P D vwCl wc H) (hn : As.length = n) (hsize : ls.size = nL) (hst : st0 = As.reverse ++ rest) (hW : (rest.map fun v => v.category).sum ≤ 8) (hdg : decode cc pc = .ok (.invokestatic index, 3)) (hf : cells ≤ R.cells ∧ slots ≤ R.slots) (kk : W p l e R s m args below meth c H locs cells slots Q (F0 m (pc + 3) ls (w :: rest))) : W p l e R s m args below meth c H locs cells slots Q (F0 m pc ls st0) :=
  ro_go (va_runSN S hM cw ⟨pb_blind, fun U hU hWm => ⟨rfl, EV.moved hWm hE, by rw [hU]; exact hP⟩⟩ rfl hn hsize hst (lv_room hW) hdg hf) kk
/-- behind a writing call: the heap, and what it says -/
theorem rw_go1 (hr : va_Run p l e R s m args below meth c H locs cells slots mc ms (F0 m pc ls st0) rest (QW (some w) Bp A1 a) A1) (hS : va_S A0 H0 H locs) (hA : ∀ q, A1 q → A0 q)
    (kk : ∀ (H1 : Heap) (locs1 : List Loc), Bp H1 → H.size ≤ H1.size → (∀ q : Nat, q < H.size → ¬ A1 q → H1[q]? = H[q]?) → va_S A0 H0 H1 locs1 → W p l e R s m args below meth c H1 locs1 (cells + mc) (slots + ms) Q (F0 m (pc + 3) ls (w :: rest))) : W p l e R s m args below meth c H locs cells slots Q (F0 m pc ls st0) := by
  intro T hT X
  obtain ⟨v, st₀, t, T', L, h0, X', hL, e1, e2, ⟨hv, hb, hz, hk⟩, st⟩ := hr T hT X
  cases hv
  rw [h0] at hz hk
  rw [← e1] at hz hk hb
  obtain ⟨t2, a1, b1⟩ := kk T'.heap (locs ++ L) hb hz hk
    ⟨Nat.le_trans hS.1 hz, fun q h1 h2 => by rw [hk q (Nat.lt_of_lt_of_le h1 hS.1) (fun z => h2 (hA q z))]; exact hS.2.1 q h1 h2, fun q hq => by
      rcases List.mem_append.mp hq with h | h
      · exact hS.2.2 q h
      · exact hA _ (hL q h)⟩ T' rfl X'
  exact ⟨t2, st t2 a1, b1⟩
theorem rw_go0 (hr : va_Run p l e R s m args below meth c H locs cells slots mc ms (F0 m pc ls st0) rest (QW none Bp A1 a) A1) (hS : va_S A0 H0 H locs) (hA : ∀ q, A1 q → A0 q)
    (kk : ∀ (H1 : Heap) (locs1 : List Loc), Bp H1 → H.size ≤ H1.size → (∀ q : Nat, q < H.size → ¬ A1 q → H1[q]? = H[q]?) → va_S A0 H0 H1 locs1 → W p l e R s m args below meth c H1 locs1 (cells + mc) (slots + ms) Q (F0 m (pc + 3) ls rest)) : W p l e R s m args below meth c H locs cells slots Q (F0 m pc ls st0) := by
  intro T hT X
  obtain ⟨v, st₀, t, T', L, h0, X', hL, e1, e2, ⟨hv, hb, hz, hk⟩, st⟩ := hr T hT X
  cases hv
  rw [h0] at hz hk
  rw [← e1] at hz hk hb
  obtain ⟨t2, a1, b1⟩ := kk T'.heap (locs ++ L) hb hz hk
    ⟨Nat.le_trans hS.1 hz, fun q h1 h2 => by rw [hk q (Nat.lt_of_lt_of_le h1 hS.1) (fun z => h2 (hA q z))]; exact hS.2.1 q h1 h2, fun q hq => by
      rcases List.mem_append.mp hq with h | h
      · exact hS.2.2 q h
      · exact hA _ (hL q h)⟩ T' rfl X'
  exact ⟨t2, st t2 a1, b1⟩
/-- all cells of a world may be written: they are in A0, and so are new ones -/
theorem va_allA {ws : va_W} (hD : va_D A0 ws) (hS : va_S A0 H0 H locs) (hA : ∀ q, H0.size ≤ q → A0 q) : ∀ q, va_A ws H.size q → A0 q := fun q h => by
  rcases h with ⟨k, e, h⟩ | h
  · exact hD.2 k (q, e) h
  · exact hA q (Nat.le_trans hS.1 h)
theorem rw_V1 (S : CallFix p m c cc nL s args Ts own) (hM : Met l y wsC rm (va_Pc (.ref b :: As) (PW D cT wc H.size)) (QW (some w) Bp (va_A wc H.size)) mc ms (va_A wc H.size)) (cw : CallW R s args own C index y bytes maxL ret wsC rm mc ms n) (hE : EV D cT s) (hP : va_P D vwCl wc H) (hD : va_D A0 wc) (hS : va_S A0 H0 H locs) (hA : ∀ q, H0.size ≤ q → A0 q) (q0 ci : Nat) (he : wc[q0]? = some (b, .inr (ci, fs))) (hc : vwCl[ci]? = some q) (hqC : q.1 = C) (hn : As.length = n) (hsize : ls.size = nL) (hst : st0 = As.reverse ++ .ref b :: rest) (hW : (rest.map fun v => v.category).sum ≤ 8) (hdg : decode cc pc = .ok (.invokevirtual index, 3)) (hf : cells + mc ≤ R.cells ∧ slots + ms ≤ R.slots)
    (kk : ∀ (H1 : Heap) (locs1 : List Loc), Bp H1 → H.size ≤ H1.size → (∀ q : Nat, q < H.size → ¬ va_A wc H.size q → H1[q]? = H[q]?) → va_S A0 H0 H1 locs1 → W p l e R s m args below meth c H1 locs1 (cells + mc) (slots + ms) Q (F0 m (pc + 3) ls (w :: rest))) : W p l e R s m args below meth c H locs cells slots Q (F0 m pc ls st0) :=
  rw_go1 (va_runV S hM cw ⟨pw_blind, by rw [← hqC]; exact va_recv hE.1 hP hc he, fun U hU hWm => ⟨rfl, EV.moved hWm hE, by rw [hU]; exact hP, by rw [hU], hD.weaken (fun _ _ _ _ => trivial)⟩⟩ rfl hn hsize hst (lv_room hW) hdg hf) hS (va_allA hD hS hA) kk
theorem rw_V0 (S : CallFix p m c cc nL s args Ts own) (hM : Met l y wsC rm (va_Pc (.ref b :: As) (PW D cT wc H.size)) (QW none Bp (va_A wc H.size)) mc ms (va_A wc H.size)) (cw : CallW R s args own C index y bytes maxL ret wsC rm mc ms n) (hE : EV D cT s) (hP : va_P D vwCl wc H) (hD : va_D A0 wc) (hS : va_S A0 H0 H locs) (hA : ∀ q, H0.size ≤ q → A0 q) (q0 ci : Nat) (he : wc[q0]? = some (b, .inr (ci, fs))) (hc : vwCl[ci]? = some q) (hqC : q.1 = C) (hn : As.length = n) (hsize : ls.size = nL) (hst : st0 = As.reverse ++ .ref b :: rest) (hW : (rest.map fun v => v.category).sum ≤ 8) (hdg : decode cc pc = .ok (.invokevirtual index, 3)) (hf : cells + mc ≤ R.cells ∧ slots + ms ≤ R.slots)
    (kk : ∀ (H1 : Heap) (locs1 : List Loc), Bp H1 → H.size ≤ H1.size → (∀ q : Nat, q < H.size → ¬ va_A wc H.size q → H1[q]? = H[q]?) → va_S A0 H0 H1 locs1 → W p l e R s m args below meth c H1 locs1 (cells + mc) (slots + ms) Q (F0 m (pc + 3) ls rest)) : W p l e R s m args below meth c H locs cells slots Q (F0 m pc ls st0) :=
  rw_go0 (va_runV S hM cw ⟨pw_blind, by rw [← hqC]; exact va_recv hE.1 hP hc he, fun U hU hWm => ⟨rfl, EV.moved hWm hE, by rw [hU]; exact hP, by rw [hU], hD.weaken (fun _ _ _ _ => trivial)⟩⟩ rfl hn hsize hst (lv_room hW) hdg hf) hS (va_allA hD hS hA) kk
theorem rw_I0 (S : CallFix p m c cc nL s args Ts own) (hM : Met l y wsC rm (va_Pc (.ref b :: As) (PW D cT wc H.size)) (QW none Bp (va_A wc H.size)) mc ms (va_A wc H.size)) (cw : CallB R s args own index y bytes maxL none wsC rm mc ms n ∧ y.name = "<init>" ∧ (Cond.instanceMethod y).before args s = true) (hE : EV D cT s) (hP : va_P D vwCl wc H) (hD : va_D A0 wc) (hS : va_S A0 H0 H locs) (hA : ∀ q, H0.size ≤ q → A0 q) (hn : As.length = n) (hsize : ls.size = nL) (hst : st0 = As.reverse ++ .ref b :: rest) (hW : (rest.map fun v => v.category).sum ≤ 8) (hdg : decode cc pc = .ok (.invokespecial index, 3)) (hf : cells + mc ≤ R.cells ∧ slots + ms ≤ R.slots)
    (kk : ∀ (H1 : Heap) (locs1 : List Loc), Bp H1 → H.size ≤ H1.size → (∀ q : Nat, q < H.size → ¬ va_A wc H.size q → H1[q]? = H[q]?) → va_S A0 H0 H1 locs1 → W p l e R s m args below meth c H1 locs1 (cells + mc) (slots + ms) Q (F0 m (pc + 3) ls rest)) : W p l e R s m args below meth c H locs cells slots Q (F0 m pc ls st0) :=
  rw_go0 (va_runI S hM cw ⟨pw_blind, fun U hU hWm => ⟨rfl, EV.moved hWm hE, by rw [hU]; exact hP, by rw [hU], hD.weaken (fun _ _ _ _ => trivial)⟩⟩ rfl hn hsize hst (lv_room hW) hdg hf) hS (va_allA hD hS hA) kk
theorem rw_IN0 (S : CallFix p m c cc nL s args Ts own) (hM : Met l y wsC rm (va_Pc (.ref b :: As) (PW D cT wc H.size)) (QW none Bp (va_A wc H.size)) mc ms (va_A wc H.size)) (cw : va_CN R s args own index y host bytes maxL none wsC rm mc ms n ∧ y.name = "<init>" ∧ (Cond.instanceMethod y).before args s = true) (hE : EV D cT s) (hP : va_P D vwCl wc H) (hD : va_D A0 wc) (hS : va_S A0 H0 H locs) (hA : ∀ q, H0.size ≤ q → A0 q) (hn : As.length = n) (hsize : ls.size = nL) (hst : st0 = As.reverse ++ .ref b :: rest) (hW : (rest.map fun v => v.category).sum ≤ 8) (hdg : decode cc pc = .ok (.invokespecial index, 3)) (hf : cells + mc ≤ R.cells ∧ slots + ms ≤ R.slots)
    (kk : ∀ (H1 : Heap) (locs1 : List Loc), Bp H1 → H.size ≤ H1.size → (∀ q : Nat, q < H.size → ¬ va_A wc H.size q → H1[q]? = H[q]?) → va_S A0 H0 H1 locs1 → W p l e R s m args below meth c H1 locs1 (cells + mc) (slots + ms) Q (F0 m (pc + 3) ls rest)) : W p l e R s m args below meth c H locs cells slots Q (F0 m pc ls st0) :=
  rw_go0 (va_runIN S hM cw ⟨pw_blind, fun U hU hWm => ⟨rfl, EV.moved hWm hE, by rw [hU]; exact hP, by rw [hU], hD.weaken (fun _ _ _ _ => trivial)⟩⟩ rfl hn hsize hst (lv_room hW) hdg hf) hS (va_allA hD hS hA) kk
theorem rw_S0 (S : CallFix p m c cc nL s args Ts own) (hM : Met l y wsC rm (va_Pc As (PW D cT wc H.size)) (QW none Bp (va_A wc H.size)) mc ms (va_A wc H.size)) (cw : CallB R s args own index y bytes maxL ret wsC rm mc ms n ∧ (Cond.static y).before args s = true) (hE : EV D cT s) (hP : va_P D vwCl wc H) (hD : va_D A0 wc) (hS : va_S A0 H0 H locs) (hA : ∀ q, H0.size ≤ q → A0 q) (hn : As.length = n) (hsize : ls.size = nL) (hst : st0 = As.reverse ++ rest) (hW : (rest.map fun v => v.category).sum ≤ 8) (hdg : decode cc pc = .ok (.invokestatic index, 3)) (hf : cells + mc ≤ R.cells ∧ slots + ms ≤ R.slots)
    (kk : ∀ (H1 : Heap) (locs1 : List Loc), Bp H1 → H.size ≤ H1.size → (∀ q : Nat, q < H.size → ¬ va_A wc H.size q → H1[q]? = H[q]?) → va_S A0 H0 H1 locs1 → W p l e R s m args below meth c H1 locs1 (cells + mc) (slots + ms) Q (F0 m (pc + 3) ls rest)) : W p l e R s m args below meth c H locs cells slots Q (F0 m pc ls st0) :=
  rw_go0 (va_runS S hM cw ⟨pw_blind, fun U hU hWm => ⟨rfl, EV.moved hWm hE, by rw [hU]; exact hP, by rw [hU], hD.weaken (fun _ _ _ _ => trivial)⟩⟩ rfl hn hsize hst (lv_room hW) hdg hf) hS (va_allA hD hS hA) kk
/-- ifeq, ifne over an answer that is a truth -/
theorem bi_eq (hx : p.tables.exec = Jvm.exec) (hb : c.code = cc) {B : Bool} {off : Int} {tgt : Nat} (hdg : decode cc pc = .ok (.ifCond .eq off, 3)) (ht : (pc : Int) + off = (tgt : Int)) (kt : B = false → W p l e R s m args below meth c H locs cells slots Q (F0 m tgt ls rest)) (kf : B = true → W p l e R s m args below meth c H locs cells slots Q (F0 m (pc + 3) ls rest)) : W p l e R s m args below meth c H locs cells slots Q (F0 m pc ls (.int (b2 B) :: rest)) := lv_if_eq hx hb hdg ht (fun h => kt (b2_z h)) (fun h => kf (b2_nz h))
theorem bi_ne (hx : p.tables.exec = Jvm.exec) (hb : c.code = cc) {B : Bool} {off : Int} {tgt : Nat} (hdg : decode cc pc = .ok (.ifCond .ne off, 3)) (ht : (pc : Int) + off = (tgt : Int)) (kt : B = true → W p l e R s m args below meth c H locs cells slots Q (F0 m tgt ls rest)) (kf : B = false → W p l e R s m args below meth c H locs cells slots Q (F0 m (pc + 3) ls rest)) : W p l e R s m args below meth c H locs cells slots Q (F0 m pc ls (.int (b2 B) :: rest)) := lv_if_ne hx hb hdg ht (fun h => kt (b2_nz h)) (fun h => kf (b2_z h))
/-- returns -/
theorem ro_iret (hx : p.tables.exec = Jvm.exec) (hb : c.code = cc) (hr : meth.sig.returnType = some .int) (hlocks : meth.locks = false) {v u : Int32} (hv : v = u) (hdg : decode cc pc = .ok (.ireturn, 1)) : W p l e R s m args below meth c s.heap [] 0 0 (MQ below (QR (.int u)) args s 0 0 (fun _ => False)) (F0 m pc ls [.int v]) := W.iret hx hb hr (fun t ht _ => ⟨by rw [hv], ht⟩) (fun _ h => by cases h) hdg
theorem ro_zret (hx : p.tables.exec = Jvm.exec) (hb : c.code = cc) (hr : meth.sig.returnType = some .boolean) (hlocks : meth.locks = false) {v : Int32} {B : Bool} (hv : v = b2 B) (hdg : decode cc pc = .ok (.ireturn, 1)) : W p l e R s m args below meth c s.heap [] 0 0 (MQ below (QR (.int (b2 B))) args s 0 0 (fun _ => False)) (F0 m pc ls [.int v]) := W.zret hx hb hr (by rw [hv]; exact b2_nar B) (fun t ht _ => ⟨by rw [hv], ht⟩) (fun _ h => by cases h) hdg
theorem ro_lret (hx : p.tables.exec = Jvm.exec) (hb : c.code = cc) (hr : meth.sig.returnType = some .long) (hlocks : meth.locks = false) {v u : Int64} (hv : v = u) (hdg : decode cc pc = .ok (.lreturn, 1)) : W p l e R s m args below meth c s.heap [] 0 0 (MQ below (QR (.long u)) args s 0 0 (fun _ => False)) (F0 m pc ls [.long v]) := W.lret hx hb hr (fun t ht _ => ⟨by rw [hv], ht⟩) (fun _ h => by cases h) hdg
theorem ro_aret {rt : String} (hx : p.tables.exec = Jvm.exec) (hb : c.code = cc) (hr : meth.sig.returnType = some (.object rt)) (hlocks : meth.locks = false) {v u : Value} (hv : v = u) (hvr : v = .null ∨ ∃ a, v = .ref a) (hdg : decode cc pc = .ok (.areturn, 1)) : W p l e R s m args below meth c s.heap [] 0 0 (MQ below (QR u) args s 0 0 (fun _ => False)) (F0 m pc ls [v]) := W.aret hx hb hr (Or.inl ⟨_, rfl⟩) hvr (fun t ht _ => ⟨by rw [hv], ht⟩) (fun _ h => by cases h) hdg
theorem rw_iret (hx : p.tables.exec = Jvm.exec) (hb : c.code = cc) (hr : meth.sig.returnType = some .int) (hlocks : meth.locks = false) {v u : Int32} (hv : v = u) (hB : Bp H) (hS : va_S A0 s.heap H locs) (h1 : cells ≤ mc) (h2 : slots ≤ ms) (hdg : decode cc pc = .ok (.ireturn, 1)) : W p l e R s m args below meth c H locs cells slots (MQ below (QW (some (.int u)) Bp A0) args s mc ms A0) (F0 m pc ls [.int v]) := W.widen h1 h2 (W.iret hx hb hr (fun t ht _ => ⟨by rw [hv], by rw [ht]; exact hB, hS.F ht⟩) hS.2.2 hdg)
theorem rw_zret (hx : p.tables.exec = Jvm.exec) (hb : c.code = cc) (hr : meth.sig.returnType = some .boolean) (hlocks : meth.locks = false) {v : Int32} {B : Bool} (hv : v = b2 B) (hB : Bp H) (hS : va_S A0 s.heap H locs) (h1 : cells ≤ mc) (h2 : slots ≤ ms) (hdg : decode cc pc = .ok (.ireturn, 1)) : W p l e R s m args below meth c H locs cells slots (MQ below (QW (some (.int (b2 B))) Bp A0) args s mc ms A0) (F0 m pc ls [.int v]) := W.widen h1 h2 (W.zret hx hb hr (by rw [hv]; exact b2_nar B) (fun t ht _ => ⟨by rw [hv], by rw [ht]; exact hB, hS.F ht⟩) hS.2.2 hdg)
theorem rw_vret (hx : p.tables.exec = Jvm.exec) (hb : c.code = cc) (hr : meth.sig.returnType = none) (hlocks : meth.locks = false) (hB : Bp H) (hS : va_S A0 s.heap H locs) (h1 : cells ≤ mc) (h2 : slots ≤ ms) (hdg : decode cc pc = .ok (.return_, 1)) : W p l e R s m args below meth c H locs cells slots (MQ below (QW none Bp A0) args s mc ms A0) (F0 m pc ls []) := W.widen h1 h2 (W.vret hx hb hr (fun t ht _ => ⟨rfl, by rw [ht]; exact hB, hS.F ht⟩) hS.2.2 hdg)
end BASE
/-- a reading contract out of a walk -/
theorem RO_of {l : Launch} {y : MethodName} {ws ws' : List Cond} {rm : Room} {cc : ByteArray} {maxL : Nat} {ret : Option FieldType} {av : List Value} {D : va_G} {cT : Nat → ClassId} {wo : va_W} {w : Value} (hy : plainName y.cls = true) (hw : ws = Cond.code y cc maxL ret :: ws') (hlen : (lg_sl av).length ≤ maxL)
    (body : ∀ (p : Program) (e : Env) (s : State) (m : MethodId) (below : List Frame) (meth : Method) (c : Code), p.tables.exec = Jvm.exec → c.code = cc → meth.sig.returnType = ret → (∀ w ∈ ws, w.before av.toArray s = true) → s.vm.findClass y.cls = some m.cls → meth.locks = false → c.maxLocals = maxL → EV D cT s → va_P D vwCl wo s.heap → ∀ ls : Array Slot, lv_has ls maxL (lv_args 0 av) → W p l e rm s m av.toArray below meth c s.heap [] 0 0 (MQ below (QR w) av.toArray s 0 0 (fun _ => False)) (F0 m 0 ls [])) : Met l y ws rm (va_Pc av (PB D cT wo)) (QR w) 0 0 (fun _ => False) := by
  refine Met.ofW (cc := cc) (maxL := maxL) (ret := ret) hy hw ?_
  intro p e s m args below meth c s₁ B hml hv
  obtain ⟨rfl, hE, hP⟩ := hv
  have hts := atoms_spec (ws := ws) B.pre
  have hl := lv_entry av (n := maxL) hlen
  rw [lg_entry_eq]
  exact body p e s m below meth c B.exec B.bytes B.returns hts (findClass_of_methodNamed B.named) B.notSynchronized hml hE hP _ hl
/-- a writing contract out of a walk -/
theorem RW_of {l : Launch} {y : MethodName} {ws ws' : List Cond} {rm : Room} {cc : ByteArray} {maxL : Nat} {ret : Option FieldType} {av : List Value} {D : va_G} {cT : Nat → ClassId} {wo : va_W} {vo : Option Value} {sz mc ms : Nat} {Bp : (Nat → Prop) → Heap → Prop} (hy : plainName y.cls = true) (hw : ws = Cond.code y cc maxL ret :: ws') (hlen : (lg_sl av).length ≤ maxL)
    (body : ∀ (p : Program) (e : Env) (s : State) (m : MethodId) (below : List Frame) (meth : Method) (c : Code) (A : Nat → Prop), p.tables.exec = Jvm.exec → c.code = cc → meth.sig.returnType = ret → (∀ w ∈ ws, w.before av.toArray s = true) → s.vm.findClass y.cls = some m.cls → meth.locks = false → meth.name = y.name → c.maxLocals = maxL → EV D cT s → va_D A wo → (∀ q, s.heap.size ≤ q → A q) → ∀ (H : Heap) (locs : List Loc), va_P D vwCl wo H → va_S A s.heap H locs → ∀ ls : Array Slot, lv_has ls maxL (lv_args 0 av) → W p l e rm s m av.toArray below meth c H locs 0 0 (MQ below (QW vo (Bp A) A) av.toArray s mc ms A) (F0 m 0 ls [])) : Met l y ws rm (va_Pc av (PW D cT wo sz)) (QW vo (Bp (va_A wo sz)) (va_A wo sz)) mc ms (va_A wo sz) := by
  refine Met.ofW (cc := cc) (maxL := maxL) (ret := ret) hy hw ?_
  intro p e s m args below meth c s₁ B hml hv
  obtain ⟨rfl, hE, hP, hsz, hD0⟩ := hv
  subst hsz
  have hts := atoms_spec (ws := ws) B.pre
  have hl := lv_entry av (n := maxL) hlen
  rw [lg_entry_eq]
  exact body p e s m below meth c (va_A wo s.heap.size) B.exec B.bytes B.returns hts (findClass_of_methodNamed B.named) B.notSynchronized (name_of_methodNamed B.named B.method).1 hml hE hD0.self (fun q h => Or.inr h) s.heap [] hP va_S.rf _ hl
end
section
/-! the state: T i is what the reference's field i holds (a number: T i 0), the class's cells are read off the same T; P: partedOn, hoardOf, sizeOf, reached; n: laws, finds, sales, museums told; b: where they lie -/
def pf (b : Nat → Nat) (n : Nat) : Nat → Option Nat := fun k => if k < n then some (b k) else none
theorem pf_at {b : Nat → Nat} {n k : Nat} (h : k < n) : va_rf (pf b n k) = .ref (b k) := by simp [pf, h, va_rf]
abbrev lawF (T : Nat → Nat → Int32) (k : Nat) : List Value := [.int (T 16 k), .int (T 17 k), .int (T 18 k), .int (T 19 k), .int (T 20 k)]
abbrev findF (T : Nat → Nat → Int32) (k : Nat) : List Value := [.int (T 2 k), .int (T 3 k), .int (T 4 k), .int (T 5 k), .int (T 6 k), .int (T 7 k), .int (T 8 k), .int (T 10 k), .int (T 9 k), .int (T 11 k), .int (T 12 k)]
abbrev saleF (T : Nat → Nat → Int32) (k : Nat) : List Value := [.int (T 27 k), .int (T 28 k), .int (T 29 k), .int (T 30 k)]
abbrev museumF (T : Nat → Nat → Int32) (k : Nat) : List Value := [.int (T 33 k), .int (T 34 k), .int (T 35 k)]
def plw (ci : Nat) (b : Nat → Nat) (n : Nat) (f : Nat → List Value) : va_W := (List.range n).map (fun k => (b k, .inr (ci, f k)))
abbrev offX (cT : Nat → ClassId) (a : Nat → Nat) (b : Nat → Nat → Nat) (T P : Nat → Nat → Int32) (n : Nat → Nat) : va_W := [(a 0, .inr (9, [.int (T 0 0), .ref (a 1), .ref (a 3), .ref (a 7), .ref (a 13), .ref (a 16), .ref (a 18)])), (a 1, .inr (5, [.ref (a 2), .int (nI (n 0))])), (a 2, .inl (cT 2, 20, .inr (.inr (.inr (.inr (pf (b 0) (n 0))))))), (a 3, .inr (3, [.ref (a 4), .ref (a 5), .ref (a 6), .int (nI (n 4))])), (a 4, .inl (cT 0, 100, .inl (T 22))), (a 5, .inl (cT 0, 100, .inl (T 23))), (a 6, .inl (cT 0, 100, .inl (T 24))), (a 7, .inr (2, [.ref (a 8), .int (nI (n 1)), .ref (a 9), .int (T 14 0), .ref (a 10), .ref (a 11), .ref (a 12)])), (a 8, .inl (cT 3, 50, .inr (.inr (.inr (.inr (pf (b 1) (n 1))))))), (a 9, .inl (cT 0, 1225, .inl (P 0))), (a 10, .inl (cT 0, 50, .inl (P 1))), (a 11, .inl (cT 0, 50, .inl (P 2))), (a 12, .inl (cT 0, 50, .inl (P 3))), (a 13, .inr (6, [.ref (a 14), .int (nI (n 2)), .ref (a 15)])), (a 14, .inl (cT 4, 60, .inr (.inr (.inr (.inr (pf (b 2) (n 2))))))), (a 15, .inl (cT 0, 55, .inl (T 25))), (a 16, .inr (0, [.ref (a 17), .int (nI (n 3)), .int (T 36 0 + 1)])), (a 17, .inl (cT 5, 10, .inr (.inr (.inr (.inr (pf (b 3) (n 3))))))), (a 18, .inl (cT 0, 30, .inl (T 31)))]
def poolW (b : Nat → Nat → Nat) (T : Nat → Nat → Int32) (n : Nat → Nat) : va_W := plw 4 (b 0) (n 0) (lawF T) ++ (plw 1 (b 1) (n 1) (findF T) ++ (plw 8 (b 2) (n 2) (saleF T) ++ plw 7 (b 3) (n 3) (museumF T)))
def offW (cT : Nat → ClassId) (a : Nat → Nat) (b : Nat → Nat → Nat) (T P : Nat → Nat → Int32) (n : Nat → Nat) : va_W := offX cT a b T P n ++ poolW b T n
theorem ofl_0 {cT : Nat → ClassId} {a : Nat → Nat} {b : Nat → Nat → Nat} {T P : Nat → Nat → Int32} {n : Nat → Nat} : (offW cT a b T P n)[0]? = some (a 0, .inr (9, [.int (T 0 0), .ref (a 1), .ref (a 3), .ref (a 7), .ref (a 13), .ref (a 16), .ref (a 18)])) := rfl
theorem ofl_1 {cT : Nat → ClassId} {a : Nat → Nat} {b : Nat → Nat → Nat} {T P : Nat → Nat → Int32} {n : Nat → Nat} : (offW cT a b T P n)[1]? = some (a 1, .inr (5, [.ref (a 2), .int (nI (n 0))])) := rfl
theorem ofl_2 {cT : Nat → ClassId} {a : Nat → Nat} {b : Nat → Nat → Nat} {T P : Nat → Nat → Int32} {n : Nat → Nat} : (offW cT a b T P n)[2]? = some (a 2, .inl (cT 2, 20, .inr (.inr (.inr (.inr (pf (b 0) (n 0))))))) := rfl
theorem ofl_3 {cT : Nat → ClassId} {a : Nat → Nat} {b : Nat → Nat → Nat} {T P : Nat → Nat → Int32} {n : Nat → Nat} : (offW cT a b T P n)[3]? = some (a 3, .inr (3, [.ref (a 4), .ref (a 5), .ref (a 6), .int (nI (n 4))])) := rfl
theorem ofl_4 {cT : Nat → ClassId} {a : Nat → Nat} {b : Nat → Nat → Nat} {T P : Nat → Nat → Int32} {n : Nat → Nat} : (offW cT a b T P n)[4]? = some (a 4, .inl (cT 0, 100, .inl (T 22))) := rfl
theorem ofl_5 {cT : Nat → ClassId} {a : Nat → Nat} {b : Nat → Nat → Nat} {T P : Nat → Nat → Int32} {n : Nat → Nat} : (offW cT a b T P n)[5]? = some (a 5, .inl (cT 0, 100, .inl (T 23))) := rfl
theorem ofl_6 {cT : Nat → ClassId} {a : Nat → Nat} {b : Nat → Nat → Nat} {T P : Nat → Nat → Int32} {n : Nat → Nat} : (offW cT a b T P n)[6]? = some (a 6, .inl (cT 0, 100, .inl (T 24))) := rfl
theorem ofl_7 {cT : Nat → ClassId} {a : Nat → Nat} {b : Nat → Nat → Nat} {T P : Nat → Nat → Int32} {n : Nat → Nat} : (offW cT a b T P n)[7]? = some (a 7, .inr (2, [.ref (a 8), .int (nI (n 1)), .ref (a 9), .int (T 14 0), .ref (a 10), .ref (a 11), .ref (a 12)])) := rfl
theorem ofl_8 {cT : Nat → ClassId} {a : Nat → Nat} {b : Nat → Nat → Nat} {T P : Nat → Nat → Int32} {n : Nat → Nat} : (offW cT a b T P n)[8]? = some (a 8, .inl (cT 3, 50, .inr (.inr (.inr (.inr (pf (b 1) (n 1))))))) := rfl
theorem ofl_9 {cT : Nat → ClassId} {a : Nat → Nat} {b : Nat → Nat → Nat} {T P : Nat → Nat → Int32} {n : Nat → Nat} : (offW cT a b T P n)[9]? = some (a 9, .inl (cT 0, 1225, .inl (P 0))) := rfl
theorem ofl_10 {cT : Nat → ClassId} {a : Nat → Nat} {b : Nat → Nat → Nat} {T P : Nat → Nat → Int32} {n : Nat → Nat} : (offW cT a b T P n)[10]? = some (a 10, .inl (cT 0, 50, .inl (P 1))) := rfl
theorem ofl_11 {cT : Nat → ClassId} {a : Nat → Nat} {b : Nat → Nat → Nat} {T P : Nat → Nat → Int32} {n : Nat → Nat} : (offW cT a b T P n)[11]? = some (a 11, .inl (cT 0, 50, .inl (P 2))) := rfl
theorem ofl_12 {cT : Nat → ClassId} {a : Nat → Nat} {b : Nat → Nat → Nat} {T P : Nat → Nat → Int32} {n : Nat → Nat} : (offW cT a b T P n)[12]? = some (a 12, .inl (cT 0, 50, .inl (P 3))) := rfl
theorem ofl_13 {cT : Nat → ClassId} {a : Nat → Nat} {b : Nat → Nat → Nat} {T P : Nat → Nat → Int32} {n : Nat → Nat} : (offW cT a b T P n)[13]? = some (a 13, .inr (6, [.ref (a 14), .int (nI (n 2)), .ref (a 15)])) := rfl
theorem ofl_14 {cT : Nat → ClassId} {a : Nat → Nat} {b : Nat → Nat → Nat} {T P : Nat → Nat → Int32} {n : Nat → Nat} : (offW cT a b T P n)[14]? = some (a 14, .inl (cT 4, 60, .inr (.inr (.inr (.inr (pf (b 2) (n 2))))))) := rfl
theorem ofl_15 {cT : Nat → ClassId} {a : Nat → Nat} {b : Nat → Nat → Nat} {T P : Nat → Nat → Int32} {n : Nat → Nat} : (offW cT a b T P n)[15]? = some (a 15, .inl (cT 0, 55, .inl (T 25))) := rfl
theorem ofl_16 {cT : Nat → ClassId} {a : Nat → Nat} {b : Nat → Nat → Nat} {T P : Nat → Nat → Int32} {n : Nat → Nat} : (offW cT a b T P n)[16]? = some (a 16, .inr (0, [.ref (a 17), .int (nI (n 3)), .int (T 36 0 + 1)])) := rfl
theorem ofl_17 {cT : Nat → ClassId} {a : Nat → Nat} {b : Nat → Nat → Nat} {T P : Nat → Nat → Int32} {n : Nat → Nat} : (offW cT a b T P n)[17]? = some (a 17, .inl (cT 5, 10, .inr (.inr (.inr (.inr (pf (b 3) (n 3))))))) := rfl
theorem ofl_18 {cT : Nat → ClassId} {a : Nat → Nat} {b : Nat → Nat → Nat} {T P : Nat → Nat → Int32} {n : Nat → Nat} : (offW cT a b T P n)[18]? = some (a 18, .inl (cT 0, 30, .inl (T 31))) := rfl
theorem ofs_4 {cT : Nat → ClassId} {a : Nat → Nat} {b : Nat → Nat → Nat} {T P : Nat → Nat → Int32} {n : Nat → Nat} {g : Nat → Int32} : (offW cT a b T P n).set 4 (a 4, .inl (cT 0, 100, .inl g)) = offW cT a b (va_up T 22 g) P n := rfl
theorem ofs_5 {cT : Nat → ClassId} {a : Nat → Nat} {b : Nat → Nat → Nat} {T P : Nat → Nat → Int32} {n : Nat → Nat} {g : Nat → Int32} : (offW cT a b T P n).set 5 (a 5, .inl (cT 0, 100, .inl g)) = offW cT a b (va_up T 23 g) P n := rfl
theorem ofs_6 {cT : Nat → ClassId} {a : Nat → Nat} {b : Nat → Nat → Nat} {T P : Nat → Nat → Int32} {n : Nat → Nat} {g : Nat → Int32} : (offW cT a b T P n).set 6 (a 6, .inl (cT 0, 100, .inl g)) = offW cT a b (va_up T 24 g) P n := rfl
theorem ofs_9 {cT : Nat → ClassId} {a : Nat → Nat} {b : Nat → Nat → Nat} {T P : Nat → Nat → Int32} {n : Nat → Nat} {g : Nat → Int32} : (offW cT a b T P n).set 9 (a 9, .inl (cT 0, 1225, .inl g)) = offW cT a b T (va_up P 0 g) n := rfl
theorem ofs_10 {cT : Nat → ClassId} {a : Nat → Nat} {b : Nat → Nat → Nat} {T P : Nat → Nat → Int32} {n : Nat → Nat} {g : Nat → Int32} : (offW cT a b T P n).set 10 (a 10, .inl (cT 0, 50, .inl g)) = offW cT a b T (va_up P 1 g) n := rfl
theorem ofs_11 {cT : Nat → ClassId} {a : Nat → Nat} {b : Nat → Nat → Nat} {T P : Nat → Nat → Int32} {n : Nat → Nat} {g : Nat → Int32} : (offW cT a b T P n).set 11 (a 11, .inl (cT 0, 50, .inl g)) = offW cT a b T (va_up P 2 g) n := rfl
theorem ofs_12 {cT : Nat → ClassId} {a : Nat → Nat} {b : Nat → Nat → Nat} {T P : Nat → Nat → Int32} {n : Nat → Nat} {g : Nat → Int32} : (offW cT a b T P n).set 12 (a 12, .inl (cT 0, 50, .inl g)) = offW cT a b T (va_up P 3 g) n := rfl
theorem ofs_15 {cT : Nat → ClassId} {a : Nat → Nat} {b : Nat → Nat → Nat} {T P : Nat → Nat → Int32} {n : Nat → Nat} {g : Nat → Int32} : (offW cT a b T P n).set 15 (a 15, .inl (cT 0, 55, .inl g)) = offW cT a b (va_up T 25 g) P n := rfl
theorem ofs_18 {cT : Nat → ClassId} {a : Nat → Nat} {b : Nat → Nat → Nat} {T P : Nat → Nat → Int32} {n : Nat → Nat} {g : Nat → Int32} : (offW cT a b T P n).set 18 (a 18, .inl (cT 0, 30, .inl g)) = offW cT a b (va_up T 31 g) P n := rfl
theorem ofp_0_0 {cT : Nat → ClassId} {a : Nat → Nat} {b : Nat → Nat → Nat} {T P : Nat → Nat → Int32} {n : Nat → Nat} {v : Int32} : (offW cT a b T P n).set 0 (a 0, .inr (9, ([.int (T 0 0), .ref (a 1), .ref (a 3), .ref (a 7), .ref (a 13), .ref (a 16), .ref (a 18)] : List Value).set 0 (.int v))) = offW cT a b (va_up T 0 (fun _ => v)) P n := rfl
theorem ofp_3_3 {cT : Nat → ClassId} {a : Nat → Nat} {b : Nat → Nat → Nat} {T P : Nat → Nat → Int32} {n : Nat → Nat} {v : Nat} : (offW cT a b T P n).set 3 (a 3, .inr (3, ([.ref (a 4), .ref (a 5), .ref (a 6), .int (nI (n 4))] : List Value).set 3 (.int (nI v)))) = offW cT a b T P (va_up n 4 v) := rfl
theorem ofp_7_3 {cT : Nat → ClassId} {a : Nat → Nat} {b : Nat → Nat → Nat} {T P : Nat → Nat → Int32} {n : Nat → Nat} {v : Int32} : (offW cT a b T P n).set 7 (a 7, .inr (2, ([.ref (a 8), .int (nI (n 1)), .ref (a 9), .int (T 14 0), .ref (a 10), .ref (a 11), .ref (a 12)] : List Value).set 3 (.int v))) = offW cT a b (va_up T 14 (fun _ => v)) P n := rfl
theorem ofp_16_2 {cT : Nat → ClassId} {a : Nat → Nat} {b : Nat → Nat → Nat} {T P : Nat → Nat → Int32} {n : Nat → Nat} {v : Int32} : (offW cT a b T P n).set 16 (a 16, .inr (0, ([.ref (a 17), .int (nI (n 3)), .int (T 36 0 + 1)] : List Value).set 2 (.int (v + 1)))) = offW cT a b (va_up T 36 (fun _ => v)) P n := rfl
def modW (cT : Nat → ClassId) (a : Nat → Nat) (T : Nat → Nat → Int32) (n : Nat → Nat) : va_W := [(a 0, .inr (10, [.int (T 0 0), .int (nI (n 1)), .ref (a 2), .ref (a 3), .ref (a 4), .ref (a 5), .ref (a 6), .ref (a 7), .ref (a 8), .ref (a 9), .ref (a 10), .ref (a 11), .ref (a 12), .ref (a 13), .int (T 14 0), .int (nI (n 0)), .ref (a 16), .ref (a 17), .ref (a 18), .ref (a 19), .ref (a 20), .int (nI (n 4)), .ref (a 22), .ref (a 23), .ref (a 24), .ref (a 25), .int (nI (n 2)), .ref (a 27), .ref (a 28), .ref (a 29), .ref (a 30), .ref (a 31), .int (nI (n 3)), .ref (a 33), .ref (a 34), .ref (a 35), .int (T 36 0), .ref (a 37)])), (a 2, .inl (cT 0, 50, .inl (T 2))), (a 3, .inl (cT 0, 50, .inl (T 3))), (a 4, .inl (cT 0, 50, .inl (T 4))), (a 5, .inl (cT 0, 50, .inl (T 5))), (a 6, .inl (cT 0, 50, .inl (T 6))), (a 7, .inl (cT 0, 50, .inl (T 7))), (a 8, .inl (cT 0, 50, .inl (T 8))), (a 9, .inl (cT 0, 50, .inl (T 9))), (a 10, .inl (cT 0, 50, .inl (T 10))), (a 11, .inl (cT 0, 50, .inl (T 11))), (a 12, .inl (cT 0, 50, .inl (T 12))), (a 13, .inl (cT 0, 2500, .inl (T 13))), (a 16, .inl (cT 0, 20, .inl (T 16))), (a 17, .inl (cT 0, 20, .inl (T 17))), (a 18, .inl (cT 0, 20, .inl (T 18))), (a 19, .inl (cT 0, 20, .inl (T 19))), (a 20, .inl (cT 0, 20, .inl (T 20))), (a 22, .inl (cT 0, 100, .inl (T 22))), (a 23, .inl (cT 0, 100, .inl (T 23))), (a 24, .inl (cT 0, 100, .inl (T 24))), (a 25, .inl (cT 0, 55, .inl (T 25))), (a 27, .inl (cT 0, 60, .inl (T 27))), (a 28, .inl (cT 0, 60, .inl (T 28))), (a 29, .inl (cT 0, 60, .inl (T 29))), (a 30, .inl (cT 0, 60, .inl (T 30))), (a 31, .inl (cT 0, 30, .inl (T 31))), (a 33, .inl (cT 0, 10, .inl (T 33))), (a 34, .inl (cT 0, 10, .inl (T 34))), (a 35, .inl (cT 0, 10, .inl (T 35))), (a 37, .inl (cT 1, 50, .inl (T 37)))]
theorem mol_0 {cT : Nat → ClassId} {a : Nat → Nat} {T : Nat → Nat → Int32} {n : Nat → Nat} : (modW cT a T n)[0]? = some (a 0, .inr (10, [.int (T 0 0), .int (nI (n 1)), .ref (a 2), .ref (a 3), .ref (a 4), .ref (a 5), .ref (a 6), .ref (a 7), .ref (a 8), .ref (a 9), .ref (a 10), .ref (a 11), .ref (a 12), .ref (a 13), .int (T 14 0), .int (nI (n 0)), .ref (a 16), .ref (a 17), .ref (a 18), .ref (a 19), .ref (a 20), .int (nI (n 4)), .ref (a 22), .ref (a 23), .ref (a 24), .ref (a 25), .int (nI (n 2)), .ref (a 27), .ref (a 28), .ref (a 29), .ref (a 30), .ref (a 31), .int (nI (n 3)), .ref (a 33), .ref (a 34), .ref (a 35), .int (T 36 0), .ref (a 37)])) := rfl
theorem mol_2 {cT : Nat → ClassId} {a : Nat → Nat} {T : Nat → Nat → Int32} {n : Nat → Nat} : (modW cT a T n)[1]? = some (a 2, .inl (cT 0, 50, .inl (T 2))) := rfl
theorem mol_3 {cT : Nat → ClassId} {a : Nat → Nat} {T : Nat → Nat → Int32} {n : Nat → Nat} : (modW cT a T n)[2]? = some (a 3, .inl (cT 0, 50, .inl (T 3))) := rfl
theorem mol_4 {cT : Nat → ClassId} {a : Nat → Nat} {T : Nat → Nat → Int32} {n : Nat → Nat} : (modW cT a T n)[3]? = some (a 4, .inl (cT 0, 50, .inl (T 4))) := rfl
theorem mol_5 {cT : Nat → ClassId} {a : Nat → Nat} {T : Nat → Nat → Int32} {n : Nat → Nat} : (modW cT a T n)[4]? = some (a 5, .inl (cT 0, 50, .inl (T 5))) := rfl
theorem mol_6 {cT : Nat → ClassId} {a : Nat → Nat} {T : Nat → Nat → Int32} {n : Nat → Nat} : (modW cT a T n)[5]? = some (a 6, .inl (cT 0, 50, .inl (T 6))) := rfl
theorem mol_7 {cT : Nat → ClassId} {a : Nat → Nat} {T : Nat → Nat → Int32} {n : Nat → Nat} : (modW cT a T n)[6]? = some (a 7, .inl (cT 0, 50, .inl (T 7))) := rfl
theorem mol_8 {cT : Nat → ClassId} {a : Nat → Nat} {T : Nat → Nat → Int32} {n : Nat → Nat} : (modW cT a T n)[7]? = some (a 8, .inl (cT 0, 50, .inl (T 8))) := rfl
theorem mol_9 {cT : Nat → ClassId} {a : Nat → Nat} {T : Nat → Nat → Int32} {n : Nat → Nat} : (modW cT a T n)[8]? = some (a 9, .inl (cT 0, 50, .inl (T 9))) := rfl
theorem mol_10 {cT : Nat → ClassId} {a : Nat → Nat} {T : Nat → Nat → Int32} {n : Nat → Nat} : (modW cT a T n)[9]? = some (a 10, .inl (cT 0, 50, .inl (T 10))) := rfl
theorem mol_11 {cT : Nat → ClassId} {a : Nat → Nat} {T : Nat → Nat → Int32} {n : Nat → Nat} : (modW cT a T n)[10]? = some (a 11, .inl (cT 0, 50, .inl (T 11))) := rfl
theorem mol_12 {cT : Nat → ClassId} {a : Nat → Nat} {T : Nat → Nat → Int32} {n : Nat → Nat} : (modW cT a T n)[11]? = some (a 12, .inl (cT 0, 50, .inl (T 12))) := rfl
theorem mol_13 {cT : Nat → ClassId} {a : Nat → Nat} {T : Nat → Nat → Int32} {n : Nat → Nat} : (modW cT a T n)[12]? = some (a 13, .inl (cT 0, 2500, .inl (T 13))) := rfl
theorem mol_16 {cT : Nat → ClassId} {a : Nat → Nat} {T : Nat → Nat → Int32} {n : Nat → Nat} : (modW cT a T n)[13]? = some (a 16, .inl (cT 0, 20, .inl (T 16))) := rfl
theorem mol_17 {cT : Nat → ClassId} {a : Nat → Nat} {T : Nat → Nat → Int32} {n : Nat → Nat} : (modW cT a T n)[14]? = some (a 17, .inl (cT 0, 20, .inl (T 17))) := rfl
theorem mol_18 {cT : Nat → ClassId} {a : Nat → Nat} {T : Nat → Nat → Int32} {n : Nat → Nat} : (modW cT a T n)[15]? = some (a 18, .inl (cT 0, 20, .inl (T 18))) := rfl
theorem mol_19 {cT : Nat → ClassId} {a : Nat → Nat} {T : Nat → Nat → Int32} {n : Nat → Nat} : (modW cT a T n)[16]? = some (a 19, .inl (cT 0, 20, .inl (T 19))) := rfl
theorem mol_20 {cT : Nat → ClassId} {a : Nat → Nat} {T : Nat → Nat → Int32} {n : Nat → Nat} : (modW cT a T n)[17]? = some (a 20, .inl (cT 0, 20, .inl (T 20))) := rfl
theorem mol_22 {cT : Nat → ClassId} {a : Nat → Nat} {T : Nat → Nat → Int32} {n : Nat → Nat} : (modW cT a T n)[18]? = some (a 22, .inl (cT 0, 100, .inl (T 22))) := rfl
theorem mol_23 {cT : Nat → ClassId} {a : Nat → Nat} {T : Nat → Nat → Int32} {n : Nat → Nat} : (modW cT a T n)[19]? = some (a 23, .inl (cT 0, 100, .inl (T 23))) := rfl
theorem mol_24 {cT : Nat → ClassId} {a : Nat → Nat} {T : Nat → Nat → Int32} {n : Nat → Nat} : (modW cT a T n)[20]? = some (a 24, .inl (cT 0, 100, .inl (T 24))) := rfl
theorem mol_25 {cT : Nat → ClassId} {a : Nat → Nat} {T : Nat → Nat → Int32} {n : Nat → Nat} : (modW cT a T n)[21]? = some (a 25, .inl (cT 0, 55, .inl (T 25))) := rfl
theorem mol_27 {cT : Nat → ClassId} {a : Nat → Nat} {T : Nat → Nat → Int32} {n : Nat → Nat} : (modW cT a T n)[22]? = some (a 27, .inl (cT 0, 60, .inl (T 27))) := rfl
theorem mol_28 {cT : Nat → ClassId} {a : Nat → Nat} {T : Nat → Nat → Int32} {n : Nat → Nat} : (modW cT a T n)[23]? = some (a 28, .inl (cT 0, 60, .inl (T 28))) := rfl
theorem mol_29 {cT : Nat → ClassId} {a : Nat → Nat} {T : Nat → Nat → Int32} {n : Nat → Nat} : (modW cT a T n)[24]? = some (a 29, .inl (cT 0, 60, .inl (T 29))) := rfl
theorem mol_30 {cT : Nat → ClassId} {a : Nat → Nat} {T : Nat → Nat → Int32} {n : Nat → Nat} : (modW cT a T n)[25]? = some (a 30, .inl (cT 0, 60, .inl (T 30))) := rfl
theorem mol_31 {cT : Nat → ClassId} {a : Nat → Nat} {T : Nat → Nat → Int32} {n : Nat → Nat} : (modW cT a T n)[26]? = some (a 31, .inl (cT 0, 30, .inl (T 31))) := rfl
theorem mol_33 {cT : Nat → ClassId} {a : Nat → Nat} {T : Nat → Nat → Int32} {n : Nat → Nat} : (modW cT a T n)[27]? = some (a 33, .inl (cT 0, 10, .inl (T 33))) := rfl
theorem mol_34 {cT : Nat → ClassId} {a : Nat → Nat} {T : Nat → Nat → Int32} {n : Nat → Nat} : (modW cT a T n)[28]? = some (a 34, .inl (cT 0, 10, .inl (T 34))) := rfl
theorem mol_35 {cT : Nat → ClassId} {a : Nat → Nat} {T : Nat → Nat → Int32} {n : Nat → Nat} : (modW cT a T n)[29]? = some (a 35, .inl (cT 0, 10, .inl (T 35))) := rfl
theorem mol_37 {cT : Nat → ClassId} {a : Nat → Nat} {T : Nat → Nat → Int32} {n : Nat → Nat} : (modW cT a T n)[30]? = some (a 37, .inl (cT 1, 50, .inl (T 37))) := rfl
theorem mos_2 {cT : Nat → ClassId} {a : Nat → Nat} {T : Nat → Nat → Int32} {n : Nat → Nat} {g : Nat → Int32} : (modW cT a T n).set 1 (a 2, .inl (cT 0, 50, .inl g)) = modW cT a (va_up T 2 g) n := rfl
theorem mos_3 {cT : Nat → ClassId} {a : Nat → Nat} {T : Nat → Nat → Int32} {n : Nat → Nat} {g : Nat → Int32} : (modW cT a T n).set 2 (a 3, .inl (cT 0, 50, .inl g)) = modW cT a (va_up T 3 g) n := rfl
theorem mos_4 {cT : Nat → ClassId} {a : Nat → Nat} {T : Nat → Nat → Int32} {n : Nat → Nat} {g : Nat → Int32} : (modW cT a T n).set 3 (a 4, .inl (cT 0, 50, .inl g)) = modW cT a (va_up T 4 g) n := rfl
theorem mos_5 {cT : Nat → ClassId} {a : Nat → Nat} {T : Nat → Nat → Int32} {n : Nat → Nat} {g : Nat → Int32} : (modW cT a T n).set 4 (a 5, .inl (cT 0, 50, .inl g)) = modW cT a (va_up T 5 g) n := rfl
theorem mos_6 {cT : Nat → ClassId} {a : Nat → Nat} {T : Nat → Nat → Int32} {n : Nat → Nat} {g : Nat → Int32} : (modW cT a T n).set 5 (a 6, .inl (cT 0, 50, .inl g)) = modW cT a (va_up T 6 g) n := rfl
theorem mos_7 {cT : Nat → ClassId} {a : Nat → Nat} {T : Nat → Nat → Int32} {n : Nat → Nat} {g : Nat → Int32} : (modW cT a T n).set 6 (a 7, .inl (cT 0, 50, .inl g)) = modW cT a (va_up T 7 g) n := rfl
theorem mos_8 {cT : Nat → ClassId} {a : Nat → Nat} {T : Nat → Nat → Int32} {n : Nat → Nat} {g : Nat → Int32} : (modW cT a T n).set 7 (a 8, .inl (cT 0, 50, .inl g)) = modW cT a (va_up T 8 g) n := rfl
theorem mos_9 {cT : Nat → ClassId} {a : Nat → Nat} {T : Nat → Nat → Int32} {n : Nat → Nat} {g : Nat → Int32} : (modW cT a T n).set 8 (a 9, .inl (cT 0, 50, .inl g)) = modW cT a (va_up T 9 g) n := rfl
theorem mos_10 {cT : Nat → ClassId} {a : Nat → Nat} {T : Nat → Nat → Int32} {n : Nat → Nat} {g : Nat → Int32} : (modW cT a T n).set 9 (a 10, .inl (cT 0, 50, .inl g)) = modW cT a (va_up T 10 g) n := rfl
theorem mos_11 {cT : Nat → ClassId} {a : Nat → Nat} {T : Nat → Nat → Int32} {n : Nat → Nat} {g : Nat → Int32} : (modW cT a T n).set 10 (a 11, .inl (cT 0, 50, .inl g)) = modW cT a (va_up T 11 g) n := rfl
theorem mos_12 {cT : Nat → ClassId} {a : Nat → Nat} {T : Nat → Nat → Int32} {n : Nat → Nat} {g : Nat → Int32} : (modW cT a T n).set 11 (a 12, .inl (cT 0, 50, .inl g)) = modW cT a (va_up T 12 g) n := rfl
theorem mos_13 {cT : Nat → ClassId} {a : Nat → Nat} {T : Nat → Nat → Int32} {n : Nat → Nat} {g : Nat → Int32} : (modW cT a T n).set 12 (a 13, .inl (cT 0, 2500, .inl g)) = modW cT a (va_up T 13 g) n := rfl
theorem mos_16 {cT : Nat → ClassId} {a : Nat → Nat} {T : Nat → Nat → Int32} {n : Nat → Nat} {g : Nat → Int32} : (modW cT a T n).set 13 (a 16, .inl (cT 0, 20, .inl g)) = modW cT a (va_up T 16 g) n := rfl
theorem mos_17 {cT : Nat → ClassId} {a : Nat → Nat} {T : Nat → Nat → Int32} {n : Nat → Nat} {g : Nat → Int32} : (modW cT a T n).set 14 (a 17, .inl (cT 0, 20, .inl g)) = modW cT a (va_up T 17 g) n := rfl
theorem mos_18 {cT : Nat → ClassId} {a : Nat → Nat} {T : Nat → Nat → Int32} {n : Nat → Nat} {g : Nat → Int32} : (modW cT a T n).set 15 (a 18, .inl (cT 0, 20, .inl g)) = modW cT a (va_up T 18 g) n := rfl
theorem mos_19 {cT : Nat → ClassId} {a : Nat → Nat} {T : Nat → Nat → Int32} {n : Nat → Nat} {g : Nat → Int32} : (modW cT a T n).set 16 (a 19, .inl (cT 0, 20, .inl g)) = modW cT a (va_up T 19 g) n := rfl
theorem mos_20 {cT : Nat → ClassId} {a : Nat → Nat} {T : Nat → Nat → Int32} {n : Nat → Nat} {g : Nat → Int32} : (modW cT a T n).set 17 (a 20, .inl (cT 0, 20, .inl g)) = modW cT a (va_up T 20 g) n := rfl
theorem mos_22 {cT : Nat → ClassId} {a : Nat → Nat} {T : Nat → Nat → Int32} {n : Nat → Nat} {g : Nat → Int32} : (modW cT a T n).set 18 (a 22, .inl (cT 0, 100, .inl g)) = modW cT a (va_up T 22 g) n := rfl
theorem mos_23 {cT : Nat → ClassId} {a : Nat → Nat} {T : Nat → Nat → Int32} {n : Nat → Nat} {g : Nat → Int32} : (modW cT a T n).set 19 (a 23, .inl (cT 0, 100, .inl g)) = modW cT a (va_up T 23 g) n := rfl
theorem mos_24 {cT : Nat → ClassId} {a : Nat → Nat} {T : Nat → Nat → Int32} {n : Nat → Nat} {g : Nat → Int32} : (modW cT a T n).set 20 (a 24, .inl (cT 0, 100, .inl g)) = modW cT a (va_up T 24 g) n := rfl
theorem mos_25 {cT : Nat → ClassId} {a : Nat → Nat} {T : Nat → Nat → Int32} {n : Nat → Nat} {g : Nat → Int32} : (modW cT a T n).set 21 (a 25, .inl (cT 0, 55, .inl g)) = modW cT a (va_up T 25 g) n := rfl
theorem mos_27 {cT : Nat → ClassId} {a : Nat → Nat} {T : Nat → Nat → Int32} {n : Nat → Nat} {g : Nat → Int32} : (modW cT a T n).set 22 (a 27, .inl (cT 0, 60, .inl g)) = modW cT a (va_up T 27 g) n := rfl
theorem mos_28 {cT : Nat → ClassId} {a : Nat → Nat} {T : Nat → Nat → Int32} {n : Nat → Nat} {g : Nat → Int32} : (modW cT a T n).set 23 (a 28, .inl (cT 0, 60, .inl g)) = modW cT a (va_up T 28 g) n := rfl
theorem mos_29 {cT : Nat → ClassId} {a : Nat → Nat} {T : Nat → Nat → Int32} {n : Nat → Nat} {g : Nat → Int32} : (modW cT a T n).set 24 (a 29, .inl (cT 0, 60, .inl g)) = modW cT a (va_up T 29 g) n := rfl
theorem mos_30 {cT : Nat → ClassId} {a : Nat → Nat} {T : Nat → Nat → Int32} {n : Nat → Nat} {g : Nat → Int32} : (modW cT a T n).set 25 (a 30, .inl (cT 0, 60, .inl g)) = modW cT a (va_up T 30 g) n := rfl
theorem mos_31 {cT : Nat → ClassId} {a : Nat → Nat} {T : Nat → Nat → Int32} {n : Nat → Nat} {g : Nat → Int32} : (modW cT a T n).set 26 (a 31, .inl (cT 0, 30, .inl g)) = modW cT a (va_up T 31 g) n := rfl
theorem mos_33 {cT : Nat → ClassId} {a : Nat → Nat} {T : Nat → Nat → Int32} {n : Nat → Nat} {g : Nat → Int32} : (modW cT a T n).set 27 (a 33, .inl (cT 0, 10, .inl g)) = modW cT a (va_up T 33 g) n := rfl
theorem mos_34 {cT : Nat → ClassId} {a : Nat → Nat} {T : Nat → Nat → Int32} {n : Nat → Nat} {g : Nat → Int32} : (modW cT a T n).set 28 (a 34, .inl (cT 0, 10, .inl g)) = modW cT a (va_up T 34 g) n := rfl
theorem mos_35 {cT : Nat → ClassId} {a : Nat → Nat} {T : Nat → Nat → Int32} {n : Nat → Nat} {g : Nat → Int32} : (modW cT a T n).set 29 (a 35, .inl (cT 0, 10, .inl g)) = modW cT a (va_up T 35 g) n := rfl
theorem mos_37 {cT : Nat → ClassId} {a : Nat → Nat} {T : Nat → Nat → Int32} {n : Nat → Nat} {g : Nat → Int32} : (modW cT a T n).set 30 (a 37, .inl (cT 1, 50, .inl g)) = modW cT a (va_up T 37 g) n := rfl
theorem mos_0 {cT : Nat → ClassId} {a : Nat → Nat} {T : Nat → Nat → Int32} {n : Nat → Nat} {v : Int32} : (modW cT a T n).set 0 (a 0, .inr (10, ([.int (T 0 0), .int (nI (n 1)), .ref (a 2), .ref (a 3), .ref (a 4), .ref (a 5), .ref (a 6), .ref (a 7), .ref (a 8), .ref (a 9), .ref (a 10), .ref (a 11), .ref (a 12), .ref (a 13), .int (T 14 0), .int (nI (n 0)), .ref (a 16), .ref (a 17), .ref (a 18), .ref (a 19), .ref (a 20), .int (nI (n 4)), .ref (a 22), .ref (a 23), .ref (a 24), .ref (a 25), .int (nI (n 2)), .ref (a 27), .ref (a 28), .ref (a 29), .ref (a 30), .ref (a 31), .int (nI (n 3)), .ref (a 33), .ref (a 34), .ref (a 35), .int (T 36 0), .ref (a 37)] : List Value).set 0 (.int v))) = modW cT a (va_up T 0 (fun _ => v)) n := rfl
theorem mos_1 {cT : Nat → ClassId} {a : Nat → Nat} {T : Nat → Nat → Int32} {n : Nat → Nat} {v : Nat} : (modW cT a T n).set 0 (a 0, .inr (10, ([.int (T 0 0), .int (nI (n 1)), .ref (a 2), .ref (a 3), .ref (a 4), .ref (a 5), .ref (a 6), .ref (a 7), .ref (a 8), .ref (a 9), .ref (a 10), .ref (a 11), .ref (a 12), .ref (a 13), .int (T 14 0), .int (nI (n 0)), .ref (a 16), .ref (a 17), .ref (a 18), .ref (a 19), .ref (a 20), .int (nI (n 4)), .ref (a 22), .ref (a 23), .ref (a 24), .ref (a 25), .int (nI (n 2)), .ref (a 27), .ref (a 28), .ref (a 29), .ref (a 30), .ref (a 31), .int (nI (n 3)), .ref (a 33), .ref (a 34), .ref (a 35), .int (T 36 0), .ref (a 37)] : List Value).set 1 (.int (nI v)))) = modW cT a T (va_up n 1 v) := rfl
theorem mos_14 {cT : Nat → ClassId} {a : Nat → Nat} {T : Nat → Nat → Int32} {n : Nat → Nat} {v : Int32} : (modW cT a T n).set 0 (a 0, .inr (10, ([.int (T 0 0), .int (nI (n 1)), .ref (a 2), .ref (a 3), .ref (a 4), .ref (a 5), .ref (a 6), .ref (a 7), .ref (a 8), .ref (a 9), .ref (a 10), .ref (a 11), .ref (a 12), .ref (a 13), .int (T 14 0), .int (nI (n 0)), .ref (a 16), .ref (a 17), .ref (a 18), .ref (a 19), .ref (a 20), .int (nI (n 4)), .ref (a 22), .ref (a 23), .ref (a 24), .ref (a 25), .int (nI (n 2)), .ref (a 27), .ref (a 28), .ref (a 29), .ref (a 30), .ref (a 31), .int (nI (n 3)), .ref (a 33), .ref (a 34), .ref (a 35), .int (T 36 0), .ref (a 37)] : List Value).set 14 (.int v))) = modW cT a (va_up T 14 (fun _ => v)) n := rfl
theorem mos_15 {cT : Nat → ClassId} {a : Nat → Nat} {T : Nat → Nat → Int32} {n : Nat → Nat} {v : Nat} : (modW cT a T n).set 0 (a 0, .inr (10, ([.int (T 0 0), .int (nI (n 1)), .ref (a 2), .ref (a 3), .ref (a 4), .ref (a 5), .ref (a 6), .ref (a 7), .ref (a 8), .ref (a 9), .ref (a 10), .ref (a 11), .ref (a 12), .ref (a 13), .int (T 14 0), .int (nI (n 0)), .ref (a 16), .ref (a 17), .ref (a 18), .ref (a 19), .ref (a 20), .int (nI (n 4)), .ref (a 22), .ref (a 23), .ref (a 24), .ref (a 25), .int (nI (n 2)), .ref (a 27), .ref (a 28), .ref (a 29), .ref (a 30), .ref (a 31), .int (nI (n 3)), .ref (a 33), .ref (a 34), .ref (a 35), .int (T 36 0), .ref (a 37)] : List Value).set 15 (.int (nI v)))) = modW cT a T (va_up n 0 v) := rfl
theorem mos_21 {cT : Nat → ClassId} {a : Nat → Nat} {T : Nat → Nat → Int32} {n : Nat → Nat} {v : Nat} : (modW cT a T n).set 0 (a 0, .inr (10, ([.int (T 0 0), .int (nI (n 1)), .ref (a 2), .ref (a 3), .ref (a 4), .ref (a 5), .ref (a 6), .ref (a 7), .ref (a 8), .ref (a 9), .ref (a 10), .ref (a 11), .ref (a 12), .ref (a 13), .int (T 14 0), .int (nI (n 0)), .ref (a 16), .ref (a 17), .ref (a 18), .ref (a 19), .ref (a 20), .int (nI (n 4)), .ref (a 22), .ref (a 23), .ref (a 24), .ref (a 25), .int (nI (n 2)), .ref (a 27), .ref (a 28), .ref (a 29), .ref (a 30), .ref (a 31), .int (nI (n 3)), .ref (a 33), .ref (a 34), .ref (a 35), .int (T 36 0), .ref (a 37)] : List Value).set 21 (.int (nI v)))) = modW cT a T (va_up n 4 v) := rfl
theorem mos_26 {cT : Nat → ClassId} {a : Nat → Nat} {T : Nat → Nat → Int32} {n : Nat → Nat} {v : Nat} : (modW cT a T n).set 0 (a 0, .inr (10, ([.int (T 0 0), .int (nI (n 1)), .ref (a 2), .ref (a 3), .ref (a 4), .ref (a 5), .ref (a 6), .ref (a 7), .ref (a 8), .ref (a 9), .ref (a 10), .ref (a 11), .ref (a 12), .ref (a 13), .int (T 14 0), .int (nI (n 0)), .ref (a 16), .ref (a 17), .ref (a 18), .ref (a 19), .ref (a 20), .int (nI (n 4)), .ref (a 22), .ref (a 23), .ref (a 24), .ref (a 25), .int (nI (n 2)), .ref (a 27), .ref (a 28), .ref (a 29), .ref (a 30), .ref (a 31), .int (nI (n 3)), .ref (a 33), .ref (a 34), .ref (a 35), .int (T 36 0), .ref (a 37)] : List Value).set 26 (.int (nI v)))) = modW cT a T (va_up n 2 v) := rfl
theorem mos_32 {cT : Nat → ClassId} {a : Nat → Nat} {T : Nat → Nat → Int32} {n : Nat → Nat} {v : Nat} : (modW cT a T n).set 0 (a 0, .inr (10, ([.int (T 0 0), .int (nI (n 1)), .ref (a 2), .ref (a 3), .ref (a 4), .ref (a 5), .ref (a 6), .ref (a 7), .ref (a 8), .ref (a 9), .ref (a 10), .ref (a 11), .ref (a 12), .ref (a 13), .int (T 14 0), .int (nI (n 0)), .ref (a 16), .ref (a 17), .ref (a 18), .ref (a 19), .ref (a 20), .int (nI (n 4)), .ref (a 22), .ref (a 23), .ref (a 24), .ref (a 25), .int (nI (n 2)), .ref (a 27), .ref (a 28), .ref (a 29), .ref (a 30), .ref (a 31), .int (nI (n 3)), .ref (a 33), .ref (a 34), .ref (a 35), .int (T 36 0), .ref (a 37)] : List Value).set 32 (.int (nI v)))) = modW cT a T (va_up n 3 v) := rfl
theorem mos_36 {cT : Nat → ClassId} {a : Nat → Nat} {T : Nat → Nat → Int32} {n : Nat → Nat} {v : Int32} : (modW cT a T n).set 0 (a 0, .inr (10, ([.int (T 0 0), .int (nI (n 1)), .ref (a 2), .ref (a 3), .ref (a 4), .ref (a 5), .ref (a 6), .ref (a 7), .ref (a 8), .ref (a 9), .ref (a 10), .ref (a 11), .ref (a 12), .ref (a 13), .int (T 14 0), .int (nI (n 0)), .ref (a 16), .ref (a 17), .ref (a 18), .ref (a 19), .ref (a 20), .int (nI (n 4)), .ref (a 22), .ref (a 23), .ref (a 24), .ref (a 25), .int (nI (n 2)), .ref (a 27), .ref (a 28), .ref (a 29), .ref (a 30), .ref (a 31), .int (nI (n 3)), .ref (a 33), .ref (a 34), .ref (a 35), .int (T 36 0), .ref (a 37)] : List Value).set 36 (.int v))) = modW cT a (va_up T 36 (fun _ => v)) n := rfl
theorem va_P_nil {D : va_G} {cl : List vw_C} {H : Heap} : va_P D cl [] H := fun k q h => by simp at h
theorem va_P.mem {D : va_G} {cl : List vw_C} {ws : va_W} {H : Heap} (h : va_P D cl ws H) {q : Nat × va_E} (hq : q ∈ ws) : va_at D cl q H := by
  obtain ⟨k, hk⟩ := List.getElem?_of_mem hq
  exact h k q hk
theorem va_P.of {D : va_G} {cl : List vw_C} {ws : va_W} {H : Heap} (h : ∀ q ∈ ws, va_at D cl q H) : va_P D cl ws H := fun k q hk => h q (List.mem_of_getElem? hk)
theorem va_P.two {D : va_G} {cl : List vw_C} {x y : Nat × va_E} {H : Heap} (hx : va_P D cl [x] H) (hy : va_P D cl [y] H) : va_P D cl [x, y] H := va_P.of (fun q hq => by
  rcases List.mem_cons.mp hq with h | h
  · exact hx.mem (by rw [h]; exact List.mem_cons_self)
  · exact hy.mem h)
theorem plw_mem {ci : Nat} {b : Nat → Nat} {n : Nat} {f : Nat → List Value} {k : Nat} (h : k < n) : (b k, .inr (ci, f k)) ∈ plw ci b n f := List.mem_map.mpr ⟨k, List.mem_range.mpr h, rfl⟩
theorem off_law {D : va_G} {H : Heap} {cT : Nat → ClassId} {a : Nat → Nat} {b : Nat → Nat → Nat} {T P : Nat → Nat → Int32} {n : Nat → Nat} (hP : va_P D vwCl (offW cT a b T P n) H) {k : Nat} (hk : k < n 0) : va_P D vwCl [(b 0 k, .inr (4, lawF T k))] H := va_P.of (fun q hq => by rw [List.mem_singleton.mp hq]; exact hP.mem (List.mem_append_right _ (List.mem_append_left _ (plw_mem hk))))
theorem off_find {D : va_G} {H : Heap} {cT : Nat → ClassId} {a : Nat → Nat} {b : Nat → Nat → Nat} {T P : Nat → Nat → Int32} {n : Nat → Nat} (hP : va_P D vwCl (offW cT a b T P n) H) {k : Nat} (hk : k < n 1) : va_P D vwCl [(b 1 k, .inr (1, findF T k))] H := va_P.of (fun q hq => by rw [List.mem_singleton.mp hq]; exact hP.mem (List.mem_append_right _ (List.mem_append_right _ (List.mem_append_left _ (plw_mem hk)))))
theorem off_sale {D : va_G} {H : Heap} {cT : Nat → ClassId} {a : Nat → Nat} {b : Nat → Nat → Nat} {T P : Nat → Nat → Int32} {n : Nat → Nat} (hP : va_P D vwCl (offW cT a b T P n) H) {k : Nat} (hk : k < n 2) : va_P D vwCl [(b 2 k, .inr (8, saleF T k))] H := va_P.of (fun q hq => by rw [List.mem_singleton.mp hq]; exact hP.mem (List.mem_append_right _ (List.mem_append_right _ (List.mem_append_right _ (List.mem_append_left _ (plw_mem hk))))))
theorem off_museum {D : va_G} {H : Heap} {cT : Nat → ClassId} {a : Nat → Nat} {b : Nat → Nat → Nat} {T P : Nat → Nat → Int32} {n : Nat → Nat} (hP : va_P D vwCl (offW cT a b T P n) H) {k : Nat} (hk : k < n 3) : va_P D vwCl [(b 3 k, .inr (7, museumF T k))] H := va_P.of (fun q hq => by rw [List.mem_singleton.mp hq]; exact hP.mem (List.mem_append_right _ (List.mem_append_right _ (List.mem_append_right _ (List.mem_append_right _ (plw_mem hk))))))
section MYROWS
variable {p : Program} {l : Launch} {e : Env} {R : Room} {s : State} {m : MethodId} {args : Array Value} {below : List Frame} {meth : Method} {c : Code} {H : Heap} {locs : List Loc} {cells slots : Nat} {Q : State → Prop}
variable {cc : ByteArray} {pc : Nat} {ls : Array Slot} {rest : List Value} {D : va_G} {cl : List vw_C} {A : Nat → Prop} {a : Nat} {tys : List (ClassId × FieldType)} {ws : va_W} {H0 : Heap} {cA : ClassId} {n : Nat} {f : Nat → Int32} {i x : Int32} {k : Nat}
theorem my_iald (hx : p.tables.exec = Jvm.exec) (hb : c.code = cc) (hK : va_K D cl tys s) (hP : va_P D cl ws H) (q0 t0 : Nat) (ha : ws[q0]? = some (a, .inl (cA, n, .inl f))) (ht : tys[t0]? = some (cA, .int)) (hi : i = nI k) (hk : k < n) (hn : n < 2 ^ 31) (hdg : decode cc pc = .ok (.iaload, 1)) (kk : W p l e R s m args below meth c H locs cells slots Q (F0 m (pc + 1) ls (.int (f k) :: rest))) : W p l e R s m args below meth c H locs cells slots Q (F0 m pc ls (.int i :: .ref a :: rest)) := by
  subst hi
  refine va_iald hx hb hK hP q0 t0 ha ht (vp_in_nI hk hn) hdg ?_
  rw [nI_clamp (Nat.lt_trans hk hn)]
  exact kk
theorem my_zald (hx : p.tables.exec = Jvm.exec) (hb : c.code = cc) (hK : va_K D cl tys s) (hP : va_P D cl ws H) (q0 t0 : Nat) (ha : ws[q0]? = some (a, .inl (cA, n, .inl f))) (ht : tys[t0]? = some (cA, .boolean)) (hi : i = nI k) (hk : k < n) (hn : n < 2 ^ 31) (hdg : decode cc pc = .ok (.baload, 1)) (kk : W p l e R s m args below meth c H locs cells slots Q (F0 m (pc + 1) ls (.int (f k) :: rest))) : W p l e R s m args below meth c H locs cells slots Q (F0 m pc ls (.int i :: .ref a :: rest)) := by
  subst hi
  refine va_zald hx hb hK hP q0 t0 ha ht (vp_in_nI hk hn) hdg ?_
  rw [nI_clamp (Nat.lt_trans hk hn)]
  exact kk
theorem my_aldq (hx : p.tables.exec = Jvm.exec) (hb : c.code = cc) (hK : va_K D cl tys s) (hP : va_P D cl ws H) (q0 t0 : Nat) {C : String} {g : Nat → Option Nat} {v : Value} (ha : ws[q0]? = some (a, .inl (cA, n, .inr (.inr (.inr (.inr g)))))) (ht : tys[t0]? = some (cA, .object C)) (hi : i = nI k) (hk : k < n) (hn : n < 2 ^ 31) (hv : va_rf (g k) = v) (hdg : decode cc pc = .ok (.aaload, 1)) (kk : W p l e R s m args below meth c H locs cells slots Q (F0 m (pc + 1) ls (v :: rest))) : W p l e R s m args below meth c H locs cells slots Q (F0 m pc ls (.int i :: .ref a :: rest)) := by
  subst hi
  refine va_aldq hx hb hK hP q0 t0 ha ht (vp_in_nI hk hn) hdg ?_
  rw [nI_clamp (Nat.lt_trans hk hn), hv]
  exact kk
theorem my_iast (hx : p.tables.exec = Jvm.exec) (hb : c.code = cc) (hK : va_K D cl tys s) (hP : va_P D cl ws H) (hD : va_D A ws) (hS : va_S A H0 H locs) (q0 t0 : Nat) (ha : ws[q0]? = some (a, .inl (cA, n, .inl f))) (ht : tys[t0]? = some (cA, .int)) (hi : i = nI k) (hk : k < n) (hn : n < 2 ^ 31) (hdg : decode cc pc = .ok (.iastore, 1)) (kk : ∀ (H1 : Heap) (locs1 : List Loc), va_P D cl (ws.set q0 (a, .inl (cA, n, .inl (upd f k x)))) H1 → va_D A (ws.set q0 (a, .inl (cA, n, .inl (upd f k x)))) → va_S A H0 H1 locs1 → W p l e R s m args below meth c H1 locs1 cells slots Q (F0 m (pc + 1) ls rest)) : W p l e R s m args below meth c H locs cells slots Q (F0 m pc ls (.int x :: .int i :: .ref a :: rest)) := by
  subst hi
  refine va_iast hx hb hK hP hD hS q0 t0 ha ht (vp_in_nI hk hn) hdg ?_
  rw [nI_clamp (Nat.lt_trans hk hn)]
  exact kk
theorem topi_eq {y : Int32} (h : x = y) (kk : W p l e R s m args below meth c H locs cells slots Q (F0 m pc ls (.int y :: rest))) : W p l e R s m args below meth c H locs cells slots Q (F0 m pc ls (.int x :: rest)) := h ▸ kk
theorem topl_eq {z y : Int64} (h : z = y) (kk : W p l e R s m args below meth c H locs cells slots Q (F0 m pc ls (.long y :: rest))) : W p l e R s m args below meth c H locs cells slots Q (F0 m pc ls (.long z :: rest)) := h ▸ kk
theorem topv_eq {z y : Value} (h : z = y) (kk : W p l e R s m args below meth c H locs cells slots Q (F0 m pc ls (y :: rest))) : W p l e R s m args below meth c H locs cells slots Q (F0 m pc ls (z :: rest)) := h ▸ kk
end MYROWS
/-- the counts stay within their limits -/
def Cnt (n : Nat → Nat) : Prop := n 0 ≤ 20 ∧ n 1 ≤ 50 ∧ n 2 ≤ 60 ∧ n 3 ≤ 10 ∧ n 4 ≤ 100
theorem nat_le {a b : Nat} (h : nI a ≤ nI b) (ha : a < 2 ^ 31) (hb : b < 2 ^ 31) : a ≤ b := (nI_leI ha hb).mp h
theorem nat_nle {a b : Nat} (h : ¬ nI a ≤ nI b) (ha : a < 2 ^ 31) (hb : b < 2 ^ 31) : b < a := Nat.not_le.mp (fun q => h ((nI_leI ha hb).mpr q))
theorem nat_lt {a b : Nat} (h : nI a < nI b) (ha : a < 2 ^ 31) (hb : b < 2 ^ 31) : a < b := (nI_ltI ha hb).mp h
theorem nat_nlt {a b : Nat} (h : ¬ nI a < nI b) (ha : a < 2 ^ 31) (hb : b < 2 ^ 31) : b ≤ a := Nat.not_lt.mp (fun q => h ((nI_ltI ha hb).mpr q))
theorem nat_eq {a b : Nat} (h : nI a = nI b) (ha : a < 2 ^ 31) (hb : b < 2 ^ 31) : a = b := (nI_eq ha hb).mp h
theorem nat_ne {a b : Nat} (h : ¬ nI a = nI b) : a ≠ b := fun q => h (by rw [q])
/-- a number of something told -/
def isT (m : Nat) (i : Int32) : Bool := !decide (i < 0) && !decide (nI m ≤ i)
theorem isT_k {m : Nat} {i : Int32} (h : isT m i = true) (hm : m < 2 ^ 31) : ∃ k, k < m ∧ i = nI k := by
  simp only [isT, Bool.and_eq_true, Bool.not_eq_true', decide_eq_false_iff_not] at h
  rcases pk_ix i hm with q | q | ⟨k, hk, e⟩
  · exact absurd q h.1
  · exact absurd q h.2
  · exact ⟨k, hk, e⟩
theorem isT_nI {m k : Nat} (h : k < m) (hm : m < 2 ^ 31) : isT m (nI k) = true := by
  simp only [isT, Bool.and_eq_true, Bool.not_eq_true', decide_eq_false_iff_not]
  exact ⟨nI_pos (by omega), nI_ge h hm⟩
theorem isT_nF {m k : Nat} (h : ¬ k < m) (hk : k < 2 ^ 31) : isT m (nI k) = false := by
  have : nI m ≤ nI k := nI_le (Nat.not_lt.mp h) hk
  simp [isT, this]
def nuV (b : Nat → Nat) (m : Nat) (i : Int32) : Value := if isT m i = true then .ref (b i.toNatClampNeg) else .null
theorem nuV_at {b : Nat → Nat} {m k : Nat} (h : k < m) (hm : m < 2 ^ 31) : nuV b m (nI k) = .ref (b k) := by
  rw [nuV, if_pos (isT_nI h hm), nI_clamp (by omega)]
theorem nuV_cases (b : Nat → Nat) (m : Nat) (i : Int32) (hm : m < 2 ^ 31) : (∃ k, k < m ∧ i = nI k ∧ nuV b m i = .ref (b k)) ∨ (isT m i = false ∧ nuV b m i = .null) := by
  cases h : isT m i with
  | true =>
    obtain ⟨k, hk, e⟩ := isT_k h hm
    exact Or.inl ⟨k, hk, e, by rw [e]; exact nuV_at hk hm⟩
  | false => exact Or.inr ⟨rfl, by rw [nuV, h]; rfl⟩
end
section
/-! reading methods of the class: what they answer -/
theorem nle_of {m N : Nat} {i : Int32} (h : ¬ nI m ≤ i) (hm : m ≤ N) (hN : N < 2 ^ 31) : ¬ nI N ≤ i := fun q => h (Int32.le_trans (nI_le hm hN) q)
def nearB (u0 u1 u5 u6 g0 g1 g5 g6 : Int32) : Bool := !decide (10 < (if 0 ≤ u0 - g0 then u0 - g0 else 0 - (u0 - g0))) && (!decide (10 < (if 0 ≤ u1 - g1 then u1 - g1 else 0 - (u1 - g1))) && (!decide (g6 < u5) && !decide (u6 < g5)))
def tri (p q : Nat) : Nat := max p q * (max p q - 1) / 2 + min p q
theorem tri_lt {p q m : Nat} (hp : p < m) (hq : q < m) (hm : m ≤ 50) (hne : p ≠ q) : tri p q < 1225 := by
  have h1 : max p q ≤ 49 := by omega
  have h2 : min p q + 1 ≤ max p q := by omega
  unfold tri
  generalize max p q = x at *
  generalize min p q = y at *
  have h3 : x * (x - 1) / 2 + x ≤ 1225 := by
    have : x * (x - 1) ≤ 49 * 48 := Nat.mul_le_mul h1 (by omega)
    omega
  omega
def prV (m : Nat) (i j : Int32) : Int32 := if (isT m i && (isT m j && !decide (i = j))) = true then nI (tri i.toNatClampNeg j.toNatClampNeg) else -1
theorem prV_nI {m p q : Nat} (hp : p < m) (hq : q < m) (hm : m < 2 ^ 31) (hne : p ≠ q) : prV m (nI p) (nI q) = nI (tri p q) := by
  have : ¬ nI p = nI q := fun h => hne ((nI_eq (by omega) (by omega)).mp h)
  simp [prV, isT_nI hp hm, isT_nI hq hm, this, nI_clamp (show p < 2 ^ 31 by omega), nI_clamp (show q < 2 ^ 31 by omega)]
theorem pair_eq {p q m : Nat} (hp : p < m) (hq : q < m) (hm : m ≤ 50) (hne : p ≠ q) : (if nI p < nI q then nI q else nI p) * ((if nI p < nI q then nI q else nI p) - 1) / 2 + (if nI q < nI p then nI q else nI p) = nI (tri p q) := by
  have e1 : (if nI p < nI q then nI q else nI p) = nI (max p q) := by
    by_cases h : p < q
    · rw [if_pos ((nI_ltI (by omega) (by omega)).mpr h)]; congr 1; omega
    · rw [if_neg (fun z => h ((nI_ltI (by omega) (by omega)).mp z))]; congr 1; omega
  have e2 : (if nI q < nI p then nI q else nI p) = nI (min p q) := by
    by_cases h : q < p
    · rw [if_pos ((nI_ltI (by omega) (by omega)).mpr h)]; congr 1; omega
    · rw [if_neg (fun z => h ((nI_ltI (by omega) (by omega)).mp z))]; congr 1; omega
  rw [e1, e2]
  have h1 : 1 ≤ max p q := by omega
  have h2 : max p q ≤ 49 := by omega
  unfold tri
  generalize max p q = x at *
  generalize min p q = y at *
  have hm2 : x * (x - 1) ≤ 49 * 48 := Nat.mul_le_mul h2 (by omega)
  have e3 : nI x - 1 = nI (x - 1) := by have := pk_sub (a := x) (b := 1) h1; exact this
  rw [e3, pk_mul]
  have e4 : nI (x * (x - 1)) / 2 = nI (x * (x - 1) / 2) := pk_div (a := x * (x - 1)) (d := 2) (by omega) (by decide) (by decide)
  rw [e4, nI_add]
theorem nI_ne_m1 {k : Nat} (h : k < 2 ^ 31) : ¬ nI k = -1 := fun q => nI_pos h (by rw [q]; decide)
def jnB (T : Nat → Nat → Int32) (pd : Nat → Int32) (p q : Nat) (day : Int32) : Bool := nearB (T 2 p) (T 3 p) (T 7 p) (T 8 p) (T 2 q) (T 3 q) (T 7 q) (T 8 q) && (decide (pd (tri p q) = -1) || !decide (pd (tri p q) ≤ day))
def kbN (T : Nat → Nat → Int32) (day : Int32) : Nat → Nat
  | 0 => 0
  | j + 1 => if day < T 11 j then kbN T day j else j + 1
def hoN (m : Nat) (h : Nat → Int32) (i : Int32) : Int32 := if isT m i = true then h i.toNatClampNeg else -1
theorem hoN_at {m k : Nat} {h : Nat → Int32} (hk : k < m) (hm : m < 2 ^ 31) : hoN m h (nI k) = h k := by rw [hoN, if_pos (isT_nI hk hm), nI_clamp (by omega)]
theorem hoN_no {m : Nat} {h : Nat → Int32} {i : Int32} (hf : isT m i = false) : hoN m h i = -1 := by rw [hoN, hf]; rfl
def tlN (T : Nat → Nat → Int32) (le ri lo hi : Int32) : Nat → Nat
  | 0 => 0
  | j + 1 => tlN T le ri lo hi j + (if (btw (T 2 j) le (ri - 1) && btw (T 3 j) lo (hi - 1)) = true then 1 else 0)
def ifN (T : Nat → Nat → Int32) (day : Int32) : Nat → Option Nat
  | 0 => none
  | j + 1 => if day < T 16 j then ifN T day j else match ifN T day j with
    | none => some j
    | some q => if T 16 j < T 16 q then some q else some j
theorem ifN_lt {T : Nat → Nat → Int32} {day : Int32} : ∀ {j q : Nat}, ifN T day j = some q → q < j
  | 0, q, h => by simp [ifN] at h
  | j + 1, q, h => by
    rw [ifN] at h
    split at h
    · exact Nat.lt_succ_of_lt (ifN_lt h)
    · split at h
      · cases h; omega
      · next q' hq' =>
        split at h
        · cases h; exact Nat.lt_succ_of_lt (ifN_lt hq')
        · cases h; omega
def owN (T : Nat → Nat → Int32) (plot day : Int32) : Nat → Option Nat
  | 0 => none
  | j + 1 => if T 22 j = plot then (if day < T 23 j then owN T plot day j else match owN T plot day j with
    | none => some j
    | some q => if T 23 j < T 23 q then some q else some j) else owN T plot day j
theorem owN_lt {T : Nat → Nat → Int32} {plot day : Int32} : ∀ {j q : Nat}, owN T plot day j = some q → q < j
  | 0, q, h => by simp [owN] at h
  | j + 1, q, h => by
    rw [owN] at h
    split at h
    · split at h
      · exact Nat.lt_succ_of_lt (owN_lt h)
      · split at h
        · cases h; omega
        · next q' hq' =>
          split at h
          · cases h; exact Nat.lt_succ_of_lt (owN_lt hq')
          · cases h; omega
    · exact Nat.lt_succ_of_lt (owN_lt h)
def owW (f : Nat → Int32) (o : Option Nat) : Int32 := match o with
  | none => 0
  | some q => f q
theorem owN_succ {T : Nat → Nat → Int32} {plot day : Int32} {j : Nat} (h0 : ¬ T 23 j < 0) : owN T plot day (j + 1) = if T 22 j = plot ∧ ¬ day < T 23 j ∧ ¬ T 23 j < owW (T 23) (owN T plot day j) then some j else owN T plot day j := by
  rw [owN]
  by_cases h1 : T 22 j = plot
  · by_cases h2 : day < T 23 j
    · simp [h1, h2]
    · cases h3 : owN T plot day j with
      | none => simp [h1, h2, owW, h0]
      | some q =>
        by_cases h4 : T 23 j < T 23 q
        · simp [h1, h2, owW, h4]
        · simp [h1, h2, owW, h4]
  · simp [h1]
def covB (u1 u2 u4 g2 g3 g6 g7 fe : Int32) : Bool := (!decide (1950 + g7 / 365 - g6 < u1)) && ((!decide (g2 = 0) && !decide (g3 < u2)) || !decide (fe < u4))
def nxV (m : Nat) (la : Int32) : Int32 := if nI m = 0 then -1 else if nI m ≤ la + 1 then 0 else la + 1
def lvV (f : Nat → Int32) (year : Int32) : Int32 := if (!decide (year - 1950 < 0) && !decide (55 ≤ year - 1950)) = true then f (year - 1950).toNatClampNeg else 100
def saN (T : Nat → Nat → Int32) (me : Int32) : Nat → Nat
  | 0 => 0
  | j + 1 => saN T me j + (if T 27 j = me then 1 else 0)
def prL (T : Nat → Nat → Int32) (year : Int32) (j : Nat) : Int64 := if (lvV (T 25) (1950 + T 28 j / 365)) ≤ 0 then 0 else (T 30 j).toInt64 * (lvV (T 25) year).toInt64 / (lvV (T 25) (1950 + T 28 j / 365)).toInt64
def apS (T : Nat → Nat → Int32) (me year : Int32) : Nat → Int64
  | 0 => 0
  | j + 1 => if T 27 j = me then apS T me year j + prL T year j else apS T me year j
def apW (T : Nat → Nat → Int32) (me : Int32) : Nat → Int64
  | 0 => 0
  | j + 1 => if T 27 j = me then apW T me j + (T 29 j).toInt64 else apW T me j
def apV (T : Nat → Nat → Int32) (me we year : Int32) (m : Nat) : Int32 := if 0 < apW T me m then (if 1000000 < apS T me year m * we.toInt64 / apW T me m then (1000000 : Int64) else apS T me year m * we.toInt64 / apW T me m).toInt32 else 0
theorem lv_ne {x : Int32} (h : ¬ x ≤ 0) : ¬ x.toInt64 = 0 := fun q => h (by
  have e : x.toInt64.toInt = x.toInt := Int32.toInt_toInt64 x
  rw [q] at e
  rw [Int32.le_iff_toInt_le]
  have e2 : (0 : Int64).toInt = 0 := rfl
  have e3 : (0 : Int32).toInt = 0 := rfl
  omega)
theorem lg_pos {w : Int64} (h : 0 < lg_cmp w 0) : 0 < w := (lg_cmp_gt w 0).mp h
theorem lg_npos {w : Int64} (h : ¬ 0 < lg_cmp w 0) : ¬ 0 < w := fun q => h ((lg_cmp_gt w 0).mpr q)
end
section
set_option maxHeartbeats 4000000 in
set_option maxRecDepth 100000 in
theorem c_X9_isBetween (l : Launch) (D : va_G) (cT : Nat → ClassId) (v lo hi : Int32) : Met l yX9_isBetween wsX9_isBetween ({ frames := 0, cells := 0, slots := 0, locals := 0 }) (va_Pc [.int v, .int lo, .int hi] (PB D cT ([]))) (QR (.int (b2 (btw v lo hi)))) 0 0 (fun _ => False) := by
  refine RO_of (by decide) rfl (Nat.le_of_ble_eq_true rfl) ?_
  intro p e s m below meth c hx hb hr hts hown hlocks hml hE hP ls hl
  have hl : lv_has ls 3 [(0, .int v), (1, .int lo), (2, .int hi)] := hl
  refine lv_iload_n hx hb dX9_isBetween_0 rfl (lv_at hl 0 rfl) ?_
  refine lv_iload_n hx hb dX9_isBetween_1 rfl (lv_at hl 1 rfl) ?_
  refine lv_icmp_lt (tgt := 14) hx hb dX9_isBetween_2 (by decide) (fun c_1 => ?_) (fun c_1 => ?_)
  · refine lv_iconst (v := 0) hx hb dX9_isBetween_14 (by decide) ?_
    exact ro_zret hx hb hr hlocks (by first | rfl | (simp [b2, btw, c_1]; done)) dX9_isBetween_15
  · refine lv_iload_n hx hb dX9_isBetween_5 rfl (lv_at hl 0 rfl) ?_
    refine lv_iload_n hx hb dX9_isBetween_6 rfl (lv_at hl 2 rfl) ?_
    refine lv_icmp_gt (tgt := 14) hx hb dX9_isBetween_7 (by decide) (fun c_2 => ?_) (fun c_2 => ?_)
    · refine lv_iconst (v := 0) hx hb dX9_isBetween_14 (by decide) ?_
      exact ro_zret hx hb hr hlocks (by first | rfl | (simp [b2, btw, c_1, c_2]; done)) dX9_isBetween_15
    · refine lv_iconst (v := 1) hx hb dX9_isBetween_10 (by decide) ?_
      refine lv_goto (tgt := 15) hx hb dX9_isBetween_11 (by decide) ?_
      exact ro_zret hx hb hr hlocks (by first | rfl | (simp [b2, btw, c_1, c_2]; done)) dX9_isBetween_15
set_option maxHeartbeats 4000000 in
set_option maxRecDepth 100000 in
theorem c_X9_isDay (l : Launch) (D : va_G) (cT : Nat → ClassId) (d : Int32) : Met l yX9_isDay wsX9_isDay ({ frames := 1, cells := 0, slots := 0, locals := 22 }) (va_Pc [.int d] (PB D cT ([]))) (QR (.int (b2 (btw d 0 20000)))) 0 0 (fun _ => False) := by
  refine RO_of (by decide) rfl (Nat.le_of_ble_eq_true rfl) ?_
  intro p e s m below meth c hx hb hr hts hown hlocks hml hE hP ls hl
  have hl : lv_has ls 1 [(0, .int d)] := hl
  refine lv_iload_n hx hb dX9_isDay_0 rfl (lv_at hl 0 rfl) ?_
  refine lv_iconst (v := 0) hx hb dX9_isDay_1 (by decide) ?_
  refine lv_sipush (v := 20000) hx hb dX9_isDay_2 (by decide) ?_
  refine ro_S (As := [.int d, .int 0, .int 20000]) (rest := []) ⟨hx, hb, hml, hown, hts⟩ (c_X9_isBetween l D cT d 0 20000 ) (va_cwS 3 hts gX9_isDay_X9_isBetween rfl rfl rfl (by decide +kernel) ⟨Nat.le_of_ble_eq_true rfl, Nat.le_of_ble_eq_true rfl⟩) hE va_P_nil  rfl hl.1 rfl (Nat.le_of_ble_eq_true rfl) dX9_isDay_5 ⟨Nat.zero_le _, Nat.zero_le _⟩ ?_
  exact ro_zret hx hb hr hlocks (by first | rfl | (simp [b2, btw]; done)) dX9_isDay_8
set_option maxHeartbeats 4000000 in
set_option maxRecDepth 100000 in
theorem c_X9_isPerson (l : Launch) (D : va_G) (cT : Nat → ClassId) (d : Int32) : Met l yX9_isPerson wsX9_isPerson ({ frames := 1, cells := 0, slots := 0, locals := 22 }) (va_Pc [.int d] (PB D cT ([]))) (QR (.int (b2 (btw d 0 29)))) 0 0 (fun _ => False) := by
  refine RO_of (by decide) rfl (Nat.le_of_ble_eq_true rfl) ?_
  intro p e s m below meth c hx hb hr hts hown hlocks hml hE hP ls hl
  have hl : lv_has ls 1 [(0, .int d)] := hl
  refine lv_iload_n hx hb dX9_isPerson_0 rfl (lv_at hl 0 rfl) ?_
  refine lv_iconst (v := 0) hx hb dX9_isPerson_1 (by decide) ?_
  refine lv_bipush (v := 29) hx hb dX9_isPerson_2 (by decide) ?_
  refine ro_S (As := [.int d, .int 0, .int 29]) (rest := []) ⟨hx, hb, hml, hown, hts⟩ (c_X9_isBetween l D cT d 0 29 ) (va_cwS 3 hts gX9_isPerson_X9_isBetween rfl rfl rfl (by decide +kernel) ⟨Nat.le_of_ble_eq_true rfl, Nat.le_of_ble_eq_true rfl⟩) hE va_P_nil  rfl hl.1 rfl (Nat.le_of_ble_eq_true rfl) dX9_isPerson_4 ⟨Nat.zero_le _, Nat.zero_le _⟩ ?_
  exact ro_zret hx hb hr hlocks (by first | rfl | (simp [b2, btw]; done)) dX9_isPerson_7
set_option maxHeartbeats 4000000 in
set_option maxRecDepth 100000 in
theorem c_X9_isMetal (l : Launch) (D : va_G) (cT : Nat → ClassId) (d : Int32) : Met l yX9_isMetal wsX9_isMetal ({ frames := 1, cells := 0, slots := 0, locals := 22 }) (va_Pc [.int d] (PB D cT ([]))) (QR (.int (b2 (btw d 0 2)))) 0 0 (fun _ => False) := by
  refine RO_of (by decide) rfl (Nat.le_of_ble_eq_true rfl) ?_
  intro p e s m below meth c hx hb hr hts hown hlocks hml hE hP ls hl
  have hl : lv_has ls 1 [(0, .int d)] := hl
  refine lv_iload_n hx hb dX9_isMetal_0 rfl (lv_at hl 0 rfl) ?_
  refine lv_iconst (v := 0) hx hb dX9_isMetal_1 (by decide) ?_
  refine lv_iconst (v := 2) hx hb dX9_isMetal_2 (by decide) ?_
  refine ro_S (As := [.int d, .int 0, .int 2]) (rest := []) ⟨hx, hb, hml, hown, hts⟩ (c_X9_isBetween l D cT d 0 2 ) (va_cwS 3 hts gX9_isMetal_X9_isBetween rfl rfl rfl (by decide +kernel) ⟨Nat.le_of_ble_eq_true rfl, Nat.le_of_ble_eq_true rfl⟩) hE va_P_nil  rfl hl.1 rfl (Nat.le_of_ble_eq_true rfl) dX9_isMetal_3 ⟨Nat.zero_le _, Nat.zero_le _⟩ ?_
  exact ro_zret hx hb hr hlocks (by first | rfl | (simp [b2, btw]; done)) dX9_isMetal_6
set_option maxHeartbeats 4000000 in
set_option maxRecDepth 100000 in
theorem c_X9_yearOf (l : Launch) (D : va_G) (cT : Nat → ClassId) (d : Int32) : Met l yX9_yearOf wsX9_yearOf ({ frames := 0, cells := 0, slots := 0, locals := 0 }) (va_Pc [.int d] (PB D cT ([]))) (QR (.int (1950 + d / 365))) 0 0 (fun _ => False) := by
  refine RO_of (by decide) rfl (Nat.le_of_ble_eq_true rfl) ?_
  intro p e s m below meth c hx hb hr hts hown hlocks hml hE hP ls hl
  have hl : lv_has ls 1 [(0, .int d)] := hl
  refine lv_sipush (v := 1950) hx hb dX9_yearOf_0 (by decide) ?_
  refine lv_iload_n hx hb dX9_yearOf_3 rfl (lv_at hl 0 rfl) ?_
  refine lv_sipush (v := 365) hx hb dX9_yearOf_4 (by decide) ?_
  refine lv_idiv hx hb dX9_yearOf_7 (by decide) ?_
  refine lv_iadd hx hb dX9_yearOf_8 ?_
  exact ro_iret hx hb hr hlocks (by first | rfl | (simp [b2, btw]; done)) dX9_yearOf_9
set_option maxHeartbeats 4000000 in
set_option maxRecDepth 100000 in
theorem c_X10_in (l : Launch) (D : va_G) (cT : Nat → ClassId) (v lo hi : Int32) : Met l yX10_in wsX10_in ({ frames := 0, cells := 0, slots := 0, locals := 0 }) (va_Pc [.int v, .int lo, .int hi] (PB D cT ([]))) (QR (.int (b2 (btw v lo hi)))) 0 0 (fun _ => False) := by
  refine RO_of (by decide) rfl (Nat.le_of_ble_eq_true rfl) ?_
  intro p e s m below meth c hx hb hr hts hown hlocks hml hE hP ls hl
  have hl : lv_has ls 3 [(0, .int v), (1, .int lo), (2, .int hi)] := hl
  refine lv_iload_n hx hb dX10_in_0 rfl (lv_at hl 0 rfl) ?_
  refine lv_iload_n hx hb dX10_in_1 rfl (lv_at hl 1 rfl) ?_
  refine lv_icmp_lt (tgt := 14) hx hb dX10_in_2 (by decide) (fun c_1 => ?_) (fun c_1 => ?_)
  · refine lv_iconst (v := 0) hx hb dX10_in_14 (by decide) ?_
    exact ro_zret hx hb hr hlocks (by first | rfl | (simp [b2, btw, c_1]; done)) dX10_in_15
  · refine lv_iload_n hx hb dX10_in_5 rfl (lv_at hl 0 rfl) ?_
    refine lv_iload_n hx hb dX10_in_6 rfl (lv_at hl 2 rfl) ?_
    refine lv_icmp_gt (tgt := 14) hx hb dX10_in_7 (by decide) (fun c_2 => ?_) (fun c_2 => ?_)
    · refine lv_iconst (v := 0) hx hb dX10_in_14 (by decide) ?_
      exact ro_zret hx hb hr hlocks (by first | rfl | (simp [b2, btw, c_1, c_2]; done)) dX10_in_15
    · refine lv_iconst (v := 1) hx hb dX10_in_10 (by decide) ?_
      refine lv_goto (tgt := 15) hx hb dX10_in_11 (by decide) ?_
      exact ro_zret hx hb hr hlocks (by first | rfl | (simp [b2, btw, c_1, c_2]; done)) dX10_in_15
set_option maxHeartbeats 4000000 in
set_option maxRecDepth 100000 in
theorem c_X10_isPerson (l : Launch) (D : va_G) (cT : Nat → ClassId) (d : Int32) : Met l yX10_isPerson wsX10_isPerson ({ frames := 1, cells := 0, slots := 0, locals := 22 }) (va_Pc [.int d] (PB D cT ([]))) (QR (.int (b2 (btw d 0 29)))) 0 0 (fun _ => False) := by
  refine RO_of (by decide) rfl (Nat.le_of_ble_eq_true rfl) ?_
  intro p e s m below meth c hx hb hr hts hown hlocks hml hE hP ls hl
  have hl : lv_has ls 1 [(0, .int d)] := hl
  refine lv_iload_n hx hb dX10_isPerson_0 rfl (lv_at hl 0 rfl) ?_
  refine lv_iconst (v := 0) hx hb dX10_isPerson_1 (by decide) ?_
  refine lv_bipush (v := 29) hx hb dX10_isPerson_2 (by decide) ?_
  refine ro_S (As := [.int d, .int 0, .int 29]) (rest := []) ⟨hx, hb, hml, hown, hts⟩ (c_X10_in l D cT d 0 29 ) (va_cwS 3 hts gX10_isPerson_X10_in rfl rfl rfl (by decide +kernel) ⟨Nat.le_of_ble_eq_true rfl, Nat.le_of_ble_eq_true rfl⟩) hE va_P_nil  rfl hl.1 rfl (Nat.le_of_ble_eq_true rfl) dX10_isPerson_4 ⟨Nat.zero_le _, Nat.zero_le _⟩ ?_
  exact ro_zret hx hb hr hlocks (by first | rfl | (simp [b2, btw]; done)) dX10_isPerson_7
set_option maxHeartbeats 4000000 in
set_option maxRecDepth 100000 in
theorem c_X10_yearOf (l : Launch) (D : va_G) (cT : Nat → ClassId) (d : Int32) : Met l yX10_yearOf wsX10_yearOf ({ frames := 0, cells := 0, slots := 0, locals := 0 }) (va_Pc [.int d] (PB D cT ([]))) (QR (.int (1950 + d / 365))) 0 0 (fun _ => False) := by
  refine RO_of (by decide) rfl (Nat.le_of_ble_eq_true rfl) ?_
  intro p e s m below meth c hx hb hr hts hown hlocks hml hE hP ls hl
  have hl : lv_has ls 1 [(0, .int d)] := hl
  refine lv_sipush (v := 1950) hx hb dX10_yearOf_0 (by decide) ?_
  refine lv_iload_n hx hb dX10_yearOf_3 rfl (lv_at hl 0 rfl) ?_
  refine lv_sipush (v := 365) hx hb dX10_yearOf_4 (by decide) ?_
  refine lv_idiv hx hb dX10_yearOf_7 (by decide) ?_
  refine lv_iadd hx hb dX10_yearOf_8 ?_
  exact ro_iret hx hb hr hlocks (by first | rfl | (simp [b2, btw]; done)) dX10_yearOf_9
set_option maxHeartbeats 4000000 in
set_option maxRecDepth 100000 in
theorem c_X10_wide (l : Launch) (D : va_G) (cT : Nat → ClassId) (d : Int32) : Met l yX10_wide wsX10_wide ({ frames := 0, cells := 0, slots := 0, locals := 0 }) (va_Pc [.int d] (PB D cT ([]))) (QR (.int (if d = 0 then 500 else if d = 1 then 100 else if d = 2 then 10 else 1))) 0 0 (fun _ => False) := by
  refine RO_of (by decide) rfl (Nat.le_of_ble_eq_true rfl) ?_
  intro p e s m below meth c hx hb hr hts hown hlocks hml hE hP ls hl
  have hl : lv_has ls 1 [(0, .int d)] := hl
  refine lv_iload_n hx hb dX10_wide_0 rfl (lv_at hl 0 rfl) ?_
  refine lv_if_ne (tgt := 10) hx hb dX10_wide_1 (by decide) (fun c_1 => ?_) (fun c_1 => ?_)
  · refine lv_iload_n hx hb dX10_wide_10 rfl (lv_at hl 0 rfl) ?_
    refine lv_iconst (v := 1) hx hb dX10_wide_11 (by decide) ?_
    refine lv_icmp_ne (tgt := 20) hx hb dX10_wide_12 (by decide) (fun c_2 => ?_) (fun c_2 => ?_)
    · refine lv_iload_n hx hb dX10_wide_20 rfl (lv_at hl 0 rfl) ?_
      refine lv_iconst (v := 2) hx hb dX10_wide_21 (by decide) ?_
      refine lv_icmp_ne (tgt := 30) hx hb dX10_wide_22 (by decide) (fun c_3 => ?_) (fun c_3 => ?_)
      · refine lv_iconst (v := 1) hx hb dX10_wide_30 (by decide) ?_
        exact ro_iret hx hb hr hlocks (by first | rfl | (simp [b2, btw, c_1, c_2, c_3]; done)) dX10_wide_31
      · refine lv_bipush (v := 10) hx hb dX10_wide_25 (by decide) ?_
        refine lv_goto (tgt := 31) hx hb dX10_wide_27 (by decide) ?_
        exact ro_iret hx hb hr hlocks (by first | rfl | (simp [b2, btw, c_1, c_2, c_3]; done)) dX10_wide_31
    · refine lv_bipush (v := 100) hx hb dX10_wide_15 (by decide) ?_
      refine lv_goto (tgt := 31) hx hb dX10_wide_17 (by decide) ?_
      exact ro_iret hx hb hr hlocks (by first | rfl | (simp [b2, btw, c_1, c_2]; done)) dX10_wide_31
  · refine lv_sipush (v := 500) hx hb dX10_wide_4 (by decide) ?_
    refine lv_goto (tgt := 31) hx hb dX10_wide_7 (by decide) ?_
    exact ro_iret hx hb hr hlocks (by first | rfl | (simp [b2, btw, c_1]; done)) dX10_wide_31
set_option maxHeartbeats 4000000 in
set_option maxRecDepth 100000 in
theorem c_X4_isPossible (l : Launch) (D : va_G) (cT : Nat → ClassId) (h0 : Nat) (u0 u1 u2 u3 u4 : Int32) : Met l yX4_isPossible wsX4_isPossible ({ frames := 2, cells := 0, slots := 0, locals := 42 }) (va_Pc [.ref h0] (PB D cT ([(h0, .inr (4, [.int u0, .int u1, .int u2, .int u3, .int u4]))]))) (QR (.int (b2 (btw u0 0 20000 && (btw u1 0 2000 && (btw u2 0 999 && (btw u3 0 100 && btw u4 1 50))))))) 0 0 (fun _ => False) := by
  refine RO_of (by decide) rfl (Nat.le_of_ble_eq_true rfl) ?_
  intro p e s m below meth c hx hb hr hts hown hlocks hml hE hP ls hl
  have hiX4 : ∀ w ∈ wsX40, w ∈ wsX4_isPossible := by decide +kernel
  have hl : lv_has ls 1 [(0, .ref h0)] := hl
  refine lv_aload_n hx hb dX4_isPossible_0 rfl (lv_at hl 0 rfl) ?_
  refine va_get (D := D) (ci := 4) (v := .int u0) (C := RX4) (T := TX4) (N := 5) hx hb hts hiX4 hown hE.1 hP 0 rfl rfl 0 (by decide) (hts (.fieldLink RX4 7 "FindsOffice$Law" "from" "I") (by decide +kernel)) (fun _ h9 => h9) rfl dX4_isPossible_1 ?_
  refine ro_SN (As := [.int u0]) (rest := []) ⟨hx, hb, hml, hown, hts⟩ (c_X9_isDay l D cT u0 ) ⟨va_cnB (own := RX4) (host := RX9) 1 hts gX4_isPossible_X9_isDay_n26 rfl rfl rfl (hE.2 (RX4, 26, yX9_isDay, RX9) (by decide +kernel)) (hts (.initialized RX9) (by decide +kernel)) (by decide +kernel) ⟨Nat.le_of_ble_eq_true rfl, Nat.le_of_ble_eq_true rfl⟩, hts (.static yX9_isDay) (by decide +kernel), trivial⟩ hE va_P_nil  rfl hl.1 rfl (Nat.le_of_ble_eq_true rfl) dX4_isPossible_4 ⟨Nat.zero_le _, Nat.zero_le _⟩ ?_
  refine bi_eq (tgt := 68) hx hb dX4_isPossible_7 (by decide) (fun c_1 => ?_) (fun c_1 => ?_)
  · refine lv_iconst (v := 0) hx hb dX4_isPossible_68 (by decide) ?_
    exact ro_zret hx hb hr hlocks (by first | rfl | (simp [b2, c_1]; done)) dX4_isPossible_69
  · refine lv_aload_n hx hb dX4_isPossible_10 rfl (lv_at hl 0 rfl) ?_
    refine va_get (D := D) (ci := 4) (v := .int u1) (C := RX4) (T := TX4) (N := 5) hx hb hts hiX4 hown hE.1 hP 0 rfl rfl 1 (by decide) (hts (.fieldLink RX4 14 "FindsOffice$Law" "age" "I") (by decide +kernel)) (fun _ h9 => h9) rfl dX4_isPossible_11 ?_
    refine lv_iconst (v := 0) hx hb dX4_isPossible_14 (by decide) ?_
    refine lv_sipush (v := 2000) hx hb dX4_isPossible_15 (by decide) ?_
    refine ro_SN (As := [.int u1, .int 0, .int 2000]) (rest := []) ⟨hx, hb, hml, hown, hts⟩ (c_X9_isBetween l D cT u1 0 2000 ) ⟨va_cnB (own := RX4) (host := RX9) 3 hts gX4_isPossible_X9_isBetween_n32 rfl rfl rfl (hE.2 (RX4, 32, yX9_isBetween, RX9) (by decide +kernel)) (hts (.initialized RX9) (by decide +kernel)) (by decide +kernel) ⟨Nat.le_of_ble_eq_true rfl, Nat.le_of_ble_eq_true rfl⟩, hts (.static yX9_isBetween) (by decide +kernel), trivial⟩ hE va_P_nil  rfl hl.1 rfl (Nat.le_of_ble_eq_true rfl) dX4_isPossible_18 ⟨Nat.zero_le _, Nat.zero_le _⟩ ?_
    refine bi_eq (tgt := 68) hx hb dX4_isPossible_21 (by decide) (fun c_2 => ?_) (fun c_2 => ?_)
    · refine lv_iconst (v := 0) hx hb dX4_isPossible_68 (by decide) ?_
      exact ro_zret hx hb hr hlocks (by first | rfl | (simp [b2, c_1, c_2]; done)) dX4_isPossible_69
    · refine lv_aload_n hx hb dX4_isPossible_24 rfl (lv_at hl 0 rfl) ?_
      refine va_get (D := D) (ci := 4) (v := .int u2) (C := RX4) (T := TX4) (N := 5) hx hb hts hiX4 hown hE.1 hP 0 rfl rfl 2 (by decide) (hts (.fieldLink RX4 17 "FindsOffice$Law" "parts" "I") (by decide +kernel)) (fun _ h9 => h9) rfl dX4_isPossible_25 ?_
      refine lv_iconst (v := 0) hx hb dX4_isPossible_28 (by decide) ?_
      refine lv_sipush (v := 999) hx hb dX4_isPossible_29 (by decide) ?_
      refine ro_SN (As := [.int u2, .int 0, .int 999]) (rest := []) ⟨hx, hb, hml, hown, hts⟩ (c_X9_isBetween l D cT u2 0 999 ) ⟨va_cnB (own := RX4) (host := RX9) 3 hts gX4_isPossible_X9_isBetween_n32 rfl rfl rfl (hE.2 (RX4, 32, yX9_isBetween, RX9) (by decide +kernel)) (hts (.initialized RX9) (by decide +kernel)) (by decide +kernel) ⟨Nat.le_of_ble_eq_true rfl, Nat.le_of_ble_eq_true rfl⟩, hts (.static yX9_isBetween) (by decide +kernel), trivial⟩ hE va_P_nil  rfl hl.1 rfl (Nat.le_of_ble_eq_true rfl) dX4_isPossible_32 ⟨Nat.zero_le _, Nat.zero_le _⟩ ?_
      refine bi_eq (tgt := 68) hx hb dX4_isPossible_35 (by decide) (fun c_3 => ?_) (fun c_3 => ?_)
      · refine lv_iconst (v := 0) hx hb dX4_isPossible_68 (by decide) ?_
        exact ro_zret hx hb hr hlocks (by first | rfl | (simp [b2, c_1, c_2, c_3]; done)) dX4_isPossible_69
      · refine lv_aload_n hx hb dX4_isPossible_38 rfl (lv_at hl 0 rfl) ?_
        refine va_get (D := D) (ci := 4) (v := .int u3) (C := RX4) (T := TX4) (N := 5) hx hb hts hiX4 hown hE.1 hP 0 rfl rfl 3 (by decide) (hts (.fieldLink RX4 20 "FindsOffice$Law" "percent" "I") (by decide +kernel)) (fun _ h9 => h9) rfl dX4_isPossible_39 ?_
        refine lv_iconst (v := 0) hx hb dX4_isPossible_42 (by decide) ?_
        refine lv_bipush (v := 100) hx hb dX4_isPossible_43 (by decide) ?_
        refine ro_SN (As := [.int u3, .int 0, .int 100]) (rest := []) ⟨hx, hb, hml, hown, hts⟩ (c_X9_isBetween l D cT u3 0 100 ) ⟨va_cnB (own := RX4) (host := RX9) 3 hts gX4_isPossible_X9_isBetween_n32 rfl rfl rfl (hE.2 (RX4, 32, yX9_isBetween, RX9) (by decide +kernel)) (hts (.initialized RX9) (by decide +kernel)) (by decide +kernel) ⟨Nat.le_of_ble_eq_true rfl, Nat.le_of_ble_eq_true rfl⟩, hts (.static yX9_isBetween) (by decide +kernel), trivial⟩ hE va_P_nil  rfl hl.1 rfl (Nat.le_of_ble_eq_true rfl) dX4_isPossible_45 ⟨Nat.zero_le _, Nat.zero_le _⟩ ?_
        refine bi_eq (tgt := 68) hx hb dX4_isPossible_48 (by decide) (fun c_4 => ?_) (fun c_4 => ?_)
        · refine lv_iconst (v := 0) hx hb dX4_isPossible_68 (by decide) ?_
          exact ro_zret hx hb hr hlocks (by first | rfl | (simp [b2, c_1, c_2, c_3, c_4]; done)) dX4_isPossible_69
        · refine lv_aload_n hx hb dX4_isPossible_51 rfl (lv_at hl 0 rfl) ?_
          refine va_get (D := D) (ci := 4) (v := .int u4) (C := RX4) (T := TX4) (N := 5) hx hb hts hiX4 hown hE.1 hP 0 rfl rfl 4 (by decide) (hts (.fieldLink RX4 23 "FindsOffice$Law" "together" "I") (by decide +kernel)) (fun _ h9 => h9) rfl dX4_isPossible_52 ?_
          refine lv_iconst (v := 1) hx hb dX4_isPossible_55 (by decide) ?_
          refine lv_bipush (v := 50) hx hb dX4_isPossible_56 (by decide) ?_
          refine ro_SN (As := [.int u4, .int 1, .int 50]) (rest := []) ⟨hx, hb, hml, hown, hts⟩ (c_X9_isBetween l D cT u4 1 50 ) ⟨va_cnB (own := RX4) (host := RX9) 3 hts gX4_isPossible_X9_isBetween_n32 rfl rfl rfl (hE.2 (RX4, 32, yX9_isBetween, RX9) (by decide +kernel)) (hts (.initialized RX9) (by decide +kernel)) (by decide +kernel) ⟨Nat.le_of_ble_eq_true rfl, Nat.le_of_ble_eq_true rfl⟩, hts (.static yX9_isBetween) (by decide +kernel), trivial⟩ hE va_P_nil  rfl hl.1 rfl (Nat.le_of_ble_eq_true rfl) dX4_isPossible_58 ⟨Nat.zero_le _, Nat.zero_le _⟩ ?_
          refine bi_eq (tgt := 68) hx hb dX4_isPossible_61 (by decide) (fun c_5 => ?_) (fun c_5 => ?_)
          · refine lv_iconst (v := 0) hx hb dX4_isPossible_68 (by decide) ?_
            exact ro_zret hx hb hr hlocks (by first | rfl | (simp [b2, c_1, c_2, c_3, c_4, c_5]; done)) dX4_isPossible_69
          · refine lv_iconst (v := 1) hx hb dX4_isPossible_64 (by decide) ?_
            refine lv_goto (tgt := 69) hx hb dX4_isPossible_65 (by decide) ?_
            exact ro_zret hx hb hr hlocks (by first | rfl | (simp [b2, c_1, c_2, c_3, c_4, c_5]; done)) dX4_isPossible_69
set_option maxHeartbeats 4000000 in
set_option maxRecDepth 100000 in
theorem c_X8_isPossible (l : Launch) (D : va_G) (cT : Nat → ClassId) (h0 : Nat) (u0 u1 u2 u3 : Int32) : Met l yX8_isPossible wsX8_isPossible ({ frames := 2, cells := 0, slots := 0, locals := 42 }) (va_Pc [.ref h0] (PB D cT ([(h0, .inr (8, [.int u0, .int u1, .int u2, .int u3]))]))) (QR (.int (b2 (btw u0 0 2 && (btw u1 0 20000 && (btw u2 1 10000 && btw u3 0 1000000)))))) 0 0 (fun _ => False) := by
  refine RO_of (by decide) rfl (Nat.le_of_ble_eq_true rfl) ?_
  intro p e s m below meth c hx hb hr hts hown hlocks hml hE hP ls hl
  have hiX8 : ∀ w ∈ wsX80, w ∈ wsX8_isPossible := by decide +kernel
  have hl : lv_has ls 1 [(0, .ref h0)] := hl
  refine lv_aload_n hx hb dX8_isPossible_0 rfl (lv_at hl 0 rfl) ?_
  refine va_get (D := D) (ci := 8) (v := .int u0) (C := RX8) (T := TX8) (N := 4) hx hb hts hiX8 hown hE.1 hP 0 rfl rfl 0 (by decide) (hts (.fieldLink RX8 9 "FindsOffice$Sale" "metal" "I") (by decide +kernel)) (fun _ h9 => h9) rfl dX8_isPossible_1 ?_
  refine ro_SN (As := [.int u0]) (rest := []) ⟨hx, hb, hml, hown, hts⟩ (c_X9_isMetal l D cT u0 ) ⟨va_cnB (own := RX8) (host := RX9) 1 hts gX8_isPossible_X9_isMetal_n24 rfl rfl rfl (hE.2 (RX8, 24, yX9_isMetal, RX9) (by decide +kernel)) (hts (.initialized RX9) (by decide +kernel)) (by decide +kernel) ⟨Nat.le_of_ble_eq_true rfl, Nat.le_of_ble_eq_true rfl⟩, hts (.static yX9_isMetal) (by decide +kernel), trivial⟩ hE va_P_nil  rfl hl.1 rfl (Nat.le_of_ble_eq_true rfl) dX8_isPossible_4 ⟨Nat.zero_le _, Nat.zero_le _⟩ ?_
  refine bi_eq (tgt := 51) hx hb dX8_isPossible_7 (by decide) (fun c_1 => ?_) (fun c_1 => ?_)
  · refine lv_iconst (v := 0) hx hb dX8_isPossible_51 (by decide) ?_
    exact ro_zret hx hb hr hlocks (by first | rfl | (simp [b2, c_1]; done)) dX8_isPossible_52
  · refine lv_aload_n hx hb dX8_isPossible_10 rfl (lv_at hl 0 rfl) ?_
    refine va_get (D := D) (ci := 8) (v := .int u1) (C := RX8) (T := TX8) (N := 4) hx hb hts hiX8 hown hE.1 hP 0 rfl rfl 1 (by decide) (hts (.fieldLink RX8 15 "FindsOffice$Sale" "day" "I") (by decide +kernel)) (fun _ h9 => h9) rfl dX8_isPossible_11 ?_
    refine ro_SN (As := [.int u1]) (rest := []) ⟨hx, hb, hml, hown, hts⟩ (c_X9_isDay l D cT u1 ) ⟨va_cnB (own := RX8) (host := RX9) 1 hts gX8_isPossible_X9_isDay_n28 rfl rfl rfl (hE.2 (RX8, 28, yX9_isDay, RX9) (by decide +kernel)) (hts (.initialized RX9) (by decide +kernel)) (by decide +kernel) ⟨Nat.le_of_ble_eq_true rfl, Nat.le_of_ble_eq_true rfl⟩, hts (.static yX9_isDay) (by decide +kernel), trivial⟩ hE va_P_nil  rfl hl.1 rfl (Nat.le_of_ble_eq_true rfl) dX8_isPossible_14 ⟨Nat.zero_le _, Nat.zero_le _⟩ ?_
    refine bi_eq (tgt := 51) hx hb dX8_isPossible_17 (by decide) (fun c_2 => ?_) (fun c_2 => ?_)
    · refine lv_iconst (v := 0) hx hb dX8_isPossible_51 (by decide) ?_
      exact ro_zret hx hb hr hlocks (by first | rfl | (simp [b2, c_1, c_2]; done)) dX8_isPossible_52
    · refine lv_aload_n hx hb dX8_isPossible_20 rfl (lv_at hl 0 rfl) ?_
      refine va_get (D := D) (ci := 8) (v := .int u2) (C := RX8) (T := TX8) (N := 4) hx hb hts hiX8 hown hE.1 hP 0 rfl rfl 2 (by decide) (hts (.fieldLink RX8 18 "FindsOffice$Sale" "weight" "I") (by decide +kernel)) (fun _ h9 => h9) rfl dX8_isPossible_21 ?_
      refine lv_iconst (v := 1) hx hb dX8_isPossible_24 (by decide) ?_
      refine lv_sipush (v := 10000) hx hb dX8_isPossible_25 (by decide) ?_
      refine ro_SN (As := [.int u2, .int 1, .int 10000]) (rest := []) ⟨hx, hb, hml, hown, hts⟩ (c_X9_isBetween l D cT u2 1 10000 ) ⟨va_cnB (own := RX8) (host := RX9) 3 hts gX8_isPossible_X9_isBetween_n31 rfl rfl rfl (hE.2 (RX8, 31, yX9_isBetween, RX9) (by decide +kernel)) (hts (.initialized RX9) (by decide +kernel)) (by decide +kernel) ⟨Nat.le_of_ble_eq_true rfl, Nat.le_of_ble_eq_true rfl⟩, hts (.static yX9_isBetween) (by decide +kernel), trivial⟩ hE va_P_nil  rfl hl.1 rfl (Nat.le_of_ble_eq_true rfl) dX8_isPossible_28 ⟨Nat.zero_le _, Nat.zero_le _⟩ ?_
      refine bi_eq (tgt := 51) hx hb dX8_isPossible_31 (by decide) (fun c_3 => ?_) (fun c_3 => ?_)
      · refine lv_iconst (v := 0) hx hb dX8_isPossible_51 (by decide) ?_
        exact ro_zret hx hb hr hlocks (by first | rfl | (simp [b2, c_1, c_2, c_3]; done)) dX8_isPossible_52
      · refine lv_aload_n hx hb dX8_isPossible_34 rfl (lv_at hl 0 rfl) ?_
        refine va_get (D := D) (ci := 8) (v := .int u3) (C := RX8) (T := TX8) (N := 4) hx hb hts hiX8 hown hE.1 hP 0 rfl rfl 3 (by decide) (hts (.fieldLink RX8 21 "FindsOffice$Sale" "price" "I") (by decide +kernel)) (fun _ h9 => h9) rfl dX8_isPossible_35 ?_
        refine lv_iconst (v := 0) hx hb dX8_isPossible_38 (by decide) ?_
        refine lv_ldc (own := RX8) (v := 1000000) hx hb hown (hts (.constant RX8 35 1000000) (by decide +kernel)) dX8_isPossible_39 ?_
        refine ro_SN (As := [.int u3, .int 0, .int 1000000]) (rest := []) ⟨hx, hb, hml, hown, hts⟩ (c_X9_isBetween l D cT u3 0 1000000 ) ⟨va_cnB (own := RX8) (host := RX9) 3 hts gX8_isPossible_X9_isBetween_n31 rfl rfl rfl (hE.2 (RX8, 31, yX9_isBetween, RX9) (by decide +kernel)) (hts (.initialized RX9) (by decide +kernel)) (by decide +kernel) ⟨Nat.le_of_ble_eq_true rfl, Nat.le_of_ble_eq_true rfl⟩, hts (.static yX9_isBetween) (by decide +kernel), trivial⟩ hE va_P_nil  rfl hl.1 rfl (Nat.le_of_ble_eq_true rfl) dX8_isPossible_41 ⟨Nat.zero_le _, Nat.zero_le _⟩ ?_
        refine bi_eq (tgt := 51) hx hb dX8_isPossible_44 (by decide) (fun c_4 => ?_) (fun c_4 => ?_)
        · refine lv_iconst (v := 0) hx hb dX8_isPossible_51 (by decide) ?_
          exact ro_zret hx hb hr hlocks (by first | rfl | (simp [b2, c_1, c_2, c_3, c_4]; done)) dX8_isPossible_52
        · refine lv_iconst (v := 1) hx hb dX8_isPossible_47 (by decide) ?_
          refine lv_goto (tgt := 52) hx hb dX8_isPossible_48 (by decide) ?_
          exact ro_zret hx hb hr hlocks (by first | rfl | (simp [b2, c_1, c_2, c_3, c_4]; done)) dX8_isPossible_52
set_option maxHeartbeats 4000000 in
set_option maxRecDepth 100000 in
theorem c_X7_isPossible (l : Launch) (D : va_G) (cT : Nat → ClassId) (h0 : Nat) (u0 u1 u2 : Int32) : Met l yX7_isPossible wsX7_isPossible ({ frames := 1, cells := 0, slots := 0, locals := 22 }) (va_Pc [.ref h0] (PB D cT ([(h0, .inr (7, [.int u0, .int u1, .int u2]))]))) (QR (.int (b2 (btw u0 0 7 && btw u1 0 1000000)))) 0 0 (fun _ => False) := by
  refine RO_of (by decide) rfl (Nat.le_of_ble_eq_true rfl) ?_
  intro p e s m below meth c hx hb hr hts hown hlocks hml hE hP ls hl
  have hiX7 : ∀ w ∈ wsX70, w ∈ wsX7_isPossible := by decide +kernel
  have hl : lv_has ls 1 [(0, .ref h0)] := hl
  refine lv_aload_n hx hb dX7_isPossible_0 rfl (lv_at hl 0 rfl) ?_
  refine va_get (D := D) (ci := 7) (v := .int u0) (C := RX7) (T := TX7) (N := 3) hx hb hts hiX7 hown hE.1 hP 0 rfl rfl 0 (by decide) (hts (.fieldLink RX7 9 "FindsOffice$Museum" "metals" "I") (by decide +kernel)) (fun _ h9 => h9) rfl dX7_isPossible_1 ?_
  refine lv_iconst (v := 0) hx hb dX7_isPossible_4 (by decide) ?_
  refine lv_bipush (v := 7) hx hb dX7_isPossible_5 (by decide) ?_
  refine ro_SN (As := [.int u0, .int 0, .int 7]) (rest := []) ⟨hx, hb, hml, hown, hts⟩ (c_X9_isBetween l D cT u0 0 7 ) ⟨va_cnB (own := RX7) (host := RX9) 3 hts gX7_isPossible_X9_isBetween_n21 rfl rfl rfl (hE.2 (RX7, 21, yX9_isBetween, RX9) (by decide +kernel)) (hts (.initialized RX9) (by decide +kernel)) (by decide +kernel) ⟨Nat.le_of_ble_eq_true rfl, Nat.le_of_ble_eq_true rfl⟩, hts (.static yX9_isBetween) (by decide +kernel), trivial⟩ hE va_P_nil  rfl hl.1 rfl (Nat.le_of_ble_eq_true rfl) dX7_isPossible_7 ⟨Nat.zero_le _, Nat.zero_le _⟩ ?_
  refine bi_eq (tgt := 30) hx hb dX7_isPossible_10 (by decide) (fun c_1 => ?_) (fun c_1 => ?_)
  · refine lv_iconst (v := 0) hx hb dX7_isPossible_30 (by decide) ?_
    exact ro_zret hx hb hr hlocks (by first | rfl | (simp [b2, c_1]; done)) dX7_isPossible_31
  · refine lv_aload_n hx hb dX7_isPossible_13 rfl (lv_at hl 0 rfl) ?_
    refine va_get (D := D) (ci := 7) (v := .int u1) (C := RX7) (T := TX7) (N := 3) hx hb hts hiX7 hown hE.1 hP 0 rfl rfl 1 (by decide) (hts (.fieldLink RX7 15 "FindsOffice$Museum" "mostWorth" "I") (by decide +kernel)) (fun _ h9 => h9) rfl dX7_isPossible_14 ?_
    refine lv_iconst (v := 0) hx hb dX7_isPossible_17 (by decide) ?_
    refine lv_ldc (own := RX7) (v := 1000000) hx hb hown (hts (.constant RX7 25 1000000) (by decide +kernel)) dX7_isPossible_18 ?_
    refine ro_SN (As := [.int u1, .int 0, .int 1000000]) (rest := []) ⟨hx, hb, hml, hown, hts⟩ (c_X9_isBetween l D cT u1 0 1000000 ) ⟨va_cnB (own := RX7) (host := RX9) 3 hts gX7_isPossible_X9_isBetween_n21 rfl rfl rfl (hE.2 (RX7, 21, yX9_isBetween, RX9) (by decide +kernel)) (hts (.initialized RX9) (by decide +kernel)) (by decide +kernel) ⟨Nat.le_of_ble_eq_true rfl, Nat.le_of_ble_eq_true rfl⟩, hts (.static yX9_isBetween) (by decide +kernel), trivial⟩ hE va_P_nil  rfl hl.1 rfl (Nat.le_of_ble_eq_true rfl) dX7_isPossible_20 ⟨Nat.zero_le _, Nat.zero_le _⟩ ?_
    refine bi_eq (tgt := 30) hx hb dX7_isPossible_23 (by decide) (fun c_2 => ?_) (fun c_2 => ?_)
    · refine lv_iconst (v := 0) hx hb dX7_isPossible_30 (by decide) ?_
      exact ro_zret hx hb hr hlocks (by first | rfl | (simp [b2, c_1, c_2]; done)) dX7_isPossible_31
    · refine lv_iconst (v := 1) hx hb dX7_isPossible_26 (by decide) ?_
      refine lv_goto (tgt := 31) hx hb dX7_isPossible_27 (by decide) ?_
      exact ro_zret hx hb hr hlocks (by first | rfl | (simp [b2, c_1, c_2]; done)) dX7_isPossible_31
set_option maxHeartbeats 4000000 in
set_option maxRecDepth 100000 in
theorem c_X7_takes (l : Launch) (D : va_G) (cT : Nat → ClassId) (h0 : Nat) (u0 u1 u2 : Int32) (me wo : Int32) : Met l yX7_takes wsX7_takes ({ frames := 0, cells := 0, slots := 0, locals := 0 }) (va_Pc [.ref h0, .int me, .int wo] (PB D cT ([(h0, .inr (7, [.int u0, .int u1, .int u2]))]))) (QR (.int (b2 (decide ((u0 >>> (me &&& 31)) &&& 1 = 1) && !decide (u1 < wo))))) 0 0 (fun _ => False) := by
  refine RO_of (by decide) rfl (Nat.le_of_ble_eq_true rfl) ?_
  intro p e s m below meth c hx hb hr hts hown hlocks hml hE hP ls hl
  have hiX7 : ∀ w ∈ wsX70, w ∈ wsX7_takes := by decide +kernel
  have hl : lv_has ls 3 [(0, .ref h0), (1, .int me), (2, .int wo)] := hl
  refine lv_aload_n hx hb dX7_takes_0 rfl (lv_at hl 0 rfl) ?_
  refine va_get (D := D) (ci := 7) (v := .int u0) (C := RX7) (T := TX7) (N := 3) hx hb hts hiX7 hown hE.1 hP 0 rfl rfl 0 (by decide) (hts (.fieldLink RX7 9 "FindsOffice$Museum" "metals" "I") (by decide +kernel)) (fun _ h9 => h9) rfl dX7_takes_1 ?_
  refine lv_iload_n hx hb dX7_takes_4 rfl (lv_at hl 1 rfl) ?_
  refine lv_ishr hx hb dX7_takes_5 ?_
  refine lv_iconst (v := 1) hx hb dX7_takes_6 (by decide) ?_
  refine lv_iand hx hb dX7_takes_7 ?_
  refine lv_iconst (v := 1) hx hb dX7_takes_8 (by decide) ?_
  refine lv_icmp_ne (tgt := 24) hx hb dX7_takes_9 (by decide) (fun c_1 => ?_) (fun c_1 => ?_)
  · refine lv_iconst (v := 0) hx hb dX7_takes_24 (by decide) ?_
    exact ro_zret hx hb hr hlocks (by first | rfl | (simp [b2, btw, c_1]; done)) dX7_takes_25
  · refine lv_iload_n hx hb dX7_takes_12 rfl (lv_at hl 2 rfl) ?_
    refine lv_aload_n hx hb dX7_takes_13 rfl (lv_at hl 0 rfl) ?_
    refine va_get (D := D) (ci := 7) (v := .int u1) (C := RX7) (T := TX7) (N := 3) hx hb hts hiX7 hown hE.1 hP 0 rfl rfl 1 (by decide) (hts (.fieldLink RX7 15 "FindsOffice$Museum" "mostWorth" "I") (by decide +kernel)) (fun _ h9 => h9) rfl dX7_takes_14 ?_
    refine lv_icmp_gt (tgt := 24) hx hb dX7_takes_17 (by decide) (fun c_2 => ?_) (fun c_2 => ?_)
    · refine lv_iconst (v := 0) hx hb dX7_takes_24 (by decide) ?_
      exact ro_zret hx hb hr hlocks (by first | rfl | (simp [b2, btw, c_1, c_2]; done)) dX7_takes_25
    · refine lv_iconst (v := 1) hx hb dX7_takes_20 (by decide) ?_
      refine lv_goto (tgt := 25) hx hb dX7_takes_21 (by decide) ?_
      exact ro_zret hx hb hr hlocks (by first | rfl | (simp [b2, btw, c_1, c_2]; done)) dX7_takes_25
set_option maxHeartbeats 4000000 in
set_option maxRecDepth 100000 in
theorem c_X1_isPossible (l : Launch) (D : va_G) (cT : Nat → ClassId) (h0 : Nat) (u0 u1 u2 u3 u4 u5 u6 u7 u8 u9 u10 : Int32) : Met l yX1_isPossible wsX1_isPossible ({ frames := 2, cells := 0, slots := 0, locals := 42 }) (va_Pc [.ref h0] (PB D cT ([(h0, .inr (1, [.int u0, .int u1, .int u2, .int u3, .int u4, .int u5, .int u6, .int u7, .int u8, .int u9, .int u10]))]))) (QR (.int (b2 ((btw u0 0 999 && btw u1 0 999) && ((btw u2 0 2 && (btw u3 0 1000 && btw u4 1 10000)) && ((!decide (u5 < (-3000)) && (!decide (u6 < u5) && !decide (2000 < u6))) && (btw u7 0 u9 && btw u8 0 29))))))) 0 0 (fun _ => False) := by
  refine RO_of (by decide) rfl (Nat.le_of_ble_eq_true rfl) ?_
  intro p e s m below meth c hx hb hr hts hown hlocks hml hE hP ls hl
  have hiX1 : ∀ w ∈ wsX10, w ∈ wsX1_isPossible := by decide +kernel
  have hl : lv_has ls 4 [(0, .ref h0)] := hl
  have J_33 : ∀ (v : Int32), v = (b2 (btw u0 0 999 && btw u1 0 999)) → ∀ (ls : Array Slot), lv_has ls 4 [(0, .ref h0)] → W p l e ({ frames := 2, cells := 0, slots := 0, locals := 42 }) s m (List.toArray [.ref h0]) below meth c s.heap [] 0 0 (MQ below (QR (.int (b2 ((btw u0 0 999 && btw u1 0 999) && ((btw u2 0 2 && (btw u3 0 1000 && btw u4 1 10000)) && ((!decide (u5 < (-3000)) && (!decide (u6 < u5) && !decide (2000 < u6))) && (btw u7 0 u9 && btw u8 0 29))))))) (List.toArray [.ref h0]) s 0 0 (fun _ => False)) (F0 m 33 ls [.int v]) := by
    intro v hv ls hl
    subst hv
    refine lv_istore_n (lv' := [(1, .int (b2 (btw u0 0 999 && btw u1 0 999))), (0, .ref h0)]) hx hb dX1_isPossible_33 rfl hl (by decide) rfl (fun ls hl => ?_)
    have J_77 : ∀ (v : Int32), v = (b2 (btw u2 0 2 && (btw u3 0 1000 && btw u4 1 10000))) → ∀ (ls : Array Slot), lv_has ls 4 [(1, .int (b2 (btw u0 0 999 && btw u1 0 999))), (0, .ref h0)] → W p l e ({ frames := 2, cells := 0, slots := 0, locals := 42 }) s m (List.toArray [.ref h0]) below meth c s.heap [] 0 0 (MQ below (QR (.int (b2 ((btw u0 0 999 && btw u1 0 999) && ((btw u2 0 2 && (btw u3 0 1000 && btw u4 1 10000)) && ((!decide (u5 < (-3000)) && (!decide (u6 < u5) && !decide (2000 < u6))) && (btw u7 0 u9 && btw u8 0 29))))))) (List.toArray [.ref h0]) s 0 0 (fun _ => False)) (F0 m 77 ls [.int v]) := by
      intro v hv ls hl
      subst hv
      refine lv_istore_n (lv' := [(2, .int (b2 (btw u2 0 2 && (btw u3 0 1000 && btw u4 1 10000)))), (1, .int (b2 (btw u0 0 999 && btw u1 0 999))), (0, .ref h0)]) hx hb dX1_isPossible_77 rfl hl (by decide) rfl (fun ls hl => ?_)
      have J_114 : ∀ (v : Int32), v = (b2 (!decide (u5 < (-3000)) && (!decide (u6 < u5) && !decide (2000 < u6)))) → ∀ (ls : Array Slot), lv_has ls 4 [(2, .int (b2 (btw u2 0 2 && (btw u3 0 1000 && btw u4 1 10000)))), (1, .int (b2 (btw u0 0 999 && btw u1 0 999))), (0, .ref h0)] → W p l e ({ frames := 2, cells := 0, slots := 0, locals := 42 }) s m (List.toArray [.ref h0]) below meth c s.heap [] 0 0 (MQ below (QR (.int (b2 ((btw u0 0 999 && btw u1 0 999) && ((btw u2 0 2 && (btw u3 0 1000 && btw u4 1 10000)) && ((!decide (u5 < (-3000)) && (!decide (u6 < u5) && !decide (2000 < u6))) && (btw u7 0 u9 && btw u8 0 29))))))) (List.toArray [.ref h0]) s 0 0 (fun _ => False)) (F0 m 114 ls [.int v]) := by
        intro v hv ls hl
        subst hv
        refine lv_istore_n (lv' := [(3, .int (b2 (!decide (u5 < (-3000)) && (!decide (u6 < u5) && !decide (2000 < u6))))), (2, .int (b2 (btw u2 0 2 && (btw u3 0 1000 && btw u4 1 10000)))), (1, .int (b2 (btw u0 0 999 && btw u1 0 999))), (0, .ref h0)]) hx hb dX1_isPossible_114 rfl hl (by decide) rfl (fun ls hl => ?_)
        refine lv_iload_n hx hb dX1_isPossible_115 rfl (lv_at hl 2 rfl) ?_
        refine bi_eq (tgt := 156) hx hb dX1_isPossible_116 (by decide) (fun c_1 => ?_) (fun c_1 => ?_)
        · refine lv_iconst (v := 0) hx hb dX1_isPossible_156 (by decide) ?_
          exact ro_zret hx hb hr hlocks (by first | rfl | (simp only [b2, c_1, Bool.true_and, Bool.false_and, Bool.and_false]; first | rfl | decide)) dX1_isPossible_157
        · refine lv_iload_n hx hb dX1_isPossible_119 rfl (lv_at hl 1 rfl) ?_
          refine bi_eq (tgt := 156) hx hb dX1_isPossible_120 (by decide) (fun c_2 => ?_) (fun c_2 => ?_)
          · refine lv_iconst (v := 0) hx hb dX1_isPossible_156 (by decide) ?_
            exact ro_zret hx hb hr hlocks (by first | rfl | (simp only [b2, c_1, c_2, Bool.true_and, Bool.false_and, Bool.and_false]; first | rfl | decide)) dX1_isPossible_157
          · refine lv_iload_n hx hb dX1_isPossible_123 rfl (lv_at hl 0 rfl) ?_
            refine bi_eq (tgt := 156) hx hb dX1_isPossible_124 (by decide) (fun c_3 => ?_) (fun c_3 => ?_)
            · refine lv_iconst (v := 0) hx hb dX1_isPossible_156 (by decide) ?_
              exact ro_zret hx hb hr hlocks (by first | rfl | (simp only [b2, c_1, c_2, c_3, Bool.true_and, Bool.false_and, Bool.and_false]; first | rfl | decide)) dX1_isPossible_157
            · refine lv_aload_n hx hb dX1_isPossible_127 rfl (lv_at hl 3 rfl) ?_
              refine va_get (D := D) (ci := 1) (v := .int u7) (C := RX1) (T := TX1) (N := 11) hx hb hts hiX1 hown hE.1 hP 0 rfl rfl 7 (by decide) (hts (.fieldLink RX1 34 "FindsOffice$Find" "found" "I") (by decide +kernel)) (fun _ h9 => h9) rfl dX1_isPossible_128 ?_
              refine lv_iconst (v := 0) hx hb dX1_isPossible_131 (by decide) ?_
              refine lv_aload_n hx hb dX1_isPossible_132 rfl (lv_at hl 3 rfl) ?_
              refine va_get (D := D) (ci := 1) (v := .int u9) (C := RX1) (T := TX1) (N := 11) hx hb hts hiX1 hown hE.1 hP 0 rfl rfl 9 (by decide) (hts (.fieldLink RX1 40 "FindsOffice$Find" "known" "I") (by decide +kernel)) (fun _ h9 => h9) rfl dX1_isPossible_133 ?_
              refine ro_SN (As := [.int u7, .int 0, .int u9]) (rest := []) ⟨hx, hb, hml, hown, hts⟩ (c_X9_isBetween l D cT u7 0 u9 ) ⟨va_cnB (own := RX1) (host := RX9) 3 hts gX1_isPossible_X9_isBetween_n46 rfl rfl rfl (hE.2 (RX1, 46, yX9_isBetween, RX9) (by decide +kernel)) (hts (.initialized RX9) (by decide +kernel)) (by decide +kernel) ⟨Nat.le_of_ble_eq_true rfl, Nat.le_of_ble_eq_true rfl⟩, hts (.static yX9_isBetween) (by decide +kernel), trivial⟩ hE va_P_nil  rfl hl.1 rfl (Nat.le_of_ble_eq_true rfl) dX1_isPossible_136 ⟨Nat.zero_le _, Nat.zero_le _⟩ ?_
              refine bi_eq (tgt := 156) hx hb dX1_isPossible_139 (by decide) (fun c_4 => ?_) (fun c_4 => ?_)
              · refine lv_iconst (v := 0) hx hb dX1_isPossible_156 (by decide) ?_
                exact ro_zret hx hb hr hlocks (by first | rfl | (simp only [b2, c_1, c_2, c_3, c_4, Bool.true_and, Bool.false_and, Bool.and_false]; first | rfl | decide)) dX1_isPossible_157
              · refine lv_aload_n hx hb dX1_isPossible_142 rfl (lv_at hl 3 rfl) ?_
                refine va_get (D := D) (ci := 1) (v := .int u8) (C := RX1) (T := TX1) (N := 11) hx hb hts hiX1 hown hE.1 hP 0 rfl rfl 8 (by decide) (hts (.fieldLink RX1 37 "FindsOffice$Find" "finder" "I") (by decide +kernel)) (fun _ h9 => h9) rfl dX1_isPossible_143 ?_
                refine ro_SN (As := [.int u8]) (rest := []) ⟨hx, hb, hml, hown, hts⟩ (c_X9_isPerson l D cT u8 ) ⟨va_cnB (own := RX1) (host := RX9) 1 hts gX1_isPossible_X9_isPerson_n54 rfl rfl rfl (hE.2 (RX1, 54, yX9_isPerson, RX9) (by decide +kernel)) (hts (.initialized RX9) (by decide +kernel)) (by decide +kernel) ⟨Nat.le_of_ble_eq_true rfl, Nat.le_of_ble_eq_true rfl⟩, hts (.static yX9_isPerson) (by decide +kernel), trivial⟩ hE va_P_nil  rfl hl.1 rfl (Nat.le_of_ble_eq_true rfl) dX1_isPossible_146 ⟨Nat.zero_le _, Nat.zero_le _⟩ ?_
                refine bi_eq (tgt := 156) hx hb dX1_isPossible_149 (by decide) (fun c_5 => ?_) (fun c_5 => ?_)
                · refine lv_iconst (v := 0) hx hb dX1_isPossible_156 (by decide) ?_
                  exact ro_zret hx hb hr hlocks (by first | rfl | (simp only [b2, c_1, c_2, c_3, c_4, c_5, Bool.true_and, Bool.false_and, Bool.and_false]; first | rfl | decide)) dX1_isPossible_157
                · refine lv_iconst (v := 1) hx hb dX1_isPossible_152 (by decide) ?_
                  refine lv_goto (tgt := 157) hx hb dX1_isPossible_153 (by decide) ?_
                  exact ro_zret hx hb hr hlocks (by first | rfl | (simp only [b2, c_1, c_2, c_3, c_4, c_5, Bool.true_and, Bool.false_and, Bool.and_false]; first | rfl | decide)) dX1_isPossible_157
      refine lv_aload_n hx hb dX1_isPossible_78 rfl (lv_at hl 2 rfl) ?_
      refine va_get (D := D) (ci := 1) (v := .int u5) (C := RX1) (T := TX1) (N := 11) hx hb hts hiX1 hown hE.1 hP 0 rfl rfl 5 (by decide) (hts (.fieldLink RX1 28 "FindsOffice$Find" "firstYear" "I") (by decide +kernel)) (fun _ h9 => h9) rfl dX1_isPossible_79 ?_
      refine lv_sipush (v := (-3000)) hx hb dX1_isPossible_82 (by decide) ?_
      refine lv_icmp_lt (tgt := 113) hx hb dX1_isPossible_85 (by decide) (fun c_6 => ?_) (fun c_6 => ?_)
      · refine lv_iconst (v := 0) hx hb dX1_isPossible_113 (by decide) ?_
        exact J_114 _ (by first | rfl | (simp [b2, c_6]; done)) ls (lv_sub hl [0, 1, 2] rfl)
      · refine lv_aload_n hx hb dX1_isPossible_88 rfl (lv_at hl 2 rfl) ?_
        refine va_get (D := D) (ci := 1) (v := .int u5) (C := RX1) (T := TX1) (N := 11) hx hb hts hiX1 hown hE.1 hP 0 rfl rfl 5 (by decide) (hts (.fieldLink RX1 28 "FindsOffice$Find" "firstYear" "I") (by decide +kernel)) (fun _ h9 => h9) rfl dX1_isPossible_89 ?_
        refine lv_aload_n hx hb dX1_isPossible_92 rfl (lv_at hl 2 rfl) ?_
        refine va_get (D := D) (ci := 1) (v := .int u6) (C := RX1) (T := TX1) (N := 11) hx hb hts hiX1 hown hE.1 hP 0 rfl rfl 6 (by decide) (hts (.fieldLink RX1 31 "FindsOffice$Find" "lastYear" "I") (by decide +kernel)) (fun _ h9 => h9) rfl dX1_isPossible_93 ?_
        refine lv_icmp_gt (tgt := 113) hx hb dX1_isPossible_96 (by decide) (fun c_7 => ?_) (fun c_7 => ?_)
        · refine lv_iconst (v := 0) hx hb dX1_isPossible_113 (by decide) ?_
          exact J_114 _ (by first | rfl | (simp [b2, c_6, c_7]; done)) ls (lv_sub hl [0, 1, 2] rfl)
        · refine lv_aload_n hx hb dX1_isPossible_99 rfl (lv_at hl 2 rfl) ?_
          refine va_get (D := D) (ci := 1) (v := .int u6) (C := RX1) (T := TX1) (N := 11) hx hb hts hiX1 hown hE.1 hP 0 rfl rfl 6 (by decide) (hts (.fieldLink RX1 31 "FindsOffice$Find" "lastYear" "I") (by decide +kernel)) (fun _ h9 => h9) rfl dX1_isPossible_100 ?_
          refine lv_sipush (v := 2000) hx hb dX1_isPossible_103 (by decide) ?_
          refine lv_icmp_gt (tgt := 113) hx hb dX1_isPossible_106 (by decide) (fun c_8 => ?_) (fun c_8 => ?_)
          · refine lv_iconst (v := 0) hx hb dX1_isPossible_113 (by decide) ?_
            exact J_114 _ (by first | rfl | (simp [b2, c_6, c_7, c_8]; done)) ls (lv_sub hl [0, 1, 2] rfl)
          · refine lv_iconst (v := 1) hx hb dX1_isPossible_109 (by decide) ?_
            refine lv_goto (tgt := 114) hx hb dX1_isPossible_110 (by decide) ?_
            exact J_114 _ (by first | rfl | (simp [b2, c_6, c_7, c_8]; done)) ls (lv_sub hl [0, 1, 2] rfl)
    refine lv_aload_n hx hb dX1_isPossible_34 rfl (lv_at hl 1 rfl) ?_
    refine va_get (D := D) (ci := 1) (v := .int u2) (C := RX1) (T := TX1) (N := 11) hx hb hts hiX1 hown hE.1 hP 0 rfl rfl 2 (by decide) (hts (.fieldLink RX1 19 "FindsOffice$Find" "metal" "I") (by decide +kernel)) (fun _ h9 => h9) rfl dX1_isPossible_35 ?_
    refine ro_SN (As := [.int u2]) (rest := []) ⟨hx, hb, hml, hown, hts⟩ (c_X9_isMetal l D cT u2 ) ⟨va_cnB (own := RX1) (host := RX9) 1 hts gX1_isPossible_X9_isMetal_n50 rfl rfl rfl (hE.2 (RX1, 50, yX9_isMetal, RX9) (by decide +kernel)) (hts (.initialized RX9) (by decide +kernel)) (by decide +kernel) ⟨Nat.le_of_ble_eq_true rfl, Nat.le_of_ble_eq_true rfl⟩, hts (.static yX9_isMetal) (by decide +kernel), trivial⟩ hE va_P_nil  rfl hl.1 rfl (Nat.le_of_ble_eq_true rfl) dX1_isPossible_38 ⟨Nat.zero_le _, Nat.zero_le _⟩ ?_
    refine bi_eq (tgt := 76) hx hb dX1_isPossible_41 (by decide) (fun c_9 => ?_) (fun c_9 => ?_)
    · refine lv_iconst (v := 0) hx hb dX1_isPossible_76 (by decide) ?_
      exact J_77 _ (by first | rfl | (simp [b2, c_9]; done)) ls (lv_sub hl [0, 1] rfl)
    · refine lv_aload_n hx hb dX1_isPossible_44 rfl (lv_at hl 1 rfl) ?_
      refine va_get (D := D) (ci := 1) (v := .int u3) (C := RX1) (T := TX1) (N := 11) hx hb hts hiX1 hown hE.1 hP 0 rfl rfl 3 (by decide) (hts (.fieldLink RX1 22 "FindsOffice$Find" "purity" "I") (by decide +kernel)) (fun _ h9 => h9) rfl dX1_isPossible_45 ?_
      refine lv_iconst (v := 0) hx hb dX1_isPossible_48 (by decide) ?_
      refine lv_sipush (v := 1000) hx hb dX1_isPossible_49 (by decide) ?_
      refine ro_SN (As := [.int u3, .int 0, .int 1000]) (rest := []) ⟨hx, hb, hml, hown, hts⟩ (c_X9_isBetween l D cT u3 0 1000 ) ⟨va_cnB (own := RX1) (host := RX9) 3 hts gX1_isPossible_X9_isBetween_n46 rfl rfl rfl (hE.2 (RX1, 46, yX9_isBetween, RX9) (by decide +kernel)) (hts (.initialized RX9) (by decide +kernel)) (by decide +kernel) ⟨Nat.le_of_ble_eq_true rfl, Nat.le_of_ble_eq_true rfl⟩, hts (.static yX9_isBetween) (by decide +kernel), trivial⟩ hE va_P_nil  rfl hl.1 rfl (Nat.le_of_ble_eq_true rfl) dX1_isPossible_52 ⟨Nat.zero_le _, Nat.zero_le _⟩ ?_
      refine bi_eq (tgt := 76) hx hb dX1_isPossible_55 (by decide) (fun c_10 => ?_) (fun c_10 => ?_)
      · refine lv_iconst (v := 0) hx hb dX1_isPossible_76 (by decide) ?_
        exact J_77 _ (by first | rfl | (simp [b2, c_9, c_10]; done)) ls (lv_sub hl [0, 1] rfl)
      · refine lv_aload_n hx hb dX1_isPossible_58 rfl (lv_at hl 1 rfl) ?_
        refine va_get (D := D) (ci := 1) (v := .int u4) (C := RX1) (T := TX1) (N := 11) hx hb hts hiX1 hown hE.1 hP 0 rfl rfl 4 (by decide) (hts (.fieldLink RX1 25 "FindsOffice$Find" "weight" "I") (by decide +kernel)) (fun _ h9 => h9) rfl dX1_isPossible_59 ?_
        refine lv_iconst (v := 1) hx hb dX1_isPossible_62 (by decide) ?_
        refine lv_sipush (v := 10000) hx hb dX1_isPossible_63 (by decide) ?_
        refine ro_SN (As := [.int u4, .int 1, .int 10000]) (rest := []) ⟨hx, hb, hml, hown, hts⟩ (c_X9_isBetween l D cT u4 1 10000 ) ⟨va_cnB (own := RX1) (host := RX9) 3 hts gX1_isPossible_X9_isBetween_n46 rfl rfl rfl (hE.2 (RX1, 46, yX9_isBetween, RX9) (by decide +kernel)) (hts (.initialized RX9) (by decide +kernel)) (by decide +kernel) ⟨Nat.le_of_ble_eq_true rfl, Nat.le_of_ble_eq_true rfl⟩, hts (.static yX9_isBetween) (by decide +kernel), trivial⟩ hE va_P_nil  rfl hl.1 rfl (Nat.le_of_ble_eq_true rfl) dX1_isPossible_66 ⟨Nat.zero_le _, Nat.zero_le _⟩ ?_
        refine bi_eq (tgt := 76) hx hb dX1_isPossible_69 (by decide) (fun c_11 => ?_) (fun c_11 => ?_)
        · refine lv_iconst (v := 0) hx hb dX1_isPossible_76 (by decide) ?_
          exact J_77 _ (by first | rfl | (simp [b2, c_9, c_10, c_11]; done)) ls (lv_sub hl [0, 1] rfl)
        · refine lv_iconst (v := 1) hx hb dX1_isPossible_72 (by decide) ?_
          refine lv_goto (tgt := 77) hx hb dX1_isPossible_73 (by decide) ?_
          exact J_77 _ (by first | rfl | (simp [b2, c_9, c_10, c_11]; done)) ls (lv_sub hl [0, 1] rfl)
  refine lv_aload_n hx hb dX1_isPossible_0 rfl (lv_at hl 0 rfl) ?_
  refine va_get (D := D) (ci := 1) (v := .int u0) (C := RX1) (T := TX1) (N := 11) hx hb hts hiX1 hown hE.1 hP 0 rfl rfl 0 (by decide) (hts (.fieldLink RX1 9 "FindsOffice$Find" "x" "I") (by decide +kernel)) (fun _ h9 => h9) rfl dX1_isPossible_1 ?_
  refine lv_iconst (v := 0) hx hb dX1_isPossible_4 (by decide) ?_
  refine lv_sipush (v := 999) hx hb dX1_isPossible_5 (by decide) ?_
  refine ro_SN (As := [.int u0, .int 0, .int 999]) (rest := []) ⟨hx, hb, hml, hown, hts⟩ (c_X9_isBetween l D cT u0 0 999 ) ⟨va_cnB (own := RX1) (host := RX9) 3 hts gX1_isPossible_X9_isBetween_n46 rfl rfl rfl (hE.2 (RX1, 46, yX9_isBetween, RX9) (by decide +kernel)) (hts (.initialized RX9) (by decide +kernel)) (by decide +kernel) ⟨Nat.le_of_ble_eq_true rfl, Nat.le_of_ble_eq_true rfl⟩, hts (.static yX9_isBetween) (by decide +kernel), trivial⟩ hE va_P_nil  rfl hl.1 rfl (Nat.le_of_ble_eq_true rfl) dX1_isPossible_8 ⟨Nat.zero_le _, Nat.zero_le _⟩ ?_
  refine bi_eq (tgt := 32) hx hb dX1_isPossible_11 (by decide) (fun c_12 => ?_) (fun c_12 => ?_)
  · refine lv_iconst (v := 0) hx hb dX1_isPossible_32 (by decide) ?_
    exact J_33 _ (by first | rfl | (simp [b2, c_12]; done)) ls (lv_sub hl [0] rfl)
  · refine lv_aload_n hx hb dX1_isPossible_14 rfl (lv_at hl 0 rfl) ?_
    refine va_get (D := D) (ci := 1) (v := .int u1) (C := RX1) (T := TX1) (N := 11) hx hb hts hiX1 hown hE.1 hP 0 rfl rfl 1 (by decide) (hts (.fieldLink RX1 15 "FindsOffice$Find" "y" "I") (by decide +kernel)) (fun _ h9 => h9) rfl dX1_isPossible_15 ?_
    refine lv_iconst (v := 0) hx hb dX1_isPossible_18 (by decide) ?_
    refine lv_sipush (v := 999) hx hb dX1_isPossible_19 (by decide) ?_
    refine ro_SN (As := [.int u1, .int 0, .int 999]) (rest := []) ⟨hx, hb, hml, hown, hts⟩ (c_X9_isBetween l D cT u1 0 999 ) ⟨va_cnB (own := RX1) (host := RX9) 3 hts gX1_isPossible_X9_isBetween_n46 rfl rfl rfl (hE.2 (RX1, 46, yX9_isBetween, RX9) (by decide +kernel)) (hts (.initialized RX9) (by decide +kernel)) (by decide +kernel) ⟨Nat.le_of_ble_eq_true rfl, Nat.le_of_ble_eq_true rfl⟩, hts (.static yX9_isBetween) (by decide +kernel), trivial⟩ hE va_P_nil  rfl hl.1 rfl (Nat.le_of_ble_eq_true rfl) dX1_isPossible_22 ⟨Nat.zero_le _, Nat.zero_le _⟩ ?_
    refine bi_eq (tgt := 32) hx hb dX1_isPossible_25 (by decide) (fun c_13 => ?_) (fun c_13 => ?_)
    · refine lv_iconst (v := 0) hx hb dX1_isPossible_32 (by decide) ?_
      exact J_33 _ (by first | rfl | (simp [b2, c_12, c_13]; done)) ls (lv_sub hl [0] rfl)
    · refine lv_iconst (v := 1) hx hb dX1_isPossible_28 (by decide) ?_
      refine lv_goto (tgt := 33) hx hb dX1_isPossible_29 (by decide) ?_
      exact J_33 _ (by first | rfl | (simp [b2, c_12, c_13]; done)) ls (lv_sub hl [0] rfl)
set_option maxHeartbeats 4000000 in
set_option maxRecDepth 100000 in
theorem c_X1_plot (l : Launch) (D : va_G) (cT : Nat → ClassId) (h0 : Nat) (u0 u1 u2 u3 u4 u5 u6 u7 u8 u9 u10 : Int32) : Met l yX1_plot wsX1_plot ({ frames := 0, cells := 0, slots := 0, locals := 0 }) (va_Pc [.ref h0] (PB D cT ([(h0, .inr (1, [.int u0, .int u1, .int u2, .int u3, .int u4, .int u5, .int u6, .int u7, .int u8, .int u9, .int u10]))]))) (QR (.int (u0 / 100 * 10 + u1 / 100))) 0 0 (fun _ => False) := by
  refine RO_of (by decide) rfl (Nat.le_of_ble_eq_true rfl) ?_
  intro p e s m below meth c hx hb hr hts hown hlocks hml hE hP ls hl
  have hiX1 : ∀ w ∈ wsX10, w ∈ wsX1_plot := by decide +kernel
  have hl : lv_has ls 1 [(0, .ref h0)] := hl
  refine lv_aload_n hx hb dX1_plot_0 rfl (lv_at hl 0 rfl) ?_
  refine va_get (D := D) (ci := 1) (v := .int u0) (C := RX1) (T := TX1) (N := 11) hx hb hts hiX1 hown hE.1 hP 0 rfl rfl 0 (by decide) (hts (.fieldLink RX1 9 "FindsOffice$Find" "x" "I") (by decide +kernel)) (fun _ h9 => h9) rfl dX1_plot_1 ?_
  refine lv_bipush (v := 100) hx hb dX1_plot_4 (by decide) ?_
  refine lv_idiv hx hb dX1_plot_6 (by decide) ?_
  refine lv_bipush (v := 10) hx hb dX1_plot_7 (by decide) ?_
  refine lv_imul hx hb dX1_plot_9 ?_
  refine lv_aload_n hx hb dX1_plot_10 rfl (lv_at hl 0 rfl) ?_
  refine va_get (D := D) (ci := 1) (v := .int u1) (C := RX1) (T := TX1) (N := 11) hx hb hts hiX1 hown hE.1 hP 0 rfl rfl 1 (by decide) (hts (.fieldLink RX1 15 "FindsOffice$Find" "y" "I") (by decide +kernel)) (fun _ h9 => h9) rfl dX1_plot_11 ?_
  refine lv_bipush (v := 100) hx hb dX1_plot_14 (by decide) ?_
  refine lv_idiv hx hb dX1_plot_16 (by decide) ?_
  refine lv_iadd hx hb dX1_plot_17 ?_
  exact ro_iret hx hb hr hlocks (by first | rfl | (simp [b2, btw]; done)) dX1_plot_18
set_option maxHeartbeats 4000000 in
set_option maxRecDepth 100000 in
theorem c_X1_isNear (l : Launch) (D : va_G) (cT : Nat → ClassId) (h0 h1 : Nat) (u0 u1 u2 u3 u4 u5 u6 u7 u8 u9 u10 : Int32) (g0 g1 g2 g3 g4 g5 g6 g7 g8 g9 g10 : Int32) : Met l yX1_isNear wsX1_isNear ({ frames := 1, cells := 0, slots := 0, locals := 23 }) (va_Pc [.ref h0, .ref h1] (PB D cT ([(h0, .inr (1, [.int u0, .int u1, .int u2, .int u3, .int u4, .int u5, .int u6, .int u7, .int u8, .int u9, .int u10])), (h1, .inr (1, [.int g0, .int g1, .int g2, .int g3, .int g4, .int g5, .int g6, .int g7, .int g8, .int g9, .int g10]))]))) (QR (.int (b2 (nearB u0 u1 u5 u6 g0 g1 g5 g6)))) 0 0 (fun _ => False) := by
  refine RO_of (by decide) rfl (Nat.le_of_ble_eq_true rfl) ?_
  intro p e s m below meth c hx hb hr hts hown hlocks hml hE hP ls hl
  have hiX1 : ∀ w ∈ wsX10, w ∈ wsX1_isNear := by decide +kernel
  have hl : lv_has ls 2 [(0, .ref h0), (1, .ref h1)] := hl
  refine lv_aload_n hx hb dX1_isNear_0 rfl (lv_at hl 0 rfl) ?_
  refine va_get (D := D) (ci := 1) (v := .int u0) (C := RX1) (T := TX1) (N := 11) hx hb hts hiX1 hown hE.1 hP 0 rfl rfl 0 (by decide) (hts (.fieldLink RX1 9 "FindsOffice$Find" "x" "I") (by decide +kernel)) (fun _ h9 => h9) rfl dX1_isNear_1 ?_
  refine lv_aload_n hx hb dX1_isNear_4 rfl (lv_at hl 1 rfl) ?_
  refine va_get (D := D) (ci := 1) (v := .int g0) (C := RX1) (T := TX1) (N := 11) hx hb hts hiX1 hown hE.1 hP 1 rfl rfl 0 (by decide) (hts (.fieldLink RX1 9 "FindsOffice$Find" "x" "I") (by decide +kernel)) (fun _ h9 => h9) rfl dX1_isNear_5 ?_
  refine lv_isub hx hb dX1_isNear_8 ?_
  refine va_mabs hx hb (hml.trans hl.1.symm) hown (hts (.methodLink RX1 57 Lib.Math.abs.name) (by decide +kernel)) (hts (.static Lib.Math.abs.name) (by decide +kernel)) (hts (.initialized "java/lang/Math") (by decide +kernel)) (hts (.code Lib.Math.abs.name Lib.Math.abs.code 1 (some .int)) (by decide +kernel)) (Nat.le_of_ble_eq_true rfl) (Nat.le_of_ble_eq_true rfl) (Nat.zero_le _) (Nat.zero_le _) dX1_isNear_9 ?_
  refine lv_bipush (v := 10) hx hb dX1_isNear_12 (by decide) ?_
  refine lv_icmp_gt (tgt := 60) hx hb dX1_isNear_14 (by decide) (fun c_1 => ?_) (fun c_1 => ?_)
  · refine lv_iconst (v := 0) hx hb dX1_isNear_60 (by decide) ?_
    exact ro_zret hx hb hr hlocks (by simp only [nearB, b2, c_1]; first | rfl | decide | simp) dX1_isNear_61
  · refine lv_aload_n hx hb dX1_isNear_17 rfl (lv_at hl 0 rfl) ?_
    refine va_get (D := D) (ci := 1) (v := .int u1) (C := RX1) (T := TX1) (N := 11) hx hb hts hiX1 hown hE.1 hP 0 rfl rfl 1 (by decide) (hts (.fieldLink RX1 15 "FindsOffice$Find" "y" "I") (by decide +kernel)) (fun _ h9 => h9) rfl dX1_isNear_18 ?_
    refine lv_aload_n hx hb dX1_isNear_21 rfl (lv_at hl 1 rfl) ?_
    refine va_get (D := D) (ci := 1) (v := .int g1) (C := RX1) (T := TX1) (N := 11) hx hb hts hiX1 hown hE.1 hP 1 rfl rfl 1 (by decide) (hts (.fieldLink RX1 15 "FindsOffice$Find" "y" "I") (by decide +kernel)) (fun _ h9 => h9) rfl dX1_isNear_22 ?_
    refine lv_isub hx hb dX1_isNear_25 ?_
    refine va_mabs hx hb (hml.trans hl.1.symm) hown (hts (.methodLink RX1 57 Lib.Math.abs.name) (by decide +kernel)) (hts (.static Lib.Math.abs.name) (by decide +kernel)) (hts (.initialized "java/lang/Math") (by decide +kernel)) (hts (.code Lib.Math.abs.name Lib.Math.abs.code 1 (some .int)) (by decide +kernel)) (Nat.le_of_ble_eq_true rfl) (Nat.le_of_ble_eq_true rfl) (Nat.zero_le _) (Nat.zero_le _) dX1_isNear_26 ?_
    refine lv_bipush (v := 10) hx hb dX1_isNear_29 (by decide) ?_
    refine lv_icmp_gt (tgt := 60) hx hb dX1_isNear_31 (by decide) (fun c_2 => ?_) (fun c_2 => ?_)
    · refine lv_iconst (v := 0) hx hb dX1_isNear_60 (by decide) ?_
      exact ro_zret hx hb hr hlocks (by simp only [nearB, b2, c_1, c_2]; first | rfl | decide | simp) dX1_isNear_61
    · refine lv_aload_n hx hb dX1_isNear_34 rfl (lv_at hl 0 rfl) ?_
      refine va_get (D := D) (ci := 1) (v := .int u5) (C := RX1) (T := TX1) (N := 11) hx hb hts hiX1 hown hE.1 hP 0 rfl rfl 5 (by decide) (hts (.fieldLink RX1 28 "FindsOffice$Find" "firstYear" "I") (by decide +kernel)) (fun _ h9 => h9) rfl dX1_isNear_35 ?_
      refine lv_aload_n hx hb dX1_isNear_38 rfl (lv_at hl 1 rfl) ?_
      refine va_get (D := D) (ci := 1) (v := .int g6) (C := RX1) (T := TX1) (N := 11) hx hb hts hiX1 hown hE.1 hP 1 rfl rfl 6 (by decide) (hts (.fieldLink RX1 31 "FindsOffice$Find" "lastYear" "I") (by decide +kernel)) (fun _ h9 => h9) rfl dX1_isNear_39 ?_
      refine lv_icmp_gt (tgt := 60) hx hb dX1_isNear_42 (by decide) (fun c_3 => ?_) (fun c_3 => ?_)
      · refine lv_iconst (v := 0) hx hb dX1_isNear_60 (by decide) ?_
        exact ro_zret hx hb hr hlocks (by simp only [nearB, b2, c_1, c_2, c_3]; first | rfl | decide | simp) dX1_isNear_61
      · refine lv_aload_n hx hb dX1_isNear_45 rfl (lv_at hl 1 rfl) ?_
        refine va_get (D := D) (ci := 1) (v := .int g5) (C := RX1) (T := TX1) (N := 11) hx hb hts hiX1 hown hE.1 hP 1 rfl rfl 5 (by decide) (hts (.fieldLink RX1 28 "FindsOffice$Find" "firstYear" "I") (by decide +kernel)) (fun _ h9 => h9) rfl dX1_isNear_46 ?_
        refine lv_aload_n hx hb dX1_isNear_49 rfl (lv_at hl 0 rfl) ?_
        refine va_get (D := D) (ci := 1) (v := .int u6) (C := RX1) (T := TX1) (N := 11) hx hb hts hiX1 hown hE.1 hP 0 rfl rfl 6 (by decide) (hts (.fieldLink RX1 31 "FindsOffice$Find" "lastYear" "I") (by decide +kernel)) (fun _ h9 => h9) rfl dX1_isNear_50 ?_
        refine lv_icmp_gt (tgt := 60) hx hb dX1_isNear_53 (by decide) (fun c_4 => ?_) (fun c_4 => ?_)
        · refine lv_iconst (v := 0) hx hb dX1_isNear_60 (by decide) ?_
          exact ro_zret hx hb hr hlocks (by simp only [nearB, b2, c_1, c_2, c_3, c_4]; first | rfl | decide | simp) dX1_isNear_61
        · refine lv_iconst (v := 1) hx hb dX1_isNear_56 (by decide) ?_
          refine lv_goto (tgt := 61) hx hb dX1_isNear_57 (by decide) ?_
          exact ro_zret hx hb hr hlocks (by simp only [nearB, b2, c_1, c_2, c_3, c_4]; first | rfl | decide | simp) dX1_isNear_61
set_option maxHeartbeats 4000000 in
set_option maxRecDepth 100000 in
theorem c_X4_covers (l : Launch) (D : va_G) (cT : Nat → ClassId) (h0 h1 : Nat) (u0 u1 u2 u3 u4 : Int32) (g0 g1 g2 g3 g4 g5 g6 g7 g8 g9 g10 : Int32) (fe : Int32) : Met l yX4_covers wsX4_covers ({ frames := 1, cells := 0, slots := 0, locals := 20 }) (va_Pc [.ref h0, .ref h1, .int fe] (PB D cT ([(h0, .inr (4, [.int u0, .int u1, .int u2, .int u3, .int u4])), (h1, .inr (1, [.int g0, .int g1, .int g2, .int g3, .int g4, .int g5, .int g6, .int g7, .int g8, .int g9, .int g10]))]))) (QR (.int (b2 (covB u1 u2 u4 g2 g3 g6 g7 fe)))) 0 0 (fun _ => False) := by
  refine RO_of (by decide) rfl (Nat.le_of_ble_eq_true rfl) ?_
  intro p e s m below meth c hx hb hr hts hown hlocks hml hE hP ls hl
  have hiX1 : ∀ w ∈ wsX10, w ∈ wsX4_covers := by decide +kernel
  have hiX4 : ∀ w ∈ wsX40, w ∈ wsX4_covers := by decide +kernel
  have hl : lv_has ls 5 [(0, .ref h0), (1, .ref h1), (2, .int fe)] := hl
  have J_24 : ∀ (v : Int32), v = (b2 (!decide (1950 + g7 / 365 - g6 < u1))) → ∀ (ls : Array Slot), lv_has ls 5 [(0, .ref h0), (1, .ref h1), (2, .int fe)] → W p l e ({ frames := 1, cells := 0, slots := 0, locals := 20 }) s m (List.toArray [.ref h0, .ref h1, .int fe]) below meth c s.heap [] 0 0 (MQ below (QR (.int (b2 (covB u1 u2 u4 g2 g3 g6 g7 fe)))) (List.toArray [.ref h0, .ref h1, .int fe]) s 0 0 (fun _ => False)) (F0 m 24 ls [.int v]) := by
    intro v hv ls hl
    subst hv
    refine lv_istore_n (lv' := [(3, .int (b2 (!decide (1950 + g7 / 365 - g6 < u1)))), (0, .ref h0), (1, .ref h1), (2, .int fe)]) hx hb dX4_covers_24 rfl hl (by decide) rfl (fun ls hl => ?_)
    have J_48 : ∀ (v : Int32), v = (b2 (!decide (g2 = 0) && !decide (g3 < u2))) → ∀ (ls : Array Slot), lv_has ls 5 [(3, .int (b2 (!decide (1950 + g7 / 365 - g6 < u1)))), (0, .ref h0), (1, .ref h1), (2, .int fe)] → W p l e ({ frames := 1, cells := 0, slots := 0, locals := 20 }) s m (List.toArray [.ref h0, .ref h1, .int fe]) below meth c s.heap [] 0 0 (MQ below (QR (.int (b2 (covB u1 u2 u4 g2 g3 g6 g7 fe)))) (List.toArray [.ref h0, .ref h1, .int fe]) s 0 0 (fun _ => False)) (F0 m 48 ls [.int v]) := by
      intro v hv ls hl
      subst hv
      refine lv_istore (lv' := [(4, .int (b2 (!decide (g2 = 0) && !decide (g3 < u2)))), (3, .int (b2 (!decide (1950 + g7 / 365 - g6 < u1)))), (0, .ref h0), (1, .ref h1), (2, .int fe)]) hx hb dX4_covers_48 hl (by decide) rfl (fun ls hl => ?_)
      refine lv_iload_n hx hb dX4_covers_50 rfl (lv_at hl 1 rfl) ?_
      refine bi_eq (tgt := 71) hx hb dX4_covers_51 (by decide) (fun c_1 => ?_) (fun c_1 => ?_)
      · refine lv_iconst (v := 0) hx hb dX4_covers_71 (by decide) ?_
        exact ro_zret hx hb hr hlocks (by first | rfl | (simp [b2, btw, covB, c_1]; done)) dX4_covers_72
      · refine lv_iload hx hb dX4_covers_54 (lv_at hl 0 rfl) ?_
        refine bi_ne (tgt := 67) hx hb dX4_covers_56 (by decide) (fun c_2 => ?_) (fun c_2 => ?_)
        · refine lv_iconst (v := 1) hx hb dX4_covers_67 (by decide) ?_
          refine lv_goto (tgt := 72) hx hb dX4_covers_68 (by decide) ?_
          exact ro_zret hx hb hr hlocks (by first | rfl | (simp [b2, btw, covB, c_1, c_2]; done)) dX4_covers_72
        · refine lv_iload_n hx hb dX4_covers_59 rfl (lv_at hl 4 rfl) ?_
          refine lv_aload_n hx hb dX4_covers_60 rfl (lv_at hl 2 rfl) ?_
          refine va_get (D := D) (ci := 4) (v := .int u4) (C := RX4) (T := TX4) (N := 5) hx hb hts hiX4 hown hE.1 hP 0 rfl rfl 4 (by decide) (hts (.fieldLink RX4 23 "FindsOffice$Law" "together" "I") (by decide +kernel)) (fun _ h9 => h9) rfl dX4_covers_61 ?_
          refine lv_icmp_lt (tgt := 71) hx hb dX4_covers_64 (by decide) (fun c_3 => ?_) (fun c_3 => ?_)
          · refine lv_iconst (v := 0) hx hb dX4_covers_71 (by decide) ?_
            exact ro_zret hx hb hr hlocks (by first | rfl | (simp [b2, btw, covB, c_1, c_2, c_3]; done)) dX4_covers_72
          · refine lv_iconst (v := 1) hx hb dX4_covers_67 (by decide) ?_
            refine lv_goto (tgt := 72) hx hb dX4_covers_68 (by decide) ?_
            exact ro_zret hx hb hr hlocks (by first | rfl | (simp [b2, btw, covB, c_1, c_2, c_3]; done)) dX4_covers_72
    refine lv_aload_n hx hb dX4_covers_25 rfl (lv_at hl 2 rfl) ?_
    refine va_get (D := D) (ci := 1) (v := .int g2) (C := RX1) (T := TX1) (N := 11) hx hb hts hiX1 hown hE.1 hP 1 rfl rfl 2 (by decide) (hts (.fieldLink RX4 50 "FindsOffice$Find" "metal" "I") (by decide +kernel)) (fun _ h9 => h9) rfl dX4_covers_26 ?_
    refine lv_if_eq (tgt := 47) hx hb dX4_covers_29 (by decide) (fun c_4 => ?_) (fun c_4 => ?_)
    · refine lv_iconst (v := 0) hx hb dX4_covers_47 (by decide) ?_
      exact J_48 _ (by first | rfl | (simp [b2, btw, covB, c_4]; done)) ls (lv_sub hl [0, 1, 2, 3] rfl)
    · refine lv_aload_n hx hb dX4_covers_32 rfl (lv_at hl 2 rfl) ?_
      refine va_get (D := D) (ci := 1) (v := .int g3) (C := RX1) (T := TX1) (N := 11) hx hb hts hiX1 hown hE.1 hP 1 rfl rfl 3 (by decide) (hts (.fieldLink RX4 53 "FindsOffice$Find" "purity" "I") (by decide +kernel)) (fun _ h9 => h9) rfl dX4_covers_33 ?_
      refine lv_aload_n hx hb dX4_covers_36 rfl (lv_at hl 1 rfl) ?_
      refine va_get (D := D) (ci := 4) (v := .int u2) (C := RX4) (T := TX4) (N := 5) hx hb hts hiX4 hown hE.1 hP 0 rfl rfl 2 (by decide) (hts (.fieldLink RX4 17 "FindsOffice$Law" "parts" "I") (by decide +kernel)) (fun _ h9 => h9) rfl dX4_covers_37 ?_
      refine lv_icmp_lt (tgt := 47) hx hb dX4_covers_40 (by decide) (fun c_5 => ?_) (fun c_5 => ?_)
      · refine lv_iconst (v := 0) hx hb dX4_covers_47 (by decide) ?_
        exact J_48 _ (by first | rfl | (simp [b2, btw, covB, c_4, c_5]; done)) ls (lv_sub hl [0, 1, 2, 3] rfl)
      · refine lv_iconst (v := 1) hx hb dX4_covers_43 (by decide) ?_
        refine lv_goto (tgt := 48) hx hb dX4_covers_44 (by decide) ?_
        exact J_48 _ (by first | rfl | (simp [b2, btw, covB, c_4, c_5]; done)) ls (lv_sub hl [0, 1, 2, 3] rfl)
  refine lv_aload_n hx hb dX4_covers_0 rfl (lv_at hl 1 rfl) ?_
  refine va_get (D := D) (ci := 1) (v := .int g7) (C := RX1) (T := TX1) (N := 11) hx hb hts hiX1 hown hE.1 hP 1 rfl rfl 7 (by decide) (hts (.fieldLink RX4 38 "FindsOffice$Find" "found" "I") (by decide +kernel)) (fun _ h9 => h9) rfl dX4_covers_1 ?_
  refine ro_SN (As := [.int g7]) (rest := []) ⟨hx, hb, hml, hown, hts⟩ (c_X9_yearOf l D cT g7 ) ⟨va_cnB (own := RX4) (host := RX9) 1 hts gX4_covers_X9_yearOf_n43 rfl rfl rfl (hE.2 (RX4, 43, yX9_yearOf, RX9) (by decide +kernel)) (hts (.initialized RX9) (by decide +kernel)) (by decide +kernel) ⟨Nat.le_of_ble_eq_true rfl, Nat.le_of_ble_eq_true rfl⟩, hts (.static yX9_yearOf) (by decide +kernel), trivial⟩ hE va_P_nil  rfl hl.1 rfl (Nat.le_of_ble_eq_true rfl) dX4_covers_4 ⟨Nat.zero_le _, Nat.zero_le _⟩ ?_
  refine lv_aload_n hx hb dX4_covers_7 rfl (lv_at hl 1 rfl) ?_
  refine va_get (D := D) (ci := 1) (v := .int g6) (C := RX1) (T := TX1) (N := 11) hx hb hts hiX1 hown hE.1 hP 1 rfl rfl 6 (by decide) (hts (.fieldLink RX4 47 "FindsOffice$Find" "lastYear" "I") (by decide +kernel)) (fun _ h9 => h9) rfl dX4_covers_8 ?_
  refine lv_isub hx hb dX4_covers_11 ?_
  refine lv_aload_n hx hb dX4_covers_12 rfl (lv_at hl 0 rfl) ?_
  refine va_get (D := D) (ci := 4) (v := .int u1) (C := RX4) (T := TX4) (N := 5) hx hb hts hiX4 hown hE.1 hP 0 rfl rfl 1 (by decide) (hts (.fieldLink RX4 14 "FindsOffice$Law" "age" "I") (by decide +kernel)) (fun _ h9 => h9) rfl dX4_covers_13 ?_
  refine lv_icmp_lt (tgt := 23) hx hb dX4_covers_16 (by decide) (fun c_6 => ?_) (fun c_6 => ?_)
  · refine lv_iconst (v := 0) hx hb dX4_covers_23 (by decide) ?_
    exact J_24 _ (by first | rfl | (simp [b2, btw, covB, c_6]; done)) ls (lv_sub hl [0, 1, 2] rfl)
  · refine lv_iconst (v := 1) hx hb dX4_covers_19 (by decide) ?_
    refine lv_goto (tgt := 24) hx hb dX4_covers_20 (by decide) ?_
    exact J_24 _ (by first | rfl | (simp [b2, btw, covB, c_6]; done)) ls (lv_sub hl [0, 1, 2] rfl)
end
section
set_option maxHeartbeats 4000000 in
set_option maxRecDepth 100000 in
theorem c_X2_isTold (l : Launch) (D : va_G) (cT : Nat → ClassId) (a : Nat → Nat) (b : Nat → Nat → Nat) (T P : Nat → Nat → Int32) (n : Nat → Nat) (i : Int32) (hn : Cnt n) : Met l yX2_isTold wsX2_isTold ({ frames := 0, cells := 0, slots := 0, locals := 0 }) (va_Pc [.ref (a 7), .int i] (PB D cT (offW cT a b T P n))) (QR (.int (b2 (isT (n 1) i)))) 0 0 (fun _ => False) := by
  refine RO_of (by decide) rfl (Nat.le_of_ble_eq_true rfl) ?_
  intro p e s m below meth c hx hb hr hts hown hlocks hml hE hP ls hl
  have hiX2 : ∀ w ∈ wsX20, w ∈ wsX2_isTold := by decide +kernel
  have hl : lv_has ls 2 [(0, .ref (a 7)), (1, .int i)] := hl
  obtain ⟨hn0, hn1, hn2, hn3, hn4⟩ := id hn
  refine lv_iload_n hx hb dX2_isTold_0 rfl (lv_at hl 1 rfl) ?_
  refine lv_if_lt (tgt := 22) hx hb dX2_isTold_1 (by decide) (fun c_1 => ?_) (fun c_1 => ?_)
  · refine lv_iconst (v := 0) hx hb dX2_isTold_22 (by decide) ?_
    exact ro_zret hx hb hr hlocks (by first | rfl | (simp [b2, btw, isT, c_1]; done)) dX2_isTold_23
  · refine lv_iload_n hx hb dX2_isTold_4 rfl (lv_at hl 1 rfl) ?_
    refine lv_aload_n hx hb dX2_isTold_5 rfl (lv_at hl 0 rfl) ?_
    refine va_get (D := D) (ci := 2) (v := .int (nI (n 1))) (C := RX2) (T := TX2) (N := 7) hx hb hts hiX2 hown hE.1 hP 7 ofl_7 rfl 1 (by decide) (hts (.fieldLink RX2 17 "FindsOffice$FindBook" "told" "I") (by decide +kernel)) (fun _ h9 => h9) rfl dX2_isTold_6 ?_
    refine lv_icmp_ge (tgt := 22) hx hb dX2_isTold_9 (by decide) (fun c_2 => ?_) (fun c_2 => ?_)
    · refine lv_iconst (v := 0) hx hb dX2_isTold_22 (by decide) ?_
      exact ro_zret hx hb hr hlocks (by first | rfl | (simp [b2, btw, isT, c_1, c_2]; done)) dX2_isTold_23
    · refine lv_iload_n hx hb dX2_isTold_12 rfl (lv_at hl 1 rfl) ?_
      refine lv_bipush (v := 50) hx hb dX2_isTold_13 (by decide) ?_
      refine lv_icmp_ge (tgt := 22) hx hb dX2_isTold_15 (by decide) (fun c_3 => ?_) (fun c_3 => ?_)
      · exact absurd c_3 (nle_of c_2 hn1 (by decide))
      · refine lv_iconst (v := 1) hx hb dX2_isTold_18 (by decide) ?_
        refine lv_goto (tgt := 23) hx hb dX2_isTold_19 (by decide) ?_
        exact ro_zret hx hb hr hlocks (by first | rfl | (simp [b2, btw, isT, c_1, c_2, c_3]; done)) dX2_isTold_23
set_option maxHeartbeats 4000000 in
set_option maxRecDepth 100000 in
theorem c_X2_numbered (l : Launch) (D : va_G) (cT : Nat → ClassId) (a : Nat → Nat) (b : Nat → Nat → Nat) (T P : Nat → Nat → Int32) (n : Nat → Nat) (i : Int32) (hn : Cnt n) : Met l yX2_numbered wsX2_numbered ({ frames := 1, cells := 0, slots := 0, locals := 21 }) (va_Pc [.ref (a 7), .int i] (PB D cT (offW cT a b T P n))) (QR (nuV (b 1) (n 1) i)) 0 0 (fun _ => False) := by
  refine RO_of (by decide) rfl (Nat.le_of_ble_eq_true rfl) ?_
  intro p e s m below meth c hx hb hr hts hown hlocks hml hE hP ls hl
  have hiX2 : ∀ w ∈ wsX20, w ∈ wsX2_numbered := by decide +kernel
  have hl : lv_has ls 2 [(0, .ref (a 7)), (1, .int i)] := hl
  obtain ⟨hn0, hn1, hn2, hn3, hn4⟩ := id hn
  refine lv_aload_n hx hb dX2_numbered_0 rfl (lv_at hl 0 rfl) ?_
  refine lv_iload_n hx hb dX2_numbered_1 rfl (lv_at hl 1 rfl) ?_
  refine ro_V (As := [.int i]) (rest := []) ⟨hx, hb, hml, hown, hts⟩ (c_X2_isTold l D cT a b T P n i hn) (cwV 1 hts gX2_numbered_X2_isTold rfl rfl rfl (by decide +kernel) ⟨Nat.le_of_ble_eq_true rfl, Nat.le_of_ble_eq_true rfl⟩) hE hP 7 2 ofl_7 rfl rfl rfl hl.1 rfl (Nat.le_of_ble_eq_true rfl) dX2_numbered_2 ⟨Nat.zero_le _, Nat.zero_le _⟩ ?_
  refine bi_eq (tgt := 17) hx hb dX2_numbered_5 (by decide) (fun c_1 => ?_) (fun c_1 => ?_)
  · refine lv_null hx hb dX2_numbered_17 ?_
    exact ro_aret hx hb hr hlocks (by rw [nuV, c_1]; rfl) (Or.inl rfl) dX2_numbered_18
  · obtain ⟨k, hk, rfl⟩ := isT_k c_1 (by omega)
    refine lv_aload_n hx hb dX2_numbered_8 rfl (lv_at hl 0 rfl) ?_
    refine va_get (D := D) (ci := 2) (v := .ref (a 8)) (C := RX2) (T := TX2) (N := 7) hx hb hts hiX2 hown hE.1 hP 7 ofl_7 rfl 0 (by decide) (hts (.fieldLink RX2 13 "FindsOffice$FindBook" "finds" "[LFindsOffice$Find;") (by decide +kernel)) (fun _ h9 => h9) rfl dX2_numbered_9 ?_
    refine lv_iload_n hx hb dX2_numbered_12 rfl (lv_at hl 1 rfl) ?_
    refine my_aldq (k := k) (v := .ref (b 1 k)) hx hb hE.1 hP 8 3 ofl_8 rfl rfl (by omega) (by decide) (by exact pf_at (by omega)) dX2_numbered_13 ?_
    refine lv_goto (tgt := 18) hx hb dX2_numbered_14 (by decide) ?_
    exact ro_aret hx hb hr hlocks (nuV_at hk (by omega)).symm (Or.inr ⟨_, rfl⟩) dX2_numbered_18
set_option maxHeartbeats 4000000 in
set_option maxRecDepth 100000 in
theorem c_X2_pairOf (l : Launch) (D : va_G) (cT : Nat → ClassId) (a : Nat → Nat) (b : Nat → Nat → Nat) (T P : Nat → Nat → Int32) (n : Nat → Nat) (i j : Int32) (hn : Cnt n) : Met l yX2_pairOf wsX2_pairOf ({ frames := 1, cells := 0, slots := 0, locals := 23 }) (va_Pc [.ref (a 7), .int i, .int j] (PB D cT (offW cT a b T P n))) (QR (.int (prV (n 1) i j))) 0 0 (fun _ => False) := by
  refine RO_of (by decide) rfl (Nat.le_of_ble_eq_true rfl) ?_
  intro p e s m below meth c hx hb hr hts hown hlocks hml hE hP ls hl
  have hl : lv_has ls 4 [(0, .ref (a 7)), (1, .int i), (2, .int j)] := hl
  obtain ⟨hn0, hn1, hn2, hn3, hn4⟩ := id hn
  refine lv_aload_n hx hb dX2_pairOf_0 rfl (lv_at hl 0 rfl) ?_
  refine lv_iload_n hx hb dX2_pairOf_1 rfl (lv_at hl 1 rfl) ?_
  refine ro_V (As := [.int i]) (rest := []) ⟨hx, hb, hml, hown, hts⟩ (c_X2_isTold l D cT a b T P n i hn) (cwV 1 hts gX2_pairOf_X2_isTold rfl rfl rfl (by decide +kernel) ⟨Nat.le_of_ble_eq_true rfl, Nat.le_of_ble_eq_true rfl⟩) hE hP 7 2 ofl_7 rfl rfl rfl hl.1 rfl (Nat.le_of_ble_eq_true rfl) dX2_pairOf_2 ⟨Nat.zero_le _, Nat.zero_le _⟩ ?_
  refine bi_eq (tgt := 21) hx hb dX2_pairOf_5 (by decide) (fun c_1 => ?_) (fun c_1 => ?_)
  · refine lv_iconst (v := (-1)) hx hb dX2_pairOf_21 (by decide) ?_
    exact ro_iret hx hb hr hlocks (by simp [prV, c_1]) dX2_pairOf_22
  · obtain ⟨k, hk, rfl⟩ := isT_k c_1 (by omega)
    refine lv_aload_n hx hb dX2_pairOf_8 rfl (lv_at hl 0 rfl) ?_
    refine lv_iload_n hx hb dX2_pairOf_9 rfl (lv_at hl 2 rfl) ?_
    refine ro_V (As := [.int j]) (rest := []) ⟨hx, hb, hml, hown, hts⟩ (c_X2_isTold l D cT a b T P n j hn) (cwV 1 hts gX2_pairOf_X2_isTold rfl rfl rfl (by decide +kernel) ⟨Nat.le_of_ble_eq_true rfl, Nat.le_of_ble_eq_true rfl⟩) hE hP 7 2 ofl_7 rfl rfl rfl hl.1 rfl (Nat.le_of_ble_eq_true rfl) dX2_pairOf_10 ⟨Nat.zero_le _, Nat.zero_le _⟩ ?_
    refine bi_eq (tgt := 21) hx hb dX2_pairOf_13 (by decide) (fun c_2 => ?_) (fun c_2 => ?_)
    · refine lv_iconst (v := (-1)) hx hb dX2_pairOf_21 (by decide) ?_
      exact ro_iret hx hb hr hlocks (by simp [prV, c_1, c_2]) dX2_pairOf_22
    · obtain ⟨q, hq, rfl⟩ := isT_k c_2 (by omega)
      refine lv_iload_n hx hb dX2_pairOf_16 rfl (lv_at hl 1 rfl) ?_
      refine lv_iload_n hx hb dX2_pairOf_17 rfl (lv_at hl 2 rfl) ?_
      refine lv_icmp_ne (tgt := 23) hx hb dX2_pairOf_18 (by decide) (fun c_3 => ?_) (fun c_3 => ?_)
      · have k_3 := nat_ne (a := k) (b := q) c_3
        refine lv_iload_n hx hb dX2_pairOf_23 rfl (lv_at hl 1 rfl) ?_
        refine lv_iload_n hx hb dX2_pairOf_24 rfl (lv_at hl 2 rfl) ?_
        refine va_mmax hx hb (hml.trans hl.1.symm) hown (hts (.methodLink RX2 55 Lib.Math.max.name) (by decide +kernel)) (hts (.static Lib.Math.max.name) (by decide +kernel)) (hts (.initialized "java/lang/Math") (by decide +kernel)) (hts (.code Lib.Math.max.name Lib.Math.max.code 2 (some .int)) (by decide +kernel)) (Nat.le_of_ble_eq_true rfl) (Nat.le_of_ble_eq_true rfl) (Nat.zero_le _) (Nat.zero_le _) dX2_pairOf_25 ?_
        refine lv_istore_n (lv' := [(3, .int (if (nI k) < (nI q) then (nI q) else (nI k))), (0, .ref (a 7)), (1, .int (nI k)), (2, .int (nI q))]) hx hb dX2_pairOf_28 rfl hl (by decide) rfl (fun ls hl => ?_)
        refine lv_iload_n hx hb dX2_pairOf_29 rfl (lv_at hl 0 rfl) ?_
        refine lv_iload_n hx hb dX2_pairOf_30 rfl (lv_at hl 0 rfl) ?_
        refine lv_iconst (v := 1) hx hb dX2_pairOf_31 (by decide) ?_
        refine lv_isub hx hb dX2_pairOf_32 ?_
        refine lv_imul hx hb dX2_pairOf_33 ?_
        refine lv_iconst (v := 2) hx hb dX2_pairOf_34 (by decide) ?_
        refine lv_idiv hx hb dX2_pairOf_35 (by decide) ?_
        refine lv_iload_n hx hb dX2_pairOf_36 rfl (lv_at hl 2 rfl) ?_
        refine lv_iload_n hx hb dX2_pairOf_37 rfl (lv_at hl 3 rfl) ?_
        refine va_mmin hx hb (hml.trans hl.1.symm) hown (hts (.methodLink RX2 60 Lib.Math.min.name) (by decide +kernel)) (hts (.static Lib.Math.min.name) (by decide +kernel)) (hts (.initialized "java/lang/Math") (by decide +kernel)) (hts (.code Lib.Math.min.name Lib.Math.min.code 2 (some .int)) (by decide +kernel)) (Nat.le_of_ble_eq_true rfl) (Nat.le_of_ble_eq_true rfl) (Nat.zero_le _) (Nat.zero_le _) dX2_pairOf_38 ?_
        refine lv_iadd hx hb dX2_pairOf_41 ?_
        exact ro_iret hx hb hr hlocks ((pair_eq hk hq hn1 k_3).trans (prV_nI hk hq (by omega) k_3).symm) dX2_pairOf_42
      · have k_3 := nat_eq (a := k) (b := q) c_3 (by omega) (by omega)
        refine lv_iconst (v := (-1)) hx hb dX2_pairOf_21 (by decide) ?_
        exact ro_iret hx hb hr hlocks (by simp [prV, c_1, c_2, c_3]) dX2_pairOf_22
set_option maxHeartbeats 4000000 in
set_option maxRecDepth 100000 in
theorem c_X2_isJoined (l : Launch) (D : va_G) (cT : Nat → ClassId) (a : Nat → Nat) (b : Nat → Nat → Nat) (T P : Nat → Nat → Int32) (n : Nat → Nat) (day : Int32) (pa qa : Nat) (hn : Cnt n) (hp : pa < n 1) (hq : qa < n 1) (hpq : pa ≠ qa) : Met l yX2_isJoined wsX2_isJoined ({ frames := 2, cells := 0, slots := 0, locals := 46 }) (va_Pc [.ref (a 7), .int (nI pa), .int (nI qa), .int day] (PB D cT (offW cT a b T P n))) (QR (.int (b2 (jnB T (P 0) pa qa day)))) 0 0 (fun _ => False) := by
  refine RO_of (by decide) rfl (Nat.le_of_ble_eq_true rfl) ?_
  intro p e s m below meth c hx hb hr hts hown hlocks hml hE hP ls hl
  have hiX2 : ∀ w ∈ wsX20, w ∈ wsX2_isJoined := by decide +kernel
  have hl : lv_has ls 7 [(0, .ref (a 7)), (1, .int (nI pa)), (2, .int (nI qa)), (3, .int day)] := hl
  obtain ⟨hn0, hn1, hn2, hn3, hn4⟩ := id hn
  have hPa := off_find (k := pa) hP (by omega)
  have hPb := off_find (k := qa) hP (by omega)
  refine lv_aload_n hx hb dX2_isJoined_0 rfl (lv_at hl 0 rfl) ?_
  refine lv_iload_n hx hb dX2_isJoined_1 rfl (lv_at hl 1 rfl) ?_
  refine ro_V (As := [.int (nI pa)]) (rest := []) ⟨hx, hb, hml, hown, hts⟩ (c_X2_numbered l D cT a b T P n (nI pa) hn) (cwV 1 hts gX2_isJoined_X2_numbered rfl rfl rfl (by decide +kernel) ⟨Nat.le_of_ble_eq_true rfl, Nat.le_of_ble_eq_true rfl⟩) hE hP 7 2 ofl_7 rfl rfl rfl hl.1 rfl (Nat.le_of_ble_eq_true rfl) dX2_isJoined_2 ⟨Nat.zero_le _, Nat.zero_le _⟩ ?_
  refine topv_eq (nuV_at (k := pa) (by omega) (by omega)) ?_
  refine lv_astore (lv' := [(4, .ref (b 1 pa)), (0, .ref (a 7)), (1, .int (nI pa)), (2, .int (nI qa)), (3, .int day)]) hx hb dX2_isJoined_5 hl (by decide) rfl (fun ls hl => ?_)
  refine lv_aload_n hx hb dX2_isJoined_7 rfl (lv_at hl 1 rfl) ?_
  refine lv_iload_n hx hb dX2_isJoined_8 rfl (lv_at hl 3 rfl) ?_
  refine ro_V (As := [.int (nI qa)]) (rest := []) ⟨hx, hb, hml, hown, hts⟩ (c_X2_numbered l D cT a b T P n (nI qa) hn) (cwV 1 hts gX2_isJoined_X2_numbered rfl rfl rfl (by decide +kernel) ⟨Nat.le_of_ble_eq_true rfl, Nat.le_of_ble_eq_true rfl⟩) hE hP 7 2 ofl_7 rfl rfl rfl hl.1 rfl (Nat.le_of_ble_eq_true rfl) dX2_isJoined_9 ⟨Nat.zero_le _, Nat.zero_le _⟩ ?_
  refine topv_eq (nuV_at (k := qa) (by omega) (by omega)) ?_
  refine lv_astore (lv' := [(5, .ref (b 1 qa)), (4, .ref (b 1 pa)), (0, .ref (a 7)), (1, .int (nI pa)), (2, .int (nI qa)), (3, .int day)]) hx hb dX2_isJoined_12 hl (by decide) rfl (fun ls hl => ?_)
  refine lv_aload hx hb dX2_isJoined_14 (lv_at hl 1 rfl) ?_
  refine lv_ifnull hx hb dX2_isJoined_16 ?_
  refine lv_aload hx hb dX2_isJoined_19 (lv_at hl 0 rfl) ?_
  refine lv_ifnull hx hb dX2_isJoined_21 ?_
  refine lv_aload hx hb dX2_isJoined_24 (lv_at hl 1 rfl) ?_
  refine lv_aload hx hb dX2_isJoined_26 (lv_at hl 0 rfl) ?_
  refine ro_V (As := [.ref (b 1 qa)]) (rest := []) ⟨hx, hb, hml, hown, hts⟩ (c_X1_isNear l D cT (b 1 pa) (b 1 qa) (T 2 pa) (T 3 pa) (T 4 pa) (T 5 pa) (T 6 pa) (T 7 pa) (T 8 pa) (T 10 pa) (T 9 pa) (T 11 pa) (T 12 pa) (T 2 qa) (T 3 qa) (T 4 qa) (T 5 qa) (T 6 qa) (T 7 qa) (T 8 qa) (T 10 qa) (T 9 qa) (T 11 qa) (T 12 qa) ) (cwV 1 hts gX2_isJoined_X1_isNear rfl rfl rfl (by decide +kernel) ⟨Nat.le_of_ble_eq_true rfl, Nat.le_of_ble_eq_true rfl⟩) hE (va_P.two hPa hPb) 0 1 rfl rfl rfl rfl hl.1 rfl (Nat.le_of_ble_eq_true rfl) dX2_isJoined_28 ⟨Nat.zero_le _, Nat.zero_le _⟩ ?_
  refine bi_ne (tgt := 36) hx hb dX2_isJoined_31 (by decide) (fun c_1 => ?_) (fun c_1 => ?_)
  · refine lv_aload_n hx hb dX2_isJoined_36 rfl (lv_at hl 2 rfl) ?_
    refine lv_iload_n hx hb dX2_isJoined_37 rfl (lv_at hl 3 rfl) ?_
    refine lv_iload_n hx hb dX2_isJoined_38 rfl (lv_at hl 4 rfl) ?_
    refine ro_V (As := [.int (nI pa), .int (nI qa)]) (rest := []) ⟨hx, hb, hml, hown, hts⟩ (c_X2_pairOf l D cT a b T P n (nI pa) (nI qa) hn) (cwV 2 hts gX2_isJoined_X2_pairOf rfl rfl rfl (by decide +kernel) ⟨Nat.le_of_ble_eq_true rfl, Nat.le_of_ble_eq_true rfl⟩) hE hP 7 2 ofl_7 rfl rfl rfl hl.1 rfl (Nat.le_of_ble_eq_true rfl) dX2_isJoined_39 ⟨Nat.zero_le _, Nat.zero_le _⟩ ?_
    refine topi_eq (prV_nI (by omega) (by omega) (by omega) (by omega)) ?_
    refine lv_istore (lv' := [(6, .int (nI (tri pa qa))), (5, .ref (b 1 qa)), (4, .ref (b 1 pa)), (0, .ref (a 7)), (1, .int (nI pa)), (2, .int (nI qa)), (3, .int day)]) hx hb dX2_isJoined_42 hl (by decide) rfl (fun ls hl => ?_)
    refine lv_iload hx hb dX2_isJoined_44 (lv_at hl 0 rfl) ?_
    refine lv_iconst (v := (-1)) hx hb dX2_isJoined_46 (by decide) ?_
    refine lv_icmp_eq (tgt := 76) hx hb dX2_isJoined_47 (by decide) (fun c_2 => ?_) (fun c_2 => ?_)
    · exact absurd c_2 (nI_ne_m1 (Nat.lt_trans (tri_lt hp hq hn1 hpq) (by decide)))
    · refine lv_aload_n hx hb dX2_isJoined_50 rfl (lv_at hl 3 rfl) ?_
      refine va_get (D := D) (ci := 2) (v := .ref (a 9)) (C := RX2) (T := TX2) (N := 7) hx hb hts hiX2 hown hE.1 hP 7 ofl_7 rfl 2 (by decide) (hts (.fieldLink RX2 21 "FindsOffice$FindBook" "partedOn" "[I") (by decide +kernel)) (fun _ h9 => h9) rfl dX2_isJoined_51 ?_
      refine lv_iload hx hb dX2_isJoined_54 (lv_at hl 0 rfl) ?_
      refine my_iald (k := tri pa qa) hx hb hE.1 hP 9 0 ofl_9 rfl rfl (tri_lt hp hq hn1 hpq) (by decide) dX2_isJoined_56 ?_
      refine lv_iconst (v := (-1)) hx hb dX2_isJoined_57 (by decide) ?_
      refine lv_icmp_eq (tgt := 72) hx hb dX2_isJoined_58 (by decide) (fun c_3 => ?_) (fun c_3 => ?_)
      · refine lv_iconst (v := 1) hx hb dX2_isJoined_72 (by decide) ?_
        refine lv_goto (tgt := 77) hx hb dX2_isJoined_73 (by decide) ?_
        exact ro_zret hx hb hr hlocks (by first | rfl | (simp [b2, btw, jnB, c_1, c_2, c_3]; done)) dX2_isJoined_77
      · refine lv_aload_n hx hb dX2_isJoined_61 rfl (lv_at hl 3 rfl) ?_
        refine va_get (D := D) (ci := 2) (v := .ref (a 9)) (C := RX2) (T := TX2) (N := 7) hx hb hts hiX2 hown hE.1 hP 7 ofl_7 rfl 2 (by decide) (hts (.fieldLink RX2 21 "FindsOffice$FindBook" "partedOn" "[I") (by decide +kernel)) (fun _ h9 => h9) rfl dX2_isJoined_62 ?_
        refine lv_iload hx hb dX2_isJoined_65 (lv_at hl 0 rfl) ?_
        refine my_iald (k := tri pa qa) hx hb hE.1 hP 9 0 ofl_9 rfl rfl (tri_lt hp hq hn1 hpq) (by decide) dX2_isJoined_67 ?_
        refine lv_iload_n hx hb dX2_isJoined_68 rfl (lv_at hl 6 rfl) ?_
        refine lv_icmp_le (tgt := 76) hx hb dX2_isJoined_69 (by decide) (fun c_4 => ?_) (fun c_4 => ?_)
        · refine lv_iconst (v := 0) hx hb dX2_isJoined_76 (by decide) ?_
          exact ro_zret hx hb hr hlocks (by first | rfl | (simp [b2, btw, jnB, c_1, c_2, c_3, c_4]; done)) dX2_isJoined_77
        · refine lv_iconst (v := 1) hx hb dX2_isJoined_72 (by decide) ?_
          refine lv_goto (tgt := 77) hx hb dX2_isJoined_73 (by decide) ?_
          exact ro_zret hx hb hr hlocks (by first | rfl | (simp [b2, btw, jnB, c_1, c_2, c_3, c_4]; done)) dX2_isJoined_77
  · refine lv_iconst (v := 0) hx hb dX2_isJoined_34 (by decide) ?_
    exact ro_zret hx hb hr hlocks (by first | rfl | (simp [b2, btw, jnB, c_1]; done)) dX2_isJoined_35
set_option maxHeartbeats 4000000 in
set_option maxRecDepth 100000 in
theorem c_X2_knownBy (l : Launch) (D : va_G) (cT : Nat → ClassId) (a : Nat → Nat) (b : Nat → Nat → Nat) (T P : Nat → Nat → Int32) (n : Nat → Nat) (day : Int32) (hn : Cnt n) : Met l yX2_knownBy wsX2_knownBy ({ frames := 2, cells := 0, slots := 0, locals := 42 }) (va_Pc [.ref (a 7), .int day] (PB D cT (offW cT a b T P n))) (QR (.int (nI (kbN T day (n 1))))) 0 0 (fun _ => False) := by
  refine RO_of (by decide) rfl (Nat.le_of_ble_eq_true rfl) ?_
  intro p e s m below meth c hx hb hr hts hown hlocks hml hE hP ls hl
  have hiX1 : ∀ w ∈ wsX10, w ∈ wsX2_knownBy := by decide +kernel
  have hiX2 : ∀ w ∈ wsX20, w ∈ wsX2_knownBy := by decide +kernel
  have hl : lv_has ls 5 [(0, .ref (a 7)), (1, .int day)] := hl
  obtain ⟨hn0, hn1, hn2, hn3, hn4⟩ := id hn
  refine lv_iconst (v := 0) hx hb dX2_knownBy_0 (by decide) ?_
  refine lv_istore_n (lv' := [(2, .int 0), (0, .ref (a 7)), (1, .int day)]) hx hb dX2_knownBy_1 rfl hl (by decide) rfl (fun ls hl => ?_)
  refine lv_iconst (v := 0) hx hb dX2_knownBy_2 (by decide) ?_
  refine lv_istore_n (lv' := [(3, .int 0), (2, .int 0), (0, .ref (a 7)), (1, .int day)]) hx hb dX2_knownBy_3 rfl hl (by decide) rfl (fun ls hl => ?_)
  have loop_4 : ∀ (fuel : Nat) (j : Nat) (v : Int32), j ≤ n 1 → v = nI (kbN T day j) → n 1 - j < fuel → ∀ (ls : Array Slot), lv_has ls 5 [(0, .ref (a 7)), (1, .int day), (2, .int v), (3, .int (nI j))] → W p l e ({ frames := 2, cells := 0, slots := 0, locals := 42 }) s m (List.toArray [.ref (a 7), .int day]) below meth c s.heap [] 0 0 (MQ below (QR (.int (nI (kbN T day (n 1))))) (List.toArray [.ref (a 7), .int day]) s 0 0 (fun _ => False)) (F0 m 4 ls []) := by
    intro fuel
    induction fuel with
    | zero => intro j v hj hv hfuel; exact absurd hfuel (Nat.not_lt_zero _)
    | succ fuel ih =>
      intro j v hj hv hfuel ls hl
      refine lv_iload_n hx hb dX2_knownBy_4 rfl (lv_at hl 3 rfl) ?_
      refine lv_aload_n hx hb dX2_knownBy_5 rfl (lv_at hl 0 rfl) ?_
      refine va_get (D := D) (ci := 2) (v := .int (nI (n 1))) (C := RX2) (T := TX2) (N := 7) hx hb hts hiX2 hown hE.1 hP 7 ofl_7 rfl 1 (by decide) (hts (.fieldLink RX2 17 "FindsOffice$FindBook" "told" "I") (by decide +kernel)) (fun _ h9 => h9) rfl dX2_knownBy_6 ?_
      refine lv_icmp_ge (tgt := 43) hx hb dX2_knownBy_9 (by decide) (fun c_1 => ?_) (fun c_1 => ?_)
      · have k_1 := nat_le (a := (n 1)) (b := j) c_1 (by omega) (by omega)
        refine lv_iload_n hx hb dX2_knownBy_43 rfl (lv_at hl 2 rfl) ?_
        exact ro_iret hx hb hr hlocks (by rw [hv]; congr 2; omega) dX2_knownBy_44
      · have k_1 := nat_nle (a := (n 1)) (b := j) c_1 (by omega) (by omega)
        refine lv_aload_n hx hb dX2_knownBy_12 rfl (lv_at hl 0 rfl) ?_
        refine lv_iload_n hx hb dX2_knownBy_13 rfl (lv_at hl 3 rfl) ?_
        refine ro_V (As := [.int (nI j)]) (rest := []) ⟨hx, hb, hml, hown, hts⟩ (c_X2_numbered l D cT a b T P n (nI j) hn) (cwV 1 hts gX2_knownBy_X2_numbered rfl rfl rfl (by decide +kernel) ⟨Nat.le_of_ble_eq_true rfl, Nat.le_of_ble_eq_true rfl⟩) hE hP 7 2 ofl_7 rfl rfl rfl hl.1 rfl (Nat.le_of_ble_eq_true rfl) dX2_knownBy_14 ⟨Nat.zero_le _, Nat.zero_le _⟩ ?_
        refine topv_eq (nuV_at (k := j) (by omega) (by omega)) ?_
        refine lv_astore (lv' := [(4, .ref (b 1 j)), (0, .ref (a 7)), (1, .int day), (2, .int v), (3, .int (nI j))]) hx hb dX2_knownBy_17 hl (by decide) rfl (fun ls hl => ?_)
        refine lv_aload hx hb dX2_knownBy_19 (lv_at hl 0 rfl) ?_
        refine lv_ifnull hx hb dX2_knownBy_21 ?_
        refine lv_aload hx hb dX2_knownBy_24 (lv_at hl 0 rfl) ?_
        have hq_2 := off_find (k := j) hP (by omega)
        refine va_get (D := D) (ci := 1) (v := .int (T 11 j)) (C := RX1) (T := TX1) (N := 11) hx hb hts hiX1 hown hE.1 hq_2 0 rfl rfl 9 (by decide) (hts (.fieldLink RX2 79 "FindsOffice$Find" "known" "I") (by decide +kernel)) (fun _ h9 => h9) rfl dX2_knownBy_26 ?_
        refine lv_iload_n hx hb dX2_knownBy_29 rfl (lv_at hl 2 rfl) ?_
        refine lv_icmp_gt (tgt := 37) hx hb dX2_knownBy_30 (by decide) (fun c_3 => ?_) (fun c_3 => ?_)
        · refine lv_iinc (v := nI (j + 1)) (lv' := [(3, .int (nI (j + 1))), (4, .ref (b 1 j)), (0, .ref (a 7)), (1, .int day), (2, .int v)]) hx hb dX2_knownBy_37 hl (k := 4) rfl (nI_1 _) (by decide) rfl (fun ls hl => ?_)
          refine lv_goto (tgt := 4) hx hb dX2_knownBy_40 (by decide) ?_
          exact ih (j + 1) _ (by omega) (by first | (subst hv; simp [kbN, c_1, c_3]; done) | (simp [kbN, c_1, c_3]; done)) (by omega) ls (lv_sub hl [2, 3, 4, 0] rfl)
        · refine lv_iload_n hx hb dX2_knownBy_33 rfl (lv_at hl 4 rfl) ?_
          refine lv_iconst (v := 1) hx hb dX2_knownBy_34 (by decide) ?_
          refine lv_iadd hx hb dX2_knownBy_35 ?_
          refine topi_eq (nI_add _ 1) ?_
          refine lv_istore_n (lv' := [(2, .int (nI (j + 1))), (4, .ref (b 1 j)), (0, .ref (a 7)), (1, .int day), (3, .int (nI j))]) hx hb dX2_knownBy_36 rfl hl (by decide) rfl (fun ls hl => ?_)
          refine lv_iinc (v := nI (j + 1)) (lv' := [(3, .int (nI (j + 1))), (2, .int (nI (j + 1))), (4, .ref (b 1 j)), (0, .ref (a 7)), (1, .int day)]) hx hb dX2_knownBy_37 hl (k := 4) rfl (nI_1 _) (by decide) rfl (fun ls hl => ?_)
          refine lv_goto (tgt := 4) hx hb dX2_knownBy_40 (by decide) ?_
          exact ih (j + 1) _ (by omega) (by first | (subst hv; simp [kbN, c_1, c_3]; done) | (simp [kbN, c_1, c_3]; done)) (by omega) ls (lv_sub hl [3, 4, 1, 0] rfl)
  exact loop_4 _ 0 0 (by omega) rfl (Nat.lt_succ_self _) ls (lv_sub hl [2, 3, 1, 0] rfl)
set_option maxHeartbeats 4000000 in
set_option maxRecDepth 100000 in
theorem c_X2_hoardNumber (l : Launch) (D : va_G) (cT : Nat → ClassId) (a : Nat → Nat) (b : Nat → Nat → Nat) (T P : Nat → Nat → Int32) (n : Nat → Nat) (i : Int32) (hn : Cnt n) : Met l yX2_hoardNumber wsX2_hoardNumber ({ frames := 1, cells := 0, slots := 0, locals := 21 }) (va_Pc [.ref (a 7), .int i] (PB D cT (offW cT a b T P n))) (QR (.int (hoN (n 1) (P 1) i))) 0 0 (fun _ => False) := by
  refine RO_of (by decide) rfl (Nat.le_of_ble_eq_true rfl) ?_
  intro p e s m below meth c hx hb hr hts hown hlocks hml hE hP ls hl
  have hiX2 : ∀ w ∈ wsX20, w ∈ wsX2_hoardNumber := by decide +kernel
  have hl : lv_has ls 2 [(0, .ref (a 7)), (1, .int i)] := hl
  obtain ⟨hn0, hn1, hn2, hn3, hn4⟩ := id hn
  refine lv_aload_n hx hb dX2_hoardNumber_0 rfl (lv_at hl 0 rfl) ?_
  refine lv_iload_n hx hb dX2_hoardNumber_1 rfl (lv_at hl 1 rfl) ?_
  refine ro_V (As := [.int i]) (rest := []) ⟨hx, hb, hml, hown, hts⟩ (c_X2_isTold l D cT a b T P n i hn) (cwV 1 hts gX2_hoardNumber_X2_isTold rfl rfl rfl (by decide +kernel) ⟨Nat.le_of_ble_eq_true rfl, Nat.le_of_ble_eq_true rfl⟩) hE hP 7 2 ofl_7 rfl rfl rfl hl.1 rfl (Nat.le_of_ble_eq_true rfl) dX2_hoardNumber_2 ⟨Nat.zero_le _, Nat.zero_le _⟩ ?_
  refine bi_eq (tgt := 17) hx hb dX2_hoardNumber_5 (by decide) (fun c_1 => ?_) (fun c_1 => ?_)
  · refine lv_iconst (v := (-1)) hx hb dX2_hoardNumber_17 (by decide) ?_
    exact ro_iret hx hb hr hlocks (hoN_no c_1).symm dX2_hoardNumber_18
  · obtain ⟨k, hk, rfl⟩ := isT_k c_1 (by omega)
    refine lv_aload_n hx hb dX2_hoardNumber_8 rfl (lv_at hl 0 rfl) ?_
    refine va_get (D := D) (ci := 2) (v := .ref (a 10)) (C := RX2) (T := TX2) (N := 7) hx hb hts hiX2 hown hE.1 hP 7 ofl_7 rfl 4 (by decide) (hts (.fieldLink RX2 28 "FindsOffice$FindBook" "hoardOf" "[I") (by decide +kernel)) (fun _ h9 => h9) rfl dX2_hoardNumber_9 ?_
    refine lv_iload_n hx hb dX2_hoardNumber_12 rfl (lv_at hl 1 rfl) ?_
    refine my_iald (k := k) hx hb hE.1 hP 10 0 ofl_10 rfl rfl (by omega) (by decide) dX2_hoardNumber_13 ?_
    refine lv_goto (tgt := 18) hx hb dX2_hoardNumber_14 (by decide) ?_
    exact ro_iret hx hb hr hlocks (hoN_at hk (by omega)).symm dX2_hoardNumber_18
set_option maxHeartbeats 4000000 in
set_option maxRecDepth 100000 in
theorem c_X2_hoardSize (l : Launch) (D : va_G) (cT : Nat → ClassId) (a : Nat → Nat) (b : Nat → Nat → Nat) (T P : Nat → Nat → Int32) (n : Nat → Nat) (i : Int32) (hn : Cnt n) : Met l yX2_hoardSize wsX2_hoardSize ({ frames := 1, cells := 0, slots := 0, locals := 21 }) (va_Pc [.ref (a 7), .int i] (PB D cT (offW cT a b T P n))) (QR (.int (hoN (n 1) (P 2) (hoN (n 1) (P 1) i)))) 0 0 (fun _ => False) := by
  refine RO_of (by decide) rfl (Nat.le_of_ble_eq_true rfl) ?_
  intro p e s m below meth c hx hb hr hts hown hlocks hml hE hP ls hl
  have hiX2 : ∀ w ∈ wsX20, w ∈ wsX2_hoardSize := by decide +kernel
  have hl : lv_has ls 3 [(0, .ref (a 7)), (1, .int i)] := hl
  obtain ⟨hn0, hn1, hn2, hn3, hn4⟩ := id hn
  have J_18 : ∀ (v : Int32), v = (hoN (n 1) (P 1) i) → ∀ (ls : Array Slot), lv_has ls 3 [(0, .ref (a 7)), (1, .int i)] → W p l e ({ frames := 1, cells := 0, slots := 0, locals := 21 }) s m (List.toArray [.ref (a 7), .int i]) below meth c s.heap [] 0 0 (MQ below (QR (.int (hoN (n 1) (P 2) (hoN (n 1) (P 1) i)))) (List.toArray [.ref (a 7), .int i]) s 0 0 (fun _ => False)) (F0 m 18 ls [.int v]) := by
    intro v hv ls hl
    subst hv
    refine lv_istore_n (lv' := [(2, .int (hoN (n 1) (P 1) i)), (0, .ref (a 7)), (1, .int i)]) hx hb dX2_hoardSize_18 rfl hl (by decide) rfl (fun ls hl => ?_)
    refine lv_aload_n hx hb dX2_hoardSize_19 rfl (lv_at hl 1 rfl) ?_
    refine lv_iload_n hx hb dX2_hoardSize_20 rfl (lv_at hl 0 rfl) ?_
    refine ro_V (As := [.int (hoN (n 1) (P 1) i)]) (rest := []) ⟨hx, hb, hml, hown, hts⟩ (c_X2_isTold l D cT a b T P n (hoN (n 1) (P 1) i) hn) (cwV 1 hts gX2_hoardSize_X2_isTold rfl rfl rfl (by decide +kernel) ⟨Nat.le_of_ble_eq_true rfl, Nat.le_of_ble_eq_true rfl⟩) hE hP 7 2 ofl_7 rfl rfl rfl hl.1 rfl (Nat.le_of_ble_eq_true rfl) dX2_hoardSize_21 ⟨Nat.zero_le _, Nat.zero_le _⟩ ?_
    refine bi_eq (tgt := 36) hx hb dX2_hoardSize_24 (by decide) (fun c_1 => ?_) (fun c_1 => ?_)
    · refine lv_iconst (v := (-1)) hx hb dX2_hoardSize_36 (by decide) ?_
      exact ro_iret hx hb hr hlocks (hoN_no c_1).symm dX2_hoardSize_37
    · obtain ⟨k2, hk2, he2⟩ := isT_k c_1 (by omega)
      refine lv_aload_n hx hb dX2_hoardSize_27 rfl (lv_at hl 1 rfl) ?_
      refine va_get (D := D) (ci := 2) (v := .ref (a 11)) (C := RX2) (T := TX2) (N := 7) hx hb hts hiX2 hown hE.1 hP 7 ofl_7 rfl 5 (by decide) (hts (.fieldLink RX2 31 "FindsOffice$FindBook" "sizeOf" "[I") (by decide +kernel)) (fun _ h9 => h9) rfl dX2_hoardSize_28 ?_
      refine lv_iload_n hx hb dX2_hoardSize_31 rfl (lv_at hl 0 rfl) ?_
      refine my_iald (k := k2) hx hb hE.1 hP 11 0 ofl_11 rfl he2 (by omega) (by decide) dX2_hoardSize_32 ?_
      refine lv_goto (tgt := 37) hx hb dX2_hoardSize_33 (by decide) ?_
      exact ro_iret hx hb hr hlocks (by rw [he2]; exact (hoN_at hk2 (by omega)).symm) dX2_hoardSize_37
  refine lv_aload_n hx hb dX2_hoardSize_0 rfl (lv_at hl 0 rfl) ?_
  refine lv_iload_n hx hb dX2_hoardSize_1 rfl (lv_at hl 1 rfl) ?_
  refine ro_V (As := [.int i]) (rest := []) ⟨hx, hb, hml, hown, hts⟩ (c_X2_isTold l D cT a b T P n i hn) (cwV 1 hts gX2_hoardSize_X2_isTold rfl rfl rfl (by decide +kernel) ⟨Nat.le_of_ble_eq_true rfl, Nat.le_of_ble_eq_true rfl⟩) hE hP 7 2 ofl_7 rfl rfl rfl hl.1 rfl (Nat.le_of_ble_eq_true rfl) dX2_hoardSize_2 ⟨Nat.zero_le _, Nat.zero_le _⟩ ?_
  refine bi_eq (tgt := 17) hx hb dX2_hoardSize_5 (by decide) (fun c_2 => ?_) (fun c_2 => ?_)
  · refine lv_iconst (v := (-1)) hx hb dX2_hoardSize_17 (by decide) ?_
    exact J_18 _ (hoN_no c_2).symm ls (lv_sub hl [0, 1] rfl)
  · obtain ⟨k, hk, rfl⟩ := isT_k c_2 (by omega)
    refine lv_aload_n hx hb dX2_hoardSize_8 rfl (lv_at hl 0 rfl) ?_
    refine va_get (D := D) (ci := 2) (v := .ref (a 10)) (C := RX2) (T := TX2) (N := 7) hx hb hts hiX2 hown hE.1 hP 7 ofl_7 rfl 4 (by decide) (hts (.fieldLink RX2 28 "FindsOffice$FindBook" "hoardOf" "[I") (by decide +kernel)) (fun _ h9 => h9) rfl dX2_hoardSize_9 ?_
    refine lv_iload_n hx hb dX2_hoardSize_12 rfl (lv_at hl 1 rfl) ?_
    refine my_iald (k := k) hx hb hE.1 hP 10 0 ofl_10 rfl rfl (by omega) (by decide) dX2_hoardSize_13 ?_
    refine lv_goto (tgt := 18) hx hb dX2_hoardSize_14 (by decide) ?_
    exact J_18 _ (hoN_at hk (by omega)).symm ls (lv_sub hl [0, 1] rfl)
set_option maxHeartbeats 4000000 in
set_option maxRecDepth 100000 in
theorem c_X2_tally (l : Launch) (D : va_G) (cT : Nat → ClassId) (a : Nat → Nat) (b : Nat → Nat → Nat) (T P : Nat → Nat → Int32) (n : Nat → Nat) (le ri lo hi : Int32) (hn : Cnt n) : Met l yX2_tally wsX2_tally ({ frames := 2, cells := 0, slots := 0, locals := 42 }) (va_Pc [.ref (a 7), .int le, .int ri, .int lo, .int hi] (PB D cT (offW cT a b T P n))) (QR (.int (nI (tlN T le ri lo hi (n 1))))) 0 0 (fun _ => False) := by
  refine RO_of (by decide) rfl (Nat.le_of_ble_eq_true rfl) ?_
  intro p e s m below meth c hx hb hr hts hown hlocks hml hE hP ls hl
  have hiX1 : ∀ w ∈ wsX10, w ∈ wsX2_tally := by decide +kernel
  have hiX2 : ∀ w ∈ wsX20, w ∈ wsX2_tally := by decide +kernel
  have hl : lv_has ls 8 [(0, .ref (a 7)), (1, .int le), (2, .int ri), (3, .int lo), (4, .int hi)] := hl
  obtain ⟨hn0, hn1, hn2, hn3, hn4⟩ := id hn
  refine lv_iconst (v := 0) hx hb dX2_tally_0 (by decide) ?_
  refine lv_istore (lv' := [(5, .int 0), (0, .ref (a 7)), (1, .int le), (2, .int ri), (3, .int lo), (4, .int hi)]) hx hb dX2_tally_1 hl (by decide) rfl (fun ls hl => ?_)
  refine lv_iconst (v := 0) hx hb dX2_tally_3 (by decide) ?_
  refine lv_istore (lv' := [(6, .int 0), (5, .int 0), (0, .ref (a 7)), (1, .int le), (2, .int ri), (3, .int lo), (4, .int hi)]) hx hb dX2_tally_4 hl (by decide) rfl (fun ls hl => ?_)
  have loop_6 : ∀ (fuel : Nat) (j : Nat) (v : Int32), j ≤ n 1 → v = nI (tlN T le ri lo hi j) → n 1 - j < fuel → ∀ (ls : Array Slot), lv_has ls 8 [(0, .ref (a 7)), (1, .int le), (2, .int ri), (3, .int lo), (4, .int hi), (5, .int v), (6, .int (nI j))] → W p l e ({ frames := 2, cells := 0, slots := 0, locals := 42 }) s m (List.toArray [.ref (a 7), .int le, .int ri, .int lo, .int hi]) below meth c s.heap [] 0 0 (MQ below (QR (.int (nI (tlN T le ri lo hi (n 1))))) (List.toArray [.ref (a 7), .int le, .int ri, .int lo, .int hi]) s 0 0 (fun _ => False)) (F0 m 6 ls []) := by
    intro fuel
    induction fuel with
    | zero => intro j v hj hv hfuel; exact absurd hfuel (Nat.not_lt_zero _)
    | succ fuel ih =>
      intro j v hj hv hfuel ls hl
      refine lv_iload hx hb dX2_tally_6 (lv_at hl 6 rfl) ?_
      refine lv_aload_n hx hb dX2_tally_8 rfl (lv_at hl 0 rfl) ?_
      refine va_get (D := D) (ci := 2) (v := .int (nI (n 1))) (C := RX2) (T := TX2) (N := 7) hx hb hts hiX2 hown hE.1 hP 7 ofl_7 rfl 1 (by decide) (hts (.fieldLink RX2 17 "FindsOffice$FindBook" "told" "I") (by decide +kernel)) (fun _ h9 => h9) rfl dX2_tally_9 ?_
      refine lv_icmp_ge (tgt := 68) hx hb dX2_tally_12 (by decide) (fun c_1 => ?_) (fun c_1 => ?_)
      · have k_1 := nat_le (a := (n 1)) (b := j) c_1 (by omega) (by omega)
        refine lv_iload hx hb dX2_tally_68 (lv_at hl 5 rfl) ?_
        exact ro_iret hx hb hr hlocks (by rw [hv]; congr 2; omega) dX2_tally_70
      · have k_1 := nat_nle (a := (n 1)) (b := j) c_1 (by omega) (by omega)
        refine lv_aload_n hx hb dX2_tally_15 rfl (lv_at hl 0 rfl) ?_
        refine lv_iload hx hb dX2_tally_16 (lv_at hl 6 rfl) ?_
        refine ro_V (As := [.int (nI j)]) (rest := []) ⟨hx, hb, hml, hown, hts⟩ (c_X2_numbered l D cT a b T P n (nI j) hn) (cwV 1 hts gX2_tally_X2_numbered rfl rfl rfl (by decide +kernel) ⟨Nat.le_of_ble_eq_true rfl, Nat.le_of_ble_eq_true rfl⟩) hE hP 7 2 ofl_7 rfl rfl rfl hl.1 rfl (Nat.le_of_ble_eq_true rfl) dX2_tally_18 ⟨Nat.zero_le _, Nat.zero_le _⟩ ?_
        refine topv_eq (nuV_at (k := j) (by omega) (by omega)) ?_
        refine lv_astore (lv' := [(7, .ref (b 1 j)), (0, .ref (a 7)), (1, .int le), (2, .int ri), (3, .int lo), (4, .int hi), (5, .int v), (6, .int (nI j))]) hx hb dX2_tally_21 hl (by decide) rfl (fun ls hl => ?_)
        refine lv_aload hx hb dX2_tally_23 (lv_at hl 0 rfl) ?_
        refine lv_ifnull hx hb dX2_tally_25 ?_
        refine lv_aload hx hb dX2_tally_28 (lv_at hl 0 rfl) ?_
        have hq_2 := off_find (k := j) hP (by omega)
        refine va_get (D := D) (ci := 1) (v := .int (T 2 j)) (C := RX1) (T := TX1) (N := 11) hx hb hts hiX1 hown hE.1 hq_2 0 rfl rfl 0 (by decide) (hts (.fieldLink RX2 86 "FindsOffice$Find" "x" "I") (by decide +kernel)) (fun _ h9 => h9) rfl dX2_tally_30 ?_
        refine lv_iload_n hx hb dX2_tally_33 rfl (lv_at hl 2 rfl) ?_
        refine lv_iload_n hx hb dX2_tally_34 rfl (lv_at hl 3 rfl) ?_
        refine lv_iconst (v := 1) hx hb dX2_tally_35 (by decide) ?_
        refine lv_isub hx hb dX2_tally_36 ?_
        refine ro_SN (As := [.int (T 2 j), .int le, .int (ri - 1)]) (rest := []) ⟨hx, hb, hml, hown, hts⟩ (c_X9_isBetween l D cT (T 2 j) le (ri - 1) ) ⟨va_cnB (own := RX2) (host := RX9) 3 hts gX2_tally_X9_isBetween_n89 rfl rfl rfl (hE.2 (RX2, 89, yX9_isBetween, RX9) (by decide +kernel)) (hts (.initialized RX9) (by decide +kernel)) (by decide +kernel) ⟨Nat.le_of_ble_eq_true rfl, Nat.le_of_ble_eq_true rfl⟩, hts (.static yX9_isBetween) (by decide +kernel), trivial⟩ hE va_P_nil  rfl hl.1 rfl (Nat.le_of_ble_eq_true rfl) dX2_tally_37 ⟨Nat.zero_le _, Nat.zero_le _⟩ ?_
        refine bi_eq (tgt := 62) hx hb dX2_tally_40 (by decide) (fun c_3 => ?_) (fun c_3 => ?_)
        · refine lv_iinc (v := nI (j + 1)) (lv' := [(6, .int (nI (j + 1))), (7, .ref (b 1 j)), (0, .ref (a 7)), (1, .int le), (2, .int ri), (3, .int lo), (4, .int hi), (5, .int v)]) hx hb dX2_tally_62 hl (k := 7) rfl (nI_1 _) (by decide) rfl (fun ls hl => ?_)
          refine lv_goto (tgt := 6) hx hb dX2_tally_65 (by decide) ?_
          exact ih (j + 1) _ (by omega) (by subst hv; simp [tlN, nI_1, c_1, c_3]) (by omega) ls (lv_sub hl [2, 3, 4, 5, 6, 7, 0] rfl)
        · refine lv_aload hx hb dX2_tally_43 (lv_at hl 0 rfl) ?_
          refine va_get (D := D) (ci := 1) (v := .int (T 3 j)) (C := RX1) (T := TX1) (N := 11) hx hb hts hiX1 hown hE.1 hq_2 0 rfl rfl 1 (by decide) (hts (.fieldLink RX2 92 "FindsOffice$Find" "y" "I") (by decide +kernel)) (fun _ h9 => h9) rfl dX2_tally_45 ?_
          refine lv_iload_n hx hb dX2_tally_48 rfl (lv_at hl 4 rfl) ?_
          refine lv_iload hx hb dX2_tally_49 (lv_at hl 5 rfl) ?_
          refine lv_iconst (v := 1) hx hb dX2_tally_51 (by decide) ?_
          refine lv_isub hx hb dX2_tally_52 ?_
          refine ro_SN (As := [.int (T 3 j), .int lo, .int (hi - 1)]) (rest := []) ⟨hx, hb, hml, hown, hts⟩ (c_X9_isBetween l D cT (T 3 j) lo (hi - 1) ) ⟨va_cnB (own := RX2) (host := RX9) 3 hts gX2_tally_X9_isBetween_n89 rfl rfl rfl (hE.2 (RX2, 89, yX9_isBetween, RX9) (by decide +kernel)) (hts (.initialized RX9) (by decide +kernel)) (by decide +kernel) ⟨Nat.le_of_ble_eq_true rfl, Nat.le_of_ble_eq_true rfl⟩, hts (.static yX9_isBetween) (by decide +kernel), trivial⟩ hE va_P_nil  rfl hl.1 rfl (Nat.le_of_ble_eq_true rfl) dX2_tally_53 ⟨Nat.zero_le _, Nat.zero_le _⟩ ?_
          refine bi_eq (tgt := 62) hx hb dX2_tally_56 (by decide) (fun c_4 => ?_) (fun c_4 => ?_)
          · refine lv_iinc (v := nI (j + 1)) (lv' := [(6, .int (nI (j + 1))), (7, .ref (b 1 j)), (0, .ref (a 7)), (1, .int le), (2, .int ri), (3, .int lo), (4, .int hi), (5, .int v)]) hx hb dX2_tally_62 hl (k := 7) rfl (nI_1 _) (by decide) rfl (fun ls hl => ?_)
            refine lv_goto (tgt := 6) hx hb dX2_tally_65 (by decide) ?_
            exact ih (j + 1) _ (by omega) (by subst hv; simp [tlN, nI_1, c_1, c_3, c_4]) (by omega) ls (lv_sub hl [2, 3, 4, 5, 6, 7, 0] rfl)
          · refine lv_iinc (v := v + 1) (lv' := [(5, .int (v + 1)), (7, .ref (b 1 j)), (0, .ref (a 7)), (1, .int le), (2, .int ri), (3, .int lo), (4, .int hi), (6, .int (nI j))]) hx hb dX2_tally_59 hl (k := 6) rfl (rfl) (by decide) rfl (fun ls hl => ?_)
            refine lv_iinc (v := nI (j + 1)) (lv' := [(6, .int (nI (j + 1))), (5, .int (v + 1)), (7, .ref (b 1 j)), (0, .ref (a 7)), (1, .int le), (2, .int ri), (3, .int lo), (4, .int hi)]) hx hb dX2_tally_62 hl (k := 7) rfl (nI_1 _) (by decide) rfl (fun ls hl => ?_)
            refine lv_goto (tgt := 6) hx hb dX2_tally_65 (by decide) ?_
            exact ih (j + 1) _ (by omega) (by subst hv; simp [tlN, nI_1, c_1, c_3, c_4]) (by omega) ls (lv_sub hl [3, 4, 5, 6, 7, 1, 0] rfl)
  exact loop_6 _ 0 0 (by omega) rfl (Nat.lt_succ_self _) ls (lv_sub hl [2, 3, 4, 5, 6, 1, 0] rfl)
set_option maxHeartbeats 4000000 in
set_option maxRecDepth 100000 in
theorem c_X5_inForce (l : Launch) (D : va_G) (cT : Nat → ClassId) (a : Nat → Nat) (b : Nat → Nat → Nat) (T P : Nat → Nat → Int32) (n : Nat → Nat) (day : Int32) (hn : Cnt n) : Met l yX5_inForce wsX5_inForce ({ frames := 0, cells := 0, slots := 0, locals := 0 }) (va_Pc [.ref (a 1), .int day] (PB D cT (offW cT a b T P n))) (QR (va_rf ((ifN T day (n 0)).map (b 0)))) 0 0 (fun _ => False) := by
  refine RO_of (by decide) rfl (Nat.le_of_ble_eq_true rfl) ?_
  intro p e s m below meth c hx hb hr hts hown hlocks hml hE hP ls hl
  have hiX4 : ∀ w ∈ wsX40, w ∈ wsX5_inForce := by decide +kernel
  have hiX5 : ∀ w ∈ wsX50, w ∈ wsX5_inForce := by decide +kernel
  have hl : lv_has ls 5 [(0, .ref (a 1)), (1, .int day)] := hl
  obtain ⟨hn0, hn1, hn2, hn3, hn4⟩ := id hn
  refine lv_null hx hb dX5_inForce_0 ?_
  refine lv_astore_nN (lv' := [(2, .null), (0, .ref (a 1)), (1, .int day)]) hx hb dX5_inForce_1 rfl hl (by decide) rfl (fun ls hl => ?_)
  refine lv_iconst (v := 0) hx hb dX5_inForce_2 (by decide) ?_
  refine lv_istore_n (lv' := [(3, .int 0), (2, .null), (0, .ref (a 1)), (1, .int day)]) hx hb dX5_inForce_3 rfl hl (by decide) rfl (fun ls hl => ?_)
  have loop_4 : ∀ (fuel : Nat) (j : Nat) (o : Option Nat), j ≤ n 0 → o = ifN T day j → n 0 - j < fuel → ∀ (ls : Array Slot), lv_has ls 5 [(0, .ref (a 1)), (1, .int day), (2, va_rf (o.map (b 0))), (3, .int (nI j))] → W p l e ({ frames := 0, cells := 0, slots := 0, locals := 0 }) s m (List.toArray [.ref (a 1), .int day]) below meth c s.heap [] 0 0 (MQ below (QR (va_rf ((ifN T day (n 0)).map (b 0)))) (List.toArray [.ref (a 1), .int day]) s 0 0 (fun _ => False)) (F0 m 4 ls []) := by
    intro fuel
    induction fuel with
    | zero => intro j o hj ho hfuel; exact absurd hfuel (Nat.not_lt_zero _)
    | succ fuel ih =>
      intro j o hj ho hfuel ls hl
      rcases o with _ | q0
      · have ho0 := ho
        refine lv_iload_n hx hb dX5_inForce_4 rfl (lv_at hl 3 rfl) ?_
        refine lv_aload_n hx hb dX5_inForce_5 rfl (lv_at hl 0 rfl) ?_
        refine va_get (D := D) (ci := 5) (v := .int (nI (n 0))) (C := RX5) (T := TX5) (N := 2) hx hb hts hiX5 hown hE.1 hP 1 ofl_1 rfl 1 (by decide) (hts (.fieldLink RX5 17 "FindsOffice$LawBook" "told" "I") (by decide +kernel)) (fun _ h9 => h9) rfl dX5_inForce_6 ?_
        refine lv_icmp_ge (tgt := 65) hx hb dX5_inForce_9 (by decide) (fun c_1 => ?_) (fun c_1 => ?_)
        · have k_1 := nat_le (a := (n 0)) (b := j) c_1 (by omega) (by omega)
          refine lv_aload_nN hx hb dX5_inForce_65 rfl (lv_at hl 2 rfl) ?_
          exact ro_aret hx hb hr hlocks (by rw [show n 0 = j by omega, ← ho0]; rfl) (Or.inl rfl) dX5_inForce_66
        · have k_1 := nat_nle (a := (n 0)) (b := j) c_1 (by omega) (by omega)
          refine lv_iload_n hx hb dX5_inForce_12 rfl (lv_at hl 3 rfl) ?_
          refine lv_bipush (v := 20) hx hb dX5_inForce_13 (by decide) ?_
          refine lv_icmp_ge (tgt := 65) hx hb dX5_inForce_15 (by decide) (fun c_2 => ?_) (fun c_2 => ?_)
          · have k_2 := nat_le (a := 20) (b := j) c_2 (by omega) (by omega)
            exfalso; omega
          · have k_2 := nat_nle (a := 20) (b := j) c_2 (by omega) (by omega)
            refine lv_aload_n hx hb dX5_inForce_18 rfl (lv_at hl 0 rfl) ?_
            refine va_get (D := D) (ci := 5) (v := .ref (a 2)) (C := RX5) (T := TX5) (N := 2) hx hb hts hiX5 hown hE.1 hP 1 ofl_1 rfl 0 (by decide) (hts (.fieldLink RX5 13 "FindsOffice$LawBook" "laws" "[LFindsOffice$Law;") (by decide +kernel)) (fun _ h9 => h9) rfl dX5_inForce_19 ?_
            refine lv_iload_n hx hb dX5_inForce_22 rfl (lv_at hl 3 rfl) ?_
            refine my_aldq (k := j) (v := .ref (b 0 j)) hx hb hE.1 hP 2 2 ofl_2 rfl rfl (by omega) (by decide) (by exact pf_at (by omega)) dX5_inForce_23 ?_
            refine lv_astore (lv' := [(4, .ref (b 0 j)), (0, .ref (a 1)), (1, .int day), (2, .null), (3, .int (nI j))]) hx hb dX5_inForce_24 hl (by decide) rfl (fun ls hl => ?_)
            refine lv_aload hx hb dX5_inForce_26 (lv_at hl 0 rfl) ?_
            refine lv_ifnull hx hb dX5_inForce_28 ?_
            refine lv_aload hx hb dX5_inForce_31 (lv_at hl 0 rfl) ?_
            have hq_3 := off_law (k := j) hP (by omega)
            refine va_get (D := D) (ci := 4) (v := .int (T 16 j)) (C := RX4) (T := TX4) (N := 5) hx hb hts hiX4 hown hE.1 hq_3 0 rfl rfl 0 (by decide) (hts (.fieldLink RX5 25 "FindsOffice$Law" "from" "I") (by decide +kernel)) (fun _ h9 => h9) rfl dX5_inForce_33 ?_
            refine lv_iload_n hx hb dX5_inForce_36 rfl (lv_at hl 2 rfl) ?_
            refine lv_icmp_gt (tgt := 59) hx hb dX5_inForce_37 (by decide) (fun c_4 => ?_) (fun c_4 => ?_)
            · refine lv_iinc (v := nI (j + 1)) (lv' := [(3, .int (nI (j + 1))), (4, .ref (b 0 j)), (0, .ref (a 1)), (1, .int day), (2, .null)]) hx hb dX5_inForce_59 hl (k := 4) rfl (nI_1 _) (by decide) rfl (fun ls hl => ?_)
              refine lv_goto (tgt := 4) hx hb dX5_inForce_62 (by decide) ?_
              exact ih (j + 1) (none) (by omega) (by simp [ifN, ← ho0, c_1, c_2, c_4]) (by omega) ls (lv_sub hl [2, 3, 4, 0] rfl)
            · refine lv_aload_nN hx hb dX5_inForce_40 rfl (lv_at hl 3 rfl) ?_
              refine lv_ifnullN (tgt := 56) hx hb dX5_inForce_41 (by decide) ?_
              refine lv_aload hx hb dX5_inForce_56 (lv_at hl 0 rfl) ?_
              refine lv_astore_n (lv' := [(2, .ref (b 0 j)), (4, .ref (b 0 j)), (0, .ref (a 1)), (1, .int day), (3, .int (nI j))]) hx hb dX5_inForce_58 rfl hl (by decide) rfl (fun ls hl => ?_)
              refine lv_iinc (v := nI (j + 1)) (lv' := [(3, .int (nI (j + 1))), (2, .ref (b 0 j)), (4, .ref (b 0 j)), (0, .ref (a 1)), (1, .int day)]) hx hb dX5_inForce_59 hl (k := 4) rfl (nI_1 _) (by decide) rfl (fun ls hl => ?_)
              refine lv_goto (tgt := 4) hx hb dX5_inForce_62 (by decide) ?_
              exact ih (j + 1) (some j) (by omega) (by simp [ifN, ← ho0, c_1, c_2, c_4]) (by omega) ls (lv_sub hl [3, 4, 1, 0] rfl)
      · have hq0 := ifN_lt ho.symm
        have ho0 := ho
        refine lv_iload_n hx hb dX5_inForce_4 rfl (lv_at hl 3 rfl) ?_
        refine lv_aload_n hx hb dX5_inForce_5 rfl (lv_at hl 0 rfl) ?_
        refine va_get (D := D) (ci := 5) (v := .int (nI (n 0))) (C := RX5) (T := TX5) (N := 2) hx hb hts hiX5 hown hE.1 hP 1 ofl_1 rfl 1 (by decide) (hts (.fieldLink RX5 17 "FindsOffice$LawBook" "told" "I") (by decide +kernel)) (fun _ h9 => h9) rfl dX5_inForce_6 ?_
        refine lv_icmp_ge (tgt := 65) hx hb dX5_inForce_9 (by decide) (fun c_5 => ?_) (fun c_5 => ?_)
        · have k_5 := nat_le (a := (n 0)) (b := j) c_5 (by omega) (by omega)
          refine lv_aload_n hx hb dX5_inForce_65 rfl (lv_at hl 2 rfl) ?_
          exact ro_aret hx hb hr hlocks (by rw [show n 0 = j by omega, ← ho0]; rfl) (Or.inr ⟨_, rfl⟩) dX5_inForce_66
        · have k_5 := nat_nle (a := (n 0)) (b := j) c_5 (by omega) (by omega)
          refine lv_iload_n hx hb dX5_inForce_12 rfl (lv_at hl 3 rfl) ?_
          refine lv_bipush (v := 20) hx hb dX5_inForce_13 (by decide) ?_
          refine lv_icmp_ge (tgt := 65) hx hb dX5_inForce_15 (by decide) (fun c_6 => ?_) (fun c_6 => ?_)
          · have k_6 := nat_le (a := 20) (b := j) c_6 (by omega) (by omega)
            exfalso; omega
          · have k_6 := nat_nle (a := 20) (b := j) c_6 (by omega) (by omega)
            refine lv_aload_n hx hb dX5_inForce_18 rfl (lv_at hl 0 rfl) ?_
            refine va_get (D := D) (ci := 5) (v := .ref (a 2)) (C := RX5) (T := TX5) (N := 2) hx hb hts hiX5 hown hE.1 hP 1 ofl_1 rfl 0 (by decide) (hts (.fieldLink RX5 13 "FindsOffice$LawBook" "laws" "[LFindsOffice$Law;") (by decide +kernel)) (fun _ h9 => h9) rfl dX5_inForce_19 ?_
            refine lv_iload_n hx hb dX5_inForce_22 rfl (lv_at hl 3 rfl) ?_
            refine my_aldq (k := j) (v := .ref (b 0 j)) hx hb hE.1 hP 2 2 ofl_2 rfl rfl (by omega) (by decide) (by exact pf_at (by omega)) dX5_inForce_23 ?_
            refine lv_astore (lv' := [(4, .ref (b 0 j)), (0, .ref (a 1)), (1, .int day), (2, .ref (b 0 q0)), (3, .int (nI j))]) hx hb dX5_inForce_24 hl (by decide) rfl (fun ls hl => ?_)
            refine lv_aload hx hb dX5_inForce_26 (lv_at hl 0 rfl) ?_
            refine lv_ifnull hx hb dX5_inForce_28 ?_
            refine lv_aload hx hb dX5_inForce_31 (lv_at hl 0 rfl) ?_
            have hq_7 := off_law (k := j) hP (by omega)
            refine va_get (D := D) (ci := 4) (v := .int (T 16 j)) (C := RX4) (T := TX4) (N := 5) hx hb hts hiX4 hown hE.1 hq_7 0 rfl rfl 0 (by decide) (hts (.fieldLink RX5 25 "FindsOffice$Law" "from" "I") (by decide +kernel)) (fun _ h9 => h9) rfl dX5_inForce_33 ?_
            refine lv_iload_n hx hb dX5_inForce_36 rfl (lv_at hl 2 rfl) ?_
            refine lv_icmp_gt (tgt := 59) hx hb dX5_inForce_37 (by decide) (fun c_8 => ?_) (fun c_8 => ?_)
            · refine lv_iinc (v := nI (j + 1)) (lv' := [(3, .int (nI (j + 1))), (4, .ref (b 0 j)), (0, .ref (a 1)), (1, .int day), (2, .ref (b 0 q0))]) hx hb dX5_inForce_59 hl (k := 4) rfl (nI_1 _) (by decide) rfl (fun ls hl => ?_)
              refine lv_goto (tgt := 4) hx hb dX5_inForce_62 (by decide) ?_
              exact ih (j + 1) (some q0) (by omega) (by simp [ifN, ← ho0, c_5, c_6, c_8]) (by omega) ls (lv_sub hl [2, 3, 4, 0] rfl)
            · refine lv_aload_n hx hb dX5_inForce_40 rfl (lv_at hl 3 rfl) ?_
              refine lv_ifnull hx hb dX5_inForce_41 ?_
              refine lv_aload hx hb dX5_inForce_44 (lv_at hl 0 rfl) ?_
              refine va_get (D := D) (ci := 4) (v := .int (T 16 j)) (C := RX4) (T := TX4) (N := 5) hx hb hts hiX4 hown hE.1 hq_7 0 rfl rfl 0 (by decide) (hts (.fieldLink RX5 25 "FindsOffice$Law" "from" "I") (by decide +kernel)) (fun _ h9 => h9) rfl dX5_inForce_46 ?_
              refine lv_aload_n hx hb dX5_inForce_49 rfl (lv_at hl 3 rfl) ?_
              have hq_9 := off_law (k := q0) hP (by omega)
              refine va_get (D := D) (ci := 4) (v := .int (T 16 q0)) (C := RX4) (T := TX4) (N := 5) hx hb hts hiX4 hown hE.1 hq_9 0 rfl rfl 0 (by decide) (hts (.fieldLink RX5 25 "FindsOffice$Law" "from" "I") (by decide +kernel)) (fun _ h9 => h9) rfl dX5_inForce_50 ?_
              refine lv_icmp_lt (tgt := 59) hx hb dX5_inForce_53 (by decide) (fun c_10 => ?_) (fun c_10 => ?_)
              · refine lv_iinc (v := nI (j + 1)) (lv' := [(3, .int (nI (j + 1))), (4, .ref (b 0 j)), (0, .ref (a 1)), (1, .int day), (2, .ref (b 0 q0))]) hx hb dX5_inForce_59 hl (k := 4) rfl (nI_1 _) (by decide) rfl (fun ls hl => ?_)
                refine lv_goto (tgt := 4) hx hb dX5_inForce_62 (by decide) ?_
                exact ih (j + 1) (some q0) (by omega) (by simp [ifN, ← ho0, c_5, c_6, c_8, c_10]) (by omega) ls (lv_sub hl [2, 3, 4, 0] rfl)
              · refine lv_aload hx hb dX5_inForce_56 (lv_at hl 0 rfl) ?_
                refine lv_astore_n (lv' := [(2, .ref (b 0 j)), (4, .ref (b 0 j)), (0, .ref (a 1)), (1, .int day), (3, .int (nI j))]) hx hb dX5_inForce_58 rfl hl (by decide) rfl (fun ls hl => ?_)
                refine lv_iinc (v := nI (j + 1)) (lv' := [(3, .int (nI (j + 1))), (2, .ref (b 0 j)), (4, .ref (b 0 j)), (0, .ref (a 1)), (1, .int day)]) hx hb dX5_inForce_59 hl (k := 4) rfl (nI_1 _) (by decide) rfl (fun ls hl => ?_)
                refine lv_goto (tgt := 4) hx hb dX5_inForce_62 (by decide) ?_
                exact ih (j + 1) (some j) (by omega) (by simp [ifN, ← ho0, c_5, c_6, c_8, c_10]) (by omega) ls (lv_sub hl [3, 4, 1, 0] rfl)
  exact loop_4 _ 0 none (by omega) rfl (Nat.lt_succ_self _) ls (lv_sub hl [2, 3, 1, 0] rfl)
set_option maxHeartbeats 4000000 in
set_option maxRecDepth 100000 in
theorem c_X3_holderOn (l : Launch) (D : va_G) (cT : Nat → ClassId) (a : Nat → Nat) (b : Nat → Nat → Nat) (T P : Nat → Nat → Int32) (n : Nat → Nat) (plot day : Int32) (hn : Cnt n) (hpos : ∀ k, k < n 4 → ¬ T 23 k < 0) : Met l yX3_holderOn wsX3_holderOn ({ frames := 0, cells := 0, slots := 0, locals := 0 }) (va_Pc [.ref (a 3), .int plot, .int day] (PB D cT (offW cT a b T P n))) (QR (.int (owW (T 24) (owN T plot day (n 4))))) 0 0 (fun _ => False) := by
  refine RO_of (by decide) rfl (Nat.le_of_ble_eq_true rfl) ?_
  intro p e s m below meth c hx hb hr hts hown hlocks hml hE hP ls hl
  have hiX3 : ∀ w ∈ wsX30, w ∈ wsX3_holderOn := by decide +kernel
  have hl : lv_has ls 6 [(0, .ref (a 3)), (1, .int plot), (2, .int day)] := hl
  obtain ⟨hn0, hn1, hn2, hn3, hn4⟩ := id hn
  refine lv_iconst (v := 0) hx hb dX3_holderOn_0 (by decide) ?_
  refine lv_istore_n (lv' := [(3, .int 0), (0, .ref (a 3)), (1, .int plot), (2, .int day)]) hx hb dX3_holderOn_1 rfl hl (by decide) rfl (fun ls hl => ?_)
  refine lv_iconst (v := 0) hx hb dX3_holderOn_2 (by decide) ?_
  refine lv_istore (lv' := [(4, .int 0), (3, .int 0), (0, .ref (a 3)), (1, .int plot), (2, .int day)]) hx hb dX3_holderOn_3 hl (by decide) rfl (fun ls hl => ?_)
  refine lv_iconst (v := 0) hx hb dX3_holderOn_5 (by decide) ?_
  refine lv_istore (lv' := [(5, .int 0), (4, .int 0), (3, .int 0), (0, .ref (a 3)), (1, .int plot), (2, .int day)]) hx hb dX3_holderOn_6 hl (by decide) rfl (fun ls hl => ?_)
  have loop_8 : ∀ (fuel : Nat) (j : Nat) (v u : Int32), j ≤ n 4 → v = owW (T 24) (owN T plot day j) → u = owW (T 23) (owN T plot day j) → n 4 - j < fuel → ∀ (ls : Array Slot), lv_has ls 6 [(0, .ref (a 3)), (1, .int plot), (2, .int day), (3, .int v), (4, .int u), (5, .int (nI j))] → W p l e ({ frames := 0, cells := 0, slots := 0, locals := 0 }) s m (List.toArray [.ref (a 3), .int plot, .int day]) below meth c s.heap [] 0 0 (MQ below (QR (.int (owW (T 24) (owN T plot day (n 4))))) (List.toArray [.ref (a 3), .int plot, .int day]) s 0 0 (fun _ => False)) (F0 m 8 ls []) := by
    intro fuel
    induction fuel with
    | zero => intro j v u hj hv hu hfuel; exact absurd hfuel (Nat.not_lt_zero _)
    | succ fuel ih =>
      intro j v u hj hv hu hfuel ls hl
      refine lv_iload hx hb dX3_holderOn_8 (lv_at hl 5 rfl) ?_
      refine lv_aload_n hx hb dX3_holderOn_10 rfl (lv_at hl 0 rfl) ?_
      refine va_get (D := D) (ci := 3) (v := .int (nI (n 4))) (C := RX3) (T := TX3) (N := 4) hx hb hts hiX3 hown hE.1 hP 3 ofl_3 rfl 3 (by decide) (hts (.fieldLink RX3 21 "FindsOffice$LandBook" "told" "I") (by decide +kernel)) (fun _ h9 => h9) rfl dX3_holderOn_11 ?_
      refine lv_icmp_ge (tgt := 81) hx hb dX3_holderOn_14 (by decide) (fun c_1 => ?_) (fun c_1 => ?_)
      · have k_1 := nat_le (a := (n 4)) (b := j) c_1 (by omega) (by omega)
        refine lv_iload_n hx hb dX3_holderOn_81 rfl (lv_at hl 3 rfl) ?_
        exact ro_iret hx hb hr hlocks (by rw [hv]; congr 2; omega) dX3_holderOn_82
      · have k_1 := nat_nle (a := (n 4)) (b := j) c_1 (by omega) (by omega)
        refine lv_iload hx hb dX3_holderOn_17 (lv_at hl 5 rfl) ?_
        refine lv_bipush (v := 100) hx hb dX3_holderOn_19 (by decide) ?_
        refine lv_icmp_ge (tgt := 81) hx hb dX3_holderOn_21 (by decide) (fun c_2 => ?_) (fun c_2 => ?_)
        · have k_2 := nat_le (a := 100) (b := j) c_2 (by omega) (by omega)
          exfalso; omega
        · have k_2 := nat_nle (a := 100) (b := j) c_2 (by omega) (by omega)
          refine lv_aload_n hx hb dX3_holderOn_24 rfl (lv_at hl 0 rfl) ?_
          refine va_get (D := D) (ci := 3) (v := .ref (a 4)) (C := RX3) (T := TX3) (N := 4) hx hb hts hiX3 hown hE.1 hP 3 ofl_3 rfl 0 (by decide) (hts (.fieldLink RX3 11 "FindsOffice$LandBook" "plots" "[I") (by decide +kernel)) (fun _ h9 => h9) rfl dX3_holderOn_25 ?_
          refine lv_iload hx hb dX3_holderOn_28 (lv_at hl 5 rfl) ?_
          refine my_iald (k := j) hx hb hE.1 hP 4 0 ofl_4 rfl rfl (by omega) (by decide) dX3_holderOn_30 ?_
          refine lv_iload_n hx hb dX3_holderOn_31 rfl (lv_at hl 1 rfl) ?_
          refine lv_icmp_ne (tgt := 75) hx hb dX3_holderOn_32 (by decide) (fun c_3 => ?_) (fun c_3 => ?_)
          · refine lv_iinc (v := nI (j + 1)) (lv' := [(5, .int (nI (j + 1))), (0, .ref (a 3)), (1, .int plot), (2, .int day), (3, .int v), (4, .int u)]) hx hb dX3_holderOn_75 hl (k := 5) rfl (nI_1 _) (by decide) rfl (fun ls hl => ?_)
            refine lv_goto (tgt := 8) hx hb dX3_holderOn_78 (by decide) ?_
            exact ih (j + 1) _ _ (by omega) (by subst hv; subst hu; rw [owN_succ (hpos j (by omega)), if_neg (by simp [c_1, c_2, c_3])]) (by subst hv; subst hu; rw [owN_succ (hpos j (by omega)), if_neg (by simp [c_1, c_2, c_3])]) (by omega) ls (lv_sub hl [1, 2, 3, 4, 5, 0] rfl)
          · refine lv_aload_n hx hb dX3_holderOn_35 rfl (lv_at hl 0 rfl) ?_
            refine va_get (D := D) (ci := 3) (v := .ref (a 5)) (C := RX3) (T := TX3) (N := 4) hx hb hts hiX3 hown hE.1 hP 3 ofl_3 rfl 1 (by decide) (hts (.fieldLink RX3 15 "FindsOffice$LandBook" "days" "[I") (by decide +kernel)) (fun _ h9 => h9) rfl dX3_holderOn_36 ?_
            refine lv_iload hx hb dX3_holderOn_39 (lv_at hl 5 rfl) ?_
            refine my_iald (k := j) hx hb hE.1 hP 5 0 ofl_5 rfl rfl (by omega) (by decide) dX3_holderOn_41 ?_
            refine lv_iload_n hx hb dX3_holderOn_42 rfl (lv_at hl 2 rfl) ?_
            refine lv_icmp_gt (tgt := 75) hx hb dX3_holderOn_43 (by decide) (fun c_4 => ?_) (fun c_4 => ?_)
            · refine lv_iinc (v := nI (j + 1)) (lv' := [(5, .int (nI (j + 1))), (0, .ref (a 3)), (1, .int plot), (2, .int day), (3, .int v), (4, .int u)]) hx hb dX3_holderOn_75 hl (k := 5) rfl (nI_1 _) (by decide) rfl (fun ls hl => ?_)
              refine lv_goto (tgt := 8) hx hb dX3_holderOn_78 (by decide) ?_
              exact ih (j + 1) _ _ (by omega) (by subst hv; subst hu; rw [owN_succ (hpos j (by omega)), if_neg (by simp [c_1, c_2, c_3, c_4])]) (by subst hv; subst hu; rw [owN_succ (hpos j (by omega)), if_neg (by simp [c_1, c_2, c_3, c_4])]) (by omega) ls (lv_sub hl [1, 2, 3, 4, 5, 0] rfl)
            · refine lv_aload_n hx hb dX3_holderOn_46 rfl (lv_at hl 0 rfl) ?_
              refine va_get (D := D) (ci := 3) (v := .ref (a 5)) (C := RX3) (T := TX3) (N := 4) hx hb hts hiX3 hown hE.1 hP 3 ofl_3 rfl 1 (by decide) (hts (.fieldLink RX3 15 "FindsOffice$LandBook" "days" "[I") (by decide +kernel)) (fun _ h9 => h9) rfl dX3_holderOn_47 ?_
              refine lv_iload hx hb dX3_holderOn_50 (lv_at hl 5 rfl) ?_
              refine my_iald (k := j) hx hb hE.1 hP 5 0 ofl_5 rfl rfl (by omega) (by decide) dX3_holderOn_52 ?_
              refine lv_iload hx hb dX3_holderOn_53 (lv_at hl 4 rfl) ?_
              refine lv_icmp_lt (tgt := 75) hx hb dX3_holderOn_55 (by decide) (fun c_5 => ?_) (fun c_5 => ?_)
              · refine lv_iinc (v := nI (j + 1)) (lv' := [(5, .int (nI (j + 1))), (0, .ref (a 3)), (1, .int plot), (2, .int day), (3, .int v), (4, .int u)]) hx hb dX3_holderOn_75 hl (k := 5) rfl (nI_1 _) (by decide) rfl (fun ls hl => ?_)
                refine lv_goto (tgt := 8) hx hb dX3_holderOn_78 (by decide) ?_
                exact ih (j + 1) _ _ (by omega) (by subst hv; subst hu; rw [owN_succ (hpos j (by omega)), if_neg (by simp [c_1, c_2, c_3, c_4, c_5])]) (by subst hv; subst hu; rw [owN_succ (hpos j (by omega)), if_neg (by simp [c_1, c_2, c_3, c_4, c_5])]) (by omega) ls (lv_sub hl [1, 2, 3, 4, 5, 0] rfl)
              · refine lv_aload_n hx hb dX3_holderOn_58 rfl (lv_at hl 0 rfl) ?_
                refine va_get (D := D) (ci := 3) (v := .ref (a 6)) (C := RX3) (T := TX3) (N := 4) hx hb hts hiX3 hown hE.1 hP 3 ofl_3 rfl 2 (by decide) (hts (.fieldLink RX3 18 "FindsOffice$LandBook" "holders" "[I") (by decide +kernel)) (fun _ h9 => h9) rfl dX3_holderOn_59 ?_
                refine lv_iload hx hb dX3_holderOn_62 (lv_at hl 5 rfl) ?_
                refine my_iald (k := j) hx hb hE.1 hP 6 0 ofl_6 rfl rfl (by omega) (by decide) dX3_holderOn_64 ?_
                refine lv_istore_n (lv' := [(3, .int (T 24 j)), (0, .ref (a 3)), (1, .int plot), (2, .int day), (4, .int u), (5, .int (nI j))]) hx hb dX3_holderOn_65 rfl hl (by decide) rfl (fun ls hl => ?_)
                refine lv_aload_n hx hb dX3_holderOn_66 rfl (lv_at hl 1 rfl) ?_
                refine va_get (D := D) (ci := 3) (v := .ref (a 5)) (C := RX3) (T := TX3) (N := 4) hx hb hts hiX3 hown hE.1 hP 3 ofl_3 rfl 1 (by decide) (hts (.fieldLink RX3 15 "FindsOffice$LandBook" "days" "[I") (by decide +kernel)) (fun _ h9 => h9) rfl dX3_holderOn_67 ?_
                refine lv_iload hx hb dX3_holderOn_70 (lv_at hl 5 rfl) ?_
                refine my_iald (k := j) hx hb hE.1 hP 5 0 ofl_5 rfl rfl (by omega) (by decide) dX3_holderOn_72 ?_
                refine lv_istore (lv' := [(4, .int (T 23 j)), (3, .int (T 24 j)), (0, .ref (a 3)), (1, .int plot), (2, .int day), (5, .int (nI j))]) hx hb dX3_holderOn_73 hl (by decide) rfl (fun ls hl => ?_)
                refine lv_iinc (v := nI (j + 1)) (lv' := [(5, .int (nI (j + 1))), (4, .int (T 23 j)), (3, .int (T 24 j)), (0, .ref (a 3)), (1, .int plot), (2, .int day)]) hx hb dX3_holderOn_75 hl (k := 5) rfl (nI_1 _) (by decide) rfl (fun ls hl => ?_)
                refine lv_goto (tgt := 8) hx hb dX3_holderOn_78 (by decide) ?_
                exact ih (j + 1) _ _ (by omega) (by subst hv; subst hu; rw [owN_succ (hpos j (by omega)), if_pos ⟨c_3, c_4, c_5⟩]; rfl) (by subst hv; subst hu; rw [owN_succ (hpos j (by omega)), if_pos ⟨c_3, c_4, c_5⟩]; rfl) (by omega) ls (lv_sub hl [3, 4, 5, 2, 1, 0] rfl)
  exact loop_8 _ 0 0 0 (by omega) rfl rfl (Nat.lt_succ_self _) ls (lv_sub hl [3, 4, 5, 2, 1, 0] rfl)
set_option maxHeartbeats 4000000 in
set_option maxRecDepth 100000 in
theorem c_X0_numbered (l : Launch) (D : va_G) (cT : Nat → ClassId) (a : Nat → Nat) (b : Nat → Nat → Nat) (T P : Nat → Nat → Int32) (n : Nat → Nat) (i : Int32) (hn : Cnt n) : Met l yX0_numbered wsX0_numbered ({ frames := 0, cells := 0, slots := 0, locals := 0 }) (va_Pc [.ref (a 16), .int i] (PB D cT (offW cT a b T P n))) (QR (nuV (b 3) (n 3) i)) 0 0 (fun _ => False) := by
  refine RO_of (by decide) rfl (Nat.le_of_ble_eq_true rfl) ?_
  intro p e s m below meth c hx hb hr hts hown hlocks hml hE hP ls hl
  have hiX0 : ∀ w ∈ wsX00, w ∈ wsX0_numbered := by decide +kernel
  have hl : lv_has ls 2 [(0, .ref (a 16)), (1, .int i)] := hl
  obtain ⟨hn0, hn1, hn2, hn3, hn4⟩ := id hn
  refine lv_iload_n hx hb dX0_numbered_0 rfl (lv_at hl 1 rfl) ?_
  refine lv_if_lt (tgt := 27) hx hb dX0_numbered_1 (by decide) (fun c_1 => ?_) (fun c_1 => ?_)
  · refine lv_null hx hb dX0_numbered_27 ?_
    exact ro_aret hx hb hr hlocks (by simp [nuV, isT, c_1]) (Or.inl rfl) dX0_numbered_28
  · refine lv_iload_n hx hb dX0_numbered_4 rfl (lv_at hl 1 rfl) ?_
    refine lv_aload_n hx hb dX0_numbered_5 rfl (lv_at hl 0 rfl) ?_
    refine va_get (D := D) (ci := 0) (v := .int (nI (n 3))) (C := RX0) (T := TX0) (N := 3) hx hb hts hiX0 hown hE.1 hP 16 ofl_16 rfl 1 (by decide) (hts (.fieldLink RX0 17 "FindsOffice$Circle" "told" "I") (by decide +kernel)) (fun _ h9 => h9) rfl dX0_numbered_6 ?_
    refine lv_icmp_ge (tgt := 27) hx hb dX0_numbered_9 (by decide) (fun c_2 => ?_) (fun c_2 => ?_)
    · refine lv_null hx hb dX0_numbered_27 ?_
      exact ro_aret hx hb hr hlocks (by simp [nuV, isT, c_2]) (Or.inl rfl) dX0_numbered_28
    · refine lv_iload_n hx hb dX0_numbered_12 rfl (lv_at hl 1 rfl) ?_
      refine lv_bipush (v := 10) hx hb dX0_numbered_13 (by decide) ?_
      refine lv_icmp_ge (tgt := 27) hx hb dX0_numbered_15 (by decide) (fun c_3 => ?_) (fun c_3 => ?_)
      · exact absurd c_3 (nle_of c_2 hn3 (by decide))
      · obtain ⟨k, hk, rfl⟩ := isT_k (m := n 3) (i := i) (by simp [isT, c_1, c_2]) (by omega)
        refine lv_aload_n hx hb dX0_numbered_18 rfl (lv_at hl 0 rfl) ?_
        refine va_get (D := D) (ci := 0) (v := .ref (a 17)) (C := RX0) (T := TX0) (N := 3) hx hb hts hiX0 hown hE.1 hP 16 ofl_16 rfl 0 (by decide) (hts (.fieldLink RX0 13 "FindsOffice$Circle" "museums" "[LFindsOffice$Museum;") (by decide +kernel)) (fun _ h9 => h9) rfl dX0_numbered_19 ?_
        refine lv_iload_n hx hb dX0_numbered_22 rfl (lv_at hl 1 rfl) ?_
        refine my_aldq (k := k) (v := .ref (b 3 k)) hx hb hE.1 hP 17 5 ofl_17 rfl rfl (by omega) (by decide) (by exact pf_at (by omega)) dX0_numbered_23 ?_
        refine lv_goto (tgt := 28) hx hb dX0_numbered_24 (by decide) ?_
        exact ro_aret hx hb hr hlocks (nuV_at hk (by omega)).symm (Or.inr ⟨_, rfl⟩) dX0_numbered_28
set_option maxHeartbeats 4000000 in
set_option maxRecDepth 100000 in
theorem c_X0_next (l : Launch) (D : va_G) (cT : Nat → ClassId) (a : Nat → Nat) (b : Nat → Nat → Nat) (T P : Nat → Nat → Int32) (n : Nat → Nat) (hn : Cnt n) : Met l yX0_next wsX0_next ({ frames := 0, cells := 0, slots := 0, locals := 0 }) (va_Pc [.ref (a 16)] (PB D cT (offW cT a b T P n))) (QR (.int (nxV (n 3) (T 36 0)))) 0 0 (fun _ => False) := by
  refine RO_of (by decide) rfl (Nat.le_of_ble_eq_true rfl) ?_
  intro p e s m below meth c hx hb hr hts hown hlocks hml hE hP ls hl
  have hiX0 : ∀ w ∈ wsX00, w ∈ wsX0_next := by decide +kernel
  have hl : lv_has ls 1 [(0, .ref (a 16))] := hl
  obtain ⟨hn0, hn1, hn2, hn3, hn4⟩ := id hn
  refine lv_aload_n hx hb dX0_next_0 rfl (lv_at hl 0 rfl) ?_
  refine va_get (D := D) (ci := 0) (v := .int (nI (n 3))) (C := RX0) (T := TX0) (N := 3) hx hb hts hiX0 hown hE.1 hP 16 ofl_16 rfl 1 (by decide) (hts (.fieldLink RX0 17 "FindsOffice$Circle" "told" "I") (by decide +kernel)) (fun _ h9 => h9) rfl dX0_next_1 ?_
  refine lv_if_ne (tgt := 9) hx hb dX0_next_4 (by decide) (fun c_1 => ?_) (fun c_1 => ?_)
  · refine lv_aload_n hx hb dX0_next_9 rfl (lv_at hl 0 rfl) ?_
    refine va_get (D := D) (ci := 0) (v := .int (T 36 0 + 1)) (C := RX0) (T := TX0) (N := 3) hx hb hts hiX0 hown hE.1 hP 16 ofl_16 rfl 2 (by decide) (hts (.fieldLink RX0 21 "FindsOffice$Circle" "behindLatest" "I") (by decide +kernel)) (fun _ h9 => h9) rfl dX0_next_10 ?_
    refine lv_aload_n hx hb dX0_next_13 rfl (lv_at hl 0 rfl) ?_
    refine va_get (D := D) (ci := 0) (v := .int (nI (n 3))) (C := RX0) (T := TX0) (N := 3) hx hb hts hiX0 hown hE.1 hP 16 ofl_16 rfl 1 (by decide) (hts (.fieldLink RX0 17 "FindsOffice$Circle" "told" "I") (by decide +kernel)) (fun _ h9 => h9) rfl dX0_next_14 ?_
    refine lv_icmp_ge (tgt := 27) hx hb dX0_next_17 (by decide) (fun c_2 => ?_) (fun c_2 => ?_)
    · refine lv_iconst (v := 0) hx hb dX0_next_27 (by decide) ?_
      exact ro_iret hx hb hr hlocks (by first | rfl | (simp [b2, btw, nxV, c_1, c_2]; done)) dX0_next_28
    · refine lv_aload_n hx hb dX0_next_20 rfl (lv_at hl 0 rfl) ?_
      refine va_get (D := D) (ci := 0) (v := .int (T 36 0 + 1)) (C := RX0) (T := TX0) (N := 3) hx hb hts hiX0 hown hE.1 hP 16 ofl_16 rfl 2 (by decide) (hts (.fieldLink RX0 21 "FindsOffice$Circle" "behindLatest" "I") (by decide +kernel)) (fun _ h9 => h9) rfl dX0_next_21 ?_
      refine lv_goto (tgt := 28) hx hb dX0_next_24 (by decide) ?_
      exact ro_iret hx hb hr hlocks (by first | rfl | (simp [b2, btw, nxV, c_1, c_2]; done)) dX0_next_28
  · refine lv_iconst (v := (-1)) hx hb dX0_next_7 (by decide) ?_
    exact ro_iret hx hb hr hlocks (by first | rfl | (simp [b2, btw, nxV, c_1]; done)) dX0_next_8
set_option maxHeartbeats 4000000 in
set_option maxRecDepth 100000 in
theorem c_X6_levelIn (l : Launch) (D : va_G) (cT : Nat → ClassId) (a : Nat → Nat) (b : Nat → Nat → Nat) (T P : Nat → Nat → Int32) (n : Nat → Nat) (i : Int32) (hn : Cnt n) : Met l yX6_levelIn wsX6_levelIn ({ frames := 0, cells := 0, slots := 0, locals := 0 }) (va_Pc [.ref (a 13), .int i] (PB D cT (offW cT a b T P n))) (QR (.int (lvV (T 25) i))) 0 0 (fun _ => False) := by
  refine RO_of (by decide) rfl (Nat.le_of_ble_eq_true rfl) ?_
  intro p e s m below meth c hx hb hr hts hown hlocks hml hE hP ls hl
  have hiX6 : ∀ w ∈ wsX60, w ∈ wsX6_levelIn := by decide +kernel
  have hl : lv_has ls 3 [(0, .ref (a 13)), (1, .int i)] := hl
  obtain ⟨hn0, hn1, hn2, hn3, hn4⟩ := id hn
  refine lv_iload_n hx hb dX6_levelIn_0 rfl (lv_at hl 1 rfl) ?_
  refine lv_sipush (v := 1950) hx hb dX6_levelIn_1 (by decide) ?_
  refine lv_isub hx hb dX6_levelIn_4 ?_
  refine lv_istore_n (lv' := [(2, .int (i - 1950)), (0, .ref (a 13)), (1, .int i)]) hx hb dX6_levelIn_5 rfl hl (by decide) rfl (fun ls hl => ?_)
  refine lv_iload_n hx hb dX6_levelIn_6 rfl (lv_at hl 0 rfl) ?_
  refine lv_if_lt (tgt := 28) hx hb dX6_levelIn_7 (by decide) (fun c_1 => ?_) (fun c_1 => ?_)
  · refine lv_bipush (v := 100) hx hb dX6_levelIn_28 (by decide) ?_
    exact ro_iret hx hb hr hlocks (by simp [lvV, c_1]) dX6_levelIn_30
  · refine lv_iload_n hx hb dX6_levelIn_10 rfl (lv_at hl 0 rfl) ?_
    refine lv_aload_n hx hb dX6_levelIn_11 rfl (lv_at hl 1 rfl) ?_
    refine va_get (D := D) (ci := 6) (v := .ref (a 15)) (C := RX6) (T := TX6) (N := 3) hx hb hts hiX6 hown hE.1 hP 13 ofl_13 rfl 2 (by decide) (hts (.fieldLink RX6 21 "FindsOffice$Market" "levels" "[I") (by decide +kernel)) (fun _ h9 => h9) rfl dX6_levelIn_12 ?_
    refine va_alen (v := 55) hx hb hE.1 hP 15 0 ofl_15 rfl rfl dX6_levelIn_15 ?_
    refine lv_icmp_ge (tgt := 28) hx hb dX6_levelIn_16 (by decide) (fun c_2 => ?_) (fun c_2 => ?_)
    · refine lv_bipush (v := 100) hx hb dX6_levelIn_28 (by decide) ?_
      exact ro_iret hx hb hr hlocks (by simp [lvV, c_1, c_2]) dX6_levelIn_30
    · obtain ⟨k, hk, he⟩ := isT_k (m := 55) (i := i - 1950) (by simp only [isT, Bool.and_eq_true, Bool.not_eq_true', decide_eq_false_iff_not]; exact ⟨c_1, c_2⟩) (by decide)
      refine lv_aload_n hx hb dX6_levelIn_19 rfl (lv_at hl 1 rfl) ?_
      refine va_get (D := D) (ci := 6) (v := .ref (a 15)) (C := RX6) (T := TX6) (N := 3) hx hb hts hiX6 hown hE.1 hP 13 ofl_13 rfl 2 (by decide) (hts (.fieldLink RX6 21 "FindsOffice$Market" "levels" "[I") (by decide +kernel)) (fun _ h9 => h9) rfl dX6_levelIn_20 ?_
      refine lv_iload_n hx hb dX6_levelIn_23 rfl (lv_at hl 0 rfl) ?_
      refine my_iald (k := k) hx hb hE.1 hP 15 0 ofl_15 rfl he hk (by decide) dX6_levelIn_24 ?_
      refine lv_goto (tgt := 30) hx hb dX6_levelIn_25 (by decide) ?_
      exact ro_iret hx hb hr hlocks (by simp only [lvV, c_1, c_2, decide_false, Bool.not_false, Bool.and_self, if_true]; rw [he, nI_clamp (by omega)]) dX6_levelIn_30
set_option maxHeartbeats 4000000 in
set_option maxRecDepth 100000 in
theorem c_X6_salesOf (l : Launch) (D : va_G) (cT : Nat → ClassId) (a : Nat → Nat) (b : Nat → Nat → Nat) (T P : Nat → Nat → Int32) (n : Nat → Nat) (me : Int32) (hn : Cnt n) : Met l yX6_salesOf wsX6_salesOf ({ frames := 0, cells := 0, slots := 0, locals := 0 }) (va_Pc [.ref (a 13), .int me] (PB D cT (offW cT a b T P n))) (QR (.int (nI (saN T me (n 2))))) 0 0 (fun _ => False) := by
  refine RO_of (by decide) rfl (Nat.le_of_ble_eq_true rfl) ?_
  intro p e s m below meth c hx hb hr hts hown hlocks hml hE hP ls hl
  have hiX6 : ∀ w ∈ wsX60, w ∈ wsX6_salesOf := by decide +kernel
  have hiX8 : ∀ w ∈ wsX80, w ∈ wsX6_salesOf := by decide +kernel
  have hl : lv_has ls 5 [(0, .ref (a 13)), (1, .int me)] := hl
  obtain ⟨hn0, hn1, hn2, hn3, hn4⟩ := id hn
  refine lv_iconst (v := 0) hx hb dX6_salesOf_0 (by decide) ?_
  refine lv_istore_n (lv' := [(2, .int 0), (0, .ref (a 13)), (1, .int me)]) hx hb dX6_salesOf_1 rfl hl (by decide) rfl (fun ls hl => ?_)
  refine lv_iconst (v := 0) hx hb dX6_salesOf_2 (by decide) ?_
  refine lv_istore_n (lv' := [(3, .int 0), (2, .int 0), (0, .ref (a 13)), (1, .int me)]) hx hb dX6_salesOf_3 rfl hl (by decide) rfl (fun ls hl => ?_)
  have loop_4 : ∀ (fuel : Nat) (j : Nat) (v : Int32), j ≤ n 2 → v = nI (saN T me j) → n 2 - j < fuel → ∀ (ls : Array Slot), lv_has ls 5 [(0, .ref (a 13)), (1, .int me), (2, .int v), (3, .int (nI j))] → W p l e ({ frames := 0, cells := 0, slots := 0, locals := 0 }) s m (List.toArray [.ref (a 13), .int me]) below meth c s.heap [] 0 0 (MQ below (QR (.int (nI (saN T me (n 2))))) (List.toArray [.ref (a 13), .int me]) s 0 0 (fun _ => False)) (F0 m 4 ls []) := by
    intro fuel
    induction fuel with
    | zero => intro j v hj hv hfuel; exact absurd hfuel (Nat.not_lt_zero _)
    | succ fuel ih =>
      intro j v hj hv hfuel ls hl
      refine lv_iload_n hx hb dX6_salesOf_4 rfl (lv_at hl 3 rfl) ?_
      refine lv_aload_n hx hb dX6_salesOf_5 rfl (lv_at hl 0 rfl) ?_
      refine va_get (D := D) (ci := 6) (v := .int (nI (n 2))) (C := RX6) (T := TX6) (N := 3) hx hb hts hiX6 hown hE.1 hP 13 ofl_13 rfl 1 (by decide) (hts (.fieldLink RX6 17 "FindsOffice$Market" "told" "I") (by decide +kernel)) (fun _ h9 => h9) rfl dX6_salesOf_6 ?_
      refine lv_icmp_ge (tgt := 49) hx hb dX6_salesOf_9 (by decide) (fun c_1 => ?_) (fun c_1 => ?_)
      · have k_1 := nat_le (a := (n 2)) (b := j) c_1 (by omega) (by omega)
        refine lv_iload_n hx hb dX6_salesOf_49 rfl (lv_at hl 2 rfl) ?_
        exact ro_iret hx hb hr hlocks (by rw [hv]; congr 2; omega) dX6_salesOf_50
      · have k_1 := nat_nle (a := (n 2)) (b := j) c_1 (by omega) (by omega)
        refine lv_iload_n hx hb dX6_salesOf_12 rfl (lv_at hl 3 rfl) ?_
        refine lv_bipush (v := 60) hx hb dX6_salesOf_13 (by decide) ?_
        refine lv_icmp_ge (tgt := 49) hx hb dX6_salesOf_15 (by decide) (fun c_2 => ?_) (fun c_2 => ?_)
        · have k_2 := nat_le (a := 60) (b := j) c_2 (by omega) (by omega)
          exfalso; omega
        · have k_2 := nat_nle (a := 60) (b := j) c_2 (by omega) (by omega)
          refine lv_aload_n hx hb dX6_salesOf_18 rfl (lv_at hl 0 rfl) ?_
          refine va_get (D := D) (ci := 6) (v := .ref (a 14)) (C := RX6) (T := TX6) (N := 3) hx hb hts hiX6 hown hE.1 hP 13 ofl_13 rfl 0 (by decide) (hts (.fieldLink RX6 13 "FindsOffice$Market" "sales" "[LFindsOffice$Sale;") (by decide +kernel)) (fun _ h9 => h9) rfl dX6_salesOf_19 ?_
          refine lv_iload_n hx hb dX6_salesOf_22 rfl (lv_at hl 3 rfl) ?_
          refine my_aldq (k := j) (v := .ref (b 2 j)) hx hb hE.1 hP 14 4 ofl_14 rfl rfl (by omega) (by decide) (by exact pf_at (by omega)) dX6_salesOf_23 ?_
          refine lv_astore (lv' := [(4, .ref (b 2 j)), (0, .ref (a 13)), (1, .int me), (2, .int v), (3, .int (nI j))]) hx hb dX6_salesOf_24 hl (by decide) rfl (fun ls hl => ?_)
          refine lv_aload hx hb dX6_salesOf_26 (lv_at hl 0 rfl) ?_
          refine lv_ifnull hx hb dX6_salesOf_28 ?_
          refine lv_aload hx hb dX6_salesOf_31 (lv_at hl 0 rfl) ?_
          have hq_3 := off_sale (k := j) hP (by omega)
          refine va_get (D := D) (ci := 8) (v := .int (T 27 j)) (C := RX8) (T := TX8) (N := 4) hx hb hts hiX8 hown hE.1 hq_3 0 rfl rfl 0 (by decide) (hts (.fieldLink RX6 39 "FindsOffice$Sale" "metal" "I") (by decide +kernel)) (fun _ h9 => h9) rfl dX6_salesOf_33 ?_
          refine lv_iload_n hx hb dX6_salesOf_36 rfl (lv_at hl 2 rfl) ?_
          refine lv_icmp_ne (tgt := 43) hx hb dX6_salesOf_37 (by decide) (fun c_4 => ?_) (fun c_4 => ?_)
          · refine lv_iinc (v := nI (j + 1)) (lv' := [(3, .int (nI (j + 1))), (4, .ref (b 2 j)), (0, .ref (a 13)), (1, .int me), (2, .int v)]) hx hb dX6_salesOf_43 hl (k := 4) rfl (nI_1 _) (by decide) rfl (fun ls hl => ?_)
            refine lv_goto (tgt := 4) hx hb dX6_salesOf_46 (by decide) ?_
            exact ih (j + 1) _ (by omega) (by subst hv; simp [saN, nI_1, c_1, c_2, c_4]) (by omega) ls (lv_sub hl [2, 3, 4, 0] rfl)
          · refine lv_iinc (v := v + 1) (lv' := [(2, .int (v + 1)), (4, .ref (b 2 j)), (0, .ref (a 13)), (1, .int me), (3, .int (nI j))]) hx hb dX6_salesOf_40 hl (k := 3) rfl (rfl) (by decide) rfl (fun ls hl => ?_)
            refine lv_iinc (v := nI (j + 1)) (lv' := [(3, .int (nI (j + 1))), (2, .int (v + 1)), (4, .ref (b 2 j)), (0, .ref (a 13)), (1, .int me)]) hx hb dX6_salesOf_43 hl (k := 4) rfl (nI_1 _) (by decide) rfl (fun ls hl => ?_)
            refine lv_goto (tgt := 4) hx hb dX6_salesOf_46 (by decide) ?_
            exact ih (j + 1) _ (by omega) (by subst hv; simp [saN, nI_1, c_1, c_2, c_4]) (by omega) ls (lv_sub hl [3, 4, 1, 0] rfl)
  exact loop_4 _ 0 0 (by omega) rfl (Nat.lt_succ_self _) ls (lv_sub hl [2, 3, 1, 0] rfl)
set_option maxHeartbeats 4000000 in
set_option maxRecDepth 100000 in
theorem c_X6_priceIn (l : Launch) (D : va_G) (cT : Nat → ClassId) (a : Nat → Nat) (b : Nat → Nat → Nat) (T P : Nat → Nat → Int32) (n : Nat → Nat) (year : Int32) (j : Nat) (hn : Cnt n) (hj : j < n 2) : Met l yX6_priceIn wsX6_priceIn ({ frames := 1, cells := 0, slots := 0, locals := 22 }) (va_Pc [.ref (a 13), .int year, .ref (b 2 j)] (PB D cT (offW cT a b T P n))) (QR (.long (prL T year j))) 0 0 (fun _ => False) := by
  refine RO_of (by decide) rfl (Nat.le_of_ble_eq_true rfl) ?_
  intro p e s m below meth c hx hb hr hts hown hlocks hml hE hP ls hl
  have hiX8 : ∀ w ∈ wsX80, w ∈ wsX6_priceIn := by decide +kernel
  have hl : lv_has ls 4 [(0, .ref (a 13)), (1, .int year), (2, .ref (b 2 j))] := hl
  obtain ⟨hn0, hn1, hn2, hn3, hn4⟩ := id hn
  refine lv_aload_n hx hb dX6_priceIn_0 rfl (lv_at hl 0 rfl) ?_
  refine lv_aload_n hx hb dX6_priceIn_1 rfl (lv_at hl 2 rfl) ?_
  have hq_1 := off_sale (k := j) hP (by omega)
  refine va_get (D := D) (ci := 8) (v := .int (T 28 j)) (C := RX8) (T := TX8) (N := 4) hx hb hts hiX8 hown hE.1 hq_1 0 rfl rfl 1 (by decide) (hts (.fieldLink RX6 61 "FindsOffice$Sale" "day" "I") (by decide +kernel)) (fun _ h9 => h9) rfl dX6_priceIn_2 ?_
  refine ro_SN (As := [.int (T 28 j)]) (rest := [.ref (a 13)]) ⟨hx, hb, hml, hown, hts⟩ (c_X9_yearOf l D cT (T 28 j) ) ⟨va_cnB (own := RX6) (host := RX9) 1 hts gX6_priceIn_X9_yearOf_n64 rfl rfl rfl (hE.2 (RX6, 64, yX9_yearOf, RX9) (by decide +kernel)) (hts (.initialized RX9) (by decide +kernel)) (by decide +kernel) ⟨Nat.le_of_ble_eq_true rfl, Nat.le_of_ble_eq_true rfl⟩, hts (.static yX9_yearOf) (by decide +kernel), trivial⟩ hE va_P_nil  rfl hl.1 rfl (Nat.le_of_ble_eq_true rfl) dX6_priceIn_5 ⟨Nat.zero_le _, Nat.zero_le _⟩ ?_
  refine ro_V (As := [.int (1950 + (T 28 j) / 365)]) (rest := []) ⟨hx, hb, hml, hown, hts⟩ (c_X6_levelIn l D cT a b T P n (1950 + (T 28 j) / 365) hn) (cwV 1 hts gX6_priceIn_X6_levelIn rfl rfl rfl (by decide +kernel) ⟨Nat.le_of_ble_eq_true rfl, Nat.le_of_ble_eq_true rfl⟩) hE hP 13 6 ofl_13 rfl rfl rfl hl.1 rfl (Nat.le_of_ble_eq_true rfl) dX6_priceIn_8 ⟨Nat.zero_le _, Nat.zero_le _⟩ ?_
  refine lv_istore_n (lv' := [(3, .int (lvV (T 25) (1950 + (T 28 j) / 365))), (0, .ref (a 13)), (1, .int year), (2, .ref (b 2 j))]) hx hb dX6_priceIn_11 rfl hl (by decide) rfl (fun ls hl => ?_)
  refine lv_iload_n hx hb dX6_priceIn_12 rfl (lv_at hl 0 rfl) ?_
  refine lv_if_le (tgt := 34) hx hb dX6_priceIn_13 (by decide) (fun c_2 => ?_) (fun c_2 => ?_)
  · refine lv_lconst (v := 0) hx hb dX6_priceIn_34 (by decide) ?_
    exact ro_lret hx hb hr hlocks (by simp [prL, c_2]) dX6_priceIn_35
  · have hne : ¬ (lvV (T 25) (1950 + T 28 j / 365)).toInt64 = 0 := lv_ne c_2
    refine lv_aload_n hx hb dX6_priceIn_16 rfl (lv_at hl 3 rfl) ?_
    refine va_get (D := D) (ci := 8) (v := .int (T 30 j)) (C := RX8) (T := TX8) (N := 4) hx hb hts hiX8 hown hE.1 hq_1 0 rfl rfl 3 (by decide) (hts (.fieldLink RX6 70 "FindsOffice$Sale" "price" "I") (by decide +kernel)) (fun _ h9 => h9) rfl dX6_priceIn_17 ?_
    refine lv_i2l (v := (T 30 j).toInt64) hx hb dX6_priceIn_20 rfl ?_
    refine lv_aload_n hx hb dX6_priceIn_21 rfl (lv_at hl 1 rfl) ?_
    refine lv_iload_n hx hb dX6_priceIn_22 rfl (lv_at hl 2 rfl) ?_
    refine ro_V (As := [.int year]) (rest := [.long ((T 30 j).toInt64)]) ⟨hx, hb, hml, hown, hts⟩ (c_X6_levelIn l D cT a b T P n year hn) (cwV 1 hts gX6_priceIn_X6_levelIn rfl rfl rfl (by decide +kernel) ⟨Nat.le_of_ble_eq_true rfl, Nat.le_of_ble_eq_true rfl⟩) hE hP 13 6 ofl_13 rfl rfl rfl hl.1 rfl (Nat.le_of_ble_eq_true rfl) dX6_priceIn_23 ⟨Nat.zero_le _, Nat.zero_le _⟩ ?_
    refine lv_i2l (v := (lvV (T 25) year).toInt64) hx hb dX6_priceIn_26 rfl ?_
    refine lv_lmul hx hb dX6_priceIn_27 ?_
    refine lv_iload_n hx hb dX6_priceIn_28 rfl (lv_at hl 0 rfl) ?_
    refine lv_i2l (v := (lvV (T 25) (1950 + (T 28 j) / 365)).toInt64) hx hb dX6_priceIn_29 rfl ?_
    refine lv_ldiv hx hb dX6_priceIn_30 hne ?_
    refine lv_goto (tgt := 35) hx hb dX6_priceIn_31 (by decide) ?_
    exact ro_lret hx hb hr hlocks (by simp [prL, c_2]) dX6_priceIn_35
set_option maxHeartbeats 4000000 in
set_option maxRecDepth 100000 in
theorem c_X6_appraise (l : Launch) (D : va_G) (cT : Nat → ClassId) (a : Nat → Nat) (b : Nat → Nat → Nat) (T P : Nat → Nat → Int32) (n : Nat → Nat) (me we year : Int32) (hn : Cnt n) : Met l yX6_appraise wsX6_appraise ({ frames := 2, cells := 0, slots := 0, locals := 45 }) (va_Pc [.ref (a 13), .int me, .int we, .int year] (PB D cT (offW cT a b T P n))) (QR (.int (apV T me we year (n 2)))) 0 0 (fun _ => False) := by
  refine RO_of (by decide) rfl (Nat.le_of_ble_eq_true rfl) ?_
  intro p e s m below meth c hx hb hr hts hown hlocks hml hE hP ls hl
  have hiX6 : ∀ w ∈ wsX60, w ∈ wsX6_appraise := by decide +kernel
  have hiX8 : ∀ w ∈ wsX80, w ∈ wsX6_appraise := by decide +kernel
  have hl : lv_has ls 10 [(0, .ref (a 13)), (1, .int me), (2, .int we), (3, .int year)] := hl
  obtain ⟨hn0, hn1, hn2, hn3, hn4⟩ := id hn
  refine lv_lconst (v := 0) hx hb dX6_appraise_0 (by decide) ?_
  refine lv_lstore (lv' := [(4, .long 0), (0, .ref (a 13)), (1, .int me), (2, .int we), (3, .int year)]) hx hb dX6_appraise_1 hl (by decide) rfl (fun ls hl => ?_)
  refine lv_lconst (v := 0) hx hb dX6_appraise_3 (by decide) ?_
  refine lv_lstore (lv' := [(6, .long 0), (4, .long 0), (0, .ref (a 13)), (1, .int me), (2, .int we), (3, .int year)]) hx hb dX6_appraise_4 hl (by decide) rfl (fun ls hl => ?_)
  refine lv_iconst (v := 0) hx hb dX6_appraise_6 (by decide) ?_
  refine lv_istore (lv' := [(8, .int 0), (6, .long 0), (4, .long 0), (0, .ref (a 13)), (1, .int me), (2, .int we), (3, .int year)]) hx hb dX6_appraise_7 hl (by decide) rfl (fun ls hl => ?_)
  have loop_9 : ∀ (fuel : Nat) (j : Nat) (v w : Int64), j ≤ n 2 → v = apS T me year j → w = apW T me j → n 2 - j < fuel → ∀ (ls : Array Slot), lv_has ls 10 [(0, .ref (a 13)), (1, .int me), (2, .int we), (3, .int year), (4, .long v), (6, .long w), (8, .int (nI j))] → W p l e ({ frames := 2, cells := 0, slots := 0, locals := 45 }) s m (List.toArray [.ref (a 13), .int me, .int we, .int year]) below meth c s.heap [] 0 0 (MQ below (QR (.int (apV T me we year (n 2)))) (List.toArray [.ref (a 13), .int me, .int we, .int year]) s 0 0 (fun _ => False)) (F0 m 9 ls []) := by
    intro fuel
    induction fuel with
    | zero => intro j v w hj hv hw hfuel; exact absurd hfuel (Nat.not_lt_zero _)
    | succ fuel ih =>
      intro j v w hj hv hw hfuel ls hl
      refine lv_iload hx hb dX6_appraise_9 (lv_at hl 6 rfl) ?_
      refine lv_aload_n hx hb dX6_appraise_11 rfl (lv_at hl 0 rfl) ?_
      refine va_get (D := D) (ci := 6) (v := .int (nI (n 2))) (C := RX6) (T := TX6) (N := 3) hx hb hts hiX6 hown hE.1 hP 13 ofl_13 rfl 1 (by decide) (hts (.fieldLink RX6 17 "FindsOffice$Market" "told" "I") (by decide +kernel)) (fun _ h9 => h9) rfl dX6_appraise_12 ?_
      refine lv_icmp_ge (tgt := 77) hx hb dX6_appraise_15 (by decide) (fun c_1 => ?_) (fun c_1 => ?_)
      · have k_1 := nat_le (a := (n 2)) (b := j) c_1 (by omega) (by omega)
        refine lv_lload hx hb dX6_appraise_77 (lv_at hl 5 rfl) ?_
        refine lv_lconst (v := 0) hx hb dX6_appraise_79 (by decide) ?_
        refine W.lcmp hx hb dX6_appraise_80 ?_
        refine lv_if_gt (tgt := 86) hx hb dX6_appraise_81 (by decide) (fun c_2 => ?_) (fun c_2 => ?_)
        · have hjn : j = n 2 := by omega
          have hw0 : 0 < w := lg_pos c_2
          refine lv_lload hx hb dX6_appraise_86 (lv_at hl 4 rfl) ?_
          refine lv_iload_n hx hb dX6_appraise_88 rfl (lv_at hl 2 rfl) ?_
          refine lv_i2l (v := we.toInt64) hx hb dX6_appraise_89 rfl ?_
          refine lv_lmul hx hb dX6_appraise_90 ?_
          refine lv_lload hx hb dX6_appraise_91 (lv_at hl 5 rfl) ?_
          refine lv_ldiv hx hb dX6_appraise_93 (fun q => absurd hw0 (by rw [q]; decide)) ?_
          refine lv_ldc2 (own := RX6) (v := 1000000) hx hb hown (hts (.constantLong RX6 53 1000000) (by decide +kernel)) dX6_appraise_94 ?_
          refine va_mmin_long hx hb (hml.trans hl.1.symm) hown (hts (.methodLink RX6 55 Lib.MathLoose.min_long.x) (by decide +kernel)) (hts (.static Lib.MathLoose.min_long.x) (by decide +kernel)) (hts (.initialized "java/lang/Math") (by decide +kernel)) (hts (.code Lib.MathLoose.min_long.x Lib.MathLoose.min_long.code 4 (some .long)) (by decide +kernel)) (Nat.le_of_ble_eq_true rfl) (Nat.le_of_ble_eq_true rfl) (Nat.zero_le _) (Nat.zero_le _) dX6_appraise_97 ?_
          refine lv_l2i (v := (if 1000000 < ((v * we.toInt64) / w) then 1000000 else ((v * we.toInt64) / w)).toInt32) hx hb dX6_appraise_100 rfl ?_
          exact ro_iret hx hb hr hlocks (by rw [hw, show j = n 2 by omega] at hw0; rw [hv, hw, show j = n 2 by omega, apV, if_pos hw0]) dX6_appraise_101
        · have hw0 : ¬ 0 < w := lg_npos c_2
          refine lv_iconst (v := 0) hx hb dX6_appraise_84 (by decide) ?_
          exact ro_iret hx hb hr hlocks (by rw [hw, show j = n 2 by omega] at hw0; simp [apV, hw0]) dX6_appraise_85
      · have k_1 := nat_nle (a := (n 2)) (b := j) c_1 (by omega) (by omega)
        refine lv_iload hx hb dX6_appraise_18 (lv_at hl 6 rfl) ?_
        refine lv_bipush (v := 60) hx hb dX6_appraise_20 (by decide) ?_
        refine lv_icmp_ge (tgt := 77) hx hb dX6_appraise_22 (by decide) (fun c_3 => ?_) (fun c_3 => ?_)
        · have k_3 := nat_le (a := 60) (b := j) c_3 (by omega) (by omega)
          exfalso; omega
        · have k_3 := nat_nle (a := 60) (b := j) c_3 (by omega) (by omega)
          refine lv_aload_n hx hb dX6_appraise_25 rfl (lv_at hl 0 rfl) ?_
          refine va_get (D := D) (ci := 6) (v := .ref (a 14)) (C := RX6) (T := TX6) (N := 3) hx hb hts hiX6 hown hE.1 hP 13 ofl_13 rfl 0 (by decide) (hts (.fieldLink RX6 13 "FindsOffice$Market" "sales" "[LFindsOffice$Sale;") (by decide +kernel)) (fun _ h9 => h9) rfl dX6_appraise_26 ?_
          refine lv_iload hx hb dX6_appraise_29 (lv_at hl 6 rfl) ?_
          refine my_aldq (k := j) (v := .ref (b 2 j)) hx hb hE.1 hP 14 4 ofl_14 rfl rfl (by omega) (by decide) (by exact pf_at (by omega)) dX6_appraise_31 ?_
          refine lv_astore (lv' := [(9, .ref (b 2 j)), (0, .ref (a 13)), (1, .int me), (2, .int we), (3, .int year), (4, .long v), (6, .long w), (8, .int (nI j))]) hx hb dX6_appraise_32 hl (by decide) rfl (fun ls hl => ?_)
          refine lv_aload hx hb dX6_appraise_34 (lv_at hl 0 rfl) ?_
          refine lv_ifnull hx hb dX6_appraise_36 ?_
          refine lv_aload hx hb dX6_appraise_39 (lv_at hl 0 rfl) ?_
          have hq_4 := off_sale (k := j) hP (by omega)
          refine va_get (D := D) (ci := 8) (v := .int (T 27 j)) (C := RX8) (T := TX8) (N := 4) hx hb hts hiX8 hown hE.1 hq_4 0 rfl rfl 0 (by decide) (hts (.fieldLink RX6 39 "FindsOffice$Sale" "metal" "I") (by decide +kernel)) (fun _ h9 => h9) rfl dX6_appraise_41 ?_
          refine lv_iload_n hx hb dX6_appraise_44 rfl (lv_at hl 2 rfl) ?_
          refine lv_icmp_ne (tgt := 71) hx hb dX6_appraise_45 (by decide) (fun c_5 => ?_) (fun c_5 => ?_)
          · refine lv_iinc (v := nI (j + 1)) (lv' := [(8, .int (nI (j + 1))), (9, .ref (b 2 j)), (0, .ref (a 13)), (1, .int me), (2, .int we), (3, .int year), (4, .long v), (6, .long w)]) hx hb dX6_appraise_71 hl (k := 7) rfl (nI_1 _) (by decide) rfl (fun ls hl => ?_)
            refine lv_goto (tgt := 9) hx hb dX6_appraise_74 (by decide) ?_
            exact ih (j + 1) _ _ (by omega) (by rw [hv]; simp [apS, c_1, c_3, c_5]) (by rw [hw]; simp [apW, c_1, c_3, c_5]) (by omega) ls (lv_sub hl [2, 3, 4, 5, 6, 7, 0] rfl)
          · refine lv_lload hx hb dX6_appraise_48 (lv_at hl 5 rfl) ?_
            refine lv_aload_n hx hb dX6_appraise_50 rfl (lv_at hl 1 rfl) ?_
            refine lv_iload_n hx hb dX6_appraise_51 rfl (lv_at hl 4 rfl) ?_
            refine lv_aload hx hb dX6_appraise_52 (lv_at hl 0 rfl) ?_
            refine ro_V (As := [.int year, .ref (b 2 j)]) (rest := [.long v]) ⟨hx, hb, hml, hown, hts⟩ (c_X6_priceIn l D cT a b T P n year j hn (by omega)) (cwV 2 hts gX6_appraise_X6_priceIn rfl rfl rfl (by decide +kernel) ⟨Nat.le_of_ble_eq_true rfl, Nat.le_of_ble_eq_true rfl⟩) hE hP 13 6 ofl_13 rfl rfl rfl hl.1 rfl (Nat.le_of_ble_eq_true rfl) dX6_appraise_54 ⟨Nat.zero_le _, Nat.zero_le _⟩ ?_
            refine lv_ladd hx hb dX6_appraise_57 ?_
            refine lv_lstore (lv' := [(4, .long (v + (prL T year j))), (9, .ref (b 2 j)), (0, .ref (a 13)), (1, .int me), (2, .int we), (3, .int year), (6, .long w), (8, .int (nI j))]) hx hb dX6_appraise_58 hl (by decide) rfl (fun ls hl => ?_)
            refine lv_lload hx hb dX6_appraise_60 (lv_at hl 6 rfl) ?_
            refine lv_aload hx hb dX6_appraise_62 (lv_at hl 1 rfl) ?_
            refine va_get (D := D) (ci := 8) (v := .int (T 29 j)) (C := RX8) (T := TX8) (N := 4) hx hb hts hiX8 hown hE.1 hq_4 0 rfl rfl 2 (by decide) (hts (.fieldLink RX6 50 "FindsOffice$Sale" "weight" "I") (by decide +kernel)) (fun _ h9 => h9) rfl dX6_appraise_64 ?_
            refine lv_i2l (v := (T 29 j).toInt64) hx hb dX6_appraise_67 rfl ?_
            refine lv_ladd hx hb dX6_appraise_68 ?_
            refine lv_lstore (lv' := [(6, .long (w + ((T 29 j).toInt64))), (4, .long (v + (prL T year j))), (9, .ref (b 2 j)), (0, .ref (a 13)), (1, .int me), (2, .int we), (3, .int year), (8, .int (nI j))]) hx hb dX6_appraise_69 hl (by decide) rfl (fun ls hl => ?_)
            refine lv_iinc (v := nI (j + 1)) (lv' := [(8, .int (nI (j + 1))), (6, .long (w + ((T 29 j).toInt64))), (4, .long (v + (prL T year j))), (9, .ref (b 2 j)), (0, .ref (a 13)), (1, .int me), (2, .int we), (3, .int year)]) hx hb dX6_appraise_71 hl (k := 7) rfl (nI_1 _) (by decide) rfl (fun ls hl => ?_)
            refine lv_goto (tgt := 9) hx hb dX6_appraise_74 (by decide) ?_
            exact ih (j + 1) _ _ (by omega) (by rw [hv]; simp [apS, c_1, c_3, c_5]) (by rw [hw]; simp [apW, c_1, c_3, c_5]) (by omega) ls (lv_sub hl [4, 5, 6, 7, 2, 1, 0] rfl)
  exact loop_9 _ 0 0 0 (by omega) rfl rfl (Nat.lt_succ_self _) ls (lv_sub hl [3, 4, 5, 6, 2, 1, 0] rfl)
end
section
/-! more reading methods -/
theorem tsw_lo {x : Int32} (h : x < 0) : x.toInt < 0 := Int32.lt_iff_toInt_lt.mp h
theorem tsw_hi {x : Int32} {n : Nat} (h : nI (n + 1) ≤ x) (hn : n + 1 < 2 ^ 31) : (n : Int) < x.toInt := by
  have h1 := Int32.le_iff_toInt_le.mp h
  rw [nI_toInt hn] at h1
  omega
theorem isT_lo {m : Nat} {x : Int32} (h : x < 0) : isT m x = false := by simp [isT, h]
theorem isT_hi {m : Nat} {x : Int32} (h : nI m ≤ x) : isT m x = false := by simp [isT, h]
def lndV (T : Nat → Nat → Int32) (n : Nat → Nat) (k : Nat) : Int32 := owW (T 24) (owN T (T 2 k / 100 * 10 + T 3 k / 100) (T 10 k) (n 4))
def worV (T : Nat → Nat → Int32) (n : Nat → Nat) (k : Nat) : Int32 := apV T (T 4 k) (T 6 k) (1950 + T 0 0 / 365) (n 2)
/-- the law that counts a find, by the size of its hoard -/
def lcO (T : Nat → Nat → Int32) (n : Nat → Nat) (k : Nat) (fe : Int32) : Option Nat := match ifN T (T 10 k) (n 0) with
  | none => none
  | some q => if covB (T 17 q) (T 18 q) (T 20 q) (T 4 k) (T 5 k) (T 8 k) (T 10 k) fe = true then some q else none
def lctO (T P : Nat → Nat → Int32) (n : Nat → Nat) (i : Int32) : Option Nat := if isT (n 1) i = true then (if hoN (n 1) (P 2) (hoN (n 1) (P 1) i) = -1 then none else lcO T n i.toNatClampNeg (hoN (n 1) (P 2) (hoN (n 1) (P 1) i))) else none
theorem lctO_at {T P : Nat → Nat → Int32} {n : Nat → Nat} {k : Nat} (hk : k < n 1) (hn : n 1 ≤ 50) : lctO T P n (nI k) = if hoN (n 1) (P 2) (P 1 k) = -1 then none else lcO T n k (hoN (n 1) (P 2) (P 1 k)) := by
  rw [lctO, if_pos (isT_nI hk (by omega)), hoN_at hk (by omega), nI_clamp (by omega)]
theorem lcO_lt {T : Nat → Nat → Int32} {n : Nat → Nat} {k q : Nat} {fe : Int32} (h : lcO T n k fe = some q) : q < n 0 := by
  unfold lcO at h
  split at h
  · cases h
  · next q' h' =>
    split at h
    · cases h; exact ifN_lt h'
    · cases h
theorem lctO_lt {T P : Nat → Nat → Int32} {n : Nat → Nat} {i : Int32} {q : Nat} (h : lctO T P n i = some q) : q < n 0 := by
  unfold lctO at h
  split at h
  · split at h
    · cases h
    · exact lcO_lt h
  · cases h
/-- a person's share of a find that counts by law q -/
def shV (T : Nat → Nat → Int32) (n : Nat → Nat) (k q : Nat) (pe : Int32) : Int32 := if lndV T n k = pe then (if T 9 k = pe then worV T n k * T 19 q / 100 else 0) + worV T n k - worV T n k * T 19 q / 100 else (if T 9 k = pe then worV T n k * T 19 q / 100 else 0)
def rwdV (T P : Nat → Nat → Int32) (n : Nat → Nat) (i pe : Int32) : Int32 := if isT (n 1) i = true then (match lctO T P n i with
  | none => 0
  | some q => shV T n i.toNatClampNeg q pe) else 0
def tdV (T : Nat → Nat → Int32) (n : Nat → Nat) (i what : Int32) : Int32 := if isT (n 1) i = true then (if isT 10 what = true then (match what.toNatClampNeg with
  | 0 => T 10 i.toNatClampNeg
  | 1 => T 11 i.toNatClampNeg
  | 2 => T 4 i.toNatClampNeg
  | 3 => T 5 i.toNatClampNeg
  | 4 => T 6 i.toNatClampNeg
  | 5 => T 7 i.toNatClampNeg
  | 6 => T 8 i.toNatClampNeg
  | 7 => T 9 i.toNatClampNeg
  | 8 => lndV T n i.toNatClampNeg
  | _ => T 12 i.toNatClampNeg) else -2147483648) else -2147483648
theorem tdV_at {T : Nat → Nat → Int32} {n : Nat → Nat} {k : Nat} {what : Int32} (hk : k < n 1) (hn : n 1 ≤ 50) : tdV T n (nI k) what = (if isT 10 what = true then (match what.toNatClampNeg with
  | 0 => T 10 k
  | 1 => T 11 k
  | 2 => T 4 k
  | 3 => T 5 k
  | 4 => T 6 k
  | 5 => T 7 k
  | 6 => T 8 k
  | 7 => T 9 k
  | 8 => lndV T n k
  | _ => T 12 k) else -2147483648) := by rw [tdV, if_pos (isT_nI hk (by omega)), nI_clamp (by omega)]
def wrV (T : Nat → Nat → Int32) (n : Nat → Nat) (i : Int32) : Int32 := if isT (n 1) i = true then worV T n i.toNatClampNeg else -1
def pdV (T : Nat → Nat → Int32) (pe : Int32) : Int32 := if isT 30 pe = true then T 31 pe.toNatClampNeg else 0
theorem btw29 {x : Int32} : btw x 0 29 = isT 30 x := by
  have e : (29 < x) ↔ (nI 30 ≤ x) := by
    rw [Int32.lt_iff_toInt_lt, Int32.le_iff_toInt_le]
    have e1 : (29 : Int32).toInt = 29 := rfl
    have e2 : (nI 30).toInt = 30 := rfl
    omega
  simp [btw, isT, e]
def spV (T : Nat → Nat → Int32) (n : Nat → Nat) (i : Int32) : Int32 := if isT (n 3) i = true then T 35 i.toNatClampNeg else -1
end
section
set_option maxHeartbeats 4000000 in
set_option maxRecDepth 100000 in
theorem c_X9_isPast (l : Launch) (D : va_G) (cT : Nat → ClassId) (a : Nat → Nat) (b : Nat → Nat → Nat) (T P : Nat → Nat → Int32) (n : Nat → Nat) (day : Int32) (hn : Cnt n) : Met l yX9_isPast wsX9_isPast ({ frames := 1, cells := 0, slots := 0, locals := 22 }) (va_Pc [.ref (a 0), .int day] (PB D cT (offW cT a b T P n))) (QR (.int (b2 (btw day 0 (T 0 0))))) 0 0 (fun _ => False) := by
  refine RO_of (by decide) rfl (Nat.le_of_ble_eq_true rfl) ?_
  intro p e s m below meth c hx hb hr hts hown hlocks hml hE hP ls hl
  have hiX9 : ∀ w ∈ wsX90, w ∈ wsX9_isPast := by decide +kernel
  have hl : lv_has ls 2 [(0, .ref (a 0)), (1, .int day)] := hl
  obtain ⟨hn0, hn1, hn2, hn3, hn4⟩ := id hn
  refine lv_iload_n hx hb dX9_isPast_0 rfl (lv_at hl 1 rfl) ?_
  refine lv_iconst (v := 0) hx hb dX9_isPast_1 (by decide) ?_
  refine lv_aload_n hx hb dX9_isPast_2 rfl (lv_at hl 0 rfl) ?_
  refine va_get (D := D) (ci := 9) (v := .int (T 0 0)) (C := RX9) (T := TX9) (N := 7) hx hb hts hiX9 hown hE.1 hP 0 ofl_0 rfl 0 (by decide) (hts (.fieldLink RX9 7 "FindsOffice" "now" "I") (by decide +kernel)) (fun _ h9 => h9) rfl dX9_isPast_3 ?_
  refine ro_S (As := [.int day, .int 0, .int (T 0 0)]) (rest := []) ⟨hx, hb, hml, hown, hts⟩ (c_X9_isBetween l D cT day 0 (T 0 0) ) (va_cwS 3 hts gX9_isPast_X9_isBetween rfl rfl rfl (by decide +kernel) ⟨Nat.le_of_ble_eq_true rfl, Nat.le_of_ble_eq_true rfl⟩) hE va_P_nil  rfl hl.1 rfl (Nat.le_of_ble_eq_true rfl) dX9_isPast_6 ⟨Nat.zero_le _, Nat.zero_le _⟩ ?_
  exact ro_zret hx hb hr hlocks (by first | rfl | (simp [b2, btw]; done)) dX9_isPast_9
set_option maxHeartbeats 4000000 in
set_option maxRecDepth 100000 in
theorem c_X9_landownerOf (l : Launch) (D : va_G) (cT : Nat → ClassId) (a : Nat → Nat) (b : Nat → Nat → Nat) (T P : Nat → Nat → Int32) (n : Nat → Nat) (k : Nat) (hn : Cnt n) (hpos : ∀ k, k < n 4 → ¬ T 23 k < 0) (hk : k < n 1) : Met l yX9_landownerOf wsX9_landownerOf ({ frames := 1, cells := 0, slots := 0, locals := 25 }) (va_Pc [.ref (a 0), .ref (b 1 k)] (PB D cT (offW cT a b T P n))) (QR (.int (lndV T n k))) 0 0 (fun _ => False) := by
  refine RO_of (by decide) rfl (Nat.le_of_ble_eq_true rfl) ?_
  intro p e s m below meth c hx hb hr hts hown hlocks hml hE hP ls hl
  have hiX1 : ∀ w ∈ wsX10, w ∈ wsX9_landownerOf := by decide +kernel
  have hiX9 : ∀ w ∈ wsX90, w ∈ wsX9_landownerOf := by decide +kernel
  have hl : lv_has ls 2 [(0, .ref (a 0)), (1, .ref (b 1 k))] := hl
  obtain ⟨hn0, hn1, hn2, hn3, hn4⟩ := id hn
  refine lv_aload_n hx hb dX9_landownerOf_0 rfl (lv_at hl 0 rfl) ?_
  refine va_get (D := D) (ci := 9) (v := .ref (a 3)) (C := RX9) (T := TX9) (N := 7) hx hb hts hiX9 hown hE.1 hP 0 ofl_0 rfl 2 (by decide) (hts (.fieldLink RX9 23 "FindsOffice" "landBook" "LFindsOffice$LandBook;") (by decide +kernel)) (fun _ h9 => h9) rfl dX9_landownerOf_1 ?_
  refine lv_aload_n hx hb dX9_landownerOf_4 rfl (lv_at hl 1 rfl) ?_
  have hq_1 := off_find (k := k) hP (by omega)
  refine ro_V (As := []) (rest := [.ref (a 3)]) ⟨hx, hb, hml, hown, hts⟩ (c_X1_plot l D cT (b 1 k) (T 2 k) (T 3 k) (T 4 k) (T 5 k) (T 6 k) (T 7 k) (T 8 k) (T 10 k) (T 9 k) (T 11 k) (T 12 k) ) (cwV 0 hts gX9_landownerOf_X1_plot rfl rfl rfl (by decide +kernel) ⟨Nat.le_of_ble_eq_true rfl, Nat.le_of_ble_eq_true rfl⟩) hE hq_1 0 1 rfl rfl rfl rfl hl.1 rfl (Nat.le_of_ble_eq_true rfl) dX9_landownerOf_5 ⟨Nat.zero_le _, Nat.zero_le _⟩ ?_
  refine lv_aload_n hx hb dX9_landownerOf_8 rfl (lv_at hl 1 rfl) ?_
  refine va_get (D := D) (ci := 1) (v := .int (T 10 k)) (C := RX1) (T := TX1) (N := 11) hx hb hts hiX1 hown hE.1 hq_1 0 rfl rfl 7 (by decide) (hts (.fieldLink RX9 109 "FindsOffice$Find" "found" "I") (by decide +kernel)) (fun _ h9 => h9) rfl dX9_landownerOf_9 ?_
  refine ro_V (As := [.int ((T 2 k) / 100 * 10 + (T 3 k) / 100), .int (T 10 k)]) (rest := []) ⟨hx, hb, hml, hown, hts⟩ (c_X3_holderOn l D cT a b T P n ((T 2 k) / 100 * 10 + (T 3 k) / 100) (T 10 k) hn hpos) (cwV 2 hts gX9_landownerOf_X3_holderOn rfl rfl rfl (by decide +kernel) ⟨Nat.le_of_ble_eq_true rfl, Nat.le_of_ble_eq_true rfl⟩) hE hP 3 3 ofl_3 rfl rfl rfl hl.1 rfl (Nat.le_of_ble_eq_true rfl) dX9_landownerOf_12 ⟨Nat.zero_le _, Nat.zero_le _⟩ ?_
  exact ro_iret hx hb hr hlocks rfl dX9_landownerOf_15
set_option maxHeartbeats 4000000 in
set_option maxRecDepth 100000 in
theorem c_X9_worthNow (l : Launch) (D : va_G) (cT : Nat → ClassId) (a : Nat → Nat) (b : Nat → Nat → Nat) (T P : Nat → Nat → Int32) (n : Nat → Nat) (k : Nat) (hn : Cnt n) (hk : k < n 1) : Met l yX9_worthNow wsX9_worthNow ({ frames := 3, cells := 0, slots := 0, locals := 74 }) (va_Pc [.ref (a 0), .ref (b 1 k)] (PB D cT (offW cT a b T P n))) (QR (.int (worV T n k))) 0 0 (fun _ => False) := by
  refine RO_of (by decide) rfl (Nat.le_of_ble_eq_true rfl) ?_
  intro p e s m below meth c hx hb hr hts hown hlocks hml hE hP ls hl
  have hiX1 : ∀ w ∈ wsX10, w ∈ wsX9_worthNow := by decide +kernel
  have hiX9 : ∀ w ∈ wsX90, w ∈ wsX9_worthNow := by decide +kernel
  have hl : lv_has ls 2 [(0, .ref (a 0)), (1, .ref (b 1 k))] := hl
  obtain ⟨hn0, hn1, hn2, hn3, hn4⟩ := id hn
  refine lv_aload_n hx hb dX9_worthNow_0 rfl (lv_at hl 0 rfl) ?_
  refine va_get (D := D) (ci := 9) (v := .ref (a 13)) (C := RX9) (T := TX9) (N := 7) hx hb hts hiX9 hown hE.1 hP 0 ofl_0 rfl 4 (by decide) (hts (.fieldLink RX9 37 "FindsOffice" "market" "LFindsOffice$Market;") (by decide +kernel)) (fun _ h9 => h9) rfl dX9_worthNow_1 ?_
  refine lv_aload_n hx hb dX9_worthNow_4 rfl (lv_at hl 1 rfl) ?_
  have hq_1 := off_find (k := k) hP (by omega)
  refine va_get (D := D) (ci := 1) (v := .int (T 4 k)) (C := RX1) (T := TX1) (N := 11) hx hb hts hiX1 hown hE.1 hq_1 0 rfl rfl 2 (by decide) (hts (.fieldLink RX9 115 "FindsOffice$Find" "metal" "I") (by decide +kernel)) (fun _ h9 => h9) rfl dX9_worthNow_5 ?_
  refine lv_aload_n hx hb dX9_worthNow_8 rfl (lv_at hl 1 rfl) ?_
  refine va_get (D := D) (ci := 1) (v := .int (T 6 k)) (C := RX1) (T := TX1) (N := 11) hx hb hts hiX1 hown hE.1 hq_1 0 rfl rfl 4 (by decide) (hts (.fieldLink RX9 121 "FindsOffice$Find" "weight" "I") (by decide +kernel)) (fun _ h9 => h9) rfl dX9_worthNow_9 ?_
  refine lv_aload_n hx hb dX9_worthNow_12 rfl (lv_at hl 0 rfl) ?_
  refine va_get (D := D) (ci := 9) (v := .int (T 0 0)) (C := RX9) (T := TX9) (N := 7) hx hb hts hiX9 hown hE.1 hP 0 ofl_0 rfl 0 (by decide) (hts (.fieldLink RX9 7 "FindsOffice" "now" "I") (by decide +kernel)) (fun _ h9 => h9) rfl dX9_worthNow_13 ?_
  refine ro_S (As := [.int (T 0 0)]) (rest := [.int (T 6 k), .int (T 4 k), .ref (a 13)]) ⟨hx, hb, hml, hown, hts⟩ (c_X9_yearOf l D cT (T 0 0) ) (va_cwS 1 hts gX9_worthNow_X9_yearOf rfl rfl rfl (by decide +kernel) ⟨Nat.le_of_ble_eq_true rfl, Nat.le_of_ble_eq_true rfl⟩) hE va_P_nil  rfl hl.1 rfl (Nat.le_of_ble_eq_true rfl) dX9_worthNow_16 ⟨Nat.zero_le _, Nat.zero_le _⟩ ?_
  refine ro_V (As := [.int (T 4 k), .int (T 6 k), .int (1950 + (T 0 0) / 365)]) (rest := []) ⟨hx, hb, hml, hown, hts⟩ (c_X6_appraise l D cT a b T P n (T 4 k) (T 6 k) (1950 + (T 0 0) / 365) hn) (cwV 3 hts gX9_worthNow_X6_appraise rfl rfl rfl (by decide +kernel) ⟨Nat.le_of_ble_eq_true rfl, Nat.le_of_ble_eq_true rfl⟩) hE hP 13 6 ofl_13 rfl rfl rfl hl.1 rfl (Nat.le_of_ble_eq_true rfl) dX9_worthNow_19 ⟨Nat.zero_le _, Nat.zero_le _⟩ ?_
  exact ro_iret hx hb hr hlocks rfl dX9_worthNow_22
set_option maxHeartbeats 4000000 in
set_option maxRecDepth 100000 in
theorem c_X9_lawThatCounts (l : Launch) (D : va_G) (cT : Nat → ClassId) (a : Nat → Nat) (b : Nat → Nat → Nat) (T P : Nat → Nat → Int32) (n : Nat → Nat) (i : Int32) (hn : Cnt n) : Met l yX9_lawThatCounts wsX9_lawThatCounts ({ frames := 2, cells := 0, slots := 0, locals := 44 }) (va_Pc [.ref (a 0), .int i] (PB D cT (offW cT a b T P n))) (QR (va_rf ((lctO T P n i).map (b 0)))) 0 0 (fun _ => False) := by
  refine RO_of (by decide) rfl (Nat.le_of_ble_eq_true rfl) ?_
  intro p e s m below meth c hx hb hr hts hown hlocks hml hE hP ls hl
  have hiX1 : ∀ w ∈ wsX10, w ∈ wsX9_lawThatCounts := by decide +kernel
  have hiX9 : ∀ w ∈ wsX90, w ∈ wsX9_lawThatCounts := by decide +kernel
  have hl : lv_has ls 5 [(0, .ref (a 0)), (1, .int i)] := hl
  obtain ⟨hn0, hn1, hn2, hn3, hn4⟩ := id hn
  refine lv_aload_n hx hb dX9_lawThatCounts_0 rfl (lv_at hl 0 rfl) ?_
  refine va_get (D := D) (ci := 9) (v := .ref (a 7)) (C := RX9) (T := TX9) (N := 7) hx hb hts hiX9 hown hE.1 hP 0 ofl_0 rfl 3 (by decide) (hts (.fieldLink RX9 30 "FindsOffice" "findBook" "LFindsOffice$FindBook;") (by decide +kernel)) (fun _ h9 => h9) rfl dX9_lawThatCounts_1 ?_
  refine lv_iload_n hx hb dX9_lawThatCounts_4 rfl (lv_at hl 1 rfl) ?_
  refine ro_V (As := [.int i]) (rest := []) ⟨hx, hb, hml, hown, hts⟩ (c_X2_numbered l D cT a b T P n i hn) (cwV 1 hts gX9_lawThatCounts_X2_numbered rfl rfl rfl (by decide +kernel) ⟨Nat.le_of_ble_eq_true rfl, Nat.le_of_ble_eq_true rfl⟩) hE hP 7 2 ofl_7 rfl rfl rfl hl.1 rfl (Nat.le_of_ble_eq_true rfl) dX9_lawThatCounts_5 ⟨Nat.zero_le _, Nat.zero_le _⟩ ?_
  rcases nuV_cases (b 1) (n 1) i (by omega) with ⟨k1, hk1, rfl, hv1⟩ | ⟨hf1, hv1⟩
  · refine topv_eq hv1 ?_
    refine lv_astore_n (lv' := [(2, .ref (b 1 k1)), (0, .ref (a 0)), (1, .int (nI k1))]) hx hb dX9_lawThatCounts_8 rfl hl (by decide) rfl (fun ls hl => ?_)
    refine lv_aload_n hx hb dX9_lawThatCounts_9 rfl (lv_at hl 1 rfl) ?_
    refine va_get (D := D) (ci := 9) (v := .ref (a 7)) (C := RX9) (T := TX9) (N := 7) hx hb hts hiX9 hown hE.1 hP 0 ofl_0 rfl 3 (by decide) (hts (.fieldLink RX9 30 "FindsOffice" "findBook" "LFindsOffice$FindBook;") (by decide +kernel)) (fun _ h9 => h9) rfl dX9_lawThatCounts_10 ?_
    refine lv_iload_n hx hb dX9_lawThatCounts_13 rfl (lv_at hl 2 rfl) ?_
    refine ro_V (As := [.int (nI k1)]) (rest := []) ⟨hx, hb, hml, hown, hts⟩ (c_X2_hoardSize l D cT a b T P n (nI k1) hn) (cwV 1 hts gX9_lawThatCounts_X2_hoardSize rfl rfl rfl (by decide +kernel) ⟨Nat.le_of_ble_eq_true rfl, Nat.le_of_ble_eq_true rfl⟩) hE hP 7 2 ofl_7 rfl rfl rfl hl.1 rfl (Nat.le_of_ble_eq_true rfl) dX9_lawThatCounts_14 ⟨Nat.zero_le _, Nat.zero_le _⟩ ?_
    refine lv_istore_n (lv' := [(3, .int (hoN (n 1) (P 2) (hoN (n 1) (P 1) (nI k1)))), (2, .ref (b 1 k1)), (0, .ref (a 0)), (1, .int (nI k1))]) hx hb dX9_lawThatCounts_17 rfl hl (by decide) rfl (fun ls hl => ?_)
    refine lv_aload_n hx hb dX9_lawThatCounts_18 rfl (lv_at hl 1 rfl) ?_
    refine lv_ifnull hx hb dX9_lawThatCounts_19 ?_
    refine lv_iload_n hx hb dX9_lawThatCounts_22 rfl (lv_at hl 0 rfl) ?_
    refine lv_iconst (v := (-1)) hx hb dX9_lawThatCounts_23 (by decide) ?_
    refine lv_icmp_ne (tgt := 29) hx hb dX9_lawThatCounts_24 (by decide) (fun c_2 => ?_) (fun c_2 => ?_)
    · refine lv_aload_n hx hb dX9_lawThatCounts_29 rfl (lv_at hl 2 rfl) ?_
      refine va_get (D := D) (ci := 9) (v := .ref (a 1)) (C := RX9) (T := TX9) (N := 7) hx hb hts hiX9 hown hE.1 hP 0 ofl_0 rfl 1 (by decide) (hts (.fieldLink RX9 16 "FindsOffice" "lawBook" "LFindsOffice$LawBook;") (by decide +kernel)) (fun _ h9 => h9) rfl dX9_lawThatCounts_30 ?_
      refine lv_aload_n hx hb dX9_lawThatCounts_33 rfl (lv_at hl 1 rfl) ?_
      have hq_3 := off_find (k := k1) hP (by omega)
      refine va_get (D := D) (ci := 1) (v := .int (T 10 k1)) (C := RX1) (T := TX1) (N := 11) hx hb hts hiX1 hown hE.1 hq_3 0 rfl rfl 7 (by decide) (hts (.fieldLink RX9 109 "FindsOffice$Find" "found" "I") (by decide +kernel)) (fun _ h9 => h9) rfl dX9_lawThatCounts_34 ?_
      refine ro_V (As := [.int (T 10 k1)]) (rest := []) ⟨hx, hb, hml, hown, hts⟩ (c_X5_inForce l D cT a b T P n (T 10 k1) hn) (cwV 1 hts gX9_lawThatCounts_X5_inForce rfl rfl rfl (by decide +kernel) ⟨Nat.le_of_ble_eq_true rfl, Nat.le_of_ble_eq_true rfl⟩) hE hP 1 5 ofl_1 rfl rfl rfl hl.1 rfl (Nat.le_of_ble_eq_true rfl) dX9_lawThatCounts_37 ⟨Nat.zero_le _, Nat.zero_le _⟩ ?_
      rcases ho4 : (ifN T (T 10 k1) (n 0)) with _ | q4
      · refine topv_eq (y := .null) rfl ?_
        refine lv_astoreN (lv' := [(4, .null), (3, .int (hoN (n 1) (P 2) (hoN (n 1) (P 1) (nI k1)))), (2, .ref (b 1 k1)), (0, .ref (a 0)), (1, .int (nI k1))]) hx hb dX9_lawThatCounts_40 hl (by decide) rfl (fun ls hl => ?_)
        refine lv_aloadN hx hb dX9_lawThatCounts_42 (lv_at hl 0 rfl) ?_
        refine lv_ifnullN (tgt := 62) hx hb dX9_lawThatCounts_44 (by decide) ?_
        refine lv_null hx hb dX9_lawThatCounts_62 ?_
        exact ro_aret hx hb hr hlocks (by rw [lctO_at hk1 hn1, ← hoN_at (h := P 1) hk1 (by omega)]; simp [lcO, va_rf, c_2, ho4]) (Or.inl rfl) dX9_lawThatCounts_63
      · refine topv_eq (y := .ref (b 0 q4)) rfl ?_
        have hq4 := ifN_lt ho4
        refine lv_astore (lv' := [(4, .ref (b 0 q4)), (3, .int (hoN (n 1) (P 2) (hoN (n 1) (P 1) (nI k1)))), (2, .ref (b 1 k1)), (0, .ref (a 0)), (1, .int (nI k1))]) hx hb dX9_lawThatCounts_40 hl (by decide) rfl (fun ls hl => ?_)
        refine lv_aload hx hb dX9_lawThatCounts_42 (lv_at hl 0 rfl) ?_
        refine lv_ifnull hx hb dX9_lawThatCounts_44 ?_
        refine lv_aload hx hb dX9_lawThatCounts_47 (lv_at hl 0 rfl) ?_
        refine lv_aload_n hx hb dX9_lawThatCounts_49 rfl (lv_at hl 2 rfl) ?_
        refine lv_iload_n hx hb dX9_lawThatCounts_50 rfl (lv_at hl 1 rfl) ?_
        have hq_5 := off_law (k := q4) hP (by omega)
        refine ro_V (As := [.ref (b 1 k1), .int (hoN (n 1) (P 2) (hoN (n 1) (P 1) (nI k1)))]) (rest := []) ⟨hx, hb, hml, hown, hts⟩ (c_X4_covers l D cT (b 0 q4) (b 1 k1) (T 16 q4) (T 17 q4) (T 18 q4) (T 19 q4) (T 20 q4) (T 2 k1) (T 3 k1) (T 4 k1) (T 5 k1) (T 6 k1) (T 7 k1) (T 8 k1) (T 10 k1) (T 9 k1) (T 11 k1) (T 12 k1) (hoN (n 1) (P 2) (hoN (n 1) (P 1) (nI k1)))) (cwV 2 hts gX9_lawThatCounts_X4_covers rfl rfl rfl (by decide +kernel) ⟨Nat.le_of_ble_eq_true rfl, Nat.le_of_ble_eq_true rfl⟩) hE (va_P.two hq_5 hq_3) 0 4 rfl rfl rfl rfl hl.1 rfl (Nat.le_of_ble_eq_true rfl) dX9_lawThatCounts_51 ⟨Nat.zero_le _, Nat.zero_le _⟩ ?_
        refine bi_eq (tgt := 62) hx hb dX9_lawThatCounts_54 (by decide) (fun c_6 => ?_) (fun c_6 => ?_)
        · refine lv_null hx hb dX9_lawThatCounts_62 ?_
          exact ro_aret hx hb hr hlocks (by rw [lctO_at hk1 hn1, ← hoN_at (h := P 1) hk1 (by omega)]; simp [lcO, va_rf, c_2, ho4, c_6]) (Or.inl rfl) dX9_lawThatCounts_63
        · refine lv_aload hx hb dX9_lawThatCounts_57 (lv_at hl 0 rfl) ?_
          refine lv_goto (tgt := 63) hx hb dX9_lawThatCounts_59 (by decide) ?_
          exact ro_aret hx hb hr hlocks (by rw [lctO_at hk1 hn1, ← hoN_at (h := P 1) hk1 (by omega)]; simp [lcO, va_rf, c_2, ho4, c_6]) (Or.inr ⟨_, rfl⟩) dX9_lawThatCounts_63
    · refine lv_null hx hb dX9_lawThatCounts_27 ?_
      exact ro_aret hx hb hr hlocks (by rw [lctO_at hk1 hn1, ← hoN_at (h := P 1) hk1 (by omega)]; simp [lcO, va_rf, c_2]) (Or.inl rfl) dX9_lawThatCounts_28
  · refine topv_eq hv1 ?_
    refine lv_astore_nN (lv' := [(2, .null), (0, .ref (a 0)), (1, .int i)]) hx hb dX9_lawThatCounts_8 rfl hl (by decide) rfl (fun ls hl => ?_)
    refine lv_aload_n hx hb dX9_lawThatCounts_9 rfl (lv_at hl 1 rfl) ?_
    refine va_get (D := D) (ci := 9) (v := .ref (a 7)) (C := RX9) (T := TX9) (N := 7) hx hb hts hiX9 hown hE.1 hP 0 ofl_0 rfl 3 (by decide) (hts (.fieldLink RX9 30 "FindsOffice" "findBook" "LFindsOffice$FindBook;") (by decide +kernel)) (fun _ h9 => h9) rfl dX9_lawThatCounts_10 ?_
    refine lv_iload_n hx hb dX9_lawThatCounts_13 rfl (lv_at hl 2 rfl) ?_
    refine ro_V (As := [.int i]) (rest := []) ⟨hx, hb, hml, hown, hts⟩ (c_X2_hoardSize l D cT a b T P n i hn) (cwV 1 hts gX9_lawThatCounts_X2_hoardSize rfl rfl rfl (by decide +kernel) ⟨Nat.le_of_ble_eq_true rfl, Nat.le_of_ble_eq_true rfl⟩) hE hP 7 2 ofl_7 rfl rfl rfl hl.1 rfl (Nat.le_of_ble_eq_true rfl) dX9_lawThatCounts_14 ⟨Nat.zero_le _, Nat.zero_le _⟩ ?_
    refine lv_istore_n (lv' := [(3, .int (hoN (n 1) (P 2) (hoN (n 1) (P 1) i))), (2, .null), (0, .ref (a 0)), (1, .int i)]) hx hb dX9_lawThatCounts_17 rfl hl (by decide) rfl (fun ls hl => ?_)
    refine lv_aload_nN hx hb dX9_lawThatCounts_18 rfl (lv_at hl 1 rfl) ?_
    refine lv_ifnullN (tgt := 27) hx hb dX9_lawThatCounts_19 (by decide) ?_
    refine lv_null hx hb dX9_lawThatCounts_27 ?_
    exact ro_aret hx hb hr hlocks (by simp [lctO, va_rf, hf1]) (Or.inl rfl) dX9_lawThatCounts_28
set_option maxHeartbeats 4000000 in
set_option maxRecDepth 100000 in
theorem c_X9_rewardFor (l : Launch) (D : va_G) (cT : Nat → ClassId) (a : Nat → Nat) (b : Nat → Nat → Nat) (T P : Nat → Nat → Int32) (n : Nat → Nat) (i pe : Int32) (hn : Cnt n) (hpos : ∀ k, k < n 4 → ¬ T 23 k < 0) : Met l yX9_rewardFor wsX9_rewardFor ({ frames := 4, cells := 0, slots := 0, locals := 95 }) (va_Pc [.ref (a 0), .int i, .int pe] (PB D cT (offW cT a b T P n))) (QR (.int (rwdV T P n i pe))) 0 0 (fun _ => False) := by
  refine RO_of (by decide) rfl (Nat.le_of_ble_eq_true rfl) ?_
  intro p e s m below meth c hx hb hr hts hown hlocks hml hE hP ls hl
  have hiX1 : ∀ w ∈ wsX10, w ∈ wsX9_rewardFor := by decide +kernel
  have hiX4 : ∀ w ∈ wsX40, w ∈ wsX9_rewardFor := by decide +kernel
  have hiX9 : ∀ w ∈ wsX90, w ∈ wsX9_rewardFor := by decide +kernel
  have hl : lv_has ls 8 [(0, .ref (a 0)), (1, .int i), (2, .int pe)] := hl
  obtain ⟨hn0, hn1, hn2, hn3, hn4⟩ := id hn
  refine lv_aload_n hx hb dX9_rewardFor_0 rfl (lv_at hl 0 rfl) ?_
  refine va_get (D := D) (ci := 9) (v := .ref (a 7)) (C := RX9) (T := TX9) (N := 7) hx hb hts hiX9 hown hE.1 hP 0 ofl_0 rfl 3 (by decide) (hts (.fieldLink RX9 30 "FindsOffice" "findBook" "LFindsOffice$FindBook;") (by decide +kernel)) (fun _ h9 => h9) rfl dX9_rewardFor_1 ?_
  refine lv_iload_n hx hb dX9_rewardFor_4 rfl (lv_at hl 1 rfl) ?_
  refine ro_V (As := [.int i]) (rest := []) ⟨hx, hb, hml, hown, hts⟩ (c_X2_numbered l D cT a b T P n i hn) (cwV 1 hts gX9_rewardFor_X2_numbered rfl rfl rfl (by decide +kernel) ⟨Nat.le_of_ble_eq_true rfl, Nat.le_of_ble_eq_true rfl⟩) hE hP 7 2 ofl_7 rfl rfl rfl hl.1 rfl (Nat.le_of_ble_eq_true rfl) dX9_rewardFor_5 ⟨Nat.zero_le _, Nat.zero_le _⟩ ?_
  rcases nuV_cases (b 1) (n 1) i (by omega) with ⟨k1, hk1, rfl, hv1⟩ | ⟨hf1, hv1⟩
  · refine topv_eq hv1 ?_
    refine lv_astore_n (lv' := [(3, .ref (b 1 k1)), (0, .ref (a 0)), (1, .int (nI k1)), (2, .int pe)]) hx hb dX9_rewardFor_8 rfl hl (by decide) rfl (fun ls hl => ?_)
    refine lv_aload_n hx hb dX9_rewardFor_9 rfl (lv_at hl 1 rfl) ?_
    refine lv_iload_n hx hb dX9_rewardFor_10 rfl (lv_at hl 2 rfl) ?_
    refine ro_V (As := [.int (nI k1)]) (rest := []) ⟨hx, hb, hml, hown, hts⟩ (c_X9_lawThatCounts l D cT a b T P n (nI k1) hn) (cwV 1 hts gX9_rewardFor_X9_lawThatCounts rfl rfl rfl (by decide +kernel) ⟨Nat.le_of_ble_eq_true rfl, Nat.le_of_ble_eq_true rfl⟩) hE hP 0 9 ofl_0 rfl rfl rfl hl.1 rfl (Nat.le_of_ble_eq_true rfl) dX9_rewardFor_11 ⟨Nat.zero_le _, Nat.zero_le _⟩ ?_
    rcases ho2 : (lctO T P n (nI k1)) with _ | q2
    · refine topv_eq (y := .null) rfl ?_
      refine lv_astoreN (lv' := [(4, .null), (3, .ref (b 1 k1)), (0, .ref (a 0)), (1, .int (nI k1)), (2, .int pe)]) hx hb dX9_rewardFor_14 hl (by decide) rfl (fun ls hl => ?_)
      refine lv_aload_n hx hb dX9_rewardFor_16 rfl (lv_at hl 1 rfl) ?_
      refine lv_ifnull hx hb dX9_rewardFor_17 ?_
      refine lv_aloadN hx hb dX9_rewardFor_20 (lv_at hl 0 rfl) ?_
      refine lv_ifnonnullN hx hb dX9_rewardFor_22 ?_
      refine lv_iconst (v := 0) hx hb dX9_rewardFor_25 (by decide) ?_
      exact ro_iret hx hb hr hlocks (by simp [rwdV, isT_nI hk1 (show n 1 < 2 ^ 31 by omega), nI_clamp (show k1 < 2 ^ 31 by omega), shV, ho2]) dX9_rewardFor_26
    · refine topv_eq (y := .ref (b 0 q2)) rfl ?_
      have hq2 := lctO_lt ho2
      refine lv_astore (lv' := [(4, .ref (b 0 q2)), (3, .ref (b 1 k1)), (0, .ref (a 0)), (1, .int (nI k1)), (2, .int pe)]) hx hb dX9_rewardFor_14 hl (by decide) rfl (fun ls hl => ?_)
      refine lv_aload_n hx hb dX9_rewardFor_16 rfl (lv_at hl 1 rfl) ?_
      refine lv_ifnull hx hb dX9_rewardFor_17 ?_
      refine lv_aload hx hb dX9_rewardFor_20 (lv_at hl 0 rfl) ?_
      refine lv_ifnonnull (tgt := 27) hx hb dX9_rewardFor_22 (by decide) ?_
      refine lv_aload_n hx hb dX9_rewardFor_27 rfl (lv_at hl 2 rfl) ?_
      refine lv_aload_n hx hb dX9_rewardFor_28 rfl (lv_at hl 1 rfl) ?_
      refine ro_V (As := [.ref (b 1 k1)]) (rest := []) ⟨hx, hb, hml, hown, hts⟩ (c_X9_worthNow l D cT a b T P n k1 hn (by omega)) (cwV 1 hts gX9_rewardFor_X9_worthNow rfl rfl rfl (by decide +kernel) ⟨Nat.le_of_ble_eq_true rfl, Nat.le_of_ble_eq_true rfl⟩) hE hP 0 9 ofl_0 rfl rfl rfl hl.1 rfl (Nat.le_of_ble_eq_true rfl) dX9_rewardFor_29 ⟨Nat.zero_le _, Nat.zero_le _⟩ ?_
      refine lv_istore (lv' := [(5, .int (worV T n k1)), (4, .ref (b 0 q2)), (3, .ref (b 1 k1)), (0, .ref (a 0)), (1, .int (nI k1)), (2, .int pe)]) hx hb dX9_rewardFor_32 hl (by decide) rfl (fun ls hl => ?_)
      refine lv_iload hx hb dX9_rewardFor_34 (lv_at hl 0 rfl) ?_
      refine lv_aload hx hb dX9_rewardFor_36 (lv_at hl 1 rfl) ?_
      have hq_3 := off_law (k := q2) hP (by omega)
      refine va_get (D := D) (ci := 4) (v := .int (T 19 q2)) (C := RX4) (T := TX4) (N := 5) hx hb hts hiX4 hown hE.1 hq_3 0 rfl rfl 3 (by decide) (hts (.fieldLink RX9 248 "FindsOffice$Law" "percent" "I") (by decide +kernel)) (fun _ h9 => h9) rfl dX9_rewardFor_38 ?_
      refine lv_imul hx hb dX9_rewardFor_41 ?_
      refine lv_bipush (v := 100) hx hb dX9_rewardFor_42 (by decide) ?_
      refine lv_idiv hx hb dX9_rewardFor_44 (by decide) ?_
      refine lv_istore (lv' := [(6, .int (((worV T n k1) * (T 19 q2)) / 100)), (5, .int (worV T n k1)), (4, .ref (b 0 q2)), (3, .ref (b 1 k1)), (0, .ref (a 0)), (1, .int (nI k1)), (2, .int pe)]) hx hb dX9_rewardFor_45 hl (by decide) rfl (fun ls hl => ?_)
      have J_61 : ∀ (v : Int32), v = (if T 9 k1 = pe then worV T n k1 * T 19 q2 / 100 else 0) → ∀ (ls : Array Slot), lv_has ls 8 [(6, .int (((worV T n k1) * (T 19 q2)) / 100)), (5, .int (worV T n k1)), (4, .ref (b 0 q2)), (3, .ref (b 1 k1)), (0, .ref (a 0)), (1, .int (nI k1)), (2, .int pe)] → W p l e ({ frames := 4, cells := 0, slots := 0, locals := 95 }) s m (List.toArray [.ref (a 0), .int (nI k1), .int pe]) below meth c s.heap [] 0 0 (MQ below (QR (.int (rwdV T P n (nI k1) pe))) (List.toArray [.ref (a 0), .int (nI k1), .int pe]) s 0 0 (fun _ => False)) (F0 m 61 ls [.int v]) := by
        intro v hv ls hl
        subst hv
        refine lv_istore (lv' := [(7, .int (if T 9 k1 = pe then worV T n k1 * T 19 q2 / 100 else 0)), (6, .int (((worV T n k1) * (T 19 q2)) / 100)), (5, .int (worV T n k1)), (4, .ref (b 0 q2)), (3, .ref (b 1 k1)), (0, .ref (a 0)), (1, .int (nI k1)), (2, .int pe)]) hx hb dX9_rewardFor_61 hl (by decide) rfl (fun ls hl => ?_)
        refine lv_aload_n hx hb dX9_rewardFor_63 rfl (lv_at hl 5 rfl) ?_
        refine lv_aload_n hx hb dX9_rewardFor_64 rfl (lv_at hl 4 rfl) ?_
        refine ro_V (As := [.ref (b 1 k1)]) (rest := []) ⟨hx, hb, hml, hown, hts⟩ (c_X9_landownerOf l D cT a b T P n k1 hn hpos (by omega)) (cwV 1 hts gX9_rewardFor_X9_landownerOf rfl rfl rfl (by decide +kernel) ⟨Nat.le_of_ble_eq_true rfl, Nat.le_of_ble_eq_true rfl⟩) hE hP 0 9 ofl_0 rfl rfl rfl hl.1 rfl (Nat.le_of_ble_eq_true rfl) dX9_rewardFor_65 ⟨Nat.zero_le _, Nat.zero_le _⟩ ?_
        refine lv_iload_n hx hb dX9_rewardFor_68 rfl (lv_at hl 7 rfl) ?_
        refine lv_icmp_ne (tgt := 83) hx hb dX9_rewardFor_69 (by decide) (fun c_4 => ?_) (fun c_4 => ?_)
        · refine lv_iload hx hb dX9_rewardFor_83 (lv_at hl 0 rfl) ?_
          exact ro_iret hx hb hr hlocks (by simp [rwdV, isT_nI hk1 (show n 1 < 2 ^ 31 by omega), nI_clamp (show k1 < 2 ^ 31 by omega), shV, ho2, c_4]) dX9_rewardFor_85
        · refine lv_iload hx hb dX9_rewardFor_72 (lv_at hl 0 rfl) ?_
          refine lv_iload hx hb dX9_rewardFor_74 (lv_at hl 2 rfl) ?_
          refine lv_iadd hx hb dX9_rewardFor_76 ?_
          refine lv_iload hx hb dX9_rewardFor_77 (lv_at hl 1 rfl) ?_
          refine lv_isub hx hb dX9_rewardFor_79 ?_
          refine lv_goto (tgt := 85) hx hb dX9_rewardFor_80 (by decide) ?_
          exact ro_iret hx hb hr hlocks (by simp [rwdV, isT_nI hk1 (show n 1 < 2 ^ 31 by omega), nI_clamp (show k1 < 2 ^ 31 by omega), shV, ho2, c_4]) dX9_rewardFor_85
      refine lv_aload_n hx hb dX9_rewardFor_47 rfl (lv_at hl 3 rfl) ?_
      have hq_5 := off_find (k := k1) hP (by omega)
      refine va_get (D := D) (ci := 1) (v := .int (T 9 k1)) (C := RX1) (T := TX1) (N := 11) hx hb hts hiX1 hown hE.1 hq_5 0 rfl rfl 8 (by decide) (hts (.fieldLink RX9 130 "FindsOffice$Find" "finder" "I") (by decide +kernel)) (fun _ h9 => h9) rfl dX9_rewardFor_48 ?_
      refine lv_iload_n hx hb dX9_rewardFor_51 rfl (lv_at hl 6 rfl) ?_
      refine lv_icmp_ne (tgt := 60) hx hb dX9_rewardFor_52 (by decide) (fun c_6 => ?_) (fun c_6 => ?_)
      · refine lv_iconst (v := 0) hx hb dX9_rewardFor_60 (by decide) ?_
        exact J_61 _ (by first | rfl | (simp [b2, btw, ho2, c_6]; done)) ls (lv_sub hl [0, 1, 2, 3, 4, 5, 6] rfl)
      · refine lv_iload hx hb dX9_rewardFor_55 (lv_at hl 0 rfl) ?_
        refine lv_goto (tgt := 61) hx hb dX9_rewardFor_57 (by decide) ?_
        exact J_61 _ (by first | rfl | (simp [b2, btw, ho2, c_6]; done)) ls (lv_sub hl [0, 1, 2, 3, 4, 5, 6] rfl)
  · refine topv_eq hv1 ?_
    refine lv_astore_nN (lv' := [(3, .null), (0, .ref (a 0)), (1, .int i), (2, .int pe)]) hx hb dX9_rewardFor_8 rfl hl (by decide) rfl (fun ls hl => ?_)
    refine lv_aload_n hx hb dX9_rewardFor_9 rfl (lv_at hl 1 rfl) ?_
    refine lv_iload_n hx hb dX9_rewardFor_10 rfl (lv_at hl 2 rfl) ?_
    refine ro_V (As := [.int i]) (rest := []) ⟨hx, hb, hml, hown, hts⟩ (c_X9_lawThatCounts l D cT a b T P n i hn) (cwV 1 hts gX9_rewardFor_X9_lawThatCounts rfl rfl rfl (by decide +kernel) ⟨Nat.le_of_ble_eq_true rfl, Nat.le_of_ble_eq_true rfl⟩) hE hP 0 9 ofl_0 rfl rfl rfl hl.1 rfl (Nat.le_of_ble_eq_true rfl) dX9_rewardFor_11 ⟨Nat.zero_le _, Nat.zero_le _⟩ ?_
    rcases ho7 : (lctO T P n i) with _ | q7
    · refine topv_eq (y := .null) rfl ?_
      refine lv_astoreN (lv' := [(4, .null), (3, .null), (0, .ref (a 0)), (1, .int i), (2, .int pe)]) hx hb dX9_rewardFor_14 hl (by decide) rfl (fun ls hl => ?_)
      refine lv_aload_nN hx hb dX9_rewardFor_16 rfl (lv_at hl 1 rfl) ?_
      refine lv_ifnullN (tgt := 25) hx hb dX9_rewardFor_17 (by decide) ?_
      refine lv_iconst (v := 0) hx hb dX9_rewardFor_25 (by decide) ?_
      exact ro_iret hx hb hr hlocks (by simp [rwdV, hf1, ho7]) dX9_rewardFor_26
    · refine topv_eq (y := .ref (b 0 q7)) rfl ?_
      have hq7 := lctO_lt ho7
      refine lv_astore (lv' := [(4, .ref (b 0 q7)), (3, .null), (0, .ref (a 0)), (1, .int i), (2, .int pe)]) hx hb dX9_rewardFor_14 hl (by decide) rfl (fun ls hl => ?_)
      refine lv_aload_nN hx hb dX9_rewardFor_16 rfl (lv_at hl 1 rfl) ?_
      refine lv_ifnullN (tgt := 25) hx hb dX9_rewardFor_17 (by decide) ?_
      refine lv_iconst (v := 0) hx hb dX9_rewardFor_25 (by decide) ?_
      exact ro_iret hx hb hr hlocks (by simp [rwdV, hf1, ho7]) dX9_rewardFor_26
set_option maxHeartbeats 4000000 in
set_option maxRecDepth 100000 in
theorem c_X9_told (l : Launch) (D : va_G) (cT : Nat → ClassId) (a : Nat → Nat) (b : Nat → Nat → Nat) (T P : Nat → Nat → Int32) (n : Nat → Nat) (i what : Int32) (hn : Cnt n) (hpos : ∀ k, k < n 4 → ¬ T 23 k < 0) : Met l yX9_told wsX9_told ({ frames := 2, cells := 0, slots := 0, locals := 46 }) (va_Pc [.ref (a 0), .int i, .int what] (PB D cT (offW cT a b T P n))) (QR (.int (tdV T n i what))) 0 0 (fun _ => False) := by
  refine RO_of (by decide) rfl (Nat.le_of_ble_eq_true rfl) ?_
  intro p e s m below meth c hx hb hr hts hown hlocks hml hE hP ls hl
  have hiX1 : ∀ w ∈ wsX10, w ∈ wsX9_told := by decide +kernel
  have hiX9 : ∀ w ∈ wsX90, w ∈ wsX9_told := by decide +kernel
  have hl : lv_has ls 4 [(0, .ref (a 0)), (1, .int i), (2, .int what)] := hl
  obtain ⟨hn0, hn1, hn2, hn3, hn4⟩ := id hn
  refine lv_aload_n hx hb dX9_told_0 rfl (lv_at hl 0 rfl) ?_
  refine va_get (D := D) (ci := 9) (v := .ref (a 7)) (C := RX9) (T := TX9) (N := 7) hx hb hts hiX9 hown hE.1 hP 0 ofl_0 rfl 3 (by decide) (hts (.fieldLink RX9 30 "FindsOffice" "findBook" "LFindsOffice$FindBook;") (by decide +kernel)) (fun _ h9 => h9) rfl dX9_told_1 ?_
  refine lv_iload_n hx hb dX9_told_4 rfl (lv_at hl 1 rfl) ?_
  refine ro_V (As := [.int i]) (rest := []) ⟨hx, hb, hml, hown, hts⟩ (c_X2_numbered l D cT a b T P n i hn) (cwV 1 hts gX9_told_X2_numbered rfl rfl rfl (by decide +kernel) ⟨Nat.le_of_ble_eq_true rfl, Nat.le_of_ble_eq_true rfl⟩) hE hP 7 2 ofl_7 rfl rfl rfl hl.1 rfl (Nat.le_of_ble_eq_true rfl) dX9_told_5 ⟨Nat.zero_le _, Nat.zero_le _⟩ ?_
  rcases nuV_cases (b 1) (n 1) i (by omega) with ⟨k1, hk1, rfl, hv1⟩ | ⟨hf1, hv1⟩
  · refine topv_eq hv1 ?_
    refine lv_astore_n (lv' := [(3, .ref (b 1 k1)), (0, .ref (a 0)), (1, .int (nI k1)), (2, .int what)]) hx hb dX9_told_8 rfl hl (by decide) rfl (fun ls hl => ?_)
    refine lv_aload_n hx hb dX9_told_9 rfl (lv_at hl 0 rfl) ?_
    refine lv_ifnonnull (tgt := 16) hx hb dX9_told_10 (by decide) ?_
    refine lv_iload_n hx hb dX9_told_16 rfl (lv_at hl 3 rfl) ?_
    rcases pk_ix what (n := 10) (by decide) with hsw | hsw | ⟨jsw, hjsw, rfl⟩
    · refine lv_tableOut (tgt := 123) hx hb dX9_told_17 (Or.inl (tsw_lo hsw)) (by decide) ?_
      refine lv_ldc (own := RX9) (v := (-2147483648)) hx hb hown (hts (.constant RX9 108 (-2147483648)) (by decide +kernel)) dX9_told_123 ?_
      exact ro_iret hx hb hr hlocks (by rw [tdV_at hk1 hn1]; first | simp [isT_lo hsw] | (rw [isT_hi (m := 10) hsw]; rfl)) dX9_told_125
    · refine lv_tableOut (tgt := 123) hx hb dX9_told_17 (Or.inr (tsw_hi (n := 9) hsw (by decide))) (by decide) ?_
      refine lv_ldc (own := RX9) (v := (-2147483648)) hx hb hown (hts (.constant RX9 108 (-2147483648)) (by decide +kernel)) dX9_told_123 ?_
      exact ro_iret hx hb hr hlocks (by rw [tdV_at hk1 hn1]; first | simp [isT_lo hsw] | (rw [isT_hi (m := 10) hsw]; rfl)) dX9_told_125
    · rcases (show jsw = 0 ∨ jsw = 1 ∨ jsw = 2 ∨ jsw = 3 ∨ jsw = 4 ∨ jsw = 5 ∨ jsw = 6 ∨ jsw = 7 ∨ jsw = 8 ∨ jsw = 9 by omega) with rfl | rfl | rfl | rfl | rfl | rfl | rfl | rfl | rfl | rfl
      · refine lv_tableIn (x := nI 0) (off := 55) (tgt := 72) hx hb dX9_told_17 (by decide) (by decide) rfl (by decide) ?_
        refine lv_aload_n hx hb dX9_told_72 rfl (lv_at hl 0 rfl) ?_
        have hq_2 := off_find (k := k1) hP (by omega)
        refine va_get (D := D) (ci := 1) (v := .int (T 10 k1)) (C := RX1) (T := TX1) (N := 11) hx hb hts hiX1 hown hE.1 hq_2 0 rfl rfl 7 (by decide) (hts (.fieldLink RX9 109 "FindsOffice$Find" "found" "I") (by decide +kernel)) (fun _ h9 => h9) rfl dX9_told_73 ?_
        exact ro_iret hx hb hr hlocks (by rw [tdV_at hk1 hn1]; rfl) dX9_told_76
      · refine lv_tableIn (x := nI 1) (off := 60) (tgt := 77) hx hb dX9_told_17 (by decide) (by decide) rfl (by decide) ?_
        refine lv_aload_n hx hb dX9_told_77 rfl (lv_at hl 0 rfl) ?_
        have hq_3 := off_find (k := k1) hP (by omega)
        refine va_get (D := D) (ci := 1) (v := .int (T 11 k1)) (C := RX1) (T := TX1) (N := 11) hx hb hts hiX1 hown hE.1 hq_3 0 rfl rfl 9 (by decide) (hts (.fieldLink RX9 112 "FindsOffice$Find" "known" "I") (by decide +kernel)) (fun _ h9 => h9) rfl dX9_told_78 ?_
        exact ro_iret hx hb hr hlocks (by rw [tdV_at hk1 hn1]; rfl) dX9_told_81
      · refine lv_tableIn (x := nI 2) (off := 65) (tgt := 82) hx hb dX9_told_17 (by decide) (by decide) rfl (by decide) ?_
        refine lv_aload_n hx hb dX9_told_82 rfl (lv_at hl 0 rfl) ?_
        have hq_4 := off_find (k := k1) hP (by omega)
        refine va_get (D := D) (ci := 1) (v := .int (T 4 k1)) (C := RX1) (T := TX1) (N := 11) hx hb hts hiX1 hown hE.1 hq_4 0 rfl rfl 2 (by decide) (hts (.fieldLink RX9 115 "FindsOffice$Find" "metal" "I") (by decide +kernel)) (fun _ h9 => h9) rfl dX9_told_83 ?_
        exact ro_iret hx hb hr hlocks (by rw [tdV_at hk1 hn1]; rfl) dX9_told_86
      · refine lv_tableIn (x := nI 3) (off := 70) (tgt := 87) hx hb dX9_told_17 (by decide) (by decide) rfl (by decide) ?_
        refine lv_aload_n hx hb dX9_told_87 rfl (lv_at hl 0 rfl) ?_
        have hq_5 := off_find (k := k1) hP (by omega)
        refine va_get (D := D) (ci := 1) (v := .int (T 5 k1)) (C := RX1) (T := TX1) (N := 11) hx hb hts hiX1 hown hE.1 hq_5 0 rfl rfl 3 (by decide) (hts (.fieldLink RX9 118 "FindsOffice$Find" "purity" "I") (by decide +kernel)) (fun _ h9 => h9) rfl dX9_told_88 ?_
        exact ro_iret hx hb hr hlocks (by rw [tdV_at hk1 hn1]; rfl) dX9_told_91
      · refine lv_tableIn (x := nI 4) (off := 75) (tgt := 92) hx hb dX9_told_17 (by decide) (by decide) rfl (by decide) ?_
        refine lv_aload_n hx hb dX9_told_92 rfl (lv_at hl 0 rfl) ?_
        have hq_6 := off_find (k := k1) hP (by omega)
        refine va_get (D := D) (ci := 1) (v := .int (T 6 k1)) (C := RX1) (T := TX1) (N := 11) hx hb hts hiX1 hown hE.1 hq_6 0 rfl rfl 4 (by decide) (hts (.fieldLink RX9 121 "FindsOffice$Find" "weight" "I") (by decide +kernel)) (fun _ h9 => h9) rfl dX9_told_93 ?_
        exact ro_iret hx hb hr hlocks (by rw [tdV_at hk1 hn1]; rfl) dX9_told_96
      · refine lv_tableIn (x := nI 5) (off := 80) (tgt := 97) hx hb dX9_told_17 (by decide) (by decide) rfl (by decide) ?_
        refine lv_aload_n hx hb dX9_told_97 rfl (lv_at hl 0 rfl) ?_
        have hq_7 := off_find (k := k1) hP (by omega)
        refine va_get (D := D) (ci := 1) (v := .int (T 7 k1)) (C := RX1) (T := TX1) (N := 11) hx hb hts hiX1 hown hE.1 hq_7 0 rfl rfl 5 (by decide) (hts (.fieldLink RX9 124 "FindsOffice$Find" "firstYear" "I") (by decide +kernel)) (fun _ h9 => h9) rfl dX9_told_98 ?_
        exact ro_iret hx hb hr hlocks (by rw [tdV_at hk1 hn1]; rfl) dX9_told_101
      · refine lv_tableIn (x := nI 6) (off := 85) (tgt := 102) hx hb dX9_told_17 (by decide) (by decide) rfl (by decide) ?_
        refine lv_aload_n hx hb dX9_told_102 rfl (lv_at hl 0 rfl) ?_
        have hq_8 := off_find (k := k1) hP (by omega)
        refine va_get (D := D) (ci := 1) (v := .int (T 8 k1)) (C := RX1) (T := TX1) (N := 11) hx hb hts hiX1 hown hE.1 hq_8 0 rfl rfl 6 (by decide) (hts (.fieldLink RX9 127 "FindsOffice$Find" "lastYear" "I") (by decide +kernel)) (fun _ h9 => h9) rfl dX9_told_103 ?_
        exact ro_iret hx hb hr hlocks (by rw [tdV_at hk1 hn1]; rfl) dX9_told_106
      · refine lv_tableIn (x := nI 7) (off := 90) (tgt := 107) hx hb dX9_told_17 (by decide) (by decide) rfl (by decide) ?_
        refine lv_aload_n hx hb dX9_told_107 rfl (lv_at hl 0 rfl) ?_
        have hq_9 := off_find (k := k1) hP (by omega)
        refine va_get (D := D) (ci := 1) (v := .int (T 9 k1)) (C := RX1) (T := TX1) (N := 11) hx hb hts hiX1 hown hE.1 hq_9 0 rfl rfl 8 (by decide) (hts (.fieldLink RX9 130 "FindsOffice$Find" "finder" "I") (by decide +kernel)) (fun _ h9 => h9) rfl dX9_told_108 ?_
        exact ro_iret hx hb hr hlocks (by rw [tdV_at hk1 hn1]; rfl) dX9_told_111
      · refine lv_tableIn (x := nI 8) (off := 95) (tgt := 112) hx hb dX9_told_17 (by decide) (by decide) rfl (by decide) ?_
        refine lv_aload_n hx hb dX9_told_112 rfl (lv_at hl 1 rfl) ?_
        refine lv_aload_n hx hb dX9_told_113 rfl (lv_at hl 0 rfl) ?_
        refine ro_V (As := [.ref (b 1 k1)]) (rest := []) ⟨hx, hb, hml, hown, hts⟩ (c_X9_landownerOf l D cT a b T P n k1 hn hpos (by omega)) (cwV 1 hts gX9_told_X9_landownerOf rfl rfl rfl (by decide +kernel) ⟨Nat.le_of_ble_eq_true rfl, Nat.le_of_ble_eq_true rfl⟩) hE hP 0 9 ofl_0 rfl rfl rfl hl.1 rfl (Nat.le_of_ble_eq_true rfl) dX9_told_114 ⟨Nat.zero_le _, Nat.zero_le _⟩ ?_
        exact ro_iret hx hb hr hlocks (by rw [tdV_at hk1 hn1]; rfl) dX9_told_117
      · refine lv_tableIn (x := nI 9) (off := 101) (tgt := 118) hx hb dX9_told_17 (by decide) (by decide) rfl (by decide) ?_
        refine lv_aload_n hx hb dX9_told_118 rfl (lv_at hl 0 rfl) ?_
        have hq_10 := off_find (k := k1) hP (by omega)
        refine va_get (D := D) (ci := 1) (v := .int (T 12 k1)) (C := RX1) (T := TX1) (N := 11) hx hb hts hiX1 hown hE.1 hq_10 0 rfl rfl 10 (by decide) (hts (.fieldLink RX9 136 "FindsOffice$Find" "keeper" "I") (by decide +kernel)) (fun _ h9 => h9) rfl dX9_told_119 ?_
        exact ro_iret hx hb hr hlocks (by rw [tdV_at hk1 hn1]; rfl) dX9_told_122
  · refine topv_eq hv1 ?_
    refine lv_astore_nN (lv' := [(3, .null), (0, .ref (a 0)), (1, .int i), (2, .int what)]) hx hb dX9_told_8 rfl hl (by decide) rfl (fun ls hl => ?_)
    refine lv_aload_nN hx hb dX9_told_9 rfl (lv_at hl 0 rfl) ?_
    refine lv_ifnonnullN hx hb dX9_told_10 ?_
    refine lv_ldc (own := RX9) (v := (-2147483648)) hx hb hown (hts (.constant RX9 108 (-2147483648)) (by decide +kernel)) dX9_told_13 ?_
    exact ro_iret hx hb hr hlocks (by simp [tdV, hf1]) dX9_told_15
set_option maxHeartbeats 4000000 in
set_option maxRecDepth 100000 in
theorem c_X9_worth (l : Launch) (D : va_G) (cT : Nat → ClassId) (a : Nat → Nat) (b : Nat → Nat → Nat) (T P : Nat → Nat → Int32) (n : Nat → Nat) (i : Int32) (hn : Cnt n) : Met l yX9_worth wsX9_worth ({ frames := 4, cells := 0, slots := 0, locals := 95 }) (va_Pc [.ref (a 0), .int i] (PB D cT (offW cT a b T P n))) (QR (.int (wrV T n i))) 0 0 (fun _ => False) := by
  refine RO_of (by decide) rfl (Nat.le_of_ble_eq_true rfl) ?_
  intro p e s m below meth c hx hb hr hts hown hlocks hml hE hP ls hl
  have hiX9 : ∀ w ∈ wsX90, w ∈ wsX9_worth := by decide +kernel
  have hl : lv_has ls 3 [(0, .ref (a 0)), (1, .int i)] := hl
  obtain ⟨hn0, hn1, hn2, hn3, hn4⟩ := id hn
  refine lv_aload_n hx hb dX9_worth_0 rfl (lv_at hl 0 rfl) ?_
  refine va_get (D := D) (ci := 9) (v := .ref (a 7)) (C := RX9) (T := TX9) (N := 7) hx hb hts hiX9 hown hE.1 hP 0 ofl_0 rfl 3 (by decide) (hts (.fieldLink RX9 30 "FindsOffice" "findBook" "LFindsOffice$FindBook;") (by decide +kernel)) (fun _ h9 => h9) rfl dX9_worth_1 ?_
  refine lv_iload_n hx hb dX9_worth_4 rfl (lv_at hl 1 rfl) ?_
  refine ro_V (As := [.int i]) (rest := []) ⟨hx, hb, hml, hown, hts⟩ (c_X2_numbered l D cT a b T P n i hn) (cwV 1 hts gX9_worth_X2_numbered rfl rfl rfl (by decide +kernel) ⟨Nat.le_of_ble_eq_true rfl, Nat.le_of_ble_eq_true rfl⟩) hE hP 7 2 ofl_7 rfl rfl rfl hl.1 rfl (Nat.le_of_ble_eq_true rfl) dX9_worth_5 ⟨Nat.zero_le _, Nat.zero_le _⟩ ?_
  rcases nuV_cases (b 1) (n 1) i (by omega) with ⟨k1, hk1, rfl, hv1⟩ | ⟨hf1, hv1⟩
  · refine topv_eq hv1 ?_
    refine lv_astore_n (lv' := [(2, .ref (b 1 k1)), (0, .ref (a 0)), (1, .int (nI k1))]) hx hb dX9_worth_8 rfl hl (by decide) rfl (fun ls hl => ?_)
    refine lv_aload_n hx hb dX9_worth_9 rfl (lv_at hl 0 rfl) ?_
    refine lv_ifnonnull (tgt := 17) hx hb dX9_worth_10 (by decide) ?_
    refine lv_aload_n hx hb dX9_worth_17 rfl (lv_at hl 1 rfl) ?_
    refine lv_aload_n hx hb dX9_worth_18 rfl (lv_at hl 0 rfl) ?_
    refine ro_V (As := [.ref (b 1 k1)]) (rest := []) ⟨hx, hb, hml, hown, hts⟩ (c_X9_worthNow l D cT a b T P n k1 hn (by omega)) (cwV 1 hts gX9_worth_X9_worthNow rfl rfl rfl (by decide +kernel) ⟨Nat.le_of_ble_eq_true rfl, Nat.le_of_ble_eq_true rfl⟩) hE hP 0 9 ofl_0 rfl rfl rfl hl.1 rfl (Nat.le_of_ble_eq_true rfl) dX9_worth_19 ⟨Nat.zero_le _, Nat.zero_le _⟩ ?_
    exact ro_iret hx hb hr hlocks (by rw [wrV, if_pos (isT_nI hk1 (by omega)), nI_clamp (by omega)]) dX9_worth_22
  · refine topv_eq hv1 ?_
    refine lv_astore_nN (lv' := [(2, .null), (0, .ref (a 0)), (1, .int i)]) hx hb dX9_worth_8 rfl hl (by decide) rfl (fun ls hl => ?_)
    refine lv_aload_nN hx hb dX9_worth_9 rfl (lv_at hl 0 rfl) ?_
    refine lv_ifnonnullN hx hb dX9_worth_10 ?_
    refine lv_iconst (v := (-1)) hx hb dX9_worth_13 (by decide) ?_
    refine lv_goto (tgt := 22) hx hb dX9_worth_14 (by decide) ?_
    exact ro_iret hx hb hr hlocks (by simp [wrV, hf1]) dX9_worth_22
set_option maxHeartbeats 4000000 in
set_option maxRecDepth 100000 in
theorem c_X9_paid (l : Launch) (D : va_G) (cT : Nat → ClassId) (a : Nat → Nat) (b : Nat → Nat → Nat) (T P : Nat → Nat → Int32) (n : Nat → Nat) (pe : Int32) (hn : Cnt n) : Met l yX9_paid wsX9_paid ({ frames := 2, cells := 0, slots := 0, locals := 42 }) (va_Pc [.ref (a 0), .int pe] (PB D cT (offW cT a b T P n))) (QR (.int (pdV T pe))) 0 0 (fun _ => False) := by
  refine RO_of (by decide) rfl (Nat.le_of_ble_eq_true rfl) ?_
  intro p e s m below meth c hx hb hr hts hown hlocks hml hE hP ls hl
  have hiX9 : ∀ w ∈ wsX90, w ∈ wsX9_paid := by decide +kernel
  have hl : lv_has ls 2 [(0, .ref (a 0)), (1, .int pe)] := hl
  obtain ⟨hn0, hn1, hn2, hn3, hn4⟩ := id hn
  refine lv_iload_n hx hb dX9_paid_0 rfl (lv_at hl 1 rfl) ?_
  refine ro_S (As := [.int pe]) (rest := []) ⟨hx, hb, hml, hown, hts⟩ (c_X9_isPerson l D cT pe ) (va_cwS 1 hts gX9_paid_X9_isPerson rfl rfl rfl (by decide +kernel) ⟨Nat.le_of_ble_eq_true rfl, Nat.le_of_ble_eq_true rfl⟩) hE va_P_nil  rfl hl.1 rfl (Nat.le_of_ble_eq_true rfl) dX9_paid_1 ⟨Nat.zero_le _, Nat.zero_le _⟩ ?_
  refine bi_eq (tgt := 16) hx hb dX9_paid_4 (by decide) (fun c_1 => ?_) (fun c_1 => ?_)
  · rw [btw29] at c_1
    refine lv_iconst (v := 0) hx hb dX9_paid_16 (by decide) ?_
    exact ro_iret hx hb hr hlocks (by simp [pdV, c_1]) dX9_paid_17
  · rw [btw29] at c_1
    obtain ⟨k, hk, rfl⟩ := isT_k c_1 (by decide)
    refine lv_aload_n hx hb dX9_paid_7 rfl (lv_at hl 0 rfl) ?_
    refine va_get (D := D) (ci := 9) (v := .ref (a 18)) (C := RX9) (T := TX9) (N := 7) hx hb hts hiX9 hown hE.1 hP 0 ofl_0 rfl 6 (by decide) (hts (.fieldLink RX9 48 "FindsOffice" "paidTo" "[I") (by decide +kernel)) (fun _ h9 => h9) rfl dX9_paid_8 ?_
    refine lv_iload_n hx hb dX9_paid_11 rfl (lv_at hl 1 rfl) ?_
    refine my_iald (k := k) hx hb hE.1 hP 18 0 ofl_18 rfl rfl (by omega) (by decide) dX9_paid_12 ?_
    refine lv_goto (tgt := 17) hx hb dX9_paid_13 (by decide) ?_
    exact ro_iret hx hb hr hlocks (by rw [pdV, if_pos (isT_nI hk (by decide)), nI_clamp (by omega)]) dX9_paid_17
set_option maxHeartbeats 4000000 in
set_option maxRecDepth 100000 in
theorem c_X9_spent (l : Launch) (D : va_G) (cT : Nat → ClassId) (a : Nat → Nat) (b : Nat → Nat → Nat) (T P : Nat → Nat → Int32) (n : Nat → Nat) (i : Int32) (hn : Cnt n) : Met l yX9_spent wsX9_spent ({ frames := 1, cells := 0, slots := 0, locals := 21 }) (va_Pc [.ref (a 0), .int i] (PB D cT (offW cT a b T P n))) (QR (.int (spV T n i))) 0 0 (fun _ => False) := by
  refine RO_of (by decide) rfl (Nat.le_of_ble_eq_true rfl) ?_
  intro p e s m below meth c hx hb hr hts hown hlocks hml hE hP ls hl
  have hiX7 : ∀ w ∈ wsX70, w ∈ wsX9_spent := by decide +kernel
  have hiX9 : ∀ w ∈ wsX90, w ∈ wsX9_spent := by decide +kernel
  have hl : lv_has ls 3 [(0, .ref (a 0)), (1, .int i)] := hl
  obtain ⟨hn0, hn1, hn2, hn3, hn4⟩ := id hn
  refine lv_aload_n hx hb dX9_spent_0 rfl (lv_at hl 0 rfl) ?_
  refine va_get (D := D) (ci := 9) (v := .ref (a 16)) (C := RX9) (T := TX9) (N := 7) hx hb hts hiX9 hown hE.1 hP 0 ofl_0 rfl 5 (by decide) (hts (.fieldLink RX9 44 "FindsOffice" "circle" "LFindsOffice$Circle;") (by decide +kernel)) (fun _ h9 => h9) rfl dX9_spent_1 ?_
  refine lv_iload_n hx hb dX9_spent_4 rfl (lv_at hl 1 rfl) ?_
  refine ro_V (As := [.int i]) (rest := []) ⟨hx, hb, hml, hown, hts⟩ (c_X0_numbered l D cT a b T P n i hn) (cwV 1 hts gX9_spent_X0_numbered rfl rfl rfl (by decide +kernel) ⟨Nat.le_of_ble_eq_true rfl, Nat.le_of_ble_eq_true rfl⟩) hE hP 16 0 ofl_16 rfl rfl rfl hl.1 rfl (Nat.le_of_ble_eq_true rfl) dX9_spent_5 ⟨Nat.zero_le _, Nat.zero_le _⟩ ?_
  rcases nuV_cases (b 3) (n 3) i (by omega) with ⟨k1, hk1, rfl, hv1⟩ | ⟨hf1, hv1⟩
  · refine topv_eq hv1 ?_
    refine lv_astore_n (lv' := [(2, .ref (b 3 k1)), (0, .ref (a 0)), (1, .int (nI k1))]) hx hb dX9_spent_8 rfl hl (by decide) rfl (fun ls hl => ?_)
    refine lv_aload_n hx hb dX9_spent_9 rfl (lv_at hl 0 rfl) ?_
    refine lv_ifnonnull (tgt := 17) hx hb dX9_spent_10 (by decide) ?_
    refine lv_aload_n hx hb dX9_spent_17 rfl (lv_at hl 0 rfl) ?_
    have hq_2 := off_museum (k := k1) hP (by omega)
    refine va_get (D := D) (ci := 7) (v := .int (T 35 k1)) (C := RX7) (T := TX7) (N := 3) hx hb hts hiX7 hown hE.1 hq_2 0 rfl rfl 2 (by decide) (hts (.fieldLink RX9 195 "FindsOffice$Museum" "outlay" "I") (by decide +kernel)) (fun _ h9 => h9) rfl dX9_spent_18 ?_
    exact ro_iret hx hb hr hlocks (by rw [spV, if_pos (isT_nI hk1 (by omega)), nI_clamp (by omega)]) dX9_spent_21
  · refine topv_eq hv1 ?_
    refine lv_astore_nN (lv' := [(2, .null), (0, .ref (a 0)), (1, .int i)]) hx hb dX9_spent_8 rfl hl (by decide) rfl (fun ls hl => ?_)
    refine lv_aload_nN hx hb dX9_spent_9 rfl (lv_at hl 0 rfl) ?_
    refine lv_ifnonnullN hx hb dX9_spent_10 ?_
    refine lv_iconst (v := (-1)) hx hb dX9_spent_13 (by decide) ?_
    refine lv_goto (tgt := 21) hx hb dX9_spent_14 (by decide) ?_
    exact ro_iret hx hb hr hlocks (by simp [spV, hf1]) dX9_spent_21
end
