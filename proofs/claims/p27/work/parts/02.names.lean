/-! ===== BEGIN words of one list among another's, by their places ===== -/
theorem goodIn_r {big : List Cond} (ws : List Cond) (ps : List Nat) (hp : ws = ps.filterMap (fun i => big[i]?)) (h : ws.all goodWord = true) : GoodIn big ws := by
  intro w hw
  have h1 := List.all_eq_true.mp h w hw
  rw [hp] at hw
  obtain ⟨i, -, hi⟩ := List.mem_filterMap.mp hw
  have hm : w ∈ big := by first | exact List.mem_of_getElem? hi | exact List.getElem?_mem hi
  exact ⟨hm, good_of_word h1⟩
theorem goodIn_app {big a b : List Cond} (ha : GoodIn big a) (hb : GoodIn big b) : GoodIn big (a ++ b) := fun w h => (List.mem_append.mp h).elim (ha w) (hb w)
theorem goodIn_ca {big a b : List Cond} {c : Cond} (ha : GoodIn big (c :: a)) (hb : GoodIn big b) : GoodIn big (c :: (a ++ b)) := fun w h => (List.mem_cons.mp h).elim (fun e => ha w (List.mem_cons.mpr (Or.inl e))) (fun h => (List.mem_append.mp h).elim (fun h => ha w (List.mem_cons.mpr (Or.inr h))) (hb w))
theorem goodIn_sub {big ws : List Cond} (hm : ∀ w ∈ ws, w ∈ big) (h : ws.all goodWord = true) : GoodIn big ws := fun w hw => ⟨hm w hw, good_of_word (List.all_eq_true.mp h w hw)⟩
/-! ===== END ===== -/

/-! ===== BEGIN printed: names, fields, word lists, decode rows ===== -/
def RX0 : String := "HutLoaves$Group"
def TX0 : u_T := fun k => match k with
  | 0 => ("HutLoaves$Group", "number", "I", false)
  | 1 => ("HutLoaves$Group", "persons", "I", false)
  | 2 => ("HutLoaves$Group", "firstDay", "I", false)
  | 3 => ("HutLoaves$Group", "nights", "I", false)
  | 4 => ("HutLoaves$Group", "paid", "I", false)
  | _ => ("HutLoaves$Group", "hungryDays", "I", false)
def tyX0 : Nat → FieldType := fun k => match k with
  | 0 => .int
  | 1 => .int
  | 2 => .int
  | 3 => .int
  | 4 => .int
  | _ => .int
abbrev wsX00 : List Cond := u_ws RX0 TX0 6
theorem nmX0 : ∀ a, a < 6 → ∀ b, b < 6 → a ≠ b → (TX0 a).2.1 ≠ (TX0 b).2.1 := by decide +kernel
theorem tyX0_ok : ∀ k, k < 6 → parseFieldDescriptor (TX0 k).2.2.1 = some (tyX0 k) := by decide +kernel
abbrev cX0_init : ByteArray := prog_2_method_1_code
def yX0_init : MethodName := ⟨RX0, "<init>", "()V"⟩
abbrev cX0_copyFrom : ByteArray := prog_2_method_2_code
def yX0_copyFrom : MethodName := ⟨RX0, "copyFrom", "(LHutLoaves$Group;)V"⟩
abbrev cX0_begin : ByteArray := prog_2_method_3_code
def yX0_begin : MethodName := ⟨RX0, "begin", "(IIII)V"⟩
abbrev cX0_loavesADay : ByteArray := prog_2_method_4_code
def yX0_loavesADay : MethodName := ⟨RX0, "loavesADay", "()I"⟩
abbrev cX0_isThereOn : ByteArray := prog_2_method_5_code
def yX0_isThereOn : MethodName := ⟨RX0, "isThereOn", "(I)Z"⟩
abbrev cX0_isGoneBy : ByteArray := prog_2_method_6_code
def yX0_isGoneBy : MethodName := ⟨RX0, "isGoneBy", "(I)Z"⟩
abbrev cX0_tell : ByteArray := prog_2_method_7_code
def yX0_tell : MethodName := ⟨RX0, "tell", "(II)I"⟩
def RX1 : String := "HutLoaves$History"
def TX1 : u_T := fun k => match k with
  | 0 => ("HutLoaves$History", "states", "[LHutLoaves$Hut;", true)
  | _ => ("HutLoaves$History", "size", "I", false)
def tyX1 : Nat → FieldType := fun k => match k with
  | 0 => .array (.object "HutLoaves$Hut")
  | _ => .int
abbrev wsX10 : List Cond := u_ws RX1 TX1 2
theorem nmX1 : ∀ a, a < 2 → ∀ b, b < 2 → a ≠ b → (TX1 a).2.1 ≠ (TX1 b).2.1 := by decide +kernel
theorem tyX1_ok : ∀ k, k < 2 → parseFieldDescriptor (TX1 k).2.2.1 = some (tyX1 k) := by decide +kernel
abbrev cX1_init : ByteArray := prog_3_method_1_code
def yX1_init : MethodName := ⟨RX1, "<init>", "()V"⟩
abbrev cX1_keep : ByteArray := prog_3_method_2_code
def yX1_keep : MethodName := ⟨RX1, "keep", "(LHutLoaves$Hut;)V"⟩
abbrev cX1_dropOldest : ByteArray := prog_3_method_3_code
def yX1_dropOldest : MethodName := ⟨RX1, "dropOldest", "()V"⟩
def RX2 : String := "HutLoaves$Hut"
def TX2 : u_T := fun k => match k with
  | 0 => ("HutLoaves$Hut", "mules", "[LHutLoaves$Mule;", true)
  | 1 => ("HutLoaves$Hut", "groups", "[LHutLoaves$Group;", true)
  | 2 => ("HutLoaves$Hut", "shelf", "LHutLoaves$Shelf;", true)
  | 3 => ("HutLoaves$Hut", "ledger", "LHutLoaves$Ledger;", true)
  | 4 => ("HutLoaves$Hut", "settings", "LHutLoaves$Settings;", true)
  | 5 => ("HutLoaves$Hut", "muleCount", "I", false)
  | 6 => ("HutLoaves$Hut", "booked", "I", false)
  | 7 => ("HutLoaves$Hut", "groupsSoFar", "I", false)
  | 8 => ("HutLoaves$Hut", "day", "I", false)
  | _ => ("HutLoaves$Hut", "x", "I", false)
def tyX2 : Nat → FieldType := fun k => match k with
  | 0 => .array (.object "HutLoaves$Mule")
  | 1 => .array (.object "HutLoaves$Group")
  | 2 => .object "HutLoaves$Shelf"
  | 3 => .object "HutLoaves$Ledger"
  | 4 => .object "HutLoaves$Settings"
  | 5 => .int
  | 6 => .int
  | 7 => .int
  | 8 => .int
  | _ => .int
abbrev wsX20 : List Cond := u_ws RX2 TX2 10
theorem nmX2 : ∀ a, a < 10 → ∀ b, b < 10 → a ≠ b → (TX2 a).2.1 ≠ (TX2 b).2.1 := by decide +kernel
theorem tyX2_ok : ∀ k, k < 10 → parseFieldDescriptor (TX2 k).2.2.1 = some (tyX2 k) := by decide +kernel
abbrev cX2_init : ByteArray := prog_4_method_1_code
def yX2_init : MethodName := ⟨RX2, "<init>", "()V"⟩
abbrev cX2_copyFrom : ByteArray := prog_4_method_2_code
def yX2_copyFrom : MethodName := ⟨RX2, "copyFrom", "(LHutLoaves$Hut;)V"⟩
abbrev cX2_muleAt : ByteArray := prog_4_method_3_code
def yX2_muleAt : MethodName := ⟨RX2, "muleAt", "(I)LHutLoaves$Mule;"⟩
abbrev cX2_groupAt : ByteArray := prog_4_method_4_code
def yX2_groupAt : MethodName := ⟨RX2, "groupAt", "(I)LHutLoaves$Group;"⟩
abbrev cX2_placeOfGroup : ByteArray := prog_4_method_5_code
def yX2_placeOfGroup : MethodName := ⟨RX2, "placeOfGroup", "(I)I"⟩
abbrev cX2_addMule : ByteArray := prog_4_method_6_code
def yX2_addMule : MethodName := ⟨RX2, "addMule", "(II)I"⟩
abbrev cX2_whyNot : ByteArray := prog_4_method_7_code
def yX2_whyNot : MethodName := ⟨RX2, "whyNot", "(II)I"⟩
abbrev cX2_sendMule : ByteArray := prog_4_method_8_code
def yX2_sendMule : MethodName := ⟨RX2, "sendMule", "(II)I"⟩
abbrev cX2_restMule : ByteArray := prog_4_method_9_code
def yX2_restMule : MethodName := ⟨RX2, "restMule", "(I)I"⟩
abbrev cX2_payBaker : ByteArray := prog_4_method_10_code
def yX2_payBaker : MethodName := ⟨RX2, "payBaker", "(I)I"⟩
abbrev cX2_bookGroup : ByteArray := prog_4_method_11_code
def yX2_bookGroup : MethodName := ⟨RX2, "bookGroup", "(III)I"⟩
abbrev cX2_callOff : ByteArray := prog_4_method_12_code
def yX2_callOff : MethodName := ⟨RX2, "callOff", "(I)I"⟩
abbrev cX2_removeGroup : ByteArray := prog_4_method_13_code
def yX2_removeGroup : MethodName := ⟨RX2, "removeGroup", "(I)V"⟩
abbrev cX2_endDays : ByteArray := prog_4_method_14_code
def yX2_endDays : MethodName := ⟨RX2, "endDays", "(I)I"⟩
abbrev cX2_endDay : ByteArray := prog_4_method_15_code
def yX2_endDay : MethodName := ⟨RX2, "endDay", "()V"⟩
abbrev cX2_unload : ByteArray := prog_4_method_16_code
def yX2_unload : MethodName := ⟨RX2, "unload", "(LHutLoaves$Mule;)V"⟩
abbrev cX2_feed : ByteArray := prog_4_method_17_code
def yX2_feed : MethodName := ⟨RX2, "feed", "(LHutLoaves$Group;)V"⟩
abbrev cX2_loavesOnTheirWayUp : ByteArray := prog_4_method_21_code
def yX2_loavesOnTheirWayUp : MethodName := ⟨RX2, "loavesOnTheirWayUp", "()I"⟩
abbrev cX2_tell : ByteArray := prog_4_method_22_code
def yX2_tell : MethodName := ⟨RX2, "tell", "(I)I"⟩
def RX3 : String := "HutLoaves$Ledger"
def TX3 : u_T := fun k => match k with
  | 0 => ("HutLoaves$Ledger", "money", "I", false)
  | 1 => ("HutLoaves$Ledger", "debt", "I", false)
  | 2 => ("HutLoaves$Ledger", "baked", "I", false)
  | 3 => ("HutLoaves$Ledger", "eaten", "I", false)
  | 4 => ("HutLoaves$Ledger", "thrownAway", "I", false)
  | 5 => ("HutLoaves$Ledger", "lost", "I", false)
  | 6 => ("HutLoaves$Ledger", "snowDays", "I", false)
  | 7 => ("HutLoaves$Ledger", "hungryDays", "I", false)
  | 8 => ("HutLoaves$Ledger", "paidByGroups", "I", false)
  | _ => ("HutLoaves$Ledger", "paidToBaker", "I", false)
def tyX3 : Nat → FieldType := fun k => match k with
  | 0 => .int
  | 1 => .int
  | 2 => .int
  | 3 => .int
  | 4 => .int
  | 5 => .int
  | 6 => .int
  | 7 => .int
  | 8 => .int
  | _ => .int
abbrev wsX30 : List Cond := u_ws RX3 TX3 10
theorem nmX3 : ∀ a, a < 10 → ∀ b, b < 10 → a ≠ b → (TX3 a).2.1 ≠ (TX3 b).2.1 := by decide +kernel
theorem tyX3_ok : ∀ k, k < 10 → parseFieldDescriptor (TX3 k).2.2.1 = some (tyX3 k) := by decide +kernel
abbrev cX3_init : ByteArray := prog_5_method_1_code
def yX3_init : MethodName := ⟨RX3, "<init>", "()V"⟩
abbrev cX3_copyFrom : ByteArray := prog_5_method_2_code
def yX3_copyFrom : MethodName := ⟨RX3, "copyFrom", "(LHutLoaves$Ledger;)V"⟩
def RX4 : String := "HutLoaves$Mule"
def TX4 : u_T := fun k => match k with
  | 0 => ("HutLoaves$Mule", "load", "I", false)
  | 1 => ("HutLoaves$Mule", "strength", "I", false)
  | 2 => ("HutLoaves$Mule", "place", "I", false)
  | 3 => ("HutLoaves$Mule", "daysToGo", "I", false)
  | 4 => ("HutLoaves$Mule", "brings", "I", false)
  | 5 => ("HutLoaves$Mule", "bakedOn", "I", false)
  | 6 => ("HutLoaves$Mule", "sent", "I", false)
  | 7 => ("HutLoaves$Mule", "brought", "I", false)
  | _ => ("HutLoaves$Mule", "timesLame", "I", false)
def tyX4 : Nat → FieldType := fun k => match k with
  | 0 => .int
  | 1 => .int
  | 2 => .int
  | 3 => .int
  | 4 => .int
  | 5 => .int
  | 6 => .int
  | 7 => .int
  | _ => .int
abbrev wsX40 : List Cond := u_ws RX4 TX4 9
theorem nmX4 : ∀ a, a < 9 → ∀ b, b < 9 → a ≠ b → (TX4 a).2.1 ≠ (TX4 b).2.1 := by decide +kernel
theorem tyX4_ok : ∀ k, k < 9 → parseFieldDescriptor (TX4 k).2.2.1 = some (tyX4 k) := by decide +kernel
abbrev cX4_init : ByteArray := prog_6_method_1_code
def yX4_init : MethodName := ⟨RX4, "<init>", "()V"⟩
abbrev cX4_copyFrom : ByteArray := prog_6_method_2_code
def yX4_copyFrom : MethodName := ⟨RX4, "copyFrom", "(LHutLoaves$Mule;)V"⟩
abbrev cX4_begin : ByteArray := prog_6_method_3_code
def yX4_begin : MethodName := ⟨RX4, "begin", "(II)V"⟩
abbrev cX4_leave : ByteArray := prog_6_method_4_code
def yX4_leave : MethodName := ⟨RX4, "leave", "(II)V"⟩
abbrev cX4_comeOn : ByteArray := prog_6_method_5_code
def yX4_comeOn : MethodName := ⟨RX4, "comeOn", "(Z)Z"⟩
abbrev cX4_unload : ByteArray := prog_6_method_6_code
def yX4_unload : MethodName := ⟨RX4, "unload", "()I"⟩
abbrev cX4_tell : ByteArray := prog_6_method_8_code
def yX4_tell : MethodName := ⟨RX4, "tell", "(I)I"⟩
def RX5 : String := "HutLoaves$Orders"
def TX5 : u_T := fun k => match k with
  | 0 => ("HutLoaves$Orders", "signs", "[C", true)
  | 1 => ("HutLoaves$Orders", "numbers", "[I", true)
  | 2 => ("HutLoaves$Orders", "length", "I", false)
  | 3 => ("HutLoaves$Orders", "start", "I", false)
  | 4 => ("HutLoaves$Orders", "at", "I", false)
  | 5 => ("HutLoaves$Orders", "reason", "I", false)
  | _ => ("HutLoaves$Orders", "cause", "I", false)
def tyX5 : Nat → FieldType := fun k => match k with
  | 0 => .array .char
  | 1 => .array .int
  | 2 => .int
  | 3 => .int
  | 4 => .int
  | 5 => .int
  | _ => .int
abbrev wsX50 : List Cond := u_ws RX5 TX5 7
theorem nmX5 : ∀ a, a < 7 → ∀ b, b < 7 → a ≠ b → (TX5 a).2.1 ≠ (TX5 b).2.1 := by decide +kernel
theorem tyX5_ok : ∀ k, k < 7 → parseFieldDescriptor (TX5 k).2.2.1 = some (tyX5 k) := by decide +kernel
abbrev cX5_init : ByteArray := prog_7_method_1_code
def yX5_init : MethodName := ⟨RX5, "<init>", "()V"⟩
def RX6 : String := "HutLoaves$Settings"
def TX6 : u_T := fun k => match k with
  | 0 => ("HutLoaves$Settings", "price", "I", false)
  | 1 => ("HutLoaves$Settings", "credit", "I", false)
  | 2 => ("HutLoaves$Settings", "freshDays", "I", false)
  | _ => ("HutLoaves$Settings", "snow", "I", false)
def tyX6 : Nat → FieldType := fun k => match k with
  | 0 => .int
  | 1 => .int
  | 2 => .int
  | _ => .int
abbrev wsX60 : List Cond := u_ws RX6 TX6 4
theorem nmX6 : ∀ a, a < 4 → ∀ b, b < 4 → a ≠ b → (TX6 a).2.1 ≠ (TX6 b).2.1 := by decide +kernel
theorem tyX6_ok : ∀ k, k < 4 → parseFieldDescriptor (TX6 k).2.2.1 = some (tyX6 k) := by decide +kernel
abbrev cX6_init : ByteArray := prog_8_method_1_code
def yX6_init : MethodName := ⟨RX6, "<init>", "()V"⟩
abbrev cX6_copyFrom : ByteArray := prog_8_method_2_code
def yX6_copyFrom : MethodName := ⟨RX6, "copyFrom", "(LHutLoaves$Settings;)V"⟩
abbrev cX6_tell : ByteArray := prog_8_method_3_code
def yX6_tell : MethodName := ⟨RX6, "tell", "(I)I"⟩
abbrev cX6_change : ByteArray := prog_8_method_4_code
def yX6_change : MethodName := ⟨RX6, "change", "(II)I"⟩
def RX7 : String := "HutLoaves$Shelf"
def TX7 : u_T := fun k => match k with
  | _ => ("HutLoaves$Shelf", "byAge", "[I", true)
def tyX7 : Nat → FieldType := fun k => match k with
  | _ => .array .int
abbrev wsX70 : List Cond := u_ws RX7 TX7 1
theorem nmX7 : ∀ a, a < 1 → ∀ b, b < 1 → a ≠ b → (TX7 a).2.1 ≠ (TX7 b).2.1 := by decide +kernel
theorem tyX7_ok : ∀ k, k < 1 → parseFieldDescriptor (TX7 k).2.2.1 = some (tyX7 k) := by decide +kernel
abbrev cX7_init : ByteArray := prog_9_method_1_code
def yX7_init : MethodName := ⟨RX7, "<init>", "()V"⟩
abbrev cX7_copyFrom : ByteArray := prog_9_method_2_code
def yX7_copyFrom : MethodName := ⟨RX7, "copyFrom", "(LHutLoaves$Shelf;)V"⟩
abbrev cX7_howMany : ByteArray := prog_9_method_3_code
def yX7_howMany : MethodName := ⟨RX7, "howMany", "(II)I"⟩
abbrev cX7_store : ByteArray := prog_9_method_5_code
def yX7_store : MethodName := ⟨RX7, "store", "(II)V"⟩
abbrev cX7_take : ByteArray := prog_9_method_6_code
def yX7_take : MethodName := ⟨RX7, "take", "(III)I"⟩
abbrev cX7_growOlder : ByteArray := prog_9_method_7_code
def yX7_growOlder : MethodName := ⟨RX7, "growOlder", "()I"⟩
def RX8 : String := "HutLoaves"
def TX8 : u_T := fun k => match k with
  | 0 => ("HutLoaves", "now", "LHutLoaves$Hut;", true)
  | 1 => ("HutLoaves", "trial", "LHutLoaves$Hut;", true)
  | 2 => ("HutLoaves", "history", "LHutLoaves$History;", true)
  | _ => ("HutLoaves", "orders", "LHutLoaves$Orders;", true)
def tyX8 : Nat → FieldType := fun k => match k with
  | 0 => .object "HutLoaves$Hut"
  | 1 => .object "HutLoaves$Hut"
  | 2 => .object "HutLoaves$History"
  | _ => .object "HutLoaves$Orders"
abbrev wsX80 : List Cond := u_ws RX8 TX8 4
theorem nmX8 : ∀ a, a < 4 → ∀ b, b < 4 → a ≠ b → (TX8 a).2.1 ≠ (TX8 b).2.1 := by decide +kernel
theorem tyX8_ok : ∀ k, k < 4 → parseFieldDescriptor (TX8 k).2.2.1 = some (tyX8 k) := by decide +kernel
abbrev cX8_init : ByteArray := prog_1_method_1_code
def yX8_init : MethodName := ⟨RX8, "<init>", "()V"⟩
abbrev cX8_mule : ByteArray := prog_1_method_2_code
def yX8_mule : MethodName := ⟨RX8, "mule", "(II)I"⟩
abbrev cX8_send : ByteArray := prog_1_method_3_code
def yX8_send : MethodName := ⟨RX8, "send", "(II)I"⟩
abbrev cX8_rest : ByteArray := prog_1_method_4_code
def yX8_rest : MethodName := ⟨RX8, "rest", "(I)I"⟩
abbrev cX8_pay : ByteArray := prog_1_method_5_code
def yX8_pay : MethodName := ⟨RX8, "pay", "(I)I"⟩
abbrev cX8_group : ByteArray := prog_1_method_6_code
def yX8_group : MethodName := ⟨RX8, "group", "(III)I"⟩
abbrev cX8_off : ByteArray := prog_1_method_7_code
def yX8_off : MethodName := ⟨RX8, "off", "(I)I"⟩
abbrev cX8_end : ByteArray := prog_1_method_8_code
def yX8_end : MethodName := ⟨RX8, "end", "(I)I"⟩
abbrev cX8_set : ByteArray := prog_1_method_9_code
def yX8_set : MethodName := ⟨RX8, "set", "(II)I"⟩
abbrev cX8_muleOf : ByteArray := prog_1_method_10_code
def yX8_muleOf : MethodName := ⟨RX8, "muleOf", "(II)I"⟩
abbrev cX8_groupOf : ByteArray := prog_1_method_11_code
def yX8_groupOf : MethodName := ⟨RX8, "groupOf", "(II)I"⟩
abbrev cX8_number : ByteArray := prog_1_method_12_code
def yX8_number : MethodName := ⟨RX8, "number", "(I)I"⟩
abbrev cX8_loaves : ByteArray := prog_1_method_13_code
def yX8_loaves : MethodName := ⟨RX8, "loaves", "(I)I"⟩
abbrev cX8_count : ByteArray := prog_1_method_20_code
def yX8_count : MethodName := ⟨RX8, "count", "(I)I"⟩
abbrev cX8_takeOver : ByteArray := prog_1_method_26_code
def yX8_takeOver : MethodName := ⟨RX8, "takeOver", "(I)I"⟩
abbrev cX8_isWithin : ByteArray := prog_1_method_27_code
def yX8_isWithin : MethodName := ⟨RX8, "isWithin", "(III)Z"⟩
def RX9 : String := "HutLoavesModel"
def TX9 : u_T := fun k => match k with
  | _ => ("", "", "", false)
def tyX9 : Nat → FieldType := fun k => match k with
  | _ => .int
abbrev wsX90 : List Cond := u_ws RX9 TX9 0
theorem nmX9 : ∀ a, a < 0 → ∀ b, b < 0 → a ≠ b → (TX9 a).2.1 ≠ (TX9 b).2.1 := by decide +kernel
theorem tyX9_ok : ∀ k, k < 0 → parseFieldDescriptor (TX9 k).2.2.1 = some (tyX9 k) := by decide +kernel
def RJ9 : String := "java/lang/Math"
def TJ9 : u_T := fun k => match k with
  | _ => ("", "", "", false)
def tyJ9 : Nat → FieldType := fun k => match k with
  | _ => .int
abbrev wsJ90 : List Cond := u_ws RJ9 TJ9 0
theorem nmJ9 : ∀ a, a < 0 → ∀ b, b < 0 → a ≠ b → (TJ9 a).2.1 ≠ (TJ9 b).2.1 := by decide +kernel
theorem tyJ9_ok : ∀ k, k < 0 → parseFieldDescriptor (TJ9 k).2.2.1 = some (tyJ9 k) := by decide +kernel
abbrev cJ9_min_7cf53 : ByteArray := prog_12_method_69_code
def yJ9_min_7cf53 : MethodName := ⟨RJ9, "min", "(II)I"⟩
def RL : String := "HutLoavesLaw"
abbrev cL_cell : ByteArray := method_2_code
def yL_cell : MethodName := ⟨RL, "cell", "([II)I"⟩
abbrev cL_low : ByteArray := method_3_code
def yL_low : MethodName := ⟨RL, "low", "(II)I"⟩
abbrev cL_sum : ByteArray := method_4_code
def yL_sum : MethodName := ⟨RL, "sum", "([III)I"⟩
abbrev cL_comes : ByteArray := method_5_code
def yL_comes : MethodName := ⟨RL, "comes", "([I[I[II)V"⟩
abbrev cL_takes : ByteArray := method_6_code
def yL_takes : MethodName := ⟨RL, "takes", "([I[III)Z"⟩
abbrev cL_eats : ByteArray := method_7_code
def yL_eats : MethodName := ⟨RL, "eats", "([I[I[II)V"⟩
abbrev cL_goes : ByteArray := method_8_code
def yL_goes : MethodName := ⟨RL, "goes", "([I[II)V"⟩
abbrev cL_day : ByteArray := method_9_code
def yL_day : MethodName := ⟨RL, "day", "([I[I[I[I)V"⟩
abbrev cL_why : ByteArray := method_10_code
def yL_why : MethodName := ⟨RL, "why", "([I[III)I"⟩
abbrev cL_mules : ByteArray := method_11_code
def yL_mules : MethodName := ⟨RL, "mules", "(LHutLoaves;[I[III)Z"⟩
abbrev cL_acts : ByteArray := method_12_code
def yL_acts : MethodName := ⟨RL, "acts", "(LHutLoaves;[I[I[I[II)Z"⟩
abbrev cL_areMules : ByteArray := method_13_code
def yL_areMules : MethodName := ⟨RL, "areMules", "(LHutLoaves;[I[I)Z"⟩
abbrev cL_areGroups : ByteArray := method_14_code
def yL_areGroups : MethodName := ⟨RL, "areGroups", "(LHutLoaves;[I[I)Z"⟩
abbrev cL_isSo : ByteArray := method_15_code
def yL_isSo : MethodName := ⟨RL, "isSo", "(LHutLoaves;[I[I[I[I)Z"⟩
abbrev cL_law : ByteArray := code
def yL_law : MethodName := ⟨RL, "law", "([I)Z"⟩
abbrev vwCl : List vw_C := [(RX0, TX0, 6), (RX1, TX1, 2), (RX2, TX2, 10), (RX3, TX3, 10), (RX4, TX4, 9), (RX5, TX5, 7), (RX6, TX6, 4), (RX7, TX7, 1), (RX8, TX8, 4)]
