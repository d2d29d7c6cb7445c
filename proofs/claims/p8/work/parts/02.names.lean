def TB : List Cond := lw_tbl.filter goodWord
theorem mt_1 {w : Cond} (h : w ∈ tables_1_1) (hg : goodWord w = true) : w ∈ TB := List.mem_filter.mpr ⟨List.mem_append_right _ (show w ∈ tables_1 from List.mem_append_left _ h), hg⟩
theorem mt_2 {w : Cond} (h : w ∈ tables_1_2) (hg : goodWord w = true) : w ∈ TB := List.mem_filter.mpr ⟨List.mem_append_right _ (show w ∈ tables_1 from List.mem_append_right _ (List.mem_append_left _ h)), hg⟩
theorem mt_3 {w : Cond} (h : w ∈ tables_1_3) (hg : goodWord w = true) : w ∈ TB := List.mem_filter.mpr ⟨List.mem_append_right _ (show w ∈ tables_1 from List.mem_append_right _ (List.mem_append_right _ (List.mem_append_left _ h))), hg⟩
theorem mt_4 {w : Cond} (h : w ∈ tables_1_4) (hg : goodWord w = true) : w ∈ TB := List.mem_filter.mpr ⟨List.mem_append_right _ (show w ∈ tables_1 from List.mem_append_right _ (List.mem_append_right _ (List.mem_append_right _ (List.mem_append_left _ h)))), hg⟩
theorem mt_5 {w : Cond} (h : w ∈ tables_1_5) (hg : goodWord w = true) : w ∈ TB := List.mem_filter.mpr ⟨List.mem_append_right _ (show w ∈ tables_1 from List.mem_append_right _ (List.mem_append_right _ (List.mem_append_right _ (List.mem_append_right _ (List.mem_append_left _ h))))), hg⟩
theorem mt_6 {w : Cond} (h : w ∈ tables_1_6) (hg : goodWord w = true) : w ∈ TB := List.mem_filter.mpr ⟨List.mem_append_right _ (show w ∈ tables_1 from List.mem_append_right _ (List.mem_append_right _ (List.mem_append_right _ (List.mem_append_right _ (List.mem_append_right _ (List.mem_append_left _ h)))))), hg⟩
theorem mt_7 {w : Cond} (h : w ∈ tables_1_7) (hg : goodWord w = true) : w ∈ TB := List.mem_filter.mpr ⟨List.mem_append_right _ (show w ∈ tables_1 from List.mem_append_right _ (List.mem_append_right _ (List.mem_append_right _ (List.mem_append_right _ (List.mem_append_right _ (List.mem_append_right _ (List.mem_append_left _ h))))))), hg⟩
theorem mt_8 {w : Cond} (h : w ∈ tables_1_8) (hg : goodWord w = true) : w ∈ TB := List.mem_filter.mpr ⟨List.mem_append_right _ (show w ∈ tables_1 from List.mem_append_right _ (List.mem_append_right _ (List.mem_append_right _ (List.mem_append_right _ (List.mem_append_right _ (List.mem_append_right _ (List.mem_append_right _ (h)))))))), hg⟩
theorem ms_0 {w : Cond} (h : w ∈ k2_sels lw_privs) (hg : goodWord w = true) : w ∈ TB := List.mem_filter.mpr ⟨List.mem_append_left _ h, hg⟩
theorem tb_good : ∀ w ∈ TB, goodWord w = true := fun w h => (List.mem_filter.mp h).2
theorem tb_tbl : ∀ w ∈ TB, w ∈ lw_tbl := fun w h => (List.mem_filter.mp h).1
def cf_Bytes : u_T := fun k => match k with
  | 0 => ("NineBoards$Bytes", "data", "[I", true)
  | _ => ("NineBoards$Bytes", "count", "I", false)
def ct_Bytes : Nat → FieldType := fun k => match k with
  | 0 => .array (.int)
  | _ => .int
theorem cn_Bytes : ∀ a, a < 2 → ∀ b, b < 2 → a ≠ b → (cf_Bytes a).2.1 ≠ (cf_Bytes b).2.1 := by decide +kernel
theorem cp_Bytes : ∀ k, k < 2 → parseFieldDescriptor (cf_Bytes k).2.2.1 = some (ct_Bytes k) := by decide +kernel
theorem ci_Bytes : ∀ w ∈ u_ws "NineBoards$Bytes" cf_Bytes 2, w ∈ TB := fun w h => List.mem_filter.mpr ⟨List.mem_append_right _ ((by decide +kernel : ∀ w ∈ u_ws "NineBoards$Bytes" cf_Bytes 2, w ∈ tables_1) w h), (by decide +kernel : ∀ w ∈ u_ws "NineBoards$Bytes" cf_Bytes 2, goodWord w = true) w h⟩
def cf_Gates : u_T := fun k => match k with
  | 0 => ("NineBoards$Gates", "count", "I", false)
  | 1 => ("NineBoards$Gates", "name", "[I", true)
  | 2 => ("NineBoards$Gates", "kind", "[I", true)
  | 3 => ("NineBoards$Gates", "from", "[I", true)
  | 4 => ("NineBoards$Gates", "to", "[I", true)
  | 5 => ("NineBoards$Gates", "boards", "[I", true)
  | 6 => ("NineBoards$Gates", "width", "[I", true)
  | _ => ("NineBoards$Gates", "joined", "[I", true)
def ct_Gates : Nat → FieldType := fun k => match k with
  | 0 => .int
  | 1 => .array (.int)
  | 2 => .array (.int)
  | 3 => .array (.int)
  | 4 => .array (.int)
  | 5 => .array (.int)
  | 6 => .array (.int)
  | _ => .array (.int)
theorem cn_Gates : ∀ a, a < 8 → ∀ b, b < 8 → a ≠ b → (cf_Gates a).2.1 ≠ (cf_Gates b).2.1 := by decide +kernel
theorem cp_Gates : ∀ k, k < 8 → parseFieldDescriptor (cf_Gates k).2.2.1 = some (ct_Gates k) := by decide +kernel
theorem ci_Gates : ∀ w ∈ u_ws "NineBoards$Gates" cf_Gates 8, w ∈ TB := fun w h => List.mem_filter.mpr ⟨List.mem_append_right _ ((by decide +kernel : ∀ w ∈ u_ws "NineBoards$Gates" cf_Gates 8, w ∈ tables_1) w h), (by decide +kernel : ∀ w ∈ u_ws "NineBoards$Gates" cf_Gates 8, goodWord w = true) w h⟩
def cf_Lake : u_T := fun k => match k with
  | 0 => ("NineBoards$Lake", "statements", "I", false)
  | 1 => ("NineBoards$Lake", "spread", "I", false)
  | 2 => ("NineBoards$Lake", "holds", "I", false)
  | 3 => ("NineBoards$Lake", "has", "I", false)
  | 4 => ("NineBoards$Lake", "gates", "LNineBoards$Gates;", true)
  | 5 => ("NineBoards$Lake", "villages", "I", false)
  | 6 => ("NineBoards$Lake", "villageName", "[I", true)
  | 7 => ("NineBoards$Lake", "villageGate", "[I", true)
  | 8 => ("NineBoards$Lake", "things", "LNineBoards$Things;", true)
  | 9 => ("NineBoards$Lake", "rules", "LNineBoards$Rules;", true)
  | 10 => ("NineBoards$Lake", "chapel", "I", false)
  | 11 => ("NineBoards$Lake", "chapelLoss", "I", false)
  | 12 => ("NineBoards$Lake", "bank", "I", false)
  | _ => ("NineBoards$Lake", "bankLoss", "I", false)
def ct_Lake : Nat → FieldType := fun k => match k with
  | 0 => .int
  | 1 => .int
  | 2 => .int
  | 3 => .int
  | 4 => .object "NineBoards$Gates"
  | 5 => .int
  | 6 => .array (.int)
  | 7 => .array (.int)
  | 8 => .object "NineBoards$Things"
  | 9 => .object "NineBoards$Rules"
  | 10 => .int
  | 11 => .int
  | 12 => .int
  | _ => .int
theorem cn_Lake : ∀ a, a < 14 → ∀ b, b < 14 → a ≠ b → (cf_Lake a).2.1 ≠ (cf_Lake b).2.1 := by decide +kernel
theorem cp_Lake : ∀ k, k < 14 → parseFieldDescriptor (cf_Lake k).2.2.1 = some (ct_Lake k) := by decide +kernel
theorem ci_Lake : ∀ w ∈ u_ws "NineBoards$Lake" cf_Lake 14, w ∈ TB := fun w h => List.mem_filter.mpr ⟨List.mem_append_right _ ((by decide +kernel : ∀ w ∈ u_ws "NineBoards$Lake" cf_Lake 14, w ∈ tables_1) w h), (by decide +kernel : ∀ w ∈ u_ws "NineBoards$Lake" cf_Lake 14, goodWord w = true) w h⟩
def cf_Past : u_T := fun k => match k with
  | 0 => ("NineBoards$Past", "count", "I", false)
  | 1 => ("NineBoards$Past", "next", "I", false)
  | _ => ("NineBoards$Past", "kept", "[LNineBoards$State;", true)
def ct_Past : Nat → FieldType := fun k => match k with
  | 0 => .int
  | 1 => .int
  | _ => .array (.object "NineBoards$State")
theorem cn_Past : ∀ a, a < 3 → ∀ b, b < 3 → a ≠ b → (cf_Past a).2.1 ≠ (cf_Past b).2.1 := by decide +kernel
theorem cp_Past : ∀ k, k < 3 → parseFieldDescriptor (cf_Past k).2.2.1 = some (ct_Past k) := by decide +kernel
theorem ci_Past : ∀ w ∈ u_ws "NineBoards$Past" cf_Past 3, w ∈ TB := fun w h => List.mem_filter.mpr ⟨List.mem_append_right _ ((by decide +kernel : ∀ w ∈ u_ws "NineBoards$Past" cf_Past 3, w ∈ tables_1) w h), (by decide +kernel : ∀ w ∈ u_ws "NineBoards$Past" cf_Past 3, goodWord w = true) w h⟩
def cf_Plans : u_T := fun k => match k with
  | 0 => ("NineBoards$Plans", "states", "[LNineBoards$State;", true)
  | 1 => ("NineBoards$Plans", "gains", "[[I", true)
  | 2 => ("NineBoards$Plans", "acts", "[[I", true)
  | 3 => ("NineBoards$Plans", "lake", "LNineBoards$Lake;", false)
  | 4 => ("NineBoards$Plans", "days", "I", false)
  | _ => ("NineBoards$Plans", "together", "Z", false)
def ct_Plans : Nat → FieldType := fun k => match k with
  | 0 => .array (.object "NineBoards$State")
  | 1 => .array (.array (.int))
  | 2 => .array (.array (.int))
  | 3 => .object "NineBoards$Lake"
  | 4 => .int
  | _ => .boolean
theorem cn_Plans : ∀ a, a < 6 → ∀ b, b < 6 → a ≠ b → (cf_Plans a).2.1 ≠ (cf_Plans b).2.1 := by decide +kernel
theorem cp_Plans : ∀ k, k < 6 → parseFieldDescriptor (cf_Plans k).2.2.1 = some (ct_Plans k) := by decide +kernel
theorem ci_Plans : ∀ w ∈ u_ws "NineBoards$Plans" cf_Plans 6, w ∈ TB := fun w h => List.mem_filter.mpr ⟨List.mem_append_right _ ((by decide +kernel : ∀ w ∈ u_ws "NineBoards$Plans" cf_Plans 6, w ∈ tables_1) w h), (by decide +kernel : ∀ w ∈ u_ws "NineBoards$Plans" cf_Plans 6, goodWord w = true) w h⟩
def cf_Reader : u_T := fun k => match k with
  | 0 => ("NineBoards$Reader", "fault", "I", false)
  | 1 => ("NineBoards$Reader", "place", "I", false)
  | 2 => ("NineBoards$Reader", "ownWords", "[J", true)
  | 3 => ("NineBoards$Reader", "text", "LNineBoards$Bytes;", true)
  | 4 => ("NineBoards$Reader", "lake", "LNineBoards$Lake;", false)
  | 5 => ("NineBoards$Reader", "at", "I", false)
  | 6 => ("NineBoards$Reader", "sort", "I", false)
  | 7 => ("NineBoards$Reader", "start", "I", false)
  | 8 => ("NineBoards$Reader", "letters", "J", false)
  | 9 => ("NineBoards$Reader", "word", "I", false)
  | 10 => ("NineBoards$Reader", "number", "I", false)
  | _ => ("NineBoards$Reader", "sign", "I", false)
def ct_Reader : Nat → FieldType := fun k => match k with
  | 0 => .int
  | 1 => .int
  | 2 => .array (.long)
  | 3 => .object "NineBoards$Bytes"
  | 4 => .object "NineBoards$Lake"
  | 5 => .int
  | 6 => .int
  | 7 => .int
  | 8 => .long
  | 9 => .int
  | 10 => .int
  | _ => .int
theorem cn_Reader : ∀ a, a < 12 → ∀ b, b < 12 → a ≠ b → (cf_Reader a).2.1 ≠ (cf_Reader b).2.1 := by decide +kernel
theorem cp_Reader : ∀ k, k < 12 → parseFieldDescriptor (cf_Reader k).2.2.1 = some (ct_Reader k) := by decide +kernel
theorem ci_Reader : ∀ w ∈ u_ws "NineBoards$Reader" cf_Reader 12, w ∈ TB := fun w h => List.mem_filter.mpr ⟨List.mem_append_right _ ((by decide +kernel : ∀ w ∈ u_ws "NineBoards$Reader" cf_Reader 12, w ∈ tables_1) w h), (by decide +kernel : ∀ w ∈ u_ws "NineBoards$Reader" cf_Reader 12, goodWord w = true) w h⟩
def cf_Rules : u_T := fun k => match k with
  | 0 => ("NineBoards$Rules", "count", "I", false)
  | 1 => ("NineBoards$Rules", "size", "I", false)
  | 2 => ("NineBoards$Rules", "kind", "[I", true)
  | 3 => ("NineBoards$Rules", "sumFrom", "[I", true)
  | 4 => ("NineBoards$Rules", "testFrom", "[I", true)
  | 5 => ("NineBoards$Rules", "end", "[I", true)
  | 6 => ("NineBoards$Rules", "code", "[I", true)
  | _ => ("NineBoards$Rules", "waiting", "[I", true)
def ct_Rules : Nat → FieldType := fun k => match k with
  | 0 => .int
  | 1 => .int
  | 2 => .array (.int)
  | 3 => .array (.int)
  | 4 => .array (.int)
  | 5 => .array (.int)
  | 6 => .array (.int)
  | _ => .array (.int)
theorem cn_Rules : ∀ a, a < 8 → ∀ b, b < 8 → a ≠ b → (cf_Rules a).2.1 ≠ (cf_Rules b).2.1 := by decide +kernel
theorem cp_Rules : ∀ k, k < 8 → parseFieldDescriptor (cf_Rules k).2.2.1 = some (ct_Rules k) := by decide +kernel
theorem ci_Rules : ∀ w ∈ u_ws "NineBoards$Rules" cf_Rules 8, w ∈ TB := fun w h => List.mem_filter.mpr ⟨List.mem_append_right _ ((by decide +kernel : ∀ w ∈ u_ws "NineBoards$Rules" cf_Rules 8, w ∈ tables_1) w h), (by decide +kernel : ∀ w ∈ u_ws "NineBoards$Rules" cf_Rules 8, goodWord w = true) w h⟩
def cf_State : u_T := fun k => match k with
  | 0 => ("NineBoards$State", "day", "I", false)
  | 1 => ("NineBoards$State", "water", "I", false)
  | 2 => ("NineBoards$State", "latest", "I", false)
  | 3 => ("NineBoards$State", "boards", "[I", true)
  | 4 => ("NineBoards$State", "flows", "[I", true)
  | 5 => ("NineBoards$State", "streams", "[J", true)
  | 6 => ("NineBoards$State", "worths", "[I", true)
  | 7 => ("NineBoards$State", "lately", "[I", true)
  | 8 => ("NineBoards$State", "servedDays", "[I", true)
  | _ => ("NineBoards$State", "sums", "[J", true)
def ct_State : Nat → FieldType := fun k => match k with
  | 0 => .int
  | 1 => .int
  | 2 => .int
  | 3 => .array (.int)
  | 4 => .array (.int)
  | 5 => .array (.long)
  | 6 => .array (.int)
  | 7 => .array (.int)
  | 8 => .array (.int)
  | _ => .array (.long)
theorem cn_State : ∀ a, a < 10 → ∀ b, b < 10 → a ≠ b → (cf_State a).2.1 ≠ (cf_State b).2.1 := by decide +kernel
theorem cp_State : ∀ k, k < 10 → parseFieldDescriptor (cf_State k).2.2.1 = some (ct_State k) := by decide +kernel
theorem ci_State : ∀ w ∈ u_ws "NineBoards$State" cf_State 10, w ∈ TB := fun w h => List.mem_filter.mpr ⟨List.mem_append_right _ ((by decide +kernel : ∀ w ∈ u_ws "NineBoards$State" cf_State 10, w ∈ tables_1) w h), (by decide +kernel : ∀ w ∈ u_ws "NineBoards$State" cf_State 10, goodWord w = true) w h⟩
def cf_Things : u_T := fun k => match k with
  | 0 => ("NineBoards$Things", "count", "I", false)
  | 1 => ("NineBoards$Things", "village", "[I", true)
  | 2 => ("NineBoards$Things", "gate", "[I", true)
  | 3 => ("NineBoards$Things", "from", "[I", true)
  | 4 => ("NineBoards$Things", "to", "[I", true)
  | 5 => ("NineBoards$Things", "firstDay", "[I", true)
  | 6 => ("NineBoards$Things", "lastDay", "[I", true)
  | _ => ("NineBoards$Things", "worth", "[I", true)
def ct_Things : Nat → FieldType := fun k => match k with
  | 0 => .int
  | 1 => .array (.int)
  | 2 => .array (.int)
  | 3 => .array (.int)
  | 4 => .array (.int)
  | 5 => .array (.int)
  | 6 => .array (.int)
  | _ => .array (.int)
theorem cn_Things : ∀ a, a < 8 → ∀ b, b < 8 → a ≠ b → (cf_Things a).2.1 ≠ (cf_Things b).2.1 := by decide +kernel
theorem cp_Things : ∀ k, k < 8 → parseFieldDescriptor (cf_Things k).2.2.1 = some (ct_Things k) := by decide +kernel
theorem ci_Things : ∀ w ∈ u_ws "NineBoards$Things" cf_Things 8, w ∈ TB := fun w h => List.mem_filter.mpr ⟨List.mem_append_right _ ((by decide +kernel : ∀ w ∈ u_ws "NineBoards$Things" cf_Things 8, w ∈ tables_1) w h), (by decide +kernel : ∀ w ∈ u_ws "NineBoards$Things" cf_Things 8, goodWord w = true) w h⟩
def cf_Nine : u_T := fun k => match k with
  | 0 => ("NineBoards", "tape", "LNineBoards$Bytes;", true)
  | 1 => ("NineBoards", "picture", "LNineBoards$Bytes;", true)
  | 2 => ("NineBoards", "now", "LNineBoards$State;", true)
  | 3 => ("NineBoards", "trial", "LNineBoards$State;", true)
  | 4 => ("NineBoards", "past", "LNineBoards$Past;", true)
  | 5 => ("NineBoards", "told", "LNineBoards$Lake;", false)
  | 6 => ("NineBoards", "spare", "LNineBoards$Lake;", false)
  | 7 => ("NineBoards", "reader", "LNineBoards$Reader;", true)
  | 8 => ("NineBoards", "plans", "LNineBoards$Plans;", true)
  | _ => ("NineBoards", "drawn", "I", false)
def ct_Nine : Nat → FieldType := fun k => match k with
  | 0 => .object "NineBoards$Bytes"
  | 1 => .object "NineBoards$Bytes"
  | 2 => .object "NineBoards$State"
  | 3 => .object "NineBoards$State"
  | 4 => .object "NineBoards$Past"
  | 5 => .object "NineBoards$Lake"
  | 6 => .object "NineBoards$Lake"
  | 7 => .object "NineBoards$Reader"
  | 8 => .object "NineBoards$Plans"
  | _ => .int
theorem cn_Nine : ∀ a, a < 10 → ∀ b, b < 10 → a ≠ b → (cf_Nine a).2.1 ≠ (cf_Nine b).2.1 := by decide +kernel
theorem cp_Nine : ∀ k, k < 10 → parseFieldDescriptor (cf_Nine k).2.2.1 = some (ct_Nine k) := by decide +kernel
theorem ci_Nine : ∀ w ∈ u_ws "NineBoards" cf_Nine 10, w ∈ TB := fun w h => List.mem_filter.mpr ⟨List.mem_append_right _ ((by decide +kernel : ∀ w ∈ u_ws "NineBoards" cf_Nine 10, w ∈ tables_1) w h), (by decide +kernel : ∀ w ∈ u_ws "NineBoards" cf_Nine 10, goodWord w = true) w h⟩
def cf_Model : u_T := fun k => match k with
  | 0 => ("NineBoardsModel", "tape", "[I", true)
  | 1 => ("NineBoardsModel", "taped", "I", false)
  | 2 => ("NineBoardsModel", "at", "I", false)
  | 3 => ("NineBoardsModel", "end", "I", false)
  | 4 => ("NineBoardsModel", "ended", "I", false)
  | 5 => ("NineBoardsModel", "bad", "I", false)
  | 6 => ("NineBoardsModel", "badPlace", "I", false)
  | 7 => ("NineBoardsModel", "fault", "I", false)
  | 8 => ("NineBoardsModel", "faultPlace", "I", false)
  | 9 => ("NineBoardsModel", "lakeWord", "[C", true)
  | 10 => ("NineBoardsModel", "spreadWord", "[C", true)
  | 11 => ("NineBoardsModel", "holdsWord", "[C", true)
  | 12 => ("NineBoardsModel", "hasWord", "[C", true)
  | 13 => ("NineBoardsModel", "gateWord", "[C", true)
  | 14 => ("NineBoardsModel", "plainWord", "[C", true)
  | 15 => ("NineBoardsModel", "leaksWord", "[C", true)
  | 16 => ("NineBoardsModel", "stepsWord", "[C", true)
  | 17 => ("NineBoardsModel", "frozenWord", "[C", true)
  | 18 => ("NineBoardsModel", "toWord", "[C", true)
  | 19 => ("NineBoardsModel", "boardsWord", "[C", true)
  | 20 => ("NineBoardsModel", "widthWord", "[C", true)
  | 21 => ("NineBoardsModel", "joinWord", "[C", true)
  | 22 => ("NineBoardsModel", "villageWord", "[C", true)
  | 23 => ("NineBoardsModel", "thingWord", "[C", true)
  | 24 => ("NineBoardsModel", "fromWord", "[C", true)
  | 25 => ("NineBoardsModel", "daysWord", "[C", true)
  | 26 => ("NineBoardsModel", "worthWord", "[C", true)
  | 27 => ("NineBoardsModel", "chapelWord", "[C", true)
  | 28 => ("NineBoardsModel", "lossWord", "[C", true)
  | 29 => ("NineBoardsModel", "bankWord", "[C", true)
  | 30 => ("NineBoardsModel", "rainWord", "[C", true)
  | 31 => ("NineBoardsModel", "airWord", "[C", true)
  | 32 => ("NineBoardsModel", "whenWord", "[C", true)
  | 33 => ("NineBoardsModel", "orWord", "[C", true)
  | 34 => ("NineBoardsModel", "andWord", "[C", true)
  | 35 => ("NineBoardsModel", "notWord", "[C", true)
  | 36 => ("NineBoardsModel", "allWord", "[C", true)
  | 37 => ("NineBoardsModel", "dayWord", "[C", true)
  | 38 => ("NineBoardsModel", "levelWord", "[C", true)
  | 39 => ("NineBoardsModel", "waterWord", "[C", true)
  | 40 => ("NineBoardsModel", "minWord", "[C", true)
  | 41 => ("NineBoardsModel", "maxWord", "[C", true)
  | 42 => ("NineBoardsModel", "namePlace", "I", false)
  | 43 => ("NineBoardsModel", "many", "[I", true)
  | 44 => ("NineBoardsModel", "names", "[J", true)
  | 45 => ("NineBoardsModel", "lake", "[I", true)
  | 46 => ("NineBoardsModel", "gates", "[I", true)
  | 47 => ("NineBoardsModel", "gateOf", "[I", true)
  | 48 => ("NineBoardsModel", "things", "[I", true)
  | 49 => ("NineBoardsModel", "statements", "I", false)
  | 50 => ("NineBoardsModel", "codes", "[I", true)
  | 51 => ("NineBoardsModel", "coded", "I", false)
  | 52 => ("NineBoardsModel", "wait", "[I", true)
  | 53 => ("NineBoardsModel", "waits", "I", false)
  | 54 => ("NineBoardsModel", "open", "I", false)
  | 55 => ("NineBoardsModel", "ofAir", "[Z", true)
  | 56 => ("NineBoardsModel", "sumFrom", "[I", true)
  | 57 => ("NineBoardsModel", "sumEnd", "[I", true)
  | 58 => ("NineBoardsModel", "testEnd", "[I", true)
  | 59 => ("NineBoardsModel", "base", "I", false)
  | 60 => ("NineBoardsModel", "pile", "[J", true)
  | 61 => ("NineBoardsModel", "piled", "I", false)
  | 62 => ("NineBoardsModel", "now", "[I", true)
  | 63 => ("NineBoardsModel", "flows", "[I", true)
  | 64 => ("NineBoardsModel", "spiltNow", "I", false)
  | 65 => ("NineBoardsModel", "days", "[I", true)
  | 66 => ("NineBoardsModel", "undoable", "I", false)
  | 67 => ("NineBoardsModel", "newest", "I", false)
  | 68 => ("NineBoardsModel", "aside", "[I", true)
  | 69 => ("NineBoardsModel", "begun", "[I", true)
  | 70 => ("NineBoardsModel", "gets", "[I", true)
  | 71 => ("NineBoardsModel", "takes", "[I", true)
  | 72 => ("NineBoardsModel", "power", "[I", true)
  | 73 => ("NineBoardsModel", "gotNow", "[I", true)
  | 74 => ("NineBoardsModel", "rowAct", "[I", true)
  | 75 => ("NineBoardsModel", "rowLatest", "[I", true)
  | 76 => ("NineBoardsModel", "seeded", "J", false)
  | 77 => ("NineBoardsModel", "octet", "[I", true)
  | _ => ("NineBoardsModel", "octets", "I", false)
def ct_Model : Nat → FieldType := fun k => match k with
  | 0 => .array (.int)
  | 1 => .int
  | 2 => .int
  | 3 => .int
  | 4 => .int
  | 5 => .int
  | 6 => .int
  | 7 => .int
  | 8 => .int
  | 9 => .array (.char)
  | 10 => .array (.char)
  | 11 => .array (.char)
  | 12 => .array (.char)
  | 13 => .array (.char)
  | 14 => .array (.char)
  | 15 => .array (.char)
  | 16 => .array (.char)
  | 17 => .array (.char)
  | 18 => .array (.char)
  | 19 => .array (.char)
  | 20 => .array (.char)
  | 21 => .array (.char)
  | 22 => .array (.char)
  | 23 => .array (.char)
  | 24 => .array (.char)
  | 25 => .array (.char)
  | 26 => .array (.char)
  | 27 => .array (.char)
  | 28 => .array (.char)
  | 29 => .array (.char)
  | 30 => .array (.char)
  | 31 => .array (.char)
  | 32 => .array (.char)
  | 33 => .array (.char)
  | 34 => .array (.char)
  | 35 => .array (.char)
  | 36 => .array (.char)
  | 37 => .array (.char)
  | 38 => .array (.char)
  | 39 => .array (.char)
  | 40 => .array (.char)
  | 41 => .array (.char)
  | 42 => .int
  | 43 => .array (.int)
  | 44 => .array (.long)
  | 45 => .array (.int)
  | 46 => .array (.int)
  | 47 => .array (.int)
  | 48 => .array (.int)
  | 49 => .int
  | 50 => .array (.int)
  | 51 => .int
  | 52 => .array (.int)
  | 53 => .int
  | 54 => .int
  | 55 => .array (.boolean)
  | 56 => .array (.int)
  | 57 => .array (.int)
  | 58 => .array (.int)
  | 59 => .int
  | 60 => .array (.long)
  | 61 => .int
  | 62 => .array (.int)
  | 63 => .array (.int)
  | 64 => .int
  | 65 => .array (.int)
  | 66 => .int
  | 67 => .int
  | 68 => .array (.int)
  | 69 => .array (.int)
  | 70 => .array (.int)
  | 71 => .array (.int)
  | 72 => .array (.int)
  | 73 => .array (.int)
  | 74 => .array (.int)
  | 75 => .array (.int)
  | 76 => .long
  | 77 => .array (.int)
  | _ => .int
theorem cn_Model : ∀ a, a < 79 → ∀ b, b < 79 → a ≠ b → (cf_Model a).2.1 ≠ (cf_Model b).2.1 := by decide +kernel
theorem cp_Model : ∀ k, k < 79 → parseFieldDescriptor (cf_Model k).2.2.1 = some (ct_Model k) := by decide +kernel
theorem ci_Model : ∀ w ∈ u_ws "NineBoardsModel" cf_Model 79, w ∈ TB := fun w h => List.mem_filter.mpr ⟨List.mem_append_right _ ((by decide +kernel : ∀ w ∈ u_ws "NineBoardsModel" cf_Model 79, w ∈ tables_1) w h), (by decide +kernel : ∀ w ∈ u_ws "NineBoardsModel" cf_Model 79, goodWord w = true) w h⟩
abbrev classes : List vw_C := [("NineBoards$Bytes", cf_Bytes, 2), ("NineBoards$Gates", cf_Gates, 8), ("NineBoards$Lake", cf_Lake, 14), ("NineBoards$Past", cf_Past, 3), ("NineBoards$Plans", cf_Plans, 6), ("NineBoards$Reader", cf_Reader, 12), ("NineBoards$Rules", cf_Rules, 8), ("NineBoards$State", cf_State, 10), ("NineBoards$Things", cf_Things, 8), ("NineBoards", cf_Nine, 10), ("NineBoardsModel", cf_Model, 79)]
