/-! the names: types and their fields -/
def RX0 : String := "DebtDoors$Clearing"
def TX0 : u_T := fun k => match k with
  | 0 => ("DebtDoors$Clearing", "owesTo", "[I", true)
  | 1 => ("DebtDoors$Clearing", "balance", "[I", true)
  | 2 => ("DebtDoors$Clearing", "evenGroups", "[I", true)
  | 3 => ("DebtDoors$Clearing", "ring", "[I", true)
  | _ => ("DebtDoors$Clearing", "size", "I", false)
def tyX0 : Nat → FieldType := fun k => match k with
  | 0 => .array .int
  | 1 => .array .int
  | 2 => .array .int
  | 3 => .array .int
  | _ => .int
theorem nmX0 : ∀ a, a < 5 → ∀ b, b < 5 → a ≠ b → (TX0 a).2.1 ≠ (TX0 b).2.1 := by decide +kernel
theorem tyX0_ok : ∀ k, k < 5 → parseFieldDescriptor (TX0 k).2.2.1 = some (tyX0 k) := by decide +kernel
def RX1 : String := "DebtDoors$Ledger"
def TX1 : u_T := fun k => match k with
  | 0 => ("DebtDoors$Ledger", "purse", "[I", true)
  | 1 => ("DebtDoors$Ledger", "debtor", "[I", true)
  | 2 => ("DebtDoors$Ledger", "creditor", "[I", true)
  | 3 => ("DebtDoors$Ledger", "amount", "[I", true)
  | 4 => ("DebtDoors$Ledger", "since", "[I", true)
  | 5 => ("DebtDoors$Ledger", "debts", "I", false)
  | _ => ("DebtDoors$Ledger", "day", "I", false)
def tyX1 : Nat → FieldType := fun k => match k with
  | 0 => .array .int
  | 1 => .array .int
  | 2 => .array .int
  | 3 => .array .int
  | 4 => .array .int
  | 5 => .int
  | _ => .int
theorem nmX1 : ∀ a, a < 7 → ∀ b, b < 7 → a ≠ b → (TX1 a).2.1 ≠ (TX1 b).2.1 := by decide +kernel
theorem tyX1_ok : ∀ k, k < 7 → parseFieldDescriptor (TX1 k).2.2.1 = some (tyX1 k) := by decide +kernel
def RX2 : String := "DebtDoors$Lendings"
def TX2 : u_T := fun k => match k with
  | 0 => ("DebtDoors$Lendings", "giver", "[I", true)
  | 1 => ("DebtDoors$Lendings", "taker", "[I", true)
  | 2 => ("DebtDoors$Lendings", "amount", "[I", true)
  | 3 => ("DebtDoors$Lendings", "visit", "[I", true)
  | 4 => ("DebtDoors$Lendings", "rowsBehind", "[I", true)
  | 5 => ("DebtDoors$Lendings", "size", "I", false)
  | _ => ("DebtDoors$Lendings", "total", "I", false)
def tyX2 : Nat → FieldType := fun k => match k with
  | 0 => .array .int
  | 1 => .array .int
  | 2 => .array .int
  | 3 => .array .int
  | 4 => .array .int
  | 5 => .int
  | _ => .int
theorem nmX2 : ∀ a, a < 7 → ∀ b, b < 7 → a ≠ b → (TX2 a).2.1 ≠ (TX2 b).2.1 := by decide +kernel
theorem tyX2_ok : ∀ k, k < 7 → parseFieldDescriptor (TX2 k).2.2.1 = some (tyX2 k) := by decide +kernel
def RX3 : String := "DebtDoors$Machine"
def TX3 : u_T := fun k => match k with
  | 0 => ("DebtDoors$Machine", "words", "[I", true)
  | 1 => ("DebtDoors$Machine", "stack", "[I", true)
  | _ => ("DebtDoors$Machine", "broken", "Z", false)
def tyX3 : Nat → FieldType := fun k => match k with
  | 0 => .array .int
  | 1 => .array .int
  | _ => .boolean
theorem nmX3 : ∀ a, a < 3 → ∀ b, b < 3 → a ≠ b → (TX3 a).2.1 ≠ (TX3 b).2.1 := by decide +kernel
theorem tyX3_ok : ∀ k, k < 3 → parseFieldDescriptor (TX3 k).2.2.1 = some (tyX3 k) := by decide +kernel
def RX4 : String := "DebtDoors$Month"
def TX4 : u_T := fun k => match k with
  | 0 => ("DebtDoors$Month", "kept", "[I", true)
  | 1 => ("DebtDoors$Month", "s", "I", false)
  | _ => ("DebtDoors$Month", "people", "I", false)
def tyX4 : Nat → FieldType := fun k => match k with
  | 0 => .array .int
  | 1 => .int
  | _ => .int
theorem nmX4 : ∀ a, a < 3 → ∀ b, b < 3 → a ≠ b → (TX4 a).2.1 ≠ (TX4 b).2.1 := by decide +kernel
theorem tyX4_ok : ∀ k, k < 3 → parseFieldDescriptor (TX4 k).2.2.1 = some (tyX4 k) := by decide +kernel
def RX5 : String := "DebtDoors$Plan"
def TX5 : u_T := fun k => match k with
  | 0 => ("DebtDoors$Plan", "owed", "[I", true)
  | 1 => ("DebtDoors$Plan", "purse", "[I", true)
  | 2 => ("DebtDoors$Plan", "row", "[I", true)
  | 3 => ("DebtDoors$Plan", "paid", "[I", true)
  | 4 => ("DebtDoors$Plan", "known", "[Z", true)
  | 5 => ("DebtDoors$Plan", "knownRows", "[I", true)
  | 6 => ("DebtDoors$Plan", "knownPaid", "[I", true)
  | 7 => ("DebtDoors$Plan", "found", "Z", false)
  | _ => ("DebtDoors$Plan", "first", "[I", true)
def tyX5 : Nat → FieldType := fun k => match k with
  | 0 => .array .int
  | 1 => .array .int
  | 2 => .array .int
  | 3 => .array .int
  | 4 => .array .boolean
  | 5 => .array .int
  | 6 => .array .int
  | 7 => .boolean
  | _ => .array .int
theorem nmX5 : ∀ a, a < 9 → ∀ b, b < 9 → a ≠ b → (TX5 a).2.1 ≠ (TX5 b).2.1 := by decide +kernel
theorem tyX5_ok : ∀ k, k < 9 → parseFieldDescriptor (TX5 k).2.2.1 = some (tyX5 k) := by decide +kernel
def RX6 : String := "DebtDoors$Reader"
def TX6 : u_T := fun k => match k with
  | 0 => ("DebtDoors$Reader", "tape", "[I", true)
  | 1 => ("DebtDoors$Reader", "program", "[I", true)
  | 2 => ("DebtDoors$Reader", "length", "I", false)
  | 3 => ("DebtDoors$Reader", "fault", "I", false)
  | 4 => ("DebtDoors$Reader", "forOrders", "Z", false)
  | 5 => ("DebtDoors$Reader", "written", "I", false)
  | 6 => ("DebtDoors$Reader", "parts", "I", false)
  | 7 => ("DebtDoors$Reader", "token", "I", false)
  | 8 => ("DebtDoors$Reader", "from", "I", false)
  | 9 => ("DebtDoors$Reader", "to", "I", false)
  | _ => ("DebtDoors$Reader", "number", "I", false)
def tyX6 : Nat → FieldType := fun k => match k with
  | 0 => .array .int
  | 1 => .array .int
  | 2 => .int
  | 3 => .int
  | 4 => .boolean
  | 5 => .int
  | 6 => .int
  | 7 => .int
  | 8 => .int
  | 9 => .int
  | _ => .int
theorem nmX6 : ∀ a, a < 11 → ∀ b, b < 11 → a ≠ b → (TX6 a).2.1 ≠ (TX6 b).2.1 := by decide +kernel
theorem tyX6_ok : ∀ k, k < 11 → parseFieldDescriptor (TX6 k).2.2.1 = some (tyX6 k) := by decide +kernel
def RX7 : String := "DebtDoors$Rules"
def TX7 : u_T := fun k => match k with
  | _ => ("DebtDoors$Rules", "machine", "LDebtDoors$Machine;", true)
def tyX7 : Nat → FieldType := fun k => match k with
  | _ => .object "DebtDoors$Machine"
theorem nmX7 : ∀ a, a < 1 → ∀ b, b < 1 → a ≠ b → (TX7 a).2.1 ≠ (TX7 b).2.1 := by decide +kernel
theorem tyX7_ok : ∀ k, k < 1 → parseFieldDescriptor (TX7 k).2.2.1 = some (tyX7 k) := by decide +kernel
def RX8 : String := "DebtDoors$Theft"
def TX8 : u_T := fun k => match k with
  | 0 => ("DebtDoors$Theft", "debt", "[I", true)
  | 1 => ("DebtDoors$Theft", "price", "[I", true)
  | 2 => ("DebtDoors$Theft", "thief", "I", false)
  | 3 => ("DebtDoors$Theft", "house", "I", false)
  | 4 => ("DebtDoors$Theft", "room", "I", false)
  | 5 => ("DebtDoors$Theft", "back", "I", false)
  | 6 => ("DebtDoors$Theft", "found", "Z", false)
  | 7 => ("DebtDoors$Theft", "bestPrice", "I", false)
  | _ => ("DebtDoors$Theft", "bestDebts", "I", false)
def tyX8 : Nat → FieldType := fun k => match k with
  | 0 => .array .int
  | 1 => .array .int
  | 2 => .int
  | 3 => .int
  | 4 => .int
  | 5 => .int
  | 6 => .boolean
  | 7 => .int
  | _ => .int
theorem nmX8 : ∀ a, a < 9 → ∀ b, b < 9 → a ≠ b → (TX8 a).2.1 ≠ (TX8 b).2.1 := by decide +kernel
theorem tyX8_ok : ∀ k, k < 9 → parseFieldDescriptor (TX8 k).2.2.1 = some (tyX8 k) := by decide +kernel
def RX9 : String := "DebtDoors$Town"
def TX9 : u_T := fun k => match k with
  | 0 => ("DebtDoors$Town", "ledger", "LDebtDoors$Ledger;", true)
  | 1 => ("DebtDoors$Town", "rooms", "[I", true)
  | 2 => ("DebtDoors$Town", "wary", "[I", true)
  | 3 => ("DebtDoors$Town", "visit", "[[I", true)
  | 4 => ("DebtDoors$Town", "scuff", "[[I", true)
  | 5 => ("DebtDoors$Town", "law", "[[I", true)
  | 6 => ("DebtDoors$Town", "people", "I", false)
  | 7 => ("DebtDoors$Town", "mood", "I", false)
  | 8 => ("DebtDoors$Town", "visits", "I", false)
  | 9 => ("DebtDoors$Town", "scuffs", "I", false)
  | 10 => ("DebtDoors$Town", "laws", "I", false)
  | _ => ("DebtDoors$Town", "force", "I", false)
def tyX9 : Nat → FieldType := fun k => match k with
  | 0 => .object "DebtDoors$Ledger"
  | 1 => .array .int
  | 2 => .array .int
  | 3 => .array (.array .int)
  | 4 => .array (.array .int)
  | 5 => .array (.array .int)
  | 6 => .int
  | 7 => .int
  | 8 => .int
  | 9 => .int
  | 10 => .int
  | _ => .int
theorem nmX9 : ∀ a, a < 12 → ∀ b, b < 12 → a ≠ b → (TX9 a).2.1 ≠ (TX9 b).2.1 := by decide +kernel
theorem tyX9_ok : ∀ k, k < 12 → parseFieldDescriptor (TX9 k).2.2.1 = some (tyX9 k) := by decide +kernel
def RX10 : String := "DebtDoors$Undo"
def TX10 : u_T := fun k => match k with
  | 0 => ("DebtDoors$Undo", "ahead", "[LDebtDoors$Ledger;", true)
  | 1 => ("DebtDoors$Undo", "deed", "[I", true)
  | 2 => ("DebtDoors$Undo", "first", "I", false)
  | _ => ("DebtDoors$Undo", "size", "I", false)
def tyX10 : Nat → FieldType := fun k => match k with
  | 0 => .array (.object "DebtDoors$Ledger")
  | 1 => .array .int
  | 2 => .int
  | _ => .int
theorem nmX10 : ∀ a, a < 4 → ∀ b, b < 4 → a ≠ b → (TX10 a).2.1 ≠ (TX10 b).2.1 := by decide +kernel
theorem tyX10_ok : ∀ k, k < 4 → parseFieldDescriptor (TX10 k).2.2.1 = some (tyX10 k) := by decide +kernel
def RX11 : String := "DebtDoors"
def TX11 : u_T := fun k => match k with
  | 0 => ("DebtDoors", "town", "LDebtDoors$Town;", true)
  | 1 => ("DebtDoors", "images", "[LDebtDoors$Town;", true)
  | 2 => ("DebtDoors", "imageKept", "[Z", true)
  | 3 => ("DebtDoors", "paper", "LDebtDoors$Ledger;", true)
  | 4 => ("DebtDoors", "undo", "LDebtDoors$Undo;", true)
  | 5 => ("DebtDoors", "undoAhead", "LDebtDoors$Undo;", true)
  | 6 => ("DebtDoors", "reader", "LDebtDoors$Reader;", true)
  | 7 => ("DebtDoors", "rules", "LDebtDoors$Rules;", true)
  | 8 => ("DebtDoors", "lendings", "LDebtDoors$Lendings;", true)
  | 9 => ("DebtDoors", "plan", "LDebtDoors$Plan;", true)
  | 10 => ("DebtDoors", "theft", "LDebtDoors$Theft;", true)
  | 11 => ("DebtDoors", "clearing", "LDebtDoors$Clearing;", true)
  | 12 => ("DebtDoors", "month", "LDebtDoors$Month;", true)
  | 13 => ("DebtDoors", "depths", "[I", true)
  | 14 => ("DebtDoors", "refused", "[I", true)
  | 15 => ("DebtDoors", "status", "I", false)
  | 16 => ("DebtDoors", "blots", "I", false)
  | 17 => ("DebtDoors", "stopped", "I", false)
  | 18 => ("DebtDoors", "done", "I", false)
  | _ => ("DebtDoors", "last", "I", false)
def tyX11 : Nat → FieldType := fun k => match k with
  | 0 => .object "DebtDoors$Town"
  | 1 => .array (.object "DebtDoors$Town")
  | 2 => .array .boolean
  | 3 => .object "DebtDoors$Ledger"
  | 4 => .object "DebtDoors$Undo"
  | 5 => .object "DebtDoors$Undo"
  | 6 => .object "DebtDoors$Reader"
  | 7 => .object "DebtDoors$Rules"
  | 8 => .object "DebtDoors$Lendings"
  | 9 => .object "DebtDoors$Plan"
  | 10 => .object "DebtDoors$Theft"
  | 11 => .object "DebtDoors$Clearing"
  | 12 => .object "DebtDoors$Month"
  | 13 => .array .int
  | 14 => .array .int
  | 15 => .int
  | 16 => .int
  | 17 => .int
  | 18 => .int
  | _ => .int
theorem nmX11 : ∀ a, a < 20 → ∀ b, b < 20 → a ≠ b → (TX11 a).2.1 ≠ (TX11 b).2.1 := by decide +kernel
theorem tyX11_ok : ∀ k, k < 20 → parseFieldDescriptor (TX11 k).2.2.1 = some (tyX11 k) := by decide +kernel
def RX12 : String := "DebtDoorsModel"
def TX12 : u_T := fun k => match k with
  | 0 => ("DebtDoorsModel", "status", "I", false)
  | 1 => ("DebtDoorsModel", "refused", "[I", true)
  | 2 => ("DebtDoorsModel", "kept", "[I", true)
  | 3 => ("DebtDoorsModel", "images", "[I", true)
  | 4 => ("DebtDoorsModel", "hasImage", "[Z", true)
  | 5 => ("DebtDoorsModel", "aside", "[I", true)
  | 6 => ("DebtDoorsModel", "blots0", "I", false)
  | 7 => ("DebtDoorsModel", "words", "[B", true)
  | 8 => ("DebtDoorsModel", "isOrders", "Z", false)
  | 9 => ("DebtDoorsModel", "tape", "[B", true)
  | 10 => ("DebtDoorsModel", "five", "[I", true)
  | 11 => ("DebtDoorsModel", "taped", "I", false)
  | 12 => ("DebtDoorsModel", "fault", "I", false)
  | 13 => ("DebtDoorsModel", "code", "[I", true)
  | 14 => ("DebtDoorsModel", "value", "[I", true)
  | 15 => ("DebtDoorsModel", "placed", "[I", true)
  | 16 => ("DebtDoorsModel", "tokens", "I", false)
  | 17 => ("DebtDoorsModel", "token", "I", false)
  | 18 => ("DebtDoorsModel", "leaves", "I", false)
  | 19 => ("DebtDoorsModel", "bad", "I", false)
  | 20 => ("DebtDoorsModel", "go", "I", false)
  | 21 => ("DebtDoorsModel", "goEnd", "I", false)
  | 22 => ("DebtDoorsModel", "broken", "Z", false)
  | 23 => ("DebtDoorsModel", "inOrders", "Z", false)
  | 24 => ("DebtDoorsModel", "asked", "[I", true)
  | 25 => ("DebtDoorsModel", "orderValues", "[I", true)
  | 26 => ("DebtDoorsModel", "left", "[I", true)
  | 27 => ("DebtDoorsModel", "leftAhead", "[I", true)
  | 28 => ("DebtDoorsModel", "undoMany", "I", false)
  | 29 => ("DebtDoorsModel", "lender", "[I", true)
  | 30 => ("DebtDoorsModel", "taker", "[I", true)
  | 31 => ("DebtDoorsModel", "needed", "[I", true)
  | 32 => ("DebtDoorsModel", "told0", "[I", true)
  | 33 => ("DebtDoorsModel", "rows", "[I", true)
  | 34 => ("DebtDoorsModel", "lendMany", "I", false)
  | 35 => ("DebtDoorsModel", "planRow", "[I", true)
  | 36 => ("DebtDoorsModel", "firstPlan", "[I", true)
  | 37 => ("DebtDoorsModel", "plans", "I", false)
  | 38 => ("DebtDoorsModel", "thiefCost", "I", false)
  | 39 => ("DebtDoorsModel", "thiefSet", "I", false)
  | 40 => ("DebtDoorsModel", "prices", "[I", true)
  | 41 => ("DebtDoorsModel", "ringRow", "[I", true)
  | 42 => ("DebtDoorsModel", "ringFirst", "[I", true)
  | 43 => ("DebtDoorsModel", "ringSize", "I", false)
  | 44 => ("DebtDoorsModel", "ringBits", "I", false)
  | 45 => ("DebtDoorsModel", "deeps", "[I", true)
  | 46 => ("DebtDoorsModel", "groups", "[I", true)
  | 47 => ("DebtDoorsModel", "stopped0", "I", false)
  | 48 => ("DebtDoorsModel", "orderDone", "I", false)
  | 49 => ("DebtDoorsModel", "orderLast", "I", false)
  | 50 => ("DebtDoorsModel", "orderAt", "I", false)
  | 51 => ("DebtDoorsModel", "timesOf", "I", false)
  | 52 => ("DebtDoorsModel", "head", "I", false)
  | 53 => ("DebtDoorsModel", "sumsAre", "Z", false)
  | 54 => ("DebtDoorsModel", "testIs", "Z", false)
  | 55 => ("DebtDoorsModel", "sums", "[J", true)
  | 56 => ("DebtDoorsModel", "drawnPurse", "[I", true)
  | 57 => ("DebtDoorsModel", "drawnBalance", "[I", true)
  | 58 => ("DebtDoorsModel", "drawnDoors", "[I", true)
  | 59 => ("DebtDoorsModel", "drawnMany", "I", false)
  | _ => ("DebtDoorsModel", "latest", "I", false)
def tyX12 : Nat → FieldType := fun k => match k with
  | 0 => .int
  | 1 => .array .int
  | 2 => .array .int
  | 3 => .array .int
  | 4 => .array .boolean
  | 5 => .array .int
  | 6 => .int
  | 7 => .array .byte
  | 8 => .boolean
  | 9 => .array .byte
  | 10 => .array .int
  | 11 => .int
  | 12 => .int
  | 13 => .array .int
  | 14 => .array .int
  | 15 => .array .int
  | 16 => .int
  | 17 => .int
  | 18 => .int
  | 19 => .int
  | 20 => .int
  | 21 => .int
  | 22 => .boolean
  | 23 => .boolean
  | 24 => .array .int
  | 25 => .array .int
  | 26 => .array .int
  | 27 => .array .int
  | 28 => .int
  | 29 => .array .int
  | 30 => .array .int
  | 31 => .array .int
  | 32 => .array .int
  | 33 => .array .int
  | 34 => .int
  | 35 => .array .int
  | 36 => .array .int
  | 37 => .int
  | 38 => .int
  | 39 => .int
  | 40 => .array .int
  | 41 => .array .int
  | 42 => .array .int
  | 43 => .int
  | 44 => .int
  | 45 => .array .int
  | 46 => .array .int
  | 47 => .int
  | 48 => .int
  | 49 => .int
  | 50 => .int
  | 51 => .int
  | 52 => .int
  | 53 => .boolean
  | 54 => .boolean
  | 55 => .array .long
  | 56 => .array .int
  | 57 => .array .int
  | 58 => .array .int
  | 59 => .int
  | _ => .int
theorem nmX12 : ∀ a, a < 61 → ∀ b, b < 61 → a ≠ b → (TX12 a).2.1 ≠ (TX12 b).2.1 := by decide +kernel
theorem tyX12_ok : ∀ k, k < 61 → parseFieldDescriptor (TX12 k).2.2.1 = some (tyX12 k) := by decide +kernel
abbrev zCl : List vw_C := [(RX0, TX0, 5), (RX1, TX1, 7), (RX2, TX2, 7), (RX3, TX3, 3), (RX4, TX4, 3), (RX5, TX5, 9), (RX6, TX6, 11), (RX7, TX7, 1), (RX8, TX8, 9), (RX9, TX9, 12), (RX10, TX10, 4), (RX11, TX11, 20), (RX12, TX12, 61)]
abbrev zTb : List Cond := lw_tbl.filter goodWord
theorem zTb_in {w : Cond} (i : Nat) (h : lw_tbl[i]? = some w) (g : goodWord w = true) : w ∈ zTb := List.mem_filter.mpr ⟨List.mem_of_getElem? h, g⟩
theorem zFin0 : ∀ w ∈ u_ws RX0 TX0 5, w ∈ zTb := by decide +kernel
theorem zFin1 : ∀ w ∈ u_ws RX1 TX1 7, w ∈ zTb := by decide +kernel
theorem zFin2 : ∀ w ∈ u_ws RX2 TX2 7, w ∈ zTb := by decide +kernel
theorem zFin3 : ∀ w ∈ u_ws RX3 TX3 3, w ∈ zTb := by decide +kernel
theorem zFin4 : ∀ w ∈ u_ws RX4 TX4 3, w ∈ zTb := by decide +kernel
theorem zFin5 : ∀ w ∈ u_ws RX5 TX5 9, w ∈ zTb := by decide +kernel
theorem zFin6 : ∀ w ∈ u_ws RX6 TX6 11, w ∈ zTb := by decide +kernel
theorem zFin7 : ∀ w ∈ u_ws RX7 TX7 1, w ∈ zTb := by decide +kernel
theorem zFin8 : ∀ w ∈ u_ws RX8 TX8 9, w ∈ zTb := by decide +kernel
theorem zFin9 : ∀ w ∈ u_ws RX9 TX9 12, w ∈ zTb := by decide +kernel
theorem zFin10 : ∀ w ∈ u_ws RX10 TX10 4, w ∈ zTb := by decide +kernel
theorem zFin11 : ∀ w ∈ u_ws RX11 TX11 20, w ∈ zTb := by decide +kernel
theorem zFin12 : ∀ w ∈ u_ws RX12 TX12 61, w ∈ zTb := by decide +kernel
def zTy : Nat → Nat → FieldType := fun c => match c with
  | 0 => tyX0
  | 1 => tyX1
  | 2 => tyX2
  | 3 => tyX3
  | 4 => tyX4
  | 5 => tyX5
  | 6 => tyX6
  | 7 => tyX7
  | 8 => tyX8
  | 9 => tyX9
  | 10 => tyX10
  | 11 => tyX11
  | _ => tyX12
/-- what the tables say of each type -/
theorem zClOk : ∀ (ci : Nat) (q : vw_C), zCl[ci]? = some q → (∀ w ∈ u_ws q.1 q.2.1 q.2.2, w ∈ zTb) ∧ (∀ k, k < q.2.2 → parseFieldDescriptor (q.2.1 k).2.2.1 = some (zTy ci k)) ∧ (∀ a, a < q.2.2 → ∀ b, b < q.2.2 → a ≠ b → (q.2.1 a).2.1 ≠ (q.2.1 b).2.1)
  | 0, _, h => by cases h; exact ⟨zFin0, tyX0_ok, nmX0⟩
  | 1, _, h => by cases h; exact ⟨zFin1, tyX1_ok, nmX1⟩
  | 2, _, h => by cases h; exact ⟨zFin2, tyX2_ok, nmX2⟩
  | 3, _, h => by cases h; exact ⟨zFin3, tyX3_ok, nmX3⟩
  | 4, _, h => by cases h; exact ⟨zFin4, tyX4_ok, nmX4⟩
  | 5, _, h => by cases h; exact ⟨zFin5, tyX5_ok, nmX5⟩
  | 6, _, h => by cases h; exact ⟨zFin6, tyX6_ok, nmX6⟩
  | 7, _, h => by cases h; exact ⟨zFin7, tyX7_ok, nmX7⟩
  | 8, _, h => by cases h; exact ⟨zFin8, tyX8_ok, nmX8⟩
  | 9, _, h => by cases h; exact ⟨zFin9, tyX9_ok, nmX9⟩
  | 10, _, h => by cases h; exact ⟨zFin10, tyX10_ok, nmX10⟩
  | 11, _, h => by cases h; exact ⟨zFin11, tyX11_ok, nmX11⟩
  | 12, _, h => by cases h; exact ⟨zFin12, tyX12_ok, nmX12⟩
  | n + 13, _, h => by simp at h
