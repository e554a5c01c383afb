theorem goodIn_sub {big ws : List Cond} (hm : ∀ w ∈ ws, w ∈ big) (h : ws.all goodWord = true) : GoodIn big ws := fun w hw => ⟨hm w hw, good_of_word (List.all_eq_true.mp h w hw)⟩
theorem goodIn_r {big : List Cond} (ws : List Cond) (ps : List Nat) (hp : ws = ps.filterMap (fun i => big[i]?)) (h : ws.all goodWord = true) : GoodIn big ws := by
  intro w hw
  have h1 := List.all_eq_true.mp h w hw
  rw [hp] at hw
  obtain ⟨i, -, hi⟩ := List.mem_filterMap.mp hw
  have hm : w ∈ big := by first | exact List.mem_of_getElem? hi | exact List.getElem?_mem hi
  exact ⟨hm, good_of_word h1⟩
def RX0 : String := "NestedChecker$Automaton"
def TX0 : u_T := fun k => match k with
  | 0 => ("NestedChecker$Automaton", "states", "I", false)
  | 1 => ("NestedChecker$Automaton", "symbols", "I", false)
  | 2 => ("NestedChecker$Automaton", "starts", "I", false)
  | 3 => ("NestedChecker$Automaton", "accepts", "I", false)
  | 4 => ("NestedChecker$Automaton", "rules", "I", false)
  | 5 => ("NestedChecker$Automaton", "calls", "I", false)
  | 6 => ("NestedChecker$Automaton", "letter", "[I", true)
  | 7 => ("NestedChecker$Automaton", "from", "[I", true)
  | 8 => ("NestedChecker$Automaton", "to", "[I", true)
  | 9 => ("NestedChecker$Automaton", "symbol", "[I", true)
  | 10 => ("NestedChecker$Automaton", "step", "[I", true)
  | _ => ("NestedChecker$Automaton", "stacked", "[I", true)
def tyX0 : Nat → FieldType := fun k => match k with
  | 0 => .int
  | 1 => .int
  | 2 => .int
  | 3 => .int
  | 4 => .int
  | 5 => .int
  | 6 => .array .int
  | 7 => .array .int
  | 8 => .array .int
  | 9 => .array .int
  | 10 => .array .int
  | _ => .array .int
abbrev wsX00 : List Cond := u_ws RX0 TX0 12
theorem nmX0 : ∀ a, a < 12 → ∀ b, b < 12 → a ≠ b → (TX0 a).2.1 ≠ (TX0 b).2.1 := by decide +kernel
theorem tyX0_ok : ∀ k, k < 12 → parseFieldDescriptor (TX0 k).2.2.1 = some (tyX0 k) := by decide +kernel
def RX1 : String := "NestedChecker$Reader"
def TX1 : u_T := fun k => match k with
  | 0 => ("NestedChecker$Reader", "made", "LNestedChecker$Setting;", false)
  | 1 => ("NestedChecker$Reader", "taped", "I", false)
  | 2 => ("NestedChecker$Reader", "faultKind", "I", false)
  | 3 => ("NestedChecker$Reader", "faultPlace", "I", false)
  | 4 => ("NestedChecker$Reader", "tape", "[B", true)
  | 5 => ("NestedChecker$Reader", "length", "I", false)
  | 6 => ("NestedChecker$Reader", "kind", "I", false)
  | 7 => ("NestedChecker$Reader", "place", "I", false)
  | 8 => ("NestedChecker$Reader", "size", "I", false)
  | 9 => ("NestedChecker$Reader", "value", "I", false)
  | 10 => ("NestedChecker$Reader", "namePlace", "[I", true)
  | _ => ("NestedChecker$Reader", "nameSize", "[I", true)
def tyX1 : Nat → FieldType := fun k => match k with
  | 0 => .object "NestedChecker$Setting"
  | 1 => .int
  | 2 => .int
  | 3 => .int
  | 4 => .array .byte
  | 5 => .int
  | 6 => .int
  | 7 => .int
  | 8 => .int
  | 9 => .int
  | 10 => .array .int
  | _ => .array .int
abbrev wsX10 : List Cond := u_ws RX1 TX1 12
theorem nmX1 : ∀ a, a < 12 → ∀ b, b < 12 → a ≠ b → (TX1 a).2.1 ≠ (TX1 b).2.1 := by decide +kernel
theorem tyX1_ok : ∀ k, k < 12 → parseFieldDescriptor (TX1 k).2.2.1 = some (tyX1 k) := by decide +kernel
def RX3 : String := "NestedChecker$RunCount"
def TX3 : u_T := fun k => match k with
  | 0 => ("NestedChecker$RunCount", "pending", "I", false)
  | 1 => ("NestedChecker$RunCount", "now", "[J", true)
  | 2 => ("NestedChecker$RunCount", "scratch", "[J", true)
  | 3 => ("NestedChecker$RunCount", "below", "[J", true)
  | 4 => ("NestedChecker$RunCount", "belowCall", "[I", true)
  | 5 => ("NestedChecker$RunCount", "ends", "[J", false)
  | _ => ("NestedChecker$RunCount", "more", "[J", false)
def tyX3 : Nat → FieldType := fun k => match k with
  | 0 => .int
  | 1 => .array .long
  | 2 => .array .long
  | 3 => .array .long
  | 4 => .array .int
  | 5 => .array .long
  | _ => .array .long
abbrev wsX30 : List Cond := u_ws RX3 TX3 7
theorem nmX3 : ∀ a, a < 7 → ∀ b, b < 7 → a ≠ b → (TX3 a).2.1 ≠ (TX3 b).2.1 := by decide +kernel
theorem tyX3_ok : ∀ k, k < 7 → parseFieldDescriptor (TX3 k).2.2.1 = some (tyX3 k) := by decide +kernel
def RX4 : String := "NestedChecker$Search"
def TX4 : u_T := fun k => match k with
  | 0 => ("NestedChecker$Search", "foundLength", "[I", true)
  | 1 => ("NestedChecker$Search", "foundCode", "[I", true)
  | 2 => ("NestedChecker$Search", "foundSlots", "I", false)
  | 3 => ("NestedChecker$Search", "calls", "I", false)
  | 4 => ("NestedChecker$Search", "paired", "I", false)
  | 5 => ("NestedChecker$Search", "letters", "I", false)
  | 6 => ("NestedChecker$Search", "all", "LNestedChecker$Automaton;", true)
  | 7 => ("NestedChecker$Search", "left", "LNestedChecker$Automaton;", false)
  | 8 => ("NestedChecker$Search", "right", "LNestedChecker$Automaton;", false)
  | 9 => ("NestedChecker$Search", "whole", "Z", false)
  | 10 => ("NestedChecker$Search", "words", "LNestedChecker$Shelf;", true)
  | 11 => ("NestedChecker$Search", "blocks", "LNestedChecker$Shelf;", true)
  | 12 => ("NestedChecker$Search", "nodes", "LNestedChecker$Shelf;", true)
  | 13 => ("NestedChecker$Search", "relations", "I", false)
  | 14 => ("NestedChecker$Search", "relation", "[I", true)
  | 15 => ("NestedChecker$Search", "number", "[I", true)
  | _ => ("NestedChecker$Search", "powers", "[I", true)
def tyX4 : Nat → FieldType := fun k => match k with
  | 0 => .array .int
  | 1 => .array .int
  | 2 => .int
  | 3 => .int
  | 4 => .int
  | 5 => .int
  | 6 => .object "NestedChecker$Automaton"
  | 7 => .object "NestedChecker$Automaton"
  | 8 => .object "NestedChecker$Automaton"
  | 9 => .boolean
  | 10 => .object "NestedChecker$Shelf"
  | 11 => .object "NestedChecker$Shelf"
  | 12 => .object "NestedChecker$Shelf"
  | 13 => .int
  | 14 => .array .int
  | 15 => .array .int
  | _ => .array .int
abbrev wsX40 : List Cond := u_ws RX4 TX4 17
theorem nmX4 : ∀ a, a < 17 → ∀ b, b < 17 → a ≠ b → (TX4 a).2.1 ≠ (TX4 b).2.1 := by decide +kernel
theorem tyX4_ok : ∀ k, k < 17 → parseFieldDescriptor (TX4 k).2.2.1 = some (tyX4 k) := by decide +kernel
def RX5 : String := "NestedChecker$Setting"
def TX5 : u_T := fun k => match k with
  | 0 => ("NestedChecker$Setting", "calls", "I", false)
  | 1 => ("NestedChecker$Setting", "paired", "I", false)
  | 2 => ("NestedChecker$Setting", "letters", "I", false)
  | 3 => ("NestedChecker$Setting", "automata", "I", false)
  | 4 => ("NestedChecker$Setting", "first", "LNestedChecker$Automaton;", true)
  | 5 => ("NestedChecker$Setting", "second", "LNestedChecker$Automaton;", true)
  | _ => ("NestedChecker$Setting", "monitor", "LNestedChecker$Walk;", true)
def tyX5 : Nat → FieldType := fun k => match k with
  | 0 => .int
  | 1 => .int
  | 2 => .int
  | 3 => .int
  | 4 => .object "NestedChecker$Automaton"
  | 5 => .object "NestedChecker$Automaton"
  | _ => .object "NestedChecker$Walk"
abbrev wsX50 : List Cond := u_ws RX5 TX5 7
theorem nmX5 : ∀ a, a < 7 → ∀ b, b < 7 → a ≠ b → (TX5 a).2.1 ≠ (TX5 b).2.1 := by decide +kernel
theorem tyX5_ok : ∀ k, k < 7 → parseFieldDescriptor (TX5 k).2.2.1 = some (tyX5 k) := by decide +kernel
def RX6 : String := "NestedChecker$Shelf"
def TX6 : u_T := fun k => match k with
  | 0 => ("NestedChecker$Shelf", "size", "I", false)
  | 1 => ("NestedChecker$Shelf", "items", "[I", true)
  | 2 => ("NestedChecker$Shelf", "length", "[I", true)
  | 3 => ("NestedChecker$Shelf", "code", "[I", true)
  | _ => ("NestedChecker$Shelf", "mood", "[I", true)
def tyX6 : Nat → FieldType := fun k => match k with
  | 0 => .int
  | 1 => .array .int
  | 2 => .array .int
  | 3 => .array .int
  | _ => .array .int
abbrev wsX60 : List Cond := u_ws RX6 TX6 5
theorem nmX6 : ∀ a, a < 5 → ∀ b, b < 5 → a ≠ b → (TX6 a).2.1 ≠ (TX6 b).2.1 := by decide +kernel
theorem tyX6_ok : ∀ k, k < 5 → parseFieldDescriptor (TX6 k).2.2.1 = some (tyX6 k) := by decide +kernel
def RX7 : String := "NestedChecker$SummaryTable"
def TX7 : u_T := fun k => match k with
  | 0 => ("NestedChecker$SummaryTable", "known", "Z", false)
  | 1 => ("NestedChecker$SummaryTable", "size", "I", false)
  | 2 => ("NestedChecker$SummaryTable", "states", "[I", true)
  | 3 => ("NestedChecker$SummaryTable", "pairs", "[I", true)
  | 4 => ("NestedChecker$SummaryTable", "present", "[I", true)
  | _ => ("NestedChecker$SummaryTable", "overs", "[I", true)
def tyX7 : Nat → FieldType := fun k => match k with
  | 0 => .boolean
  | 1 => .int
  | 2 => .array .int
  | 3 => .array .int
  | 4 => .array .int
  | _ => .array .int
abbrev wsX70 : List Cond := u_ws RX7 TX7 6
theorem nmX7 : ∀ a, a < 6 → ∀ b, b < 6 → a ≠ b → (TX7 a).2.1 ≠ (TX7 b).2.1 := by decide +kernel
theorem tyX7_ok : ∀ k, k < 6 → parseFieldDescriptor (TX7 k).2.2.1 = some (tyX7 k) := by decide +kernel
def RX8 : String := "NestedChecker$Tally"
def TX8 : u_T := fun k => match k with
  | 0 => ("NestedChecker$Tally", "calls", "I", false)
  | 1 => ("NestedChecker$Tally", "paired", "I", false)
  | 2 => ("NestedChecker$Tally", "letters", "I", false)
  | 3 => ("NestedChecker$Tally", "insides", "I", false)
  | 4 => ("NestedChecker$Tally", "insidePairs", "[I", true)
  | 5 => ("NestedChecker$Tally", "insideCode", "[I", true)
  | 6 => ("NestedChecker$Tally", "insideEnd", "[I", true)
  | 7 => ("NestedChecker$Tally", "blocks", "I", false)
  | 8 => ("NestedChecker$Tally", "blockPairs", "[I", true)
  | 9 => ("NestedChecker$Tally", "blockCode", "[I", true)
  | 10 => ("NestedChecker$Tally", "blockEnd", "[I", true)
  | 11 => ("NestedChecker$Tally", "many", "[I", true)
  | _ => ("NestedChecker$Tally", "last", "[I", true)
def tyX8 : Nat → FieldType := fun k => match k with
  | 0 => .int
  | 1 => .int
  | 2 => .int
  | 3 => .int
  | 4 => .array .int
  | 5 => .array .int
  | 6 => .array .int
  | 7 => .int
  | 8 => .array .int
  | 9 => .array .int
  | 10 => .array .int
  | 11 => .array .int
  | _ => .array .int
abbrev wsX80 : List Cond := u_ws RX8 TX8 13
theorem nmX8 : ∀ a, a < 13 → ∀ b, b < 13 → a ≠ b → (TX8 a).2.1 ≠ (TX8 b).2.1 := by decide +kernel
theorem tyX8_ok : ∀ k, k < 13 → parseFieldDescriptor (TX8 k).2.2.1 = some (tyX8 k) := by decide +kernel
def RX9 : String := "NestedChecker$Trays"
def TX9 : u_T := fun k => match k with
  | 0 => ("NestedChecker$Trays", "values", "[J", true)
  | 1 => ("NestedChecker$Trays", "sorts", "[I", true)
  | _ => ("NestedChecker$Trays", "places", "[I", true)
def tyX9 : Nat → FieldType := fun k => match k with
  | 0 => .array .long
  | 1 => .array .int
  | _ => .array .int
abbrev wsX90 : List Cond := u_ws RX9 TX9 3
theorem nmX9 : ∀ a, a < 3 → ∀ b, b < 3 → a ≠ b → (TX9 a).2.1 ≠ (TX9 b).2.1 := by decide +kernel
theorem tyX9_ok : ∀ k, k < 3 → parseFieldDescriptor (TX9 k).2.2.1 = some (tyX9 k) := by decide +kernel
def RX10 : String := "NestedChecker$Walk"
def TX10 : u_T := fun k => match k with
  | 0 => ("NestedChecker$Walk", "watched", "I", false)
  | 1 => ("NestedChecker$Walk", "steps", "I", false)
  | 2 => ("NestedChecker$Walk", "pending", "I", false)
  | 3 => ("NestedChecker$Walk", "states", "I", false)
  | 4 => ("NestedChecker$Walk", "pairs", "I", false)
  | 5 => ("NestedChecker$Walk", "belowStates", "[I", true)
  | 6 => ("NestedChecker$Walk", "belowPairs", "[I", true)
  | _ => ("NestedChecker$Walk", "belowCall", "[I", true)
def tyX10 : Nat → FieldType := fun k => match k with
  | 0 => .int
  | 1 => .int
  | 2 => .int
  | 3 => .int
  | 4 => .int
  | 5 => .array .int
  | 6 => .array .int
  | _ => .array .int
abbrev wsX100 : List Cond := u_ws RX10 TX10 8
theorem nmX10 : ∀ a, a < 8 → ∀ b, b < 8 → a ≠ b → (TX10 a).2.1 ≠ (TX10 b).2.1 := by decide +kernel
theorem tyX10_ok : ∀ k, k < 8 → parseFieldDescriptor (TX10 k).2.2.1 = some (tyX10 k) := by decide +kernel
def RX11 : String := "NestedChecker"
def TX11 : u_T := fun k => match k with
  | 0 => ("NestedChecker", "lastStatus", "I", false)
  | 1 => ("NestedChecker", "fractionTop", "J", false)
  | 2 => ("NestedChecker", "fractionBottom", "J", false)
  | 3 => ("NestedChecker", "trays", "LNestedChecker$Trays;", true)
  | 4 => ("NestedChecker", "reader", "LNestedChecker$Reader;", true)
  | 5 => ("NestedChecker", "live", "LNestedChecker$Setting;", false)
  | 6 => ("NestedChecker", "kept", "[LNestedChecker$Setting;", true)
  | 7 => ("NestedChecker", "marks", "I", false)
  | 8 => ("NestedChecker", "firstTable", "LNestedChecker$SummaryTable;", true)
  | 9 => ("NestedChecker", "secondTable", "LNestedChecker$SummaryTable;", true)
  | 10 => ("NestedChecker", "search", "LNestedChecker$Search;", true)
  | 11 => ("NestedChecker", "tally", "LNestedChecker$Tally;", true)
  | 12 => ("NestedChecker", "walker", "LNestedChecker$Walk;", true)
  | 13 => ("NestedChecker", "runCount", "LNestedChecker$RunCount;", true)
  | _ => ("NestedChecker", "drawn", "I", false)
def tyX11 : Nat → FieldType := fun k => match k with
  | 0 => .int
  | 1 => .long
  | 2 => .long
  | 3 => .object "NestedChecker$Trays"
  | 4 => .object "NestedChecker$Reader"
  | 5 => .object "NestedChecker$Setting"
  | 6 => .array (.object "NestedChecker$Setting")
  | 7 => .int
  | 8 => .object "NestedChecker$SummaryTable"
  | 9 => .object "NestedChecker$SummaryTable"
  | 10 => .object "NestedChecker$Search"
  | 11 => .object "NestedChecker$Tally"
  | 12 => .object "NestedChecker$Walk"
  | 13 => .object "NestedChecker$RunCount"
  | _ => .int
abbrev wsX110 : List Cond := u_ws RX11 TX11 15
theorem nmX11 : ∀ a, a < 15 → ∀ b, b < 15 → a ≠ b → (TX11 a).2.1 ≠ (TX11 b).2.1 := by decide +kernel
theorem tyX11_ok : ∀ k, k < 15 → parseFieldDescriptor (TX11 k).2.2.1 = some (tyX11 k) := by decide +kernel
def RX12 : String := "NestedCheckerModel"
def TX12 : u_T := fun k => match k with
  | 0 => ("NestedCheckerModel", "at", "[I", true)
  | 1 => ("NestedCheckerModel", "names", "[J", true)
  | 2 => ("NestedCheckerModel", "status", "I", false)
  | 3 => ("NestedCheckerModel", "top", "J", false)
  | 4 => ("NestedCheckerModel", "bottom", "J", false)
  | 5 => ("NestedCheckerModel", "sort", "[I", true)
  | 6 => ("NestedCheckerModel", "trayMany", "[I", true)
  | 7 => ("NestedCheckerModel", "trays", "[J", true)
  | 8 => ("NestedCheckerModel", "tape", "[B", true)
  | 9 => ("NestedCheckerModel", "text", "[B", true)
  | 10 => ("NestedCheckerModel", "taped", "I", false)
  | 11 => ("NestedCheckerModel", "size", "I", false)
  | 12 => ("NestedCheckerModel", "token", "I", false)
  | 13 => ("NestedCheckerModel", "from", "I", false)
  | 14 => ("NestedCheckerModel", "end", "I", false)
  | 15 => ("NestedCheckerModel", "value", "I", false)
  | 16 => ("NestedCheckerModel", "faultKind", "I", false)
  | 17 => ("NestedCheckerModel", "faultPlace", "I", false)
  | 18 => ("NestedCheckerModel", "faults", "I", false)
  | 19 => ("NestedCheckerModel", "seen", "I", false)
  | 20 => ("NestedCheckerModel", "ruleBy", "[I", true)
  | 21 => ("NestedCheckerModel", "rBy", "[I", true)
  | 22 => ("NestedCheckerModel", "sBy", "[I", true)
  | 23 => ("NestedCheckerModel", "belowBy", "[I", true)
  | 24 => ("NestedCheckerModel", "wordBy", "[I", true)
  | 25 => ("NestedCheckerModel", "toBy", "[J", true)
  | 26 => ("NestedCheckerModel", "betweenBy", "[J", true)
  | 27 => ("NestedCheckerModel", "overBy", "[J", true)
  | 28 => ("NestedCheckerModel", "allBy", "[J", true)
  | 29 => ("NestedCheckerModel", "partnerBy", "[I", true)
  | 30 => ("NestedCheckerModel", "pendingMany", "I", false)
  | 31 => ("NestedCheckerModel", "looseMany", "I", false)
  | 32 => ("NestedCheckerModel", "deepest", "I", false)
  | 33 => ("NestedCheckerModel", "tableR", "[I", true)
  | 34 => ("NestedCheckerModel", "tableS", "[I", true)
  | 35 => ("NestedCheckerModel", "tableMany", "I", false)
  | 36 => ("NestedCheckerModel", "matchBy", "[I", true)
  | 37 => ("NestedCheckerModel", "segmentBy", "[I", true)
  | 38 => ("NestedCheckerModel", "aheadBy", "[I", true)
  | 39 => ("NestedCheckerModel", "behindBy", "[I", true)
  | 40 => ("NestedCheckerModel", "relationBy", "[I", true)
  | 41 => ("NestedCheckerModel", "goesBy", "[I", true)
  | 42 => ("NestedCheckerModel", "spansBy", "[I", true)
  | 43 => ("NestedCheckerModel", "aheadOf", "[I", true)
  | 44 => ("NestedCheckerModel", "behindOf", "[I", true)
  | 45 => ("NestedCheckerModel", "relationMany", "I", false)
  | 46 => ("NestedCheckerModel", "foundWord", "[I", true)
  | 47 => ("NestedCheckerModel", "tryBy", "[I", true)
  | 48 => ("NestedCheckerModel", "foundMany", "I", false)
  | 49 => ("NestedCheckerModel", "drawn", "I", false)
  | _ => ("NestedCheckerModel", "marks", "I", false)
def tyX12 : Nat → FieldType := fun k => match k with
  | 0 => .array .int
  | 1 => .array .long
  | 2 => .int
  | 3 => .long
  | 4 => .long
  | 5 => .array .int
  | 6 => .array .int
  | 7 => .array .long
  | 8 => .array .byte
  | 9 => .array .byte
  | 10 => .int
  | 11 => .int
  | 12 => .int
  | 13 => .int
  | 14 => .int
  | 15 => .int
  | 16 => .int
  | 17 => .int
  | 18 => .int
  | 19 => .int
  | 20 => .array .int
  | 21 => .array .int
  | 22 => .array .int
  | 23 => .array .int
  | 24 => .array .int
  | 25 => .array .long
  | 26 => .array .long
  | 27 => .array .long
  | 28 => .array .long
  | 29 => .array .int
  | 30 => .int
  | 31 => .int
  | 32 => .int
  | 33 => .array .int
  | 34 => .array .int
  | 35 => .int
  | 36 => .array .int
  | 37 => .array .int
  | 38 => .array .int
  | 39 => .array .int
  | 40 => .array .int
  | 41 => .array .int
  | 42 => .array .int
  | 43 => .array .int
  | 44 => .array .int
  | 45 => .int
  | 46 => .array .int
  | 47 => .array .int
  | 48 => .int
  | 49 => .int
  | _ => .int
abbrev wsX120 : List Cond := u_ws RX12 TX12 51
theorem nmX12 : ∀ a, a < 51 → ∀ b, b < 51 → a ≠ b → (TX12 a).2.1 ≠ (TX12 b).2.1 := by decide +kernel
theorem tyX12_ok : ∀ k, k < 51 → parseFieldDescriptor (TX12 k).2.2.1 = some (tyX12 k) := by decide +kernel
abbrev vwCl : List vw_C := [(RX0, TX0, 12), (RX1, TX1, 12), (RX3, TX3, 7), (RX4, TX4, 17), (RX5, TX5, 7), (RX6, TX6, 5), (RX7, TX7, 6), (RX8, TX8, 13), (RX9, TX9, 3), (RX10, TX10, 8), (RX11, TX11, 15), (RX12, TX12, 51)]
abbrev jK : Type := ClassId × ClassId × ClassId × ClassId
def jT (k : jK) : List (ClassId × FieldType) := [(k.1, .byte), (k.2.1, .int), (k.2.2.1, .long), (k.2.2.2, .object "NestedChecker$Setting")]
def jW : List Cond := [.methodLinkNest "NestedChecker" 18 ⟨"NestedChecker$Reader", "<init>", "()V"⟩ "NestedChecker", .methodLinkNest "NestedChecker$Reader" 11 ⟨"NestedChecker$Setting", "<init>", "()V"⟩ "NestedChecker", .methodLinkNest "NestedChecker$Setting" 11 ⟨"NestedChecker$Automaton", "<init>", "()V"⟩ "NestedChecker", .methodLinkNest "NestedChecker$Setting" 23 ⟨"NestedChecker$Walk", "<init>", "()V"⟩ "NestedChecker", .methodLinkNest "NestedChecker" 25 ⟨"NestedChecker$Setting", "<init>", "()V"⟩ "NestedChecker", .arrayOver (.object "NestedChecker$Setting"), .methodLinkNest "NestedChecker" 36 ⟨"NestedChecker$SummaryTable", "<init>", "()V"⟩ "NestedChecker", .methodLinkNest "NestedChecker$Search" 20 ⟨"NestedChecker$Automaton", "<init>", "()V"⟩ "NestedChecker", .methodLinkNest "NestedChecker" 53 ⟨"NestedChecker$Tally", "<init>", "()V"⟩ "NestedChecker", .methodLinkNest "NestedChecker" 60 ⟨"NestedChecker$Walk", "<init>", "()V"⟩ "NestedChecker", .methodLinkNest "NestedChecker" 67 ⟨"NestedChecker$RunCount", "<init>", "()V"⟩ "NestedChecker", .methodLinkNest "NestedChecker$Trays" 22 ⟨"NestedChecker", "within", "(III)Z"⟩ "NestedChecker", .methodLinkNest "NestedChecker$Reader" 188 ⟨"NestedChecker", "within", "(III)Z"⟩ "NestedChecker"]
theorem dfX0 : ∀ j, j < 12 → defaultValue (tyX0 j) = vp_V [.int 0, .int 0, .int 0, .int 0, .int 0, .int 0, .null, .null, .null, .null, .null, .null] j := fun j hj => by
  match j, hj with
  | 0, _ => rfl
  | 1, _ => rfl
  | 2, _ => rfl
  | 3, _ => rfl
  | 4, _ => rfl
  | 5, _ => rfl
  | 6, _ => rfl
  | 7, _ => rfl
  | 8, _ => rfl
  | 9, _ => rfl
  | 10, _ => rfl
  | 11, _ => rfl
  | n + 12, h => exact absurd h (by omega)
theorem dfX1 : ∀ j, j < 12 → defaultValue (tyX1 j) = vp_V [.null, .int 0, .int 0, .int 0, .null, .int 0, .int 0, .int 0, .int 0, .int 0, .null, .null] j := fun j hj => by
  match j, hj with
  | 0, _ => rfl
  | 1, _ => rfl
  | 2, _ => rfl
  | 3, _ => rfl
  | 4, _ => rfl
  | 5, _ => rfl
  | 6, _ => rfl
  | 7, _ => rfl
  | 8, _ => rfl
  | 9, _ => rfl
  | 10, _ => rfl
  | 11, _ => rfl
  | n + 12, h => exact absurd h (by omega)
theorem dfX3 : ∀ j, j < 7 → defaultValue (tyX3 j) = vp_V [.int 0, .null, .null, .null, .null, .null, .null] j := fun j hj => by
  match j, hj with
  | 0, _ => rfl
  | 1, _ => rfl
  | 2, _ => rfl
  | 3, _ => rfl
  | 4, _ => rfl
  | 5, _ => rfl
  | 6, _ => rfl
  | n + 7, h => exact absurd h (by omega)
theorem dfX4 : ∀ j, j < 17 → defaultValue (tyX4 j) = vp_V [.null, .null, .int 0, .int 0, .int 0, .int 0, .null, .null, .null, .int 0, .null, .null, .null, .int 0, .null, .null, .null] j := fun j hj => by
  match j, hj with
  | 0, _ => rfl
  | 1, _ => rfl
  | 2, _ => rfl
  | 3, _ => rfl
  | 4, _ => rfl
  | 5, _ => rfl
  | 6, _ => rfl
  | 7, _ => rfl
  | 8, _ => rfl
  | 9, _ => rfl
  | 10, _ => rfl
  | 11, _ => rfl
  | 12, _ => rfl
  | 13, _ => rfl
  | 14, _ => rfl
  | 15, _ => rfl
  | 16, _ => rfl
  | n + 17, h => exact absurd h (by omega)
theorem dfX5 : ∀ j, j < 7 → defaultValue (tyX5 j) = vp_V [.int 0, .int 0, .int 0, .int 0, .null, .null, .null] j := fun j hj => by
  match j, hj with
  | 0, _ => rfl
  | 1, _ => rfl
  | 2, _ => rfl
  | 3, _ => rfl
  | 4, _ => rfl
  | 5, _ => rfl
  | 6, _ => rfl
  | n + 7, h => exact absurd h (by omega)
theorem dfX6 : ∀ j, j < 5 → defaultValue (tyX6 j) = vp_V [.int 0, .null, .null, .null, .null] j := fun j hj => by
  match j, hj with
  | 0, _ => rfl
  | 1, _ => rfl
  | 2, _ => rfl
  | 3, _ => rfl
  | 4, _ => rfl
  | n + 5, h => exact absurd h (by omega)
theorem dfX7 : ∀ j, j < 6 → defaultValue (tyX7 j) = vp_V [.int 0, .int 0, .null, .null, .null, .null] j := fun j hj => by
  match j, hj with
  | 0, _ => rfl
  | 1, _ => rfl
  | 2, _ => rfl
  | 3, _ => rfl
  | 4, _ => rfl
  | 5, _ => rfl
  | n + 6, h => exact absurd h (by omega)
theorem dfX8 : ∀ j, j < 13 → defaultValue (tyX8 j) = vp_V [.int 0, .int 0, .int 0, .int 0, .null, .null, .null, .int 0, .null, .null, .null, .null, .null] j := fun j hj => by
  match j, hj with
  | 0, _ => rfl
  | 1, _ => rfl
  | 2, _ => rfl
  | 3, _ => rfl
  | 4, _ => rfl
  | 5, _ => rfl
  | 6, _ => rfl
  | 7, _ => rfl
  | 8, _ => rfl
  | 9, _ => rfl
  | 10, _ => rfl
  | 11, _ => rfl
  | 12, _ => rfl
  | n + 13, h => exact absurd h (by omega)
theorem dfX9 : ∀ j, j < 3 → defaultValue (tyX9 j) = vp_V [.null, .null, .null] j := fun j hj => by
  match j, hj with
  | 0, _ => rfl
  | 1, _ => rfl
  | 2, _ => rfl
  | n + 3, h => exact absurd h (by omega)
theorem dfX10 : ∀ j, j < 8 → defaultValue (tyX10 j) = vp_V [.int 0, .int 0, .int 0, .int 0, .int 0, .null, .null, .null] j := fun j hj => by
  match j, hj with
  | 0, _ => rfl
  | 1, _ => rfl
  | 2, _ => rfl
  | 3, _ => rfl
  | 4, _ => rfl
  | 5, _ => rfl
  | 6, _ => rfl
  | 7, _ => rfl
  | n + 8, h => exact absurd h (by omega)
theorem dfX11 : ∀ j, j < 15 → defaultValue (tyX11 j) = vp_V [.int 0, .long 0, .long 0, .null, .null, .null, .null, .int 0, .null, .null, .null, .null, .null, .null, .int 0] j := fun j hj => by
  match j, hj with
  | 0, _ => rfl
  | 1, _ => rfl
  | 2, _ => rfl
  | 3, _ => rfl
  | 4, _ => rfl
  | 5, _ => rfl
  | 6, _ => rfl
  | 7, _ => rfl
  | 8, _ => rfl
  | 9, _ => rfl
  | 10, _ => rfl
  | 11, _ => rfl
  | 12, _ => rfl
  | 13, _ => rfl
  | 14, _ => rfl
  | n + 15, h => exact absurd h (by omega)
theorem dfX12 : ∀ j, j < 51 → defaultValue (tyX12 j) = vp_V [.null, .null, .int 0, .long 0, .long 0, .null, .null, .null, .null, .null, .int 0, .int 0, .int 0, .int 0, .int 0, .int 0, .int 0, .int 0, .int 0, .int 0, .null, .null, .null, .null, .null, .null, .null, .null, .null, .null, .int 0, .int 0, .int 0, .null, .null, .int 0, .null, .null, .null, .null, .null, .null, .null, .null, .null, .int 0, .null, .null, .int 0, .int 0, .int 0] j := fun j hj => by
  match j, hj with
  | 0, _ => rfl
  | 1, _ => rfl
  | 2, _ => rfl
  | 3, _ => rfl
  | 4, _ => rfl
  | 5, _ => rfl
  | 6, _ => rfl
  | 7, _ => rfl
  | 8, _ => rfl
  | 9, _ => rfl
  | 10, _ => rfl
  | 11, _ => rfl
  | 12, _ => rfl
  | 13, _ => rfl
  | 14, _ => rfl
  | 15, _ => rfl
  | 16, _ => rfl
  | 17, _ => rfl
  | 18, _ => rfl
  | 19, _ => rfl
  | 20, _ => rfl
  | 21, _ => rfl
  | 22, _ => rfl
  | 23, _ => rfl
  | 24, _ => rfl
  | 25, _ => rfl
  | 26, _ => rfl
  | 27, _ => rfl
  | 28, _ => rfl
  | 29, _ => rfl
  | 30, _ => rfl
  | 31, _ => rfl
  | 32, _ => rfl
  | 33, _ => rfl
  | 34, _ => rfl
  | 35, _ => rfl
  | 36, _ => rfl
  | 37, _ => rfl
  | 38, _ => rfl
  | 39, _ => rfl
  | 40, _ => rfl
  | 41, _ => rfl
  | 42, _ => rfl
  | 43, _ => rfl
  | 44, _ => rfl
  | 45, _ => rfl
  | 46, _ => rfl
  | 47, _ => rfl
  | 48, _ => rfl
  | 49, _ => rfl
  | 50, _ => rfl
  | n + 51, h => exact absurd h (by omega)
