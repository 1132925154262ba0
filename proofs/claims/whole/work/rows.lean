section
/-! ===== BEGIN words of one list among another's, by their places ===== -/
theorem goodIn_r {big : List Cond} (ws : List Cond) (ps : List Nat) (hp : ws = ps.filterMap (fun i => big[i]?)) (h : ws.all goodWord = true) : GoodIn big ws := by
  intro w hw
  have h1 := List.all_eq_true.mp h w hw
  rw [hp] at hw
  obtain ⟨i, -, hi⟩ := List.mem_filterMap.mp hw
  have hm : w ∈ big := by first | exact List.mem_of_getElem? hi | exact List.getElem?_mem hi
  exact ⟨hm, good_of_word h1⟩
theorem goodIn_app {big a b : List Cond} (ha : GoodIn big a) (hb : GoodIn big b) : GoodIn big (a ++ b) := fun w h => (List.mem_append.mp h).elim (ha w) (hb w)
theorem goodIn_ca {big a b : List Cond} {c : Cond} (ha : GoodIn big (c :: a)) (hb : GoodIn big b) : GoodIn big (c :: (a ++ b)) := fun w h => (List.mem_cons.mp h).elim (fun e => ha w (List.mem_cons.mpr (Or.inl e))) (fun h => (List.mem_append.mp h).elim (fun h => ha w (List.mem_cons.mpr (Or.inr h))) (hb w))
theorem goodIn_sub {big ws : List Cond} (hm : ∀ w ∈ ws, w ∈ big) (h : ws.all goodWord = true) : GoodIn big ws := fun w hw => ⟨hm w hw, good_of_word (List.all_eq_true.mp h w hw)⟩
/-! ===== END ===== -/

/-! names, printed -/
def RL : String := "NeedHouseLaw"
def RX0 : String := "NeedHouse$Datas"
def TX0 : u_T := fun k => match k with
  | 0 => ("NeedHouse$Datas", "lexemes", "LNeedHouse$Lexemes;", true)
  | 1 => ("NeedHouse$Datas", "dataToken", "[I", true)
  | 2 => ("NeedHouse$Datas", "firstName", "[I", true)
  | 3 => ("NeedHouse$Datas", "nameCount", "[I", true)
  | 4 => ("NeedHouse$Datas", "nameToken", "[I", true)
  | 5 => ("NeedHouse$Datas", "conToken", "[I", true)
  | 6 => ("NeedHouse$Datas", "conData", "[I", true)
  | 7 => ("NeedHouse$Datas", "conFields", "[I", true)
  | 8 => ("NeedHouse$Datas", "conCode", "[I", true)
  | 9 => ("NeedHouse$Datas", "conCodes", "[I", true)
  | 10 => ("NeedHouse$Datas", "code", "[I", true)
  | 11 => ("NeedHouse$Datas", "codeToken", "[I", true)
  | 12 => ("NeedHouse$Datas", "codeParts", "[I", true)
  | 13 => ("NeedHouse$Datas", "typeOf", "[I", true)
  | 14 => ("NeedHouse$Datas", "conOf", "[I", true)
  | 15 => ("NeedHouse$Datas", "mark", "[I", true)
  | 16 => ("NeedHouse$Datas", "size", "I", false)
  | 17 => ("NeedHouse$Datas", "cons", "I", false)
  | 18 => ("NeedHouse$Datas", "codes", "I", false)
  | _ => ("NeedHouse$Datas", "names", "I", false)
def tyX0 : Nat → FieldType := fun k => match k with
  | 0 => .object "NeedHouse$Lexemes"
  | 1 => .array .int
  | 2 => .array .int
  | 3 => .array .int
  | 4 => .array .int
  | 5 => .array .int
  | 6 => .array .int
  | 7 => .array .int
  | 8 => .array .int
  | 9 => .array .int
  | 10 => .array .int
  | 11 => .array .int
  | 12 => .array .int
  | 13 => .array .int
  | 14 => .array .int
  | 15 => .array .int
  | 16 => .int
  | 17 => .int
  | 18 => .int
  | _ => .int
abbrev wsX00 : List Cond := u_ws RX0 TX0 20
theorem nmX0 : ∀ a, a < 20 → ∀ b, b < 20 → a ≠ b → (TX0 a).2.1 ≠ (TX0 b).2.1 := by decide +kernel
theorem tyX0_ok : ∀ k, k < 20 → parseFieldDescriptor (TX0 k).2.2.1 = some (tyX0 k) := by decide +kernel
def RX1 : String := "NeedHouse$Layout"
def TX1 : u_T := fun k => match k with
  | 0 => ("NeedHouse$Layout", "lexemes", "LNeedHouse$Lexemes;", true)
  | 1 => ("NeedHouse$Layout", "stack", "[I", true)
  | 2 => ("NeedHouse$Layout", "depth", "I", false)
  | 3 => ("NeedHouse$Layout", "endsAhead", "I", false)
  | 4 => ("NeedHouse$Layout", "endsBehind", "I", false)
  | 5 => ("NeedHouse$Layout", "itemEnds", "Z", false)
  | 6 => ("NeedHouse$Layout", "misplaced", "Z", false)
  | 7 => ("NeedHouse$Layout", "token", "I", false)
  | _ => ("NeedHouse$Layout", "now", "I", false)
def tyX1 : Nat → FieldType := fun k => match k with
  | 0 => .object "NeedHouse$Lexemes"
  | 1 => .array .int
  | 2 => .int
  | 3 => .int
  | 4 => .int
  | 5 => .boolean
  | 6 => .boolean
  | 7 => .int
  | _ => .int
abbrev wsX10 : List Cond := u_ws RX1 TX1 9
theorem nmX1 : ∀ a, a < 9 → ∀ b, b < 9 → a ≠ b → (TX1 a).2.1 ≠ (TX1 b).2.1 := by decide +kernel
theorem tyX1_ok : ∀ k, k < 9 → parseFieldDescriptor (TX1 k).2.2.1 = some (tyX1 k) := by decide +kernel
def RX2 : String := "NeedHouse$Lexemes"
def TX2 : u_T := fun k => match k with
  | 0 => ("NeedHouse$Lexemes", "kind", "[I", true)
  | 1 => ("NeedHouse$Lexemes", "line", "[I", true)
  | 2 => ("NeedHouse$Lexemes", "column", "[I", true)
  | 3 => ("NeedHouse$Lexemes", "value", "[I", true)
  | 4 => ("NeedHouse$Lexemes", "head", "[J", true)
  | 5 => ("NeedHouse$Lexemes", "tail", "[J", true)
  | 6 => ("NeedHouse$Lexemes", "table", "[I", true)
  | 7 => ("NeedHouse$Lexemes", "size", "I", false)
  | 8 => ("NeedHouse$Lexemes", "answer", "I", false)
  | 9 => ("NeedHouse$Lexemes", "symbols", "I", false)
  | 10 => ("NeedHouse$Lexemes", "faultKind", "I", false)
  | _ => ("NeedHouse$Lexemes", "faultToken", "I", false)
def tyX2 : Nat → FieldType := fun k => match k with
  | 0 => .array .int
  | 1 => .array .int
  | 2 => .array .int
  | 3 => .array .int
  | 4 => .array .long
  | 5 => .array .long
  | 6 => .array .int
  | 7 => .int
  | 8 => .int
  | 9 => .int
  | 10 => .int
  | _ => .int
abbrev wsX20 : List Cond := u_ws RX2 TX2 12
theorem nmX2 : ∀ a, a < 12 → ∀ b, b < 12 → a ≠ b → (TX2 a).2.1 ≠ (TX2 b).2.1 := by decide +kernel
theorem tyX2_ok : ∀ k, k < 12 → parseFieldDescriptor (TX2 k).2.2.1 = some (tyX2 k) := by decide +kernel
def RX3 : String := "NeedHouse$Machine"
def TX3 : u_T := fun k => match k with
  | 0 => ("NeedHouse$Machine", "tree", "LNeedHouse$Tree;", true)
  | 1 => ("NeedHouse$Machine", "told", "LNeedHouse$Told;", true)
  | 2 => ("NeedHouse$Machine", "datas", "LNeedHouse$Datas;", true)
  | 3 => ("NeedHouse$Machine", "needs", "LNeedHouse$Needs;", true)
  | 4 => ("NeedHouse$Machine", "store", "LNeedHouse$Store;", true)
  | 5 => ("NeedHouse$Machine", "text", "LNeedHouse$Sheet;", true)
  | 6 => ("NeedHouse$Machine", "output", "[I", true)
  | 7 => ("NeedHouse$Machine", "outputs", "I", false)
  | 8 => ("NeedHouse$Machine", "state", "I", false)
  | 9 => ("NeedHouse$Machine", "steps", "I", false)
  | 10 => ("NeedHouse$Machine", "made", "I", false)
  | 11 => ("NeedHouse$Machine", "got", "I", false)
  | 12 => ("NeedHouse$Machine", "value", "J", false)
  | _ => ("NeedHouse$Machine", "giving", "Z", false)
def tyX3 : Nat → FieldType := fun k => match k with
  | 0 => .object "NeedHouse$Tree"
  | 1 => .object "NeedHouse$Told"
  | 2 => .object "NeedHouse$Datas"
  | 3 => .object "NeedHouse$Needs"
  | 4 => .object "NeedHouse$Store"
  | 5 => .object "NeedHouse$Sheet"
  | 6 => .array .int
  | 7 => .int
  | 8 => .int
  | 9 => .int
  | 10 => .int
  | 11 => .int
  | 12 => .long
  | _ => .boolean
abbrev wsX30 : List Cond := u_ws RX3 TX3 14
theorem nmX3 : ∀ a, a < 14 → ∀ b, b < 14 → a ≠ b → (TX3 a).2.1 ≠ (TX3 b).2.1 := by decide +kernel
theorem tyX3_ok : ∀ k, k < 14 → parseFieldDescriptor (TX3 k).2.2.1 = some (tyX3 k) := by decide +kernel
def RX4 : String := "NeedHouse$Needs"
def TX4 : u_T := fun k => match k with
  | 0 => ("NeedHouse$Needs", "tree", "LNeedHouse$Tree;", true)
  | 1 => ("NeedHouse$Needs", "told", "LNeedHouse$Told;", true)
  | 2 => ("NeedHouse$Needs", "free", "[J", true)
  | 3 => ("NeedHouse$Needs", "need", "[J", true)
  | 4 => ("NeedHouse$Needs", "strictOnes", "[J", true)
  | 5 => ("NeedHouse$Needs", "freeFrom", "[I", true)
  | 6 => ("NeedHouse$Needs", "freeMany", "[I", true)
  | 7 => ("NeedHouse$Needs", "freeName", "[I", false)
  | 8 => ("NeedHouse$Needs", "freeSize", "I", false)
  | 9 => ("NeedHouse$Needs", "cells", "[I", true)
  | 10 => ("NeedHouse$Needs", "thunks", "[I", true)
  | 11 => ("NeedHouse$Needs", "madeCells", "[I", true)
  | _ => ("NeedHouse$Needs", "madeThunks", "[I", true)
def tyX4 : Nat → FieldType := fun k => match k with
  | 0 => .object "NeedHouse$Tree"
  | 1 => .object "NeedHouse$Told"
  | 2 => .array .long
  | 3 => .array .long
  | 4 => .array .long
  | 5 => .array .int
  | 6 => .array .int
  | 7 => .array .int
  | 8 => .int
  | 9 => .array .int
  | 10 => .array .int
  | 11 => .array .int
  | _ => .array .int
abbrev wsX40 : List Cond := u_ws RX4 TX4 13
theorem nmX4 : ∀ a, a < 13 → ∀ b, b < 13 → a ≠ b → (TX4 a).2.1 ≠ (TX4 b).2.1 := by decide +kernel
theorem tyX4_ok : ∀ k, k < 13 → parseFieldDescriptor (TX4 k).2.2.1 = some (tyX4 k) := by decide +kernel
def RX5 : String := "NeedHouse$Parser"
def TX5 : u_T := fun k => match k with
  | 0 => ("NeedHouse$Parser", "lexemes", "LNeedHouse$Lexemes;", true)
  | 1 => ("NeedHouse$Parser", "layout", "LNeedHouse$Layout;", true)
  | 2 => ("NeedHouse$Parser", "tree", "LNeedHouse$Tree;", true)
  | 3 => ("NeedHouse$Parser", "told", "LNeedHouse$Told;", true)
  | 4 => ("NeedHouse$Parser", "datas", "LNeedHouse$Datas;", true)
  | 5 => ("NeedHouse$Parser", "held", "[I", true)
  | 6 => ("NeedHouse$Parser", "signs", "[I", true)
  | 7 => ("NeedHouse$Parser", "operands", "[I", true)
  | 8 => ("NeedHouse$Parser", "heldSize", "I", false)
  | _ => ("NeedHouse$Parser", "signSize", "I", false)
def tyX5 : Nat → FieldType := fun k => match k with
  | 0 => .object "NeedHouse$Lexemes"
  | 1 => .object "NeedHouse$Layout"
  | 2 => .object "NeedHouse$Tree"
  | 3 => .object "NeedHouse$Told"
  | 4 => .object "NeedHouse$Datas"
  | 5 => .array .int
  | 6 => .array .int
  | 7 => .array .int
  | 8 => .int
  | _ => .int
abbrev wsX50 : List Cond := u_ws RX5 TX5 10
theorem nmX5 : ∀ a, a < 10 → ∀ b, b < 10 → a ≠ b → (TX5 a).2.1 ≠ (TX5 b).2.1 := by decide +kernel
theorem tyX5_ok : ∀ k, k < 10 → parseFieldDescriptor (TX5 k).2.2.1 = some (tyX5 k) := by decide +kernel
def RX6 : String := "NeedHouse$Sheet"
def TX6 : u_T := fun k => match k with
  | 0 => ("NeedHouse$Sheet", "lexemes", "LNeedHouse$Lexemes;", true)
  | 1 => ("NeedHouse$Sheet", "row", "[B", true)
  | _ => ("NeedHouse$Sheet", "size", "I", false)
def tyX6 : Nat → FieldType := fun k => match k with
  | 0 => .object "NeedHouse$Lexemes"
  | 1 => .array .byte
  | _ => .int
abbrev wsX60 : List Cond := u_ws RX6 TX6 3
theorem nmX6 : ∀ a, a < 3 → ∀ b, b < 3 → a ≠ b → (TX6 a).2.1 ≠ (TX6 b).2.1 := by decide +kernel
theorem tyX6_ok : ∀ k, k < 3 → parseFieldDescriptor (TX6 k).2.2.1 = some (tyX6 k) := by decide +kernel
def RX7 : String := "NeedHouse$Store"
def TX7 : u_T := fun k => match k with
  | 0 => ("NeedHouse$Store", "tree", "LNeedHouse$Tree;", true)
  | 1 => ("NeedHouse$Store", "told", "LNeedHouse$Told;", true)
  | 2 => ("NeedHouse$Store", "datas", "LNeedHouse$Datas;", true)
  | 3 => ("NeedHouse$Store", "needs", "LNeedHouse$Needs;", true)
  | 4 => ("NeedHouse$Store", "heap", "[J", false)
  | 5 => ("NeedHouse$Store", "spare", "[J", false)
  | 6 => ("NeedHouse$Store", "used", "I", false)
  | 7 => ("NeedHouse$Store", "spareUsed", "I", false)
  | 8 => ("NeedHouse$Store", "variable", "[J", true)
  | 9 => ("NeedHouse$Store", "argument", "[J", true)
  | 10 => ("NeedHouse$Store", "arguments", "I", false)
  | 11 => ("NeedHouse$Store", "frame", "[I", true)
  | 12 => ("NeedHouse$Store", "frameFrom", "[I", true)
  | 13 => ("NeedHouse$Store", "frames", "I", false)
  | 14 => ("NeedHouse$Store", "saved", "[J", false)
  | 15 => ("NeedHouse$Store", "savedSize", "I", false)
  | 16 => ("NeedHouse$Store", "globalState", "[I", true)
  | 17 => ("NeedHouse$Store", "globalValue", "[J", true)
  | 18 => ("NeedHouse$Store", "unfilled", "[I", true)
  | 19 => ("NeedHouse$Store", "unfilledSize", "I", false)
  | 20 => ("NeedHouse$Store", "nextNode", "I", false)
  | _ => ("NeedHouse$Store", "nextThing", "J", false)
def tyX7 : Nat → FieldType := fun k => match k with
  | 0 => .object "NeedHouse$Tree"
  | 1 => .object "NeedHouse$Told"
  | 2 => .object "NeedHouse$Datas"
  | 3 => .object "NeedHouse$Needs"
  | 4 => .array .long
  | 5 => .array .long
  | 6 => .int
  | 7 => .int
  | 8 => .array .long
  | 9 => .array .long
  | 10 => .int
  | 11 => .array .int
  | 12 => .array .int
  | 13 => .int
  | 14 => .array .long
  | 15 => .int
  | 16 => .array .int
  | 17 => .array .long
  | 18 => .array .int
  | 19 => .int
  | 20 => .int
  | _ => .long
abbrev wsX70 : List Cond := u_ws RX7 TX7 22
theorem nmX7 : ∀ a, a < 22 → ∀ b, b < 22 → a ≠ b → (TX7 a).2.1 ≠ (TX7 b).2.1 := by decide +kernel
theorem tyX7_ok : ∀ k, k < 22 → parseFieldDescriptor (TX7 k).2.2.1 = some (tyX7 k) := by decide +kernel
def RX8 : String := "NeedHouse$Told"
def TX8 : u_T := fun k => match k with
  | 0 => ("NeedHouse$Told", "lexemes", "LNeedHouse$Lexemes;", true)
  | 1 => ("NeedHouse$Told", "symbol", "[I", true)
  | 2 => ("NeedHouse$Told", "token", "[I", true)
  | 3 => ("NeedHouse$Told", "scope", "[I", true)
  | 4 => ("NeedHouse$Told", "place", "[I", true)
  | 5 => ("NeedHouse$Told", "next", "[I", true)
  | 6 => ("NeedHouse$Told", "row", "[I", true)
  | 7 => ("NeedHouse$Told", "body", "[I", true)
  | 8 => ("NeedHouse$Told", "maker", "[I", true)
  | 9 => ("NeedHouse$Told", "parent", "[I", true)
  | 10 => ("NeedHouse$Told", "owner", "[I", true)
  | 11 => ("NeedHouse$Told", "first", "[I", true)
  | 12 => ("NeedHouse$Told", "last", "[I", true)
  | 13 => ("NeedHouse$Told", "width", "[I", true)
  | 14 => ("NeedHouse$Told", "globals", "[I", true)
  | 15 => ("NeedHouse$Told", "mark", "[I", true)
  | 16 => ("NeedHouse$Told", "size", "I", false)
  | _ => ("NeedHouse$Told", "scopes", "I", false)
def tyX8 : Nat → FieldType := fun k => match k with
  | 0 => .object "NeedHouse$Lexemes"
  | 1 => .array .int
  | 2 => .array .int
  | 3 => .array .int
  | 4 => .array .int
  | 5 => .array .int
  | 6 => .array .int
  | 7 => .array .int
  | 8 => .array .int
  | 9 => .array .int
  | 10 => .array .int
  | 11 => .array .int
  | 12 => .array .int
  | 13 => .array .int
  | 14 => .array .int
  | 15 => .array .int
  | 16 => .int
  | _ => .int
abbrev wsX80 : List Cond := u_ws RX8 TX8 18
theorem nmX8 : ∀ a, a < 18 → ∀ b, b < 18 → a ≠ b → (TX8 a).2.1 ≠ (TX8 b).2.1 := by decide +kernel
theorem tyX8_ok : ∀ k, k < 18 → parseFieldDescriptor (TX8 k).2.2.1 = some (tyX8 k) := by decide +kernel
def RX9 : String := "NeedHouse$Tree"
def TX9 : u_T := fun k => match k with
  | 0 => ("NeedHouse$Tree", "lexemes", "LNeedHouse$Lexemes;", true)
  | 1 => ("NeedHouse$Tree", "told", "LNeedHouse$Told;", true)
  | 2 => ("NeedHouse$Tree", "datas", "LNeedHouse$Datas;", true)
  | 3 => ("NeedHouse$Tree", "kind", "[I", true)
  | 4 => ("NeedHouse$Tree", "first", "[I", true)
  | 5 => ("NeedHouse$Tree", "a", "[I", true)
  | 6 => ("NeedHouse$Tree", "b", "[I", true)
  | 7 => ("NeedHouse$Tree", "c", "[I", true)
  | 8 => ("NeedHouse$Tree", "part", "[I", true)
  | 9 => ("NeedHouse$Tree", "partOwner", "[I", true)
  | 10 => ("NeedHouse$Tree", "itemKind", "[I", true)
  | 11 => ("NeedHouse$Tree", "itemToken", "[I", true)
  | 12 => ("NeedHouse$Tree", "itemWant", "[I", true)
  | 13 => ("NeedHouse$Tree", "itemRow", "[I", true)
  | 14 => ("NeedHouse$Tree", "itemBody", "[I", true)
  | 15 => ("NeedHouse$Tree", "itemNext", "[I", true)
  | 16 => ("NeedHouse$Tree", "itemOwner", "[I", true)
  | 17 => ("NeedHouse$Tree", "size", "I", false)
  | 18 => ("NeedHouse$Tree", "parts", "I", false)
  | _ => ("NeedHouse$Tree", "items", "I", false)
def tyX9 : Nat → FieldType := fun k => match k with
  | 0 => .object "NeedHouse$Lexemes"
  | 1 => .object "NeedHouse$Told"
  | 2 => .object "NeedHouse$Datas"
  | 3 => .array .int
  | 4 => .array .int
  | 5 => .array .int
  | 6 => .array .int
  | 7 => .array .int
  | 8 => .array .int
  | 9 => .array .int
  | 10 => .array .int
  | 11 => .array .int
  | 12 => .array .int
  | 13 => .array .int
  | 14 => .array .int
  | 15 => .array .int
  | 16 => .array .int
  | 17 => .int
  | 18 => .int
  | _ => .int
abbrev wsX90 : List Cond := u_ws RX9 TX9 20
theorem nmX9 : ∀ a, a < 20 → ∀ b, b < 20 → a ≠ b → (TX9 a).2.1 ≠ (TX9 b).2.1 := by decide +kernel
theorem tyX9_ok : ∀ k, k < 20 → parseFieldDescriptor (TX9 k).2.2.1 = some (tyX9 k) := by decide +kernel
def RX10 : String := "NeedHouse$Typer"
def TX10 : u_T := fun k => match k with
  | 0 => ("NeedHouse$Typer", "lexemes", "LNeedHouse$Lexemes;", true)
  | 1 => ("NeedHouse$Typer", "tree", "LNeedHouse$Tree;", true)
  | 2 => ("NeedHouse$Typer", "told", "LNeedHouse$Told;", true)
  | 3 => ("NeedHouse$Typer", "types", "LNeedHouse$Types;", true)
  | 4 => ("NeedHouse$Typer", "work", "[I", true)
  | 5 => ("NeedHouse$Typer", "workSize", "I", false)
  | 6 => ("NeedHouse$Typer", "typeOf", "[I", true)
  | 7 => ("NeedHouse$Typer", "nameType", "[I", true)
  | 8 => ("NeedHouse$Typer", "settled", "[I", true)
  | 9 => ("NeedHouse$Typer", "uses", "[J", true)
  | 10 => ("NeedHouse$Typer", "numberOf", "[I", true)
  | 11 => ("NeedHouse$Typer", "firstGroup", "[I", true)
  | 12 => ("NeedHouse$Typer", "groupsOf", "[I", true)
  | 13 => ("NeedHouse$Typer", "groupStart", "[I", true)
  | 14 => ("NeedHouse$Typer", "members", "[I", true)
  | 15 => ("NeedHouse$Typer", "groups", "I", false)
  | _ => ("NeedHouse$Typer", "memberSize", "I", false)
def tyX10 : Nat → FieldType := fun k => match k with
  | 0 => .object "NeedHouse$Lexemes"
  | 1 => .object "NeedHouse$Tree"
  | 2 => .object "NeedHouse$Told"
  | 3 => .object "NeedHouse$Types"
  | 4 => .array .int
  | 5 => .int
  | 6 => .array .int
  | 7 => .array .int
  | 8 => .array .int
  | 9 => .array .long
  | 10 => .array .int
  | 11 => .array .int
  | 12 => .array .int
  | 13 => .array .int
  | 14 => .array .int
  | 15 => .int
  | _ => .int
abbrev wsX100 : List Cond := u_ws RX10 TX10 17
theorem nmX10 : ∀ a, a < 17 → ∀ b, b < 17 → a ≠ b → (TX10 a).2.1 ≠ (TX10 b).2.1 := by decide +kernel
theorem tyX10_ok : ∀ k, k < 17 → parseFieldDescriptor (TX10 k).2.2.1 = some (tyX10 k) := by decide +kernel
def RX11 : String := "NeedHouse$Types"
def TX11 : u_T := fun k => match k with
  | 0 => ("NeedHouse$Types", "datas", "LNeedHouse$Datas;", true)
  | 1 => ("NeedHouse$Types", "kind", "[B", false)
  | 2 => ("NeedHouse$Types", "info", "[I", false)
  | 3 => ("NeedHouse$Types", "stamp", "[I", false)
  | 4 => ("NeedHouse$Types", "parts", "[I", false)
  | 5 => ("NeedHouse$Types", "pairs", "[I", false)
  | 6 => ("NeedHouse$Types", "walk", "[I", false)
  | 7 => ("NeedHouse$Types", "codes", "[I", true)
  | 8 => ("NeedHouse$Types", "codeSize", "[I", true)
  | 9 => ("NeedHouse$Types", "free", "[I", true)
  | 10 => ("NeedHouse$Types", "around", "[I", true)
  | 11 => ("NeedHouse$Types", "aroundSize", "I", false)
  | 12 => ("NeedHouse$Types", "size", "I", false)
  | 13 => ("NeedHouse$Types", "partSize", "I", false)
  | 14 => ("NeedHouse$Types", "pairSize", "I", false)
  | 15 => ("NeedHouse$Types", "walkSize", "I", false)
  | 16 => ("NeedHouse$Types", "stampNow", "I", false)
  | _ => ("NeedHouse$Types", "freeSize", "I", false)
def tyX11 : Nat → FieldType := fun k => match k with
  | 0 => .object "NeedHouse$Datas"
  | 1 => .array .byte
  | 2 => .array .int
  | 3 => .array .int
  | 4 => .array .int
  | 5 => .array .int
  | 6 => .array .int
  | 7 => .array .int
  | 8 => .array .int
  | 9 => .array .int
  | 10 => .array .int
  | 11 => .int
  | 12 => .int
  | 13 => .int
  | 14 => .int
  | 15 => .int
  | 16 => .int
  | _ => .int
abbrev wsX110 : List Cond := u_ws RX11 TX11 18
theorem nmX11 : ∀ a, a < 18 → ∀ b, b < 18 → a ≠ b → (TX11 a).2.1 ≠ (TX11 b).2.1 := by decide +kernel
theorem tyX11_ok : ∀ k, k < 18 → parseFieldDescriptor (TX11 k).2.2.1 = some (tyX11 k) := by decide +kernel
def RX12 : String := "NeedHouse"
def TX12 : u_T := fun k => match k with
  | 0 => ("NeedHouse", "tape", "[B", true)
  | 1 => ("NeedHouse", "lexemes", "LNeedHouse$Lexemes;", true)
  | 2 => ("NeedHouse", "datas", "LNeedHouse$Datas;", true)
  | 3 => ("NeedHouse", "told", "LNeedHouse$Told;", true)
  | 4 => ("NeedHouse", "tree", "LNeedHouse$Tree;", true)
  | 5 => ("NeedHouse", "parser", "LNeedHouse$Parser;", true)
  | 6 => ("NeedHouse", "types", "LNeedHouse$Types;", true)
  | 7 => ("NeedHouse", "typer", "LNeedHouse$Typer;", true)
  | 8 => ("NeedHouse", "needs", "LNeedHouse$Needs;", true)
  | 9 => ("NeedHouse", "machine", "LNeedHouse$Machine;", true)
  | 10 => ("NeedHouse", "signs", "LNeedHouse$Sheet;", true)
  | 11 => ("NeedHouse", "length", "I", false)
  | 12 => ("NeedHouse", "signsOf", "I", false)
  | _ => ("NeedHouse", "ready", "Z", false)
def tyX12 : Nat → FieldType := fun k => match k with
  | 0 => .array .byte
  | 1 => .object "NeedHouse$Lexemes"
  | 2 => .object "NeedHouse$Datas"
  | 3 => .object "NeedHouse$Told"
  | 4 => .object "NeedHouse$Tree"
  | 5 => .object "NeedHouse$Parser"
  | 6 => .object "NeedHouse$Types"
  | 7 => .object "NeedHouse$Typer"
  | 8 => .object "NeedHouse$Needs"
  | 9 => .object "NeedHouse$Machine"
  | 10 => .object "NeedHouse$Sheet"
  | 11 => .int
  | 12 => .int
  | _ => .boolean
abbrev wsX120 : List Cond := u_ws RX12 TX12 14
theorem nmX12 : ∀ a, a < 14 → ∀ b, b < 14 → a ≠ b → (TX12 a).2.1 ≠ (TX12 b).2.1 := by decide +kernel
theorem tyX12_ok : ∀ k, k < 14 → parseFieldDescriptor (TX12 k).2.2.1 = some (tyX12 k) := by decide +kernel
def RX13 : String := "NeedHouseModel$Halt"
def TX13 : u_T := fun k => match k with
  | 0 => ("java/lang/Throwable", "cause", "Ljava/lang/Throwable;", false)
  | 1 => ("java/lang/Throwable", "stackTrace", "[Ljava/lang/StackTraceElement;", false)
  | 2 => ("java/lang/Throwable", "suppressedExceptions", "Ljava/util/List;", false)
  | 3 => ("java/lang/Throwable", "detailMessage", "Ljava/lang/String;", false)
  | 4 => ("java/lang/Throwable", "backtrace", "Ljava/lang/Object;", false)
  | _ => ("java/lang/Throwable", "depth", "I", false)
def tyX13 : Nat → FieldType := fun k => match k with
  | 0 => .object "java/lang/Throwable"
  | 1 => .array (.object "java/lang/StackTraceElement")
  | 2 => .object "java/util/List"
  | 3 => .object "java/lang/String"
  | 4 => .object "java/lang/Object"
  | _ => .int
abbrev wsX130 : List Cond := u_ws RX13 TX13 6
theorem nmX13 : ∀ a, a < 6 → ∀ b, b < 6 → a ≠ b → (TX13 a).2.1 ≠ (TX13 b).2.1 := by decide +kernel
theorem tyX13_ok : ∀ k, k < 6 → parseFieldDescriptor (TX13 k).2.2.1 = some (tyX13 k) := by decide +kernel
def RX14 : String := "NeedHouseModel"
def TX14 : u_T := fun k => match k with
  | 0 => ("NeedHouseModel", "halt", "LNeedHouseModel$Halt;", true)
  | 1 => ("NeedHouseModel", "thrown", "I", false)
  | 2 => ("NeedHouseModel", "tape", "[I", true)
  | 3 => ("NeedHouseModel", "taped", "I", false)
  | 4 => ("NeedHouseModel", "words", "[Ljava/lang/String;", true)
  | 5 => ("NeedHouseModel", "signs", "[Ljava/lang/String;", true)
  | 6 => ("NeedHouseModel", "tSort", "[I", true)
  | 7 => ("NeedHouseModel", "tValue", "[I", true)
  | 8 => ("NeedHouseModel", "tLine", "[I", true)
  | 9 => ("NeedHouseModel", "tColumn", "[I", true)
  | 10 => ("NeedHouseModel", "tokens", "I", false)
  | 11 => ("NeedHouseModel", "letters", "[I", true)
  | 12 => ("NeedHouseModel", "nameFrom", "[I", true)
  | 13 => ("NeedHouseModel", "names", "I", false)
  | 14 => ("NeedHouseModel", "small", "[I", true)
  | 15 => ("NeedHouseModel", "t", "I", false)
  | 16 => ("NeedHouseModel", "openSort", "[I", true)
  | 17 => ("NeedHouseModel", "opens", "I", false)
  | 18 => ("NeedHouseModel", "blockColumn", "[I", true)
  | 19 => ("NeedHouseModel", "blockOpens", "[I", true)
  | 20 => ("NeedHouseModel", "blocks", "I", false)
  | 21 => ("NeedHouseModel", "endsDue", "I", false)
  | 22 => ("NeedHouseModel", "itemDue", "Z", false)
  | 23 => ("NeedHouseModel", "blockDue", "Z", false)
  | 24 => ("NeedHouseModel", "isLow", "Z", false)
  | 25 => ("NeedHouseModel", "fault", "I", false)
  | 26 => ("NeedHouseModel", "kind", "[I", true)
  | 27 => ("NeedHouseModel", "tok", "[I", true)
  | 28 => ("NeedHouseModel", "a", "[I", true)
  | 29 => ("NeedHouseModel", "b", "[I", true)
  | 30 => ("NeedHouseModel", "c", "[I", true)
  | 31 => ("NeedHouseModel", "next", "[I", true)
  | 32 => ("NeedHouseModel", "sym", "[I", true)
  | 33 => ("NeedHouseModel", "nodes", "I", false)
  | 34 => ("NeedHouseModel", "program", "I", false)
  | 35 => ("NeedHouseModel", "depth", "I", false)
  | 36 => ("NeedHouseModel", "sName", "[I", true)
  | 37 => ("NeedHouseModel", "sNode", "[I", true)
  | 38 => ("NeedHouseModel", "sGlobal", "[I", true)
  | 39 => ("NeedHouseModel", "told", "I", false)
  | 40 => ("NeedHouseModel", "scope", "[I", true)
  | 41 => ("NeedHouseModel", "scopes", "I", false)
  | 42 => ("NeedHouseModel", "dName", "[I", true)
  | 43 => ("NeedHouseModel", "dNode", "[I", true)
  | 44 => ("NeedHouseModel", "dMany", "[I", true)
  | 45 => ("NeedHouseModel", "datas", "I", false)
  | 46 => ("NeedHouseModel", "cName", "[I", true)
  | 47 => ("NeedHouseModel", "cNode", "[I", true)
  | 48 => ("NeedHouseModel", "cData", "[I", true)
  | 49 => ("NeedHouseModel", "cMany", "[I", true)
  | 50 => ("NeedHouseModel", "cons", "I", false)
  | 51 => ("NeedHouseModel", "definitions", "I", false)
  | 52 => ("NeedHouseModel", "globalSymbol", "[I", true)
  | 53 => ("NeedHouseModel", "bestToken", "I", false)
  | 54 => ("NeedHouseModel", "bestKind", "I", false)
  | 55 => ("NeedHouseModel", "tooMuch", "Z", false)
  | 56 => ("NeedHouseModel", "intName", "I", false)
  | 57 => ("NeedHouseModel", "sayName", "I", false)
  | 58 => ("NeedHouseModel", "mainName", "I", false)
  | 59 => ("NeedHouseModel", "free", "[J", true)
  | 60 => ("NeedHouseModel", "rest", "[J", true)
  | 61 => ("NeedHouseModel", "yKind", "[I", true)
  | 62 => ("NeedHouseModel", "yFrom", "[I", true)
  | 63 => ("NeedHouseModel", "yLike", "[I", true)
  | 64 => ("NeedHouseModel", "ySeen", "[I", true)
  | 65 => ("NeedHouseModel", "yCopy", "[I", true)
  | 66 => ("NeedHouseModel", "yFree", "[Z", true)
  | 67 => ("NeedHouseModel", "yPart", "[I", true)
  | 68 => ("NeedHouseModel", "types", "I", false)
  | 69 => ("NeedHouseModel", "partsUsed", "I", false)
  | 70 => ("NeedHouseModel", "stamp", "I", false)
  | 71 => ("NeedHouseModel", "trail", "[I", false)
  | 72 => ("NeedHouseModel", "closed", "[I", true)
  | 73 => ("NeedHouseModel", "sType", "[I", true)
  | 74 => ("NeedHouseModel", "sDone", "[Z", true)
  | 75 => ("NeedHouseModel", "sLooked", "[Z", true)
  | 76 => ("NeedHouseModel", "sGroup", "[I", true)
  | 77 => ("NeedHouseModel", "uses", "[J", true)
  | 78 => ("NeedHouseModel", "around", "[I", true)
  | 79 => ("NeedHouseModel", "arounds", "I", false)
  | 80 => ("NeedHouseModel", "groups", "I", false)
  | 81 => ("NeedHouseModel", "made", "[I", true)
  | 82 => ("NeedHouseModel", "made1", "I", false)
  | 83 => ("NeedHouseModel", "wasClosed", "Z", false)
  | 84 => ("NeedHouseModel", "fieldTypes", "[I", true)
  | 85 => ("NeedHouseModel", "conType", "I", false)
  | 86 => ("NeedHouseModel", "isMember", "[I", true)
  | 87 => ("NeedHouseModel", "member", "I", false)
  | 88 => ("NeedHouseModel", "said", "[B", true)
  | 89 => ("NeedHouseModel", "saidFrom", "[I", true)
  | 90 => ("NeedHouseModel", "saidTop", "I", false)
  | 91 => ("NeedHouseModel", "lettersOf", "[I", true)
  | 92 => ("NeedHouseModel", "lettersMany", "I", false)
  | 93 => ("NeedHouseModel", "strict", "[Z", true)
  | 94 => ("NeedHouseModel", "need", "[J", false)
  | 95 => ("NeedHouseModel", "isThere", "Z", false)
  | 96 => ("NeedHouseModel", "lexemesMany", "I", false)
  | 97 => ("NeedHouseModel", "hKind", "[I", true)
  | 98 => ("NeedHouseModel", "hSub", "[I", true)
  | 99 => ("NeedHouseModel", "hFrom", "[I", true)
  | 100 => ("NeedHouseModel", "hMany", "[I", true)
  | 101 => ("NeedHouseModel", "hState", "[I", true)
  | 102 => ("NeedHouseModel", "hValue", "[J", true)
  | 103 => ("NeedHouseModel", "hSeen", "[Z", true)
  | 104 => ("NeedHouseModel", "spare", "[I", true)
  | 105 => ("NeedHouseModel", "toSee", "[I", true)
  | 106 => ("NeedHouseModel", "spares", "I", false)
  | 107 => ("NeedHouseModel", "things", "I", false)
  | 108 => ("NeedHouseModel", "held", "[J", false)
  | 109 => ("NeedHouseModel", "other", "[J", false)
  | 110 => ("NeedHouseModel", "heldTop", "I", false)
  | 111 => ("NeedHouseModel", "bound", "I", false)
  | 112 => ("NeedHouseModel", "how", "I", false)
  | 113 => ("NeedHouseModel", "steps", "I", false)
  | 114 => ("NeedHouseModel", "thunksMade", "I", false)
  | 115 => ("NeedHouseModel", "gotValue", "I", false)
  | 116 => ("NeedHouseModel", "gState", "[I", true)
  | 117 => ("NeedHouseModel", "gValue", "[J", true)
  | 118 => ("NeedHouseModel", "now", "[J", true)
  | 119 => ("NeedHouseModel", "at", "I", false)
  | 120 => ("NeedHouseModel", "coming", "Z", false)
  | 121 => ("NeedHouseModel", "comes", "J", false)
  | 122 => ("NeedHouseModel", "wKind", "[I", true)
  | 123 => ("NeedHouseModel", "wNode", "[I", true)
  | 124 => ("NeedHouseModel", "wFrom", "[I", true)
  | 125 => ("NeedHouseModel", "wCon", "[I", true)
  | 126 => ("NeedHouseModel", "waits", "I", false)
  | 127 => ("NeedHouseModel", "kept", "[J", false)
  | 128 => ("NeedHouseModel", "given", "[J", true)
  | 129 => ("NeedHouseModel", "givens", "I", false)
  | 130 => ("NeedHouseModel", "giver", "J", false)
  | 131 => ("NeedHouseModel", "text", "[B", true)
  | 132 => ("NeedHouseModel", "textTop", "I", false)
  | 133 => ("NeedHouseModel", "output", "[I", true)
  | 134 => ("NeedHouseModel", "outputs", "I", false)
  | _ => ("NeedHouseModel", "seen", "I", false)
def tyX14 : Nat → FieldType := fun k => match k with
  | 0 => .object "NeedHouseModel$Halt"
  | 1 => .int
  | 2 => .array .int
  | 3 => .int
  | 4 => .array (.object "java/lang/String")
  | 5 => .array (.object "java/lang/String")
  | 6 => .array .int
  | 7 => .array .int
  | 8 => .array .int
  | 9 => .array .int
  | 10 => .int
  | 11 => .array .int
  | 12 => .array .int
  | 13 => .int
  | 14 => .array .int
  | 15 => .int
  | 16 => .array .int
  | 17 => .int
  | 18 => .array .int
  | 19 => .array .int
  | 20 => .int
  | 21 => .int
  | 22 => .boolean
  | 23 => .boolean
  | 24 => .boolean
  | 25 => .int
  | 26 => .array .int
  | 27 => .array .int
  | 28 => .array .int
  | 29 => .array .int
  | 30 => .array .int
  | 31 => .array .int
  | 32 => .array .int
  | 33 => .int
  | 34 => .int
  | 35 => .int
  | 36 => .array .int
  | 37 => .array .int
  | 38 => .array .int
  | 39 => .int
  | 40 => .array .int
  | 41 => .int
  | 42 => .array .int
  | 43 => .array .int
  | 44 => .array .int
  | 45 => .int
  | 46 => .array .int
  | 47 => .array .int
  | 48 => .array .int
  | 49 => .array .int
  | 50 => .int
  | 51 => .int
  | 52 => .array .int
  | 53 => .int
  | 54 => .int
  | 55 => .boolean
  | 56 => .int
  | 57 => .int
  | 58 => .int
  | 59 => .array .long
  | 60 => .array .long
  | 61 => .array .int
  | 62 => .array .int
  | 63 => .array .int
  | 64 => .array .int
  | 65 => .array .int
  | 66 => .array .boolean
  | 67 => .array .int
  | 68 => .int
  | 69 => .int
  | 70 => .int
  | 71 => .array .int
  | 72 => .array .int
  | 73 => .array .int
  | 74 => .array .boolean
  | 75 => .array .boolean
  | 76 => .array .int
  | 77 => .array .long
  | 78 => .array .int
  | 79 => .int
  | 80 => .int
  | 81 => .array .int
  | 82 => .int
  | 83 => .boolean
  | 84 => .array .int
  | 85 => .int
  | 86 => .array .int
  | 87 => .int
  | 88 => .array .byte
  | 89 => .array .int
  | 90 => .int
  | 91 => .array .int
  | 92 => .int
  | 93 => .array .boolean
  | 94 => .array .long
  | 95 => .boolean
  | 96 => .int
  | 97 => .array .int
  | 98 => .array .int
  | 99 => .array .int
  | 100 => .array .int
  | 101 => .array .int
  | 102 => .array .long
  | 103 => .array .boolean
  | 104 => .array .int
  | 105 => .array .int
  | 106 => .int
  | 107 => .int
  | 108 => .array .long
  | 109 => .array .long
  | 110 => .int
  | 111 => .int
  | 112 => .int
  | 113 => .int
  | 114 => .int
  | 115 => .int
  | 116 => .array .int
  | 117 => .array .long
  | 118 => .array .long
  | 119 => .int
  | 120 => .boolean
  | 121 => .long
  | 122 => .array .int
  | 123 => .array .int
  | 124 => .array .int
  | 125 => .array .int
  | 126 => .int
  | 127 => .array .long
  | 128 => .array .long
  | 129 => .int
  | 130 => .long
  | 131 => .array .byte
  | 132 => .int
  | 133 => .array .int
  | 134 => .int
  | _ => .int
abbrev wsX140 : List Cond := u_ws RX14 TX14 136
theorem nmX14 : ∀ a, a < 136 → ∀ b, b < 136 → a ≠ b → (TX14 a).2.1 ≠ (TX14 b).2.1 := by decide +kernel
theorem tyX14_ok : ∀ k, k < 136 → parseFieldDescriptor (TX14 k).2.2.1 = some (tyX14 k) := by decide +kernel
def RJ11 : String := "java/lang/Character"
def TJ11 : u_T := fun k => match k with
  | _ => ("", "", "", false)
def tyJ11 : Nat → FieldType := fun k => match k with
  | _ => .int
abbrev wsJ110 : List Cond := u_ws RJ11 TJ11 0
theorem nmJ11 : ∀ a, a < 0 → ∀ b, b < 0 → a ≠ b → (TJ11 a).2.1 ≠ (TJ11 b).2.1 := by decide +kernel
theorem tyJ11_ok : ∀ k, k < 0 → parseFieldDescriptor (TJ11 k).2.2.1 = some (tyJ11 k) := by decide +kernel
def RJ13 : String := "java/lang/Long"
def TJ13 : u_T := fun k => match k with
  | _ => ("", "", "", false)
def tyJ13 : Nat → FieldType := fun k => match k with
  | _ => .int
abbrev wsJ130 : List Cond := u_ws RJ13 TJ13 0
theorem nmJ13 : ∀ a, a < 0 → ∀ b, b < 0 → a ≠ b → (TJ13 a).2.1 ≠ (TJ13 b).2.1 := by decide +kernel
theorem tyJ13_ok : ∀ k, k < 0 → parseFieldDescriptor (TJ13 k).2.2.1 = some (tyJ13 k) := by decide +kernel
def RJ9 : String := "java/lang/Math"
def TJ9 : u_T := fun k => match k with
  | _ => ("", "", "", false)
def tyJ9 : Nat → FieldType := fun k => match k with
  | _ => .int
abbrev wsJ90 : List Cond := u_ws RJ9 TJ9 0
theorem nmJ9 : ∀ a, a < 0 → ∀ b, b < 0 → a ≠ b → (TJ9 a).2.1 ≠ (TJ9 b).2.1 := by decide +kernel
theorem tyJ9_ok : ∀ k, k < 0 → parseFieldDescriptor (TJ9 k).2.2.1 = some (tyJ9 k) := by decide +kernel
def RJ0 : String := "java/lang/String"
def TJ0 : u_T := fun k => match k with
  | _ => ("", "", "", false)
def tyJ0 : Nat → FieldType := fun k => match k with
  | _ => .int
abbrev wsJ00 : List Cond := u_ws RJ0 TJ0 0
theorem nmJ0 : ∀ a, a < 0 → ∀ b, b < 0 → a ≠ b → (TJ0 a).2.1 ≠ (TJ0 b).2.1 := by decide +kernel
theorem tyJ0_ok : ∀ k, k < 0 → parseFieldDescriptor (TJ0 k).2.2.1 = some (tyJ0 k) := by decide +kernel
def RJ1 : String := "java/lang/StringLatin1"
def TJ1 : u_T := fun k => match k with
  | _ => ("", "", "", false)
def tyJ1 : Nat → FieldType := fun k => match k with
  | _ => .int
abbrev wsJ10 : List Cond := u_ws RJ1 TJ1 0
theorem nmJ1 : ∀ a, a < 0 → ∀ b, b < 0 → a ≠ b → (TJ1 a).2.1 ≠ (TJ1 b).2.1 := by decide +kernel
theorem tyJ1_ok : ∀ k, k < 0 → parseFieldDescriptor (TJ1 k).2.2.1 = some (tyJ1 k) := by decide +kernel
def RJ2 : String := "java/lang/StringUTF16"
def TJ2 : u_T := fun k => match k with
  | _ => ("", "", "", false)
def tyJ2 : Nat → FieldType := fun k => match k with
  | _ => .int
abbrev wsJ20 : List Cond := u_ws RJ2 TJ2 0
theorem nmJ2 : ∀ a, a < 0 → ∀ b, b < 0 → a ≠ b → (TJ2 a).2.1 ≠ (TJ2 b).2.1 := by decide +kernel
theorem tyJ2_ok : ∀ k, k < 0 → parseFieldDescriptor (TJ2 k).2.2.1 = some (tyJ2 k) := by decide +kernel
def RJ10 : String := "java/lang/System"
def TJ10 : u_T := fun k => match k with
  | _ => ("", "", "", false)
def tyJ10 : Nat → FieldType := fun k => match k with
  | _ => .int
abbrev wsJ100 : List Cond := u_ws RJ10 TJ10 0
theorem nmJ10 : ∀ a, a < 0 → ∀ b, b < 0 → a ≠ b → (TJ10 a).2.1 ≠ (TJ10 b).2.1 := by decide +kernel
theorem tyJ10_ok : ∀ k, k < 0 → parseFieldDescriptor (TJ10 k).2.2.1 = some (tyJ10 k) := by decide +kernel
def RJ7 : String := "java/util/Arrays"
def TJ7 : u_T := fun k => match k with
  | _ => ("", "", "", false)
def tyJ7 : Nat → FieldType := fun k => match k with
  | _ => .int
abbrev wsJ70 : List Cond := u_ws RJ7 TJ7 0
theorem nmJ7 : ∀ a, a < 0 → ∀ b, b < 0 → a ≠ b → (TJ7 a).2.1 ≠ (TJ7 b).2.1 := by decide +kernel
theorem tyJ7_ok : ∀ k, k < 0 → parseFieldDescriptor (TJ7 k).2.2.1 = some (tyJ7 k) := by decide +kernel
def RJ3 : String := "jdk/internal/util/Preconditions"
def TJ3 : u_T := fun k => match k with
  | _ => ("", "", "", false)
def tyJ3 : Nat → FieldType := fun k => match k with
  | _ => .int
abbrev wsJ30 : List Cond := u_ws RJ3 TJ3 0
theorem nmJ3 : ∀ a, a < 0 → ∀ b, b < 0 → a ≠ b → (TJ3 a).2.1 ≠ (TJ3 b).2.1 := by decide +kernel
theorem tyJ3_ok : ∀ k, k < 0 → parseFieldDescriptor (TJ3 k).2.2.1 = some (tyJ3 k) := by decide +kernel
abbrev cX0_init : ByteArray := prog_2_method_1_code
def yX0_init : MethodName := ⟨RX0, "<init>", "(LNeedHouse$Lexemes;)V"⟩
abbrev cX0_clear : ByteArray := prog_2_method_2_code
def yX0_clear : MethodName := ⟨RX0, "clear", "()V"⟩
abbrev cX0_tellData : ByteArray := prog_2_method_3_code
def yX0_tellData : MethodName := ⟨RX0, "tellData", "(I)V"⟩
abbrev cX0_tellName : ByteArray := prog_2_method_4_code
def yX0_tellName : MethodName := ⟨RX0, "tellName", "(I)V"⟩
abbrev cX0_tellCon : ByteArray := prog_2_method_5_code
def yX0_tellCon : MethodName := ⟨RX0, "tellCon", "(I)V"⟩
abbrev cX0_tellField : ByteArray := prog_2_method_6_code
def yX0_tellField : MethodName := ⟨RX0, "tellField", "()V"⟩
abbrev cX0_addCode : ByteArray := prog_2_method_7_code
def yX0_addCode : MethodName := ⟨RX0, "addCode", "(II)V"⟩
abbrev cX0_addName : ByteArray := prog_2_method_8_code
def yX0_addName : MethodName := ⟨RX0, "addName", "(I)V"⟩
abbrev cX0_addCon : ByteArray := prog_2_method_9_code
def yX0_addCon : MethodName := ⟨RX0, "addCon", "(I)V"⟩
abbrev cX0_setParts : ByteArray := prog_2_method_10_code
def yX0_setParts : MethodName := ⟨RX0, "setParts", "(II)V"⟩
abbrev cX0_insertCode : ByteArray := prog_2_method_11_code
def yX0_insertCode : MethodName := ⟨RX0, "insertCode", "(II)V"⟩
abbrev cX0_check : ByteArray := prog_2_method_12_code
def yX0_check : MethodName := ⟨RX0, "check", "()V"⟩
abbrev cX0_checkData : ByteArray := prog_2_method_13_code
def yX0_checkData : MethodName := ⟨RX0, "checkData", "(I)V"⟩
abbrev cX0_checkFields : ByteArray := prog_2_method_14_code
def yX0_checkFields : MethodName := ⟨RX0, "checkFields", "(I)V"⟩
abbrev cX0_lookUpName : ByteArray := prog_2_method_15_code
def yX0_lookUpName : MethodName := ⟨RX0, "lookUpName", "(II)V"⟩
abbrev cX0_lookUpType : ByteArray := prog_2_method_16_code
def yX0_lookUpType : MethodName := ⟨RX0, "lookUpType", "(I)V"⟩
abbrev cX0_partsOf : ByteArray := prog_2_method_17_code
def yX0_partsOf : MethodName := ⟨RX0, "partsOf", "(I)I"⟩
abbrev cX0_conNamed : ByteArray := prog_2_method_18_code
def yX0_conNamed : MethodName := ⟨RX0, "conNamed", "(I)I"⟩
abbrev cX0_symbolOfCon : ByteArray := prog_2_method_19_code
def yX0_symbolOfCon : MethodName := ⟨RX0, "symbolOfCon", "(I)I"⟩
abbrev cX0_symbolOfData : ByteArray := prog_2_method_20_code
def yX0_symbolOfData : MethodName := ⟨RX0, "symbolOfData", "(I)I"⟩
abbrev cX0_beyondLimits : ByteArray := prog_2_method_21_code
def yX0_beyondLimits : MethodName := ⟨RX0, "beyondLimits", "()Z"⟩
abbrev cX1_init : ByteArray := prog_3_method_1_code
def yX1_init : MethodName := ⟨RX1, "<init>", "(LNeedHouse$Lexemes;)V"⟩
abbrev cX1_open : ByteArray := prog_3_method_2_code
def yX1_open : MethodName := ⟨RX1, "open", "()V"⟩
abbrev cX1_advance : ByteArray := prog_3_method_3_code
def yX1_advance : MethodName := ⟨RX1, "advance", "()V"⟩
abbrev cX1_refuse : ByteArray := prog_3_method_4_code
def yX1_refuse : MethodName := ⟨RX1, "refuse", "(I)V"⟩
abbrev cX1_arrive : ByteArray := prog_3_method_5_code
def yX1_arrive : MethodName := ⟨RX1, "arrive", "()V"⟩
abbrev cX1_push : ByteArray := prog_3_method_6_code
def yX1_push : MethodName := ⟨RX1, "push", "(I)V"⟩
abbrev cX1_beginLine : ByteArray := prog_3_method_7_code
def yX1_beginLine : MethodName := ⟨RX1, "beginLine", "()Z"⟩
abbrev cX1_lastBlock : ByteArray := prog_3_method_8_code
def yX1_lastBlock : MethodName := ⟨RX1, "lastBlock", "()I"⟩
abbrev cX1_close : ByteArray := prog_3_method_9_code
def yX1_close : MethodName := ⟨RX1, "close", "(II)Z"⟩
abbrev cX1_closes : ByteArray := prog_3_method_10_code
def yX1_closes : MethodName := ⟨RX1, "closes", "(I)I"⟩
abbrev cX1_opens : ByteArray := prog_3_method_11_code
def yX1_opens : MethodName := ⟨RX1, "opens", "(I)Z"⟩
abbrev cX2_init : ByteArray := prog_4_method_1_code
def yX2_init : MethodName := ⟨RX2, "<init>", "()V"⟩
abbrev cX2_scan : ByteArray := prog_4_method_2_code
def yX2_scan : MethodName := ⟨RX2, "scan", "([BI)V"⟩
abbrev cX2_isPair : ByteArray := prog_4_method_3_code
def yX2_isPair : MethodName := ⟨RX2, "isPair", "([BIIII)Z"⟩
abbrev cX2_lineEnd : ByteArray := prog_4_method_4_code
def yX2_lineEnd : MethodName := ⟨RX2, "lineEnd", "([BII)I"⟩
abbrev cX2_lexeme : ByteArray := prog_4_method_5_code
def yX2_lexeme : MethodName := ⟨RX2, "lexeme", "([BII)I"⟩
abbrev cX2_word : ByteArray := prog_4_method_6_code
def yX2_word : MethodName := ⟨RX2, "word", "([BII)I"⟩
abbrev cX2_number : ByteArray := prog_4_method_7_code
def yX2_number : MethodName := ⟨RX2, "number", "([BII)I"⟩
abbrev cX2_isSmall : ByteArray := prog_4_method_8_code
def yX2_isSmall : MethodName := ⟨RX2, "isSmall", "(I)Z"⟩
abbrev cX2_isGreat : ByteArray := prog_4_method_9_code
def yX2_isGreat : MethodName := ⟨RX2, "isGreat", "(I)Z"⟩
abbrev cX2_isDigit : ByteArray := prog_4_method_10_code
def yX2_isDigit : MethodName := ⟨RX2, "isDigit", "(I)Z"⟩
abbrev cX2_isInWord : ByteArray := prog_4_method_11_code
def yX2_isInWord : MethodName := ⟨RX2, "isInWord", "(I)Z"⟩
abbrev cX2_learnKnown : ByteArray := prog_4_method_12_code
def yX2_learnKnown : MethodName := ⟨RX2, "learnKnown", "()V"⟩
abbrev cX2_symbolOf : ByteArray := prog_4_method_13_code
def yX2_symbolOf : MethodName := ⟨RX2, "symbolOf", "(JJ)I"⟩
abbrev cX2_newSymbol : ByteArray := prog_4_method_14_code
def yX2_newSymbol : MethodName := ⟨RX2, "newSymbol", "(IJJ)I"⟩
abbrev cX2_letter : ByteArray := prog_4_method_15_code
def yX2_letter : MethodName := ⟨RX2, "letter", "(II)I"⟩
abbrev cX2_fail : ByteArray := prog_4_method_16_code
def yX2_fail : MethodName := ⟨RX2, "fail", "(II)V"⟩
abbrev cX2_failWhole : ByteArray := prog_4_method_17_code
def yX2_failWhole : MethodName := ⟨RX2, "failWhole", "()V"⟩
abbrev cX2_note : ByteArray := prog_4_method_18_code
def yX2_note : MethodName := ⟨RX2, "note", "(II)V"⟩
abbrev cX2_settle : ByteArray := prog_4_method_19_code
def yX2_settle : MethodName := ⟨RX2, "settle", "()V"⟩
abbrev cX3_init : ByteArray := prog_5_method_1_code
def yX3_init : MethodName := ⟨RX3, "<init>", "(LNeedHouse$Lexemes;LNeedHouse$Tree;LNeedHouse$Told;LNeedHouse$Datas;LNeedHouse$Needs;)V"⟩
abbrev cX3_forget : ByteArray := prog_5_method_2_code
def yX3_forget : MethodName := ⟨RX3, "forget", "()V"⟩
abbrev cX3_begun : ByteArray := prog_5_method_3_code
def yX3_begun : MethodName := ⟨RX3, "begun", "()Z"⟩
abbrev cX3_goesOn : ByteArray := prog_5_method_4_code
def yX3_goesOn : MethodName := ⟨RX3, "goesOn", "()Z"⟩
abbrev cX3_start : ByteArray := prog_5_method_5_code
def yX3_start : MethodName := ⟨RX3, "start", "()V"⟩
abbrev cX3_isValue : ByteArray := prog_5_method_6_code
def yX3_isValue : MethodName := ⟨RX3, "isValue", "(I)Z"⟩
abbrev cX3_go : ByteArray := prog_5_method_7_code
def yX3_go : MethodName := ⟨RX3, "go", "(I)I"⟩
abbrev cX3_counted : ByteArray := prog_5_method_8_code
def yX3_counted : MethodName := ⟨RX3, "counted", "(I)I"⟩
abbrev cX3_outputAt : ByteArray := prog_5_method_9_code
def yX3_outputAt : MethodName := ⟨RX3, "outputAt", "(I)I"⟩
abbrev cX3_globalIs : ByteArray := prog_5_method_10_code
def yX3_globalIs : MethodName := ⟨RX3, "globalIs", "(II)I"⟩
abbrev cX3_step : ByteArray := prog_5_method_11_code
def yX3_step : MethodName := ⟨RX3, "step", "()V"⟩
abbrev cX3_waitFor : ByteArray := prog_5_method_12_code
def yX3_waitFor : MethodName := ⟨RX3, "waitFor", "(II)V"⟩
abbrev cX3_canMake : ByteArray := prog_5_method_13_code
def yX3_canMake : MethodName := ⟨RX3, "canMake", "(I)Z"⟩
abbrev cX3_build : ByteArray := prog_5_method_14_code
def yX3_build : MethodName := ⟨RX3, "build", "(I)V"⟩
abbrev cX3_call : ByteArray := prog_5_method_15_code
def yX3_call : MethodName := ⟨RX3, "call", "(I)V"⟩
abbrev cX3_let : ByteArray := prog_5_method_16_code
def yX3_let : MethodName := ⟨RX3, "let", "(I)V"⟩
abbrev cX3_ask : ByteArray := prog_5_method_17_code
def yX3_ask : MethodName := ⟨RX3, "ask", "(J)V"⟩
abbrev cX3_askGlobal : ByteArray := prog_5_method_18_code
def yX3_askGlobal : MethodName := ⟨RX3, "askGlobal", "(J)V"⟩
abbrev cX3_waitForThunk : ByteArray := prog_5_method_19_code
def yX3_waitForThunk : MethodName := ⟨RX3, "waitForThunk", "(J)Z"⟩
abbrev cX3_give : ByteArray := prog_5_method_20_code
def yX3_give : MethodName := ⟨RX3, "give", "(J)V"⟩
abbrev cX3_handOn : ByteArray := prog_5_method_21_code
def yX3_handOn : MethodName := ⟨RX3, "handOn", "()Z"⟩
abbrev cX3_isTrue : ByteArray := prog_5_method_22_code
def yX3_isTrue : MethodName := ⟨RX3, "isTrue", "()Z"⟩
abbrev cX3_putOutput : ByteArray := prog_5_method_23_code
def yX3_putOutput : MethodName := ⟨RX3, "putOutput", "(I)V"⟩
abbrev cX3_settle : ByteArray := prog_5_method_24_code
def yX3_settle : MethodName := ⟨RX3, "settle", "()Z"⟩
abbrev cX3_choose : ByteArray := prog_5_method_25_code
def yX3_choose : MethodName := ⟨RX3, "choose", "(I)Z"⟩
abbrev cX3_fits : ByteArray := prog_5_method_26_code
def yX3_fits : MethodName := ⟨RX3, "fits", "(I)Z"⟩
abbrev cX3_nameFields : ByteArray := prog_5_method_27_code
def yX3_nameFields : MethodName := ⟨RX3, "nameFields", "(I)V"⟩
abbrev cX3_decide : ByteArray := prog_5_method_28_code
def yX3_decide : MethodName := ⟨RX3, "decide", "(I)Z"⟩
abbrev cX3_reckon : ByteArray := prog_5_method_29_code
def yX3_reckon : MethodName := ⟨RX3, "reckon", "(I)Z"⟩
abbrev cX3_isNumber : ByteArray := prog_5_method_30_code
def yX3_isNumber : MethodName := ⟨RX3, "isNumber", "(I)Z"⟩
abbrev cX3_isBool : ByteArray := prog_5_method_31_code
def yX3_isBool : MethodName := ⟨RX3, "isBool", "(Z)Z"⟩
abbrev cX3_held : ByteArray := prog_5_method_32_code
def yX3_held : MethodName := ⟨RX3, "held", "(J)I"⟩
abbrev cX3_functionOf : ByteArray := prog_5_method_33_code
def yX3_functionOf : MethodName := ⟨RX3, "functionOf", "(J)J"⟩
abbrev cX3_wants : ByteArray := prog_5_method_34_code
def yX3_wants : MethodName := ⟨RX3, "wants", "(J)I"⟩
abbrev cX3_given : ByteArray := prog_5_method_35_code
def yX3_given : MethodName := ⟨RX3, "given", "(I)J"⟩
abbrev cX3_apply : ByteArray := prog_5_method_36_code
def yX3_apply : MethodName := ⟨RX3, "apply", "()Z"⟩
abbrev cX3_gather : ByteArray := prog_5_method_37_code
def yX3_gather : MethodName := ⟨RX3, "gather", "(IZ)Z"⟩
abbrev cX3_say : ByteArray := prog_5_method_38_code
def yX3_say : MethodName := ⟨RX3, "say", "()Z"⟩
abbrev cX3_enter : ByteArray := prog_5_method_39_code
def yX3_enter : MethodName := ⟨RX3, "enter", "(J)V"⟩
abbrev cX3_show : ByteArray := prog_5_method_40_code
def yX3_show : MethodName := ⟨RX3, "show", "()V"⟩
abbrev cX3_showFields : ByteArray := prog_5_method_41_code
def yX3_showFields : MethodName := ⟨RX3, "showFields", "(I)V"⟩
abbrev cX3_showRest : ByteArray := prog_5_method_42_code
def yX3_showRest : MethodName := ⟨RX3, "showRest", "()V"⟩
abbrev cX3_goOn : ByteArray := prog_5_method_43_code
def yX3_goOn : MethodName := ⟨RX3, "goOn", "()V"⟩
abbrev cX4_init : ByteArray := prog_6_method_1_code
def yX4_init : MethodName := ⟨RX4, "<init>", "(LNeedHouse$Tree;LNeedHouse$Told;)V"⟩
abbrev cX4_find : ByteArray := prog_6_method_2_code
def yX4_find : MethodName := ⟨RX4, "find", "()V"⟩
abbrev cX4_unite : ByteArray := prog_6_method_3_code
def yX4_unite : MethodName := ⟨RX4, "unite", "([JII)V"⟩
abbrev cX4_meet : ByteArray := prog_6_method_4_code
def yX4_meet : MethodName := ⟨RX4, "meet", "([JII)V"⟩
abbrev cX4_empty : ByteArray := prog_6_method_5_code
def yX4_empty : MethodName := ⟨RX4, "empty", "([JI)V"⟩
abbrev cX4_include : ByteArray := prog_6_method_6_code
def yX4_include : MethodName := ⟨RX4, "include", "([JII)V"⟩
abbrev cX4_includes : ByteArray := prog_6_method_7_code
def yX4_includes : MethodName := ⟨RX4, "includes", "([JII)Z"⟩
abbrev cX4_excludeScope : ByteArray := prog_6_method_8_code
def yX4_excludeScope : MethodName := ⟨RX4, "excludeScope", "([JII)V"⟩
abbrev cX4_findFree : ByteArray := prog_6_method_9_code
def yX4_findFree : MethodName := ⟨RX4, "findFree", "(I)V"⟩
abbrev cX4_findFreeOfRest : ByteArray := prog_6_method_10_code
def yX4_findFreeOfRest : MethodName := ⟨RX4, "findFreeOfRest", "(I)V"⟩
abbrev cX4_findFreeOfParts : ByteArray := prog_6_method_11_code
def yX4_findFreeOfParts : MethodName := ⟨RX4, "findFreeOfParts", "(I)V"⟩
abbrev cX4_listFree : ByteArray := prog_6_method_12_code
def yX4_listFree : MethodName := ⟨RX4, "listFree", "(I)V"⟩
abbrev cX4_nodeOf : ByteArray := prog_6_method_13_code
def yX4_nodeOf : MethodName := ⟨RX4, "nodeOf", "(I)I"⟩
abbrev cX4_findCells : ByteArray := prog_6_method_14_code
def yX4_findCells : MethodName := ⟨RX4, "findCells", "(I)V"⟩
abbrev cX4_addParts : ByteArray := prog_6_method_15_code
def yX4_addParts : MethodName := ⟨RX4, "addParts", "(I)V"⟩
abbrev cX4_addDefinitions : ByteArray := prog_6_method_16_code
def yX4_addDefinitions : MethodName := ⟨RX4, "addDefinitions", "(I)V"⟩
abbrev cX4_findStrict : ByteArray := prog_6_method_17_code
def yX4_findStrict : MethodName := ⟨RX4, "findStrict", "()V"⟩
abbrev cX4_dropUnneeded : ByteArray := prog_6_method_18_code
def yX4_dropUnneeded : MethodName := ⟨RX4, "dropUnneeded", "()Z"⟩
abbrev cX4_isStrict : ByteArray := prog_6_method_19_code
def yX4_isStrict : MethodName := ⟨RX4, "isStrict", "(I)Z"⟩
abbrev cX4_findNeed : ByteArray := prog_6_method_20_code
def yX4_findNeed : MethodName := ⟨RX4, "findNeed", "(I)V"⟩
abbrev cX4_findNeedOfLet : ByteArray := prog_6_method_21_code
def yX4_findNeedOfLet : MethodName := ⟨RX4, "findNeedOfLet", "(I)V"⟩
abbrev cX4_findNeedOfRest : ByteArray := prog_6_method_22_code
def yX4_findNeedOfRest : MethodName := ⟨RX4, "findNeedOfRest", "(I)V"⟩
abbrev cX4_findNeedOfCall : ByteArray := prog_6_method_23_code
def yX4_findNeedOfCall : MethodName := ⟨RX4, "findNeedOfCall", "(I)V"⟩
abbrev cX5_init : ByteArray := prog_7_method_1_code
def yX5_init : MethodName := ⟨RX5, "<init>", "(LNeedHouse$Lexemes;LNeedHouse$Tree;LNeedHouse$Told;LNeedHouse$Datas;)V"⟩
abbrev cX5_program : ByteArray := prog_7_method_2_code
def yX5_program : MethodName := ⟨RX5, "program", "()V"⟩
abbrev cX5_endItem : ByteArray := prog_7_method_3_code
def yX5_endItem : MethodName := ⟨RX5, "endItem", "()V"⟩
abbrev cX5_expect : ByteArray := prog_7_method_4_code
def yX5_expect : MethodName := ⟨RX5, "expect", "(I)V"⟩
abbrev cX5_data : ByteArray := prog_7_method_5_code
def yX5_data : MethodName := ⟨RX5, "data", "()V"⟩
abbrev cX5_beginsTypeAtom : ByteArray := prog_7_method_6_code
def yX5_beginsTypeAtom : MethodName := ⟨RX5, "beginsTypeAtom", "()Z"⟩
abbrev cX5_type : ByteArray := prog_7_method_7_code
def yX5_type : MethodName := ⟨RX5, "type", "(I)V"⟩
abbrev cX5_typeCall : ByteArray := prog_7_method_8_code
def yX5_typeCall : MethodName := ⟨RX5, "typeCall", "(I)V"⟩
abbrev cX5_typeAtom : ByteArray := prog_7_method_9_code
def yX5_typeAtom : MethodName := ⟨RX5, "typeAtom", "(I)V"⟩
abbrev cX5_definition : ByteArray := prog_7_method_10_code
def yX5_definition : MethodName := ⟨RX5, "definition", "(II)V"⟩
abbrev cX5_names : ByteArray := prog_7_method_11_code
def yX5_names : MethodName := ⟨RX5, "names", "(I)V"⟩
abbrev cX5_beginsAtom : ByteArray := prog_7_method_12_code
def yX5_beginsAtom : MethodName := ⟨RX5, "beginsAtom", "()Z"⟩
abbrev cX5_expression : ByteArray := prog_7_method_13_code
def yX5_expression : MethodName := ⟨RX5, "expression", "(II)I"⟩
abbrev cX5_lambda : ByteArray := prog_7_method_14_code
def yX5_lambda : MethodName := ⟨RX5, "lambda", "(II)I"⟩
abbrev cX5_let : ByteArray := prog_7_method_15_code
def yX5_let : MethodName := ⟨RX5, "let", "(II)I"⟩
abbrev cX5_choice : ByteArray := prog_7_method_16_code
def yX5_choice : MethodName := ⟨RX5, "choice", "(II)I"⟩
abbrev cX5_cases : ByteArray := prog_7_method_17_code
def yX5_cases : MethodName := ⟨RX5, "cases", "(II)I"⟩
abbrev cX5_pattern : ByteArray := prog_7_method_18_code
def yX5_pattern : MethodName := ⟨RX5, "pattern", "(I)I"⟩
abbrev cX5_beginsPlace : ByteArray := prog_7_method_19_code
def yX5_beginsPlace : MethodName := ⟨RX5, "beginsPlace", "()Z"⟩
abbrev cX5_place : ByteArray := prog_7_method_20_code
def yX5_place : MethodName := ⟨RX5, "place", "(I)V"⟩
abbrev cX5_chain : ByteArray := prog_7_method_21_code
def yX5_chain : MethodName := ⟨RX5, "chain", "(II)I"⟩
abbrev cX5_hold : ByteArray := prog_7_method_22_code
def yX5_hold : MethodName := ⟨RX5, "hold", "(I)V"⟩
abbrev cX5_holdSign : ByteArray := prog_7_method_23_code
def yX5_holdSign : MethodName := ⟨RX5, "holdSign", "(I)V"⟩
abbrev cX5_tie : ByteArray := prog_7_method_24_code
def yX5_tie : MethodName := ⟨RX5, "tie", "(II)V"⟩
abbrev cX5_call : ByteArray := prog_7_method_25_code
def yX5_call : MethodName := ⟨RX5, "call", "(II)I"⟩
abbrev cX5_atom : ByteArray := prog_7_method_26_code
def yX5_atom : MethodName := ⟨RX5, "atom", "(II)I"⟩
abbrev cX5_brackets : ByteArray := prog_7_method_27_code
def yX5_brackets : MethodName := ⟨RX5, "brackets", "(III)I"⟩
abbrev cX5_list : ByteArray := prog_7_method_28_code
def yX5_list : MethodName := ⟨RX5, "list", "(III)I"⟩
abbrev cX6_init : ByteArray := prog_8_method_1_code
def yX6_init : MethodName := ⟨RX6, "<init>", "(LNeedHouse$Lexemes;I)V"⟩
abbrev cX6_clear : ByteArray := prog_8_method_2_code
def yX6_clear : MethodName := ⟨RX6, "clear", "()V"⟩
abbrev cX6_size : ByteArray := prog_8_method_3_code
def yX6_size : MethodName := ⟨RX6, "size", "()I"⟩
abbrev cX6_at : ByteArray := prog_8_method_4_code
def yX6_at : MethodName := ⟨RX6, "at", "(I)I"⟩
abbrev cX6_put : ByteArray := prog_8_method_5_code
def yX6_put : MethodName := ⟨RX6, "put", "(I)V"⟩
abbrev cX6_putWord : ByteArray := prog_8_method_6_code
def yX6_putWord : MethodName := ⟨RX6, "putWord", "(Ljava/lang/String;)V"⟩
abbrev cX6_putSymbol : ByteArray := prog_8_method_7_code
def yX6_putSymbol : MethodName := ⟨RX6, "putSymbol", "(I)V"⟩
abbrev cX6_putNumber : ByteArray := prog_8_method_8_code
def yX6_putNumber : MethodName := ⟨RX6, "putNumber", "(I)V"⟩
abbrev cX7_init : ByteArray := prog_9_method_1_code
def yX7_init : MethodName := ⟨RX7, "<init>", "(LNeedHouse$Tree;LNeedHouse$Told;LNeedHouse$Datas;LNeedHouse$Needs;)V"⟩
abbrev cX7_valueOf : ByteArray := prog_9_method_2_code
def yX7_valueOf : MethodName := ⟨RX7, "valueOf", "(II)J"⟩
abbrev cX7_kindOf : ByteArray := prog_9_method_3_code
def yX7_kindOf : MethodName := ⟨RX7, "kindOf", "(J)I"⟩
abbrev cX7_whichOf : ByteArray := prog_9_method_4_code
def yX7_whichOf : MethodName := ⟨RX7, "whichOf", "(J)I"⟩
abbrev cX7_clear : ByteArray := prog_9_method_5_code
def yX7_clear : MethodName := ⟨RX7, "clear", "()V"⟩
abbrev cX7_nextThingIs : ByteArray := prog_9_method_6_code
def yX7_nextThingIs : MethodName := ⟨RX7, "nextThingIs", "(J)V"⟩
abbrev cX7_objectKind : ByteArray := prog_9_method_7_code
def yX7_objectKind : MethodName := ⟨RX7, "objectKind", "(J)I"⟩
abbrev cX7_objectOf : ByteArray := prog_9_method_8_code
def yX7_objectOf : MethodName := ⟨RX7, "objectOf", "(J)I"⟩
abbrev cX7_field : ByteArray := prog_9_method_9_code
def yX7_field : MethodName := ⟨RX7, "field", "(JI)J"⟩
abbrev cX7_setField : ByteArray := prog_9_method_10_code
def yX7_setField : MethodName := ⟨RX7, "setField", "(JIJ)V"⟩
abbrev cX7_setKind : ByteArray := prog_9_method_11_code
def yX7_setKind : MethodName := ⟨RX7, "setKind", "(JI)V"⟩
abbrev cX7_cellsThere : ByteArray := prog_9_method_12_code
def yX7_cellsThere : MethodName := ⟨RX7, "cellsThere", "()I"⟩
abbrev cX7_make : ByteArray := prog_9_method_13_code
def yX7_make : MethodName := ⟨RX7, "make", "(III)J"⟩
abbrev cX7_hasRoom : ByteArray := prog_9_method_14_code
def yX7_hasRoom : MethodName := ⟨RX7, "hasRoom", "(I)Z"⟩
abbrev cX7_moved : ByteArray := prog_9_method_15_code
def yX7_moved : MethodName := ⟨RX7, "moved", "(J)J"⟩
abbrev cX7_sizeOf : ByteArray := prog_9_method_16_code
def yX7_sizeOf : MethodName := ⟨RX7, "sizeOf", "(J)I"⟩
abbrev cX7_named : ByteArray := prog_9_method_17_code
def yX7_named : MethodName := ⟨RX7, "named", "(I)J"⟩
abbrev cX7_globalThing : ByteArray := prog_9_method_18_code
def yX7_globalThing : MethodName := ⟨RX7, "globalThing", "(I)J"⟩
abbrev cX7_constructor : ByteArray := prog_9_method_19_code
def yX7_constructor : MethodName := ⟨RX7, "constructor", "(I)J"⟩
abbrev cX7_conOf : ByteArray := prog_9_method_20_code
def yX7_conOf : MethodName := ⟨RX7, "conOf", "(J)I"⟩
abbrev cX7_thing : ByteArray := prog_9_method_21_code
def yX7_thing : MethodName := ⟨RX7, "thing", "(I)J"⟩
abbrev cX7_thunk : ByteArray := prog_9_method_22_code
def yX7_thunk : MethodName := ⟨RX7, "thunk", "(I)J"⟩
abbrev cX7_list : ByteArray := prog_9_method_23_code
def yX7_list : MethodName := ⟨RX7, "list", "(II)J"⟩
abbrev cX7_definitionThing : ByteArray := prog_9_method_24_code
def yX7_definitionThing : MethodName := ⟨RX7, "definitionThing", "(I)J"⟩
abbrev cX7_later : ByteArray := prog_9_method_25_code
def yX7_later : MethodName := ⟨RX7, "later", "(JI)J"⟩
abbrev cX7_fill : ByteArray := prog_9_method_26_code
def yX7_fill : MethodName := ⟨RX7, "fill", "()V"⟩
abbrev cX7_release : ByteArray := prog_9_method_27_code
def yX7_release : MethodName := ⟨RX7, "release", "(JII)V"⟩
abbrev cX7_push : ByteArray := prog_9_method_28_code
def yX7_push : MethodName := ⟨RX7, "push", "(II)Z"⟩
abbrev cX7_topKind : ByteArray := prog_9_method_29_code
def yX7_topKind : MethodName := ⟨RX7, "topKind", "()I"⟩
abbrev cX7_topNode : ByteArray := prog_9_method_30_code
def yX7_topNode : MethodName := ⟨RX7, "topNode", "()I"⟩
abbrev cX7_setTopKind : ByteArray := prog_9_method_31_code
def yX7_setTopKind : MethodName := ⟨RX7, "setTopKind", "(I)V"⟩
abbrev cX7_pop : ByteArray := prog_9_method_32_code
def yX7_pop : MethodName := ⟨RX7, "pop", "()V"⟩
abbrev cX7_topHolds : ByteArray := prog_9_method_33_code
def yX7_topHolds : MethodName := ⟨RX7, "topHolds", "()I"⟩
abbrev cX7_keep : ByteArray := prog_9_method_34_code
def yX7_keep : MethodName := ⟨RX7, "keep", "(J)V"⟩
abbrev cX7_drop : ByteArray := prog_9_method_35_code
def yX7_drop : MethodName := ⟨RX7, "drop", "()J"⟩
abbrev cX7_keepFree : ByteArray := prog_9_method_36_code
def yX7_keepFree : MethodName := ⟨RX7, "keepFree", "(I)V"⟩
abbrev cX7_popFree : ByteArray := prog_9_method_37_code
def yX7_popFree : MethodName := ⟨RX7, "popFree", "(I)V"⟩
abbrev cX7_popArguments : ByteArray := prog_9_method_38_code
def yX7_popArguments : MethodName := ⟨RX7, "popArguments", "()V"⟩
abbrev cX8_init : ByteArray := prog_10_method_1_code
def yX8_init : MethodName := ⟨RX8, "<init>", "(LNeedHouse$Lexemes;)V"⟩
abbrev cX8_clear : ByteArray := prog_10_method_2_code
def yX8_clear : MethodName := ⟨RX8, "clear", "()V"⟩
abbrev cX8_openScope : ByteArray := prog_10_method_3_code
def yX8_openScope : MethodName := ⟨RX8, "openScope", "(II)I"⟩
abbrev cX8_tell : ByteArray := prog_10_method_4_code
def yX8_tell : MethodName := ⟨RX8, "tell", "(II)I"⟩
abbrev cX8_tellNothing : ByteArray := prog_10_method_5_code
def yX8_tellNothing : MethodName := ⟨RX8, "tellNothing", "(I)V"⟩
abbrev cX8_meaning : ByteArray := prog_10_method_6_code
def yX8_meaning : MethodName := ⟨RX8, "meaning", "(II)I"⟩
abbrev cX8_named : ByteArray := prog_10_method_7_code
def yX8_named : MethodName := ⟨RX8, "named", "(II)I"⟩
abbrev cX8_isDefinition : ByteArray := prog_10_method_8_code
def yX8_isDefinition : MethodName := ⟨RX8, "isDefinition", "(I)Z"⟩
abbrev cX8_isLocal : ByteArray := prog_10_method_9_code
def yX8_isLocal : MethodName := ⟨RX8, "isLocal", "(I)Z"⟩
abbrev cX8_check : ByteArray := prog_10_method_10_code
def yX8_check : MethodName := ⟨RX8, "check", "()V"⟩
abbrev cX8_mainOf : ByteArray := prog_10_method_11_code
def yX8_mainOf : MethodName := ⟨RX8, "mainOf", "()I"⟩
abbrev cX9_init : ByteArray := prog_11_method_1_code
def yX9_init : MethodName := ⟨RX9, "<init>", "(LNeedHouse$Lexemes;LNeedHouse$Told;LNeedHouse$Datas;)V"⟩
abbrev cX9_clear : ByteArray := prog_11_method_2_code
def yX9_clear : MethodName := ⟨RX9, "clear", "()V"⟩
abbrev cX9_add : ByteArray := prog_11_method_3_code
def yX9_add : MethodName := ⟨RX9, "add", "(IIIII)I"⟩
abbrev cX9_addWhole : ByteArray := prog_11_method_4_code
def yX9_addWhole : MethodName := ⟨RX9, "addWhole", "(III[III)I"⟩
abbrev cX9_addItem : ByteArray := prog_11_method_5_code
def yX9_addItem : MethodName := ⟨RX9, "addItem", "(IIII)I"⟩
abbrev cX9_check : ByteArray := prog_11_method_6_code
def yX9_check : MethodName := ⟨RX9, "check", "()V"⟩
abbrev cX9_conAt : ByteArray := prog_11_method_7_code
def yX9_conAt : MethodName := ⟨RX9, "conAt", "(I)I"⟩
abbrev cX9_beyondLimits : ByteArray := prog_11_method_8_code
def yX9_beyondLimits : MethodName := ⟨RX9, "beyondLimits", "()Z"⟩
abbrev cX9_findBuilt : ByteArray := prog_11_method_9_code
def yX9_findBuilt : MethodName := ⟨RX9, "findBuilt", "()V"⟩
abbrev cX9_isBuilt : ByteArray := prog_11_method_10_code
def yX9_isBuilt : MethodName := ⟨RX9, "isBuilt", "(I)Z"⟩
abbrev cX10_init : ByteArray := prog_12_method_1_code
def yX10_init : MethodName := ⟨RX10, "<init>", "(LNeedHouse$Lexemes;LNeedHouse$Tree;LNeedHouse$Told;LNeedHouse$Types;)V"⟩
abbrev cX10_findGroups : ByteArray := prog_12_method_2_code
def yX10_findGroups : MethodName := ⟨RX10, "findGroups", "()V"⟩
abbrev cX10_findUses : ByteArray := prog_12_method_3_code
def yX10_findUses : MethodName := ⟨RX10, "findUses", "()V"⟩
abbrev cX10_noteUse : ByteArray := prog_12_method_4_code
def yX10_noteUse : MethodName := ⟨RX10, "noteUse", "(II)V"⟩
abbrev cX10_isUsed : ByteArray := prog_12_method_5_code
def yX10_isUsed : MethodName := ⟨RX10, "isUsed", "(II)Z"⟩
abbrev cX10_isTogether : ByteArray := prog_12_method_6_code
def yX10_isTogether : MethodName := ⟨RX10, "isTogether", "(II)Z"⟩
abbrev cX10_findGroupsOf : ByteArray := prog_12_method_7_code
def yX10_findGroupsOf : MethodName := ⟨RX10, "findGroupsOf", "(I)V"⟩
abbrev cX10_isReady : ByteArray := prog_12_method_8_code
def yX10_isReady : MethodName := ⟨RX10, "isReady", "(II)Z"⟩
abbrev cX10_takeGroup : ByteArray := prog_12_method_9_code
def yX10_takeGroup : MethodName := ⟨RX10, "takeGroup", "(II)V"⟩
abbrev cX10_push : ByteArray := prog_12_method_10_code
def yX10_push : MethodName := ⟨RX10, "push", "(II)V"⟩
abbrev cX10_pushGroups : ByteArray := prog_12_method_11_code
def yX10_pushGroups : MethodName := ⟨RX10, "pushGroups", "(I)V"⟩
abbrev cX10_work : ByteArray := prog_12_method_12_code
def yX10_work : MethodName := ⟨RX10, "work", "()V"⟩
abbrev cX10_want : ByteArray := prog_12_method_13_code
def yX10_want : MethodName := ⟨RX10, "want", "(II)V"⟩
abbrev cX10_visit : ByteArray := prog_12_method_14_code
def yX10_visit : MethodName := ⟨RX10, "visit", "(I)V"⟩
abbrev cX10_isTest : ByteArray := prog_12_method_15_code
def yX10_isTest : MethodName := ⟨RX10, "isTest", "(I)Z"⟩
abbrev cX10_typeOfName : ByteArray := prog_12_method_16_code
def yX10_typeOfName : MethodName := ⟨RX10, "typeOfName", "(I)I"⟩
abbrev cX10_visitOperands : ByteArray := prog_12_method_17_code
def yX10_visitOperands : MethodName := ⟨RX10, "visitOperands", "(II)V"⟩
abbrev cX10_visitIf : ByteArray := prog_12_method_18_code
def yX10_visitIf : MethodName := ⟨RX10, "visitIf", "(I)V"⟩
abbrev cX10_visitWhole : ByteArray := prog_12_method_19_code
def yX10_visitWhole : MethodName := ⟨RX10, "visitWhole", "(I)V"⟩
abbrev cX10_partOf : ByteArray := prog_12_method_20_code
def yX10_partOf : MethodName := ⟨RX10, "partOf", "(II)I"⟩
abbrev cX10_endRow : ByteArray := prog_12_method_21_code
def yX10_endRow : MethodName := ⟨RX10, "endRow", "(I)V"⟩
abbrev cX10_giveArgument : ByteArray := prog_12_method_22_code
def yX10_giveArgument : MethodName := ⟨RX10, "giveArgument", "(I)V"⟩
abbrev cX10_addName : ByteArray := prog_12_method_23_code
def yX10_addName : MethodName := ⟨RX10, "addName", "(II)V"⟩
abbrev cX10_addNames : ByteArray := prog_12_method_24_code
def yX10_addNames : MethodName := ⟨RX10, "addNames", "(I)V"⟩
abbrev cX10_dropNames : ByteArray := prog_12_method_25_code
def yX10_dropNames : MethodName := ⟨RX10, "dropNames", "(I)V"⟩
abbrev cX10_functionOf : ByteArray := prog_12_method_26_code
def yX10_functionOf : MethodName := ⟨RX10, "functionOf", "(II)I"⟩
abbrev cX10_choose : ByteArray := prog_12_method_27_code
def yX10_choose : MethodName := ⟨RX10, "choose", "(I)V"⟩
abbrev cX10_openCase : ByteArray := prog_12_method_28_code
def yX10_openCase : MethodName := ⟨RX10, "openCase", "(I)V"⟩
abbrev cX10_openItem : ByteArray := prog_12_method_29_code
def yX10_openItem : MethodName := ⟨RX10, "openItem", "(I)V"⟩
abbrev cX10_endItem : ByteArray := prog_12_method_30_code
def yX10_endItem : MethodName := ⟨RX10, "endItem", "(I)V"⟩
abbrev cX10_openGroup : ByteArray := prog_12_method_31_code
def yX10_openGroup : MethodName := ⟨RX10, "openGroup", "(I)V"⟩
abbrev cX10_openDefinition : ByteArray := prog_12_method_32_code
def yX10_openDefinition : MethodName := ⟨RX10, "openDefinition", "(I)V"⟩
abbrev cX10_endDefinition : ByteArray := prog_12_method_33_code
def yX10_endDefinition : MethodName := ⟨RX10, "endDefinition", "(I)V"⟩
abbrev cX10_endGroup : ByteArray := prog_12_method_34_code
def yX10_endGroup : MethodName := ⟨RX10, "endGroup", "(I)V"⟩
abbrev cX11_init : ByteArray := prog_13_method_1_code
def yX11_init : MethodName := ⟨RX11, "<init>", "(LNeedHouse$Datas;)V"⟩
abbrev cX11_clear : ByteArray := prog_13_method_2_code
def yX11_clear : MethodName := ⟨RX11, "clear", "()V"⟩
abbrev cX11_intType : ByteArray := prog_13_method_3_code
def yX11_intType : MethodName := ⟨RX11, "intType", "()I"⟩
abbrev cX11_boolType : ByteArray := prog_13_method_4_code
def yX11_boolType : MethodName := ⟨RX11, "boolType", "()I"⟩
abbrev cX11_unknown : ByteArray := prog_13_method_5_code
def yX11_unknown : MethodName := ⟨RX11, "unknown", "()I"⟩
abbrev cX11_list : ByteArray := prog_13_method_6_code
def yX11_list : MethodName := ⟨RX11, "list", "(I)I"⟩
abbrev cX11_pair : ByteArray := prog_13_method_7_code
def yX11_pair : MethodName := ⟨RX11, "pair", "(II)I"⟩
abbrev cX11_function : ByteArray := prog_13_method_8_code
def yX11_function : MethodName := ⟨RX11, "function", "(II)I"⟩
abbrev cX11_make : ByteArray := prog_13_method_9_code
def yX11_make : MethodName := ⟨RX11, "make", "(I)I"⟩
abbrev cX11_addPart : ByteArray := prog_13_method_10_code
def yX11_addPart : MethodName := ⟨RX11, "addPart", "(I)V"⟩
abbrev cX11_partOf : ByteArray := prog_13_method_11_code
def yX11_partOf : MethodName := ⟨RX11, "partOf", "(II)I"⟩
abbrev cX11_find : ByteArray := prog_13_method_12_code
def yX11_find : MethodName := ⟨RX11, "find", "(I)I"⟩
abbrev cX11_link : ByteArray := prog_13_method_13_code
def yX11_link : MethodName := ⟨RX11, "link", "(II)V"⟩
abbrev cX11_addAround : ByteArray := prog_13_method_14_code
def yX11_addAround : MethodName := ⟨RX11, "addAround", "(I)V"⟩
abbrev cX11_alike : ByteArray := prog_13_method_15_code
def yX11_alike : MethodName := ⟨RX11, "alike", "(II)Z"⟩
abbrev cX11_addPair : ByteArray := prog_13_method_16_code
def yX11_addPair : MethodName := ⟨RX11, "addPair", "(III)V"⟩
abbrev cX11_stampAll : ByteArray := prog_13_method_17_code
def yX11_stampAll : MethodName := ⟨RX11, "stampAll", "(I)V"⟩
abbrev cX11_addWalk : ByteArray := prog_13_method_18_code
def yX11_addWalk : MethodName := ⟨RX11, "addWalk", "(I)V"⟩
abbrev cX11_stampAround : ByteArray := prog_13_method_19_code
def yX11_stampAround : MethodName := ⟨RX11, "stampAround", "()V"⟩
abbrev cX11_settle : ByteArray := prog_13_method_20_code
def yX11_settle : MethodName := ⟨RX11, "settle", "(II)Z"⟩
abbrev cX11_codeOf : ByteArray := prog_13_method_21_code
def yX11_codeOf : MethodName := ⟨RX11, "codeOf", "(I)I"⟩
abbrev cX11_instance : ByteArray := prog_13_method_22_code
def yX11_instance : MethodName := ⟨RX11, "instance", "(I)I"⟩
abbrev cX11_freeOne : ByteArray := prog_13_method_23_code
def yX11_freeOne : MethodName := ⟨RX11, "freeOne", "(I)I"⟩
abbrev cX11_isFunction : ByteArray := prog_13_method_24_code
def yX11_isFunction : MethodName := ⟨RX11, "isFunction", "(I)Z"⟩
abbrev cX11_tellConstructors : ByteArray := prog_13_method_25_code
def yX11_tellConstructors : MethodName := ⟨RX11, "tellConstructors", "()V"⟩
abbrev cX11_tellRow : ByteArray := prog_13_method_26_code
def yX11_tellRow : MethodName := ⟨RX11, "tellRow", "(IIIIII)V"⟩
abbrev cX11_addCode : ByteArray := prog_13_method_27_code
def yX11_addCode : MethodName := ⟨RX11, "addCode", "(II)V"⟩
abbrev cX11_tellConstructor : ByteArray := prog_13_method_28_code
def yX11_tellConstructor : MethodName := ⟨RX11, "tellConstructor", "(I)V"⟩
abbrev cX11_write : ByteArray := prog_13_method_29_code
def yX11_write : MethodName := ⟨RX11, "write", "(LNeedHouse$Sheet;I)V"⟩
abbrev cX11_writeFrom : ByteArray := prog_13_method_30_code
def yX11_writeFrom : MethodName := ⟨RX11, "writeFrom", "(LNeedHouse$Sheet;IIII)I"⟩
abbrev cX11_writePlain : ByteArray := prog_13_method_31_code
def yX11_writePlain : MethodName := ⟨RX11, "writePlain", "(LNeedHouse$Sheet;I)V"⟩
abbrev cX12_init : ByteArray := prog_1_method_1_code
def yX12_init : MethodName := ⟨RX12, "<init>", "()V"⟩
abbrev cX12_feed : ByteArray := prog_1_method_2_code
def yX12_feed : MethodName := ⟨RX12, "feed", "(IIIII)I"⟩
abbrev cX12_put : ByteArray := prog_1_method_3_code
def yX12_put : MethodName := ⟨RX12, "put", "(I)V"⟩
abbrev cX12_back : ByteArray := prog_1_method_4_code
def yX12_back : MethodName := ⟨RX12, "back", "(I)I"⟩
abbrev cX12_read : ByteArray := prog_1_method_5_code
def yX12_read : MethodName := ⟨RX12, "read", "()I"⟩
abbrev cX12_checkLimits : ByteArray := prog_1_method_6_code
def yX12_checkLimits : MethodName := ⟨RX12, "checkLimits", "()V"⟩
abbrev cX12_count : ByteArray := prog_1_method_7_code
def yX12_count : MethodName := ⟨RX12, "count", "(I)I"⟩
abbrev cX12_definition : ByteArray := prog_1_method_8_code
def yX12_definition : MethodName := ⟨RX12, "definition", "(I)I"⟩
abbrev cX12_sign : ByteArray := prog_1_method_9_code
def yX12_sign : MethodName := ⟨RX12, "sign", "(II)I"⟩
abbrev cX12_strict : ByteArray := prog_1_method_10_code
def yX12_strict : MethodName := ⟨RX12, "strict", "(II)I"⟩
abbrev cX12_group : ByteArray := prog_1_method_11_code
def yX12_group : MethodName := ⟨RX12, "group", "(I)I"⟩
abbrev cX12_begin : ByteArray := prog_1_method_12_code
def yX12_begin : MethodName := ⟨RX12, "begin", "()V"⟩
abbrev cX12_run : ByteArray := prog_1_method_13_code
def yX12_run : MethodName := ⟨RX12, "run", "(I)I"⟩
abbrev cX12_global : ByteArray := prog_1_method_14_code
def yX12_global : MethodName := ⟨RX12, "global", "(II)I"⟩
abbrev cX12_shown : ByteArray := prog_1_method_15_code
def yX12_shown : MethodName := ⟨RX12, "shown", "(I)I"⟩
abbrev cX12_said : ByteArray := prog_1_method_16_code
def yX12_said : MethodName := ⟨RX12, "said", "(I)I"⟩
abbrev cX13_init : ByteArray := prog_16_method_1_code
def yX13_init : MethodName := ⟨RX13, "<init>", "()V"⟩
abbrev cX14_init : ByteArray := prog_15_method_1_code
def yX14_init : MethodName := ⟨RX14, "<init>", "()V"⟩
abbrev cX14_thrown : ByteArray := prog_15_method_2_code
def yX14_thrown : MethodName := ⟨RX14, "thrown", "()I"⟩
abbrev cX14_feed : ByteArray := prog_15_method_3_code
def yX14_feed : MethodName := ⟨RX14, "feed", "(IIIII)I"⟩
abbrev cX14_put : ByteArray := prog_15_method_4_code
def yX14_put : MethodName := ⟨RX14, "put", "(I)V"⟩
abbrev cX14_back : ByteArray := prog_15_method_5_code
def yX14_back : MethodName := ⟨RX14, "back", "(I)I"⟩
abbrev cX14_byteAt : ByteArray := prog_15_method_6_code
def yX14_byteAt : MethodName := ⟨RX14, "byteAt", "(I)I"⟩
abbrev cX14_isSmall : ByteArray := prog_15_method_7_code
def yX14_isSmall : MethodName := ⟨RX14, "isSmall", "(I)Z"⟩
abbrev cX14_isGreat : ByteArray := prog_15_method_8_code
def yX14_isGreat : MethodName := ⟨RX14, "isGreat", "(I)Z"⟩
abbrev cX14_isDigit : ByteArray := prog_15_method_9_code
def yX14_isDigit : MethodName := ⟨RX14, "isDigit", "(I)Z"⟩
abbrev cX14_isInner : ByteArray := prog_15_method_10_code
def yX14_isInner : MethodName := ⟨RX14, "isInner", "(I)Z"⟩
abbrev cX14_nameOf : ByteArray := prog_15_method_11_code
def yX14_nameOf : MethodName := ⟨RX14, "nameOf", "([III)I"⟩
abbrev cX14_nameOf_ : ByteArray := prog_15_method_12_code
def yX14_nameOf_ : MethodName := ⟨RX14, "nameOf", "(Ljava/lang/String;)I"⟩
abbrev cX14_wordAt : ByteArray := prog_15_method_13_code
def yX14_wordAt : MethodName := ⟨RX14, "wordAt", "(II)I"⟩
abbrev cX14_signAt : ByteArray := prog_15_method_14_code
def yX14_signAt : MethodName := ⟨RX14, "signAt", "(I)I"⟩
abbrev cX14_token : ByteArray := prog_15_method_15_code
def yX14_token : MethodName := ⟨RX14, "token", "(IIII)V"⟩
abbrev cX14_lexemes : ByteArray := prog_15_method_16_code
def yX14_lexemes : MethodName := ⟨RX14, "lexemes", "()V"⟩
abbrev cX14_lexeme : ByteArray := prog_15_method_17_code
def yX14_lexeme : MethodName := ⟨RX14, "lexeme", "(III)I"⟩
abbrev cX14_stop : ByteArray := prog_15_method_18_code
def yX14_stop : MethodName := ⟨RX14, "stop", "(I)LNeedHouseModel$Halt;"⟩
abbrev cX14_endBlock : ByteArray := prog_15_method_19_code
def yX14_endBlock : MethodName := ⟨RX14, "endBlock", "()V"⟩
abbrev cX14_layout : ByteArray := prog_15_method_20_code
def yX14_layout : MethodName := ⟨RX14, "layout", "()V"⟩
abbrev cX14_column : ByteArray := prog_15_method_21_code
def yX14_column : MethodName := ⟨RX14, "column", "()V"⟩
abbrev cX14_itemEnds : ByteArray := prog_15_method_22_code
def yX14_itemEnds : MethodName := ⟨RX14, "itemEnds", "()V"⟩
abbrev cX14_closers : ByteArray := prog_15_method_23_code
def yX14_closers : MethodName := ⟨RX14, "closers", "(I)V"⟩
abbrev cX14_openers : ByteArray := prog_15_method_24_code
def yX14_openers : MethodName := ⟨RX14, "openers", "(I)V"⟩
abbrev cX14_next : ByteArray := prog_15_method_25_code
def yX14_next : MethodName := ⟨RX14, "next", "()V"⟩
abbrev cX14_sort : ByteArray := prog_15_method_26_code
def yX14_sort : MethodName := ⟨RX14, "sort", "()I"⟩
abbrev cX14_is : ByteArray := prog_15_method_27_code
def yX14_is : MethodName := ⟨RX14, "is", "(I)Z"⟩
abbrev cX14_may : ByteArray := prog_15_method_28_code
def yX14_may : MethodName := ⟨RX14, "may", "(I)Z"⟩
abbrev cX14_must : ByteArray := prog_15_method_29_code
def yX14_must : MethodName := ⟨RX14, "must", "(I)V"⟩
abbrev cX14_node : ByteArray := prog_15_method_30_code
def yX14_node : MethodName := ⟨RX14, "node", "(II)I"⟩
abbrev cX14_node_ : ByteArray := prog_15_method_31_code
def yX14_node_ : MethodName := ⟨RX14, "node", "(IIII)I"⟩
abbrev cX14_many : ByteArray := prog_15_method_32_code
def yX14_many : MethodName := ⟨RX14, "many", "(I)I"⟩
abbrev cX14_items : ByteArray := prog_15_method_33_code
def yX14_items : MethodName := ⟨RX14, "items", "(I)I"⟩
abbrev cX14_data : ByteArray := prog_15_method_34_code
def yX14_data : MethodName := ⟨RX14, "data", "()I"⟩
abbrev cX14_names : ByteArray := prog_15_method_35_code
def yX14_names : MethodName := ⟨RX14, "names", "()I"⟩
abbrev cX14_alternative : ByteArray := prog_15_method_36_code
def yX14_alternative : MethodName := ⟨RX14, "alternative", "()I"⟩
abbrev cX14_isTypeAtom : ByteArray := prog_15_method_37_code
def yX14_isTypeAtom : MethodName := ⟨RX14, "isTypeAtom", "()Z"⟩
abbrev cX14_typeAtoms : ByteArray := prog_15_method_38_code
def yX14_typeAtoms : MethodName := ⟨RX14, "typeAtoms", "()I"⟩
abbrev cX14_deeper : ByteArray := prog_15_method_39_code
def yX14_deeper : MethodName := ⟨RX14, "deeper", "()V"⟩
abbrev cX14_type : ByteArray := prog_15_method_40_code
def yX14_type : MethodName := ⟨RX14, "type", "()I"⟩
abbrev cX14_typeAtom : ByteArray := prog_15_method_41_code
def yX14_typeAtom : MethodName := ⟨RX14, "typeAtom", "()I"⟩
abbrev cX14_definition : ByteArray := prog_15_method_42_code
def yX14_definition : MethodName := ⟨RX14, "definition", "()I"⟩
abbrev cX14_item : ByteArray := prog_15_method_43_code
def yX14_item : MethodName := ⟨RX14, "item", "()I"⟩
abbrev cX14_patternName : ByteArray := prog_15_method_44_code
def yX14_patternName : MethodName := ⟨RX14, "patternName", "()I"⟩
abbrev cX14_pattern : ByteArray := prog_15_method_45_code
def yX14_pattern : MethodName := ⟨RX14, "pattern", "()I"⟩
abbrev cX14_isAtom : ByteArray := prog_15_method_46_code
def yX14_isAtom : MethodName := ⟨RX14, "isAtom", "()Z"⟩
abbrev cX14_e : ByteArray := prog_15_method_47_code
def yX14_e : MethodName := ⟨RX14, "e", "()I"⟩
abbrev cX14_special : ByteArray := prog_15_method_48_code
def yX14_special : MethodName := ⟨RX14, "special", "(I)I"⟩
abbrev cX14_chain : ByteArray := prog_15_method_49_code
def yX14_chain : MethodName := ⟨RX14, "chain", "(I)I"⟩
abbrev cX14_isSign : ByteArray := prog_15_method_50_code
def yX14_isSign : MethodName := ⟨RX14, "isSign", "(I)Z"⟩
abbrev cX14_call : ByteArray := prog_15_method_51_code
def yX14_call : MethodName := ⟨RX14, "call", "()I"⟩
abbrev cX14_atom : ByteArray := prog_15_method_52_code
def yX14_atom : MethodName := ⟨RX14, "atom", "()I"⟩
abbrev cX14_tells : ByteArray := prog_15_method_53_code
def yX14_tells : MethodName := ⟨RX14, "tells", "(II)V"⟩
abbrev cX14_text : ByteArray := prog_15_method_54_code
def yX14_text : MethodName := ⟨RX14, "text", "(I)I"⟩
abbrev cX14_con : ByteArray := prog_15_method_55_code
def yX14_con : MethodName := ⟨RX14, "con", "(IIII)V"⟩
abbrev cX14_symbol : ByteArray := prog_15_method_56_code
def yX14_symbol : MethodName := ⟨RX14, "symbol", "(III)I"⟩
abbrev cX14_enter : ByteArray := prog_15_method_57_code
def yX14_enter : MethodName := ⟨RX14, "enter", "(I)V"⟩
abbrev cX14_typeNamed : ByteArray := prog_15_method_58_code
def yX14_typeNamed : MethodName := ⟨RX14, "typeNamed", "(I)I"⟩
abbrev cX14_conNamed : ByteArray := prog_15_method_59_code
def yX14_conNamed : MethodName := ⟨RX14, "conNamed", "(I)I"⟩
abbrev cX14_meaning : ByteArray := prog_15_method_60_code
def yX14_meaning : MethodName := ⟨RX14, "meaning", "(I)I"⟩
abbrev cX14_isRow : ByteArray := prog_15_method_61_code
def yX14_isRow : MethodName := ⟨RX14, "isRow", "(I)V"⟩
abbrev cX14_limit : ByteArray := prog_15_method_62_code
def yX14_limit : MethodName := ⟨RX14, "limit", "(Z)V"⟩
abbrev cX14_firstRound : ByteArray := prog_15_method_63_code
def yX14_firstRound : MethodName := ⟨RX14, "firstRound", "()V"⟩
abbrev cX14_tell : ByteArray := prog_15_method_64_code
def yX14_tell : MethodName := ⟨RX14, "tell", "(I)V"⟩
abbrev cX14_written : ByteArray := prog_15_method_65_code
def yX14_written : MethodName := ⟨RX14, "written", "(I)I"⟩
abbrev cX14_dataNames : ByteArray := prog_15_method_66_code
def yX14_dataNames : MethodName := ⟨RX14, "dataNames", "(I)V"⟩
abbrev cX14_typeNames : ByteArray := prog_15_method_67_code
def yX14_typeNames : MethodName := ⟨RX14, "typeNames", "(II)V"⟩
abbrev cX14_row : ByteArray := prog_15_method_68_code
def yX14_row : MethodName := ⟨RX14, "row", "(I)V"⟩
abbrev cX14_definitionNames : ByteArray := prog_15_method_69_code
def yX14_definitionNames : MethodName := ⟨RX14, "definitionNames", "(I)V"⟩
abbrev cX14_exprNames : ByteArray := prog_15_method_70_code
def yX14_exprNames : MethodName := ⟨RX14, "exprNames", "(I)V"⟩
abbrev cX14_itemNames : ByteArray := prog_15_method_71_code
def yX14_itemNames : MethodName := ⟨RX14, "itemNames", "(I)V"⟩
abbrev cX14_clearBits : ByteArray := prog_15_method_72_code
def yX14_clearBits : MethodName := ⟨RX14, "clearBits", "([JI)V"⟩
abbrev cX14_addBits : ByteArray := prog_15_method_73_code
def yX14_addBits : MethodName := ⟨RX14, "addBits", "([JII)V"⟩
abbrev cX14_dropRow : ByteArray := prog_15_method_74_code
def yX14_dropRow : MethodName := ⟨RX14, "dropRow", "([JII)V"⟩
abbrev cX14_freeOf : ByteArray := prog_15_method_75_code
def yX14_freeOf : MethodName := ⟨RX14, "freeOf", "(I)V"⟩
abbrev cX14_freeRow : ByteArray := prog_15_method_76_code
def yX14_freeRow : MethodName := ⟨RX14, "freeRow", "(II)V"⟩
abbrev cX14_longer : ByteArray := prog_15_method_77_code
def yX14_longer : MethodName := ⟨RX14, "longer", "([I)[I"⟩
abbrev cX14_newType : ByteArray := prog_15_method_78_code
def yX14_newType : MethodName := ⟨RX14, "newType", "(II)I"⟩
abbrev cX14_unknown : ByteArray := prog_15_method_79_code
def yX14_unknown : MethodName := ⟨RX14, "unknown", "()I"⟩
abbrev cX14_fun : ByteArray := prog_15_method_80_code
def yX14_fun : MethodName := ⟨RX14, "fun", "(II)I"⟩
abbrev cX14_listOf : ByteArray := prog_15_method_81_code
def yX14_listOf : MethodName := ⟨RX14, "listOf", "(I)I"⟩
abbrev cX14_pairOf : ByteArray := prog_15_method_82_code
def yX14_pairOf : MethodName := ⟨RX14, "pairOf", "(II)I"⟩
abbrev cX14_partsOf : ByteArray := prog_15_method_83_code
def yX14_partsOf : MethodName := ⟨RX14, "partsOf", "(I)I"⟩
abbrev cX14_find : ByteArray := prog_15_method_84_code
def yX14_find : MethodName := ⟨RX14, "find", "(I)I"⟩
abbrev cX14_standsIn : ByteArray := prog_15_method_85_code
def yX14_standsIn : MethodName := ⟨RX14, "standsIn", "(II)Z"⟩
abbrev cX14_alike : ByteArray := prog_15_method_86_code
def yX14_alike : MethodName := ⟨RX14, "alike", "(II)Z"⟩
abbrev cX14_wantAlike : ByteArray := prog_15_method_87_code
def yX14_wantAlike : MethodName := ⟨RX14, "wantAlike", "(III)V"⟩
abbrev cX14_typeFault : ByteArray := prog_15_method_88_code
def yX14_typeFault : MethodName := ⟨RX14, "typeFault", "(II)LNeedHouseModel$Halt;"⟩
abbrev cX14_copied : ByteArray := prog_15_method_89_code
def yX14_copied : MethodName := ⟨RX14, "copied", "(I)I"⟩
abbrev cX14_copy : ByteArray := prog_15_method_90_code
def yX14_copy : MethodName := ⟨RX14, "copy", "(I)I"⟩
abbrev cX14_treeOf : ByteArray := prog_15_method_91_code
def yX14_treeOf : MethodName := ⟨RX14, "treeOf", "(II)I"⟩
abbrev cX14_fieldType : ByteArray := prog_15_method_92_code
def yX14_fieldType : MethodName := ⟨RX14, "fieldType", "(II)I"⟩
abbrev cX14_instance : ByteArray := prog_15_method_93_code
def yX14_instance : MethodName := ⟨RX14, "instance", "(I)V"⟩
abbrev cX14_bool : ByteArray := prog_15_method_94_code
def yX14_bool : MethodName := ⟨RX14, "bool", "()I"⟩
abbrev cX14_typeOf : ByteArray := prog_15_method_95_code
def yX14_typeOf : MethodName := ⟨RX14, "typeOf", "(I)I"⟩
abbrev cX14_function : ByteArray := prog_15_method_96_code
def yX14_function : MethodName := ⟨RX14, "function", "(I)I"⟩
abbrev cX14_variable : ByteArray := prog_15_method_97_code
def yX14_variable : MethodName := ⟨RX14, "variable", "(II)V"⟩
abbrev cX14_itemType : ByteArray := prog_15_method_98_code
def yX14_itemType : MethodName := ⟨RX14, "itemType", "(III)V"⟩
abbrev cX14_usesOf : ByteArray := prog_15_method_99_code
def yX14_usesOf : MethodName := ⟨RX14, "usesOf", "(II)Z"⟩
abbrev cX14_gather : ByteArray := prog_15_method_100_code
def yX14_gather : MethodName := ⟨RX14, "gather", "(II)V"⟩
abbrev cX14_block : ByteArray := prog_15_method_101_code
def yX14_block : MethodName := ⟨RX14, "block", "(I)V"⟩
abbrev cX14_inGroup : ByteArray := prog_15_method_102_code
def yX14_inGroup : MethodName := ⟨RX14, "inGroup", "(II)Z"⟩
abbrev cX14_ready : ByteArray := prog_15_method_103_code
def yX14_ready : MethodName := ⟨RX14, "ready", "(I)I"⟩
abbrev cX14_lookAt : ByteArray := prog_15_method_104_code
def yX14_lookAt : MethodName := ⟨RX14, "lookAt", "(II)V"⟩
abbrev cX14_marked : ByteArray := prog_15_method_105_code
def yX14_marked : MethodName := ⟨RX14, "marked", "(IZ)V"⟩
abbrev cX14_secondRound : ByteArray := prog_15_method_106_code
def yX14_secondRound : MethodName := ⟨RX14, "secondRound", "()V"⟩
abbrev cX14_globalOf : ByteArray := prog_15_method_107_code
def yX14_globalOf : MethodName := ⟨RX14, "globalOf", "(I)I"⟩
abbrev cX14_sayText : ByteArray := prog_15_method_108_code
def yX14_sayText : MethodName := ⟨RX14, "sayText", "(Ljava/lang/String;)V"⟩
abbrev cX14_sayByte : ByteArray := prog_15_method_109_code
def yX14_sayByte : MethodName := ⟨RX14, "sayByte", "(I)V"⟩
abbrev cX14_sayName : ByteArray := prog_15_method_110_code
def yX14_sayName : MethodName := ⟨RX14, "sayName", "(I)V"⟩
abbrev cX14_sayNumber : ByteArray := prog_15_method_111_code
def yX14_sayNumber : MethodName := ⟨RX14, "sayNumber", "(I)V"⟩
abbrev cX14_tellTypes : ByteArray := prog_15_method_112_code
def yX14_tellTypes : MethodName := ⟨RX14, "tellTypes", "()V"⟩
abbrev cX14_sayType : ByteArray := prog_15_method_113_code
def yX14_sayType : MethodName := ⟨RX14, "sayType", "(II)V"⟩
abbrev cX14_bare : ByteArray := prog_15_method_114_code
def yX14_bare : MethodName := ⟨RX14, "bare", "(I)I"⟩
abbrev cX14_room : ByteArray := prog_15_method_115_code
def yX14_room : MethodName := ⟨RX14, "room", "(I)V"⟩
abbrev cX14_drop : ByteArray := prog_15_method_116_code
def yX14_drop : MethodName := ⟨RX14, "drop", "(II)V"⟩
abbrev cX14_needs : ByteArray := prog_15_method_117_code
def yX14_needs : MethodName := ⟨RX14, "needs", "(II)Z"⟩
abbrev cX14_join : ByteArray := prog_15_method_118_code
def yX14_join : MethodName := ⟨RX14, "join", "(II)V"⟩
abbrev cX14_needOf : ByteArray := prog_15_method_119_code
def yX14_needOf : MethodName := ⟨RX14, "needOf", "(II)V"⟩
abbrev cX14_meet : ByteArray := prog_15_method_120_code
def yX14_meet : MethodName := ⟨RX14, "meet", "(III)V"⟩
abbrev cX14_needOfCall : ByteArray := prog_15_method_121_code
def yX14_needOfCall : MethodName := ⟨RX14, "needOfCall", "(II)V"⟩
abbrev cX14_needOfLet : ByteArray := prog_15_method_122_code
def yX14_needOfLet : MethodName := ⟨RX14, "needOfLet", "(II)V"⟩
abbrev cX14_thirdRound : ByteArray := prog_15_method_123_code
def yX14_thirdRound : MethodName := ⟨RX14, "thirdRound", "()V"⟩
abbrev cX14_read : ByteArray := prog_15_method_124_code
def yX14_read : MethodName := ⟨RX14, "read", "()I"⟩
abbrev cX14_wholeText : ByteArray := prog_15_method_125_code
def yX14_wholeText : MethodName := ⟨RX14, "wholeText", "()V"⟩
abbrev cX14_value : ByteArray := prog_15_method_126_code
def yX14_value : MethodName := ⟨RX14, "value", "(II)J"⟩
abbrev cX14_sortOf : ByteArray := prog_15_method_127_code
def yX14_sortOf : MethodName := ⟨RX14, "sortOf", "(J)I"⟩
abbrev cX14_plain : ByteArray := prog_15_method_128_code
def yX14_plain : MethodName := ⟨RX14, "plain", "(J)J"⟩
abbrev cX14_bits : ByteArray := prog_15_method_129_code
def yX14_bits : MethodName := ⟨RX14, "bits", "([JI)I"⟩
abbrev cX14_isWhole : ByteArray := prog_15_method_130_code
def yX14_isWhole : MethodName := ⟨RX14, "isWhole", "(I)Z"⟩
abbrev cX14_cellsOf : ByteArray := prog_15_method_131_code
def yX14_cellsOf : MethodName := ⟨RX14, "cellsOf", "(I)I"⟩
abbrev cX14_fits : ByteArray := prog_15_method_132_code
def yX14_fits : MethodName := ⟨RX14, "fits", "(II)Z"⟩
abbrev cX14_see : ByteArray := prog_15_method_133_code
def yX14_see : MethodName := ⟨RX14, "see", "(J)V"⟩
abbrev cX14_collect : ByteArray := prog_15_method_134_code
def yX14_collect : MethodName := ⟨RX14, "collect", "(IZ)V"⟩
abbrev cX14_make : ByteArray := prog_15_method_135_code
def yX14_make : MethodName := ⟨RX14, "make", "(III)I"⟩
abbrev cX14_variable_ : ByteArray := prog_15_method_136_code
def yX14_variable_ : MethodName := ⟨RX14, "variable", "(I)J"⟩
abbrev cX14_fillFree : ByteArray := prog_15_method_137_code
def yX14_fillFree : MethodName := ⟨RX14, "fillFree", "(II)V"⟩
abbrev cX14_begun : ByteArray := prog_15_method_138_code
def yX14_begun : MethodName := ⟨RX14, "begun", "(I)J"⟩
abbrev cX14_fill : ByteArray := prog_15_method_139_code
def yX14_fill : MethodName := ⟨RX14, "fill", "(JI)V"⟩
abbrev cX14_field : ByteArray := prog_15_method_140_code
def yX14_field : MethodName := ⟨RX14, "field", "(III)V"⟩
abbrev cX14_fillRow : ByteArray := prog_15_method_141_code
def yX14_fillRow : MethodName := ⟨RX14, "fillRow", "(II)V"⟩
abbrev cX14_thing : ByteArray := prog_15_method_142_code
def yX14_thing : MethodName := ⟨RX14, "thing", "(I)J"⟩
abbrev cX14_waitFor : ByteArray := prog_15_method_143_code
def yX14_waitFor : MethodName := ⟨RX14, "waitFor", "(II)Z"⟩
abbrev cX14_keep : ByteArray := prog_15_method_144_code
def yX14_keep : MethodName := ⟨RX14, "keep", "(J)V"⟩
abbrev cX14_keepBits : ByteArray := prog_15_method_145_code
def yX14_keepBits : MethodName := ⟨RX14, "keepBits", "([JI)V"⟩
abbrev cX14_takeBits : ByteArray := prog_15_method_146_code
def yX14_takeBits : MethodName := ⟨RX14, "takeBits", "([JI)V"⟩
abbrev cX14_begin : ByteArray := prog_15_method_147_code
def yX14_begin : MethodName := ⟨RX14, "begin", "()V"⟩
abbrev cX14_isValue : ByteArray := prog_15_method_148_code
def yX14_isValue : MethodName := ⟨RX14, "isValue", "(I)Z"⟩
abbrev cX14_run : ByteArray := prog_15_method_149_code
def yX14_run : MethodName := ⟨RX14, "run", "(I)I"⟩
abbrev cX14_asked : ByteArray := prog_15_method_150_code
def yX14_asked : MethodName := ⟨RX14, "asked", "(J)V"⟩
abbrev cX14_takeFree : ByteArray := prog_15_method_151_code
def yX14_takeFree : MethodName := ⟨RX14, "takeFree", "(II)V"⟩
abbrev cX14_step : ByteArray := prog_15_method_152_code
def yX14_step : MethodName := ⟨RX14, "step", "(I)V"⟩
abbrev cX14_made : ByteArray := prog_15_method_153_code
def yX14_made : MethodName := ⟨RX14, "made", "(I)V"⟩
abbrev cX14_call_ : ByteArray := prog_15_method_154_code
def yX14_call_ : MethodName := ⟨RX14, "call", "(I)V"⟩
abbrev cX14_let : ByteArray := prog_15_method_155_code
def yX14_let : MethodName := ⟨RX14, "let", "(I)V"⟩
abbrev cX14_deliver : ByteArray := prog_15_method_156_code
def yX14_deliver : MethodName := ⟨RX14, "deliver", "(J)V"⟩
abbrev cX14_come : ByteArray := prog_15_method_157_code
def yX14_come : MethodName := ⟨RX14, "come", "(J)V"⟩
abbrev cX14_became : ByteArray := prog_15_method_158_code
def yX14_became : MethodName := ⟨RX14, "became", "(JJ)V"⟩
abbrev cX14_truth : ByteArray := prog_15_method_159_code
def yX14_truth : MethodName := ⟨RX14, "truth", "(Z)J"⟩
abbrev cX14_worked : ByteArray := prog_15_method_160_code
def yX14_worked : MethodName := ⟨RX14, "worked", "(III)J"⟩
abbrev cX14_branch : ByteArray := prog_15_method_161_code
def yX14_branch : MethodName := ⟨RX14, "branch", "(IJ)Z"⟩
abbrev cX14_conOf : ByteArray := prog_15_method_162_code
def yX14_conOf : MethodName := ⟨RX14, "conOf", "(J)I"⟩
abbrev cX14_isMatch : ByteArray := prog_15_method_163_code
def yX14_isMatch : MethodName := ⟨RX14, "isMatch", "(IJ)Z"⟩
abbrev cX14_wants : ByteArray := prog_15_method_164_code
def yX14_wants : MethodName := ⟨RX14, "wants", "(J)I"⟩
abbrev cX14_gets : ByteArray := prog_15_method_165_code
def yX14_gets : MethodName := ⟨RX14, "gets", "(J)Z"⟩
abbrev cX14_give : ByteArray := prog_15_method_166_code
def yX14_give : MethodName := ⟨RX14, "give", "(J)V"⟩
abbrev cX14_isGiven : ByteArray := prog_15_method_167_code
def yX14_isGiven : MethodName := ⟨RX14, "isGiven", "(J)Z"⟩
abbrev cX14_isMade : ByteArray := prog_15_method_168_code
def yX14_isMade : MethodName := ⟨RX14, "isMade", "(I)Z"⟩
abbrev cX14_show : ByteArray := prog_15_method_169_code
def yX14_show : MethodName := ⟨RX14, "show", "(I)V"⟩
abbrev cX14_show_ : ByteArray := prog_15_method_170_code
def yX14_show_ : MethodName := ⟨RX14, "show", "(Ljava/lang/String;)V"⟩
abbrev cX14_showNumber : ByteArray := prog_15_method_171_code
def yX14_showNumber : MethodName := ⟨RX14, "showNumber", "(I)V"⟩
abbrev cX14_showCon : ByteArray := prog_15_method_172_code
def yX14_showCon : MethodName := ⟨RX14, "showCon", "(I)V"⟩
abbrev cX14_shows : ByteArray := prog_15_method_173_code
def yX14_shows : MethodName := ⟨RX14, "shows", "(J)Z"⟩
abbrev cX14_element : ByteArray := prog_15_method_174_code
def yX14_element : MethodName := ⟨RX14, "element", "(I)V"⟩
abbrev cX14_complete : ByteArray := prog_15_method_175_code
def yX14_complete : MethodName := ⟨RX14, "complete", "()V"⟩
abbrev cX14_count : ByteArray := prog_15_method_176_code
def yX14_count : MethodName := ⟨RX14, "count", "(I)I"⟩
abbrev cX14_isDefinition : ByteArray := prog_15_method_177_code
def yX14_isDefinition : MethodName := ⟨RX14, "isDefinition", "(I)Z"⟩
abbrev cX14_sign : ByteArray := prog_15_method_178_code
def yX14_sign : MethodName := ⟨RX14, "sign", "(II)I"⟩
abbrev cX14_strict : ByteArray := prog_15_method_179_code
def yX14_strict : MethodName := ⟨RX14, "strict", "(II)I"⟩
abbrev cX14_group : ByteArray := prog_15_method_180_code
def yX14_group : MethodName := ⟨RX14, "group", "(I)I"⟩
abbrev cX14_global : ByteArray := prog_15_method_181_code
def yX14_global : MethodName := ⟨RX14, "global", "(II)I"⟩
abbrev cX14_shown : ByteArray := prog_15_method_182_code
def yX14_shown : MethodName := ⟨RX14, "shown", "(I)I"⟩
abbrev cX14_said : ByteArray := prog_15_method_183_code
def yX14_said : MethodName := ⟨RX14, "said", "(I)I"⟩
abbrev cJ11_isValidCodePoint_9a6ad : ByteArray := prog_17_method_11_code
def yJ11_isValidCodePoint_9a6ad : MethodName := ⟨RJ11, "isValidCodePoint", "(I)Z"⟩
abbrev cJ11_highSurrogate_5068e : ByteArray := prog_17_method_28_code
def yJ11_highSurrogate_5068e : MethodName := ⟨RJ11, "highSurrogate", "(I)C"⟩
abbrev cJ11_lowSurrogate_5068e : ByteArray := prog_17_method_29_code
def yJ11_lowSurrogate_5068e : MethodName := ⟨RJ11, "lowSurrogate", "(I)C"⟩
abbrev cJ13_bitCount_95d88 : ByteArray := prog_22_method_50_code
def yJ13_bitCount_95d88 : MethodName := ⟨RJ13, "bitCount", "(J)I"⟩
abbrev cJ9_abs_0f7a4 : ByteArray := prog_23_method_59_code
def yJ9_abs_0f7a4 : MethodName := ⟨RJ9, "abs", "(I)I"⟩
abbrev cJ9_max_7cf53 : ByteArray := prog_23_method_65_code
def yJ9_max_7cf53 : MethodName := ⟨RJ9, "max", "(II)I"⟩
abbrev cJ9_min_7cf53 : ByteArray := prog_23_method_69_code
def yJ9_min_7cf53 : MethodName := ⟨RJ9, "min", "(II)I"⟩
abbrev cJ9_min_f86c9 : ByteArray := prog_23_method_70_code
def yJ9_min_f86c9 : MethodName := ⟨RJ9, "min", "(JJ)J"⟩
abbrev cJ0_length_8abf5 : ByteArray := prog_25_method_54_code
def yJ0_length_8abf5 : MethodName := ⟨RJ0, "length", "()I"⟩
abbrev cJ0_charAt_5068e : ByteArray := prog_25_method_56_code
def yJ0_charAt_5068e : MethodName := ⟨RJ0, "charAt", "(I)C"⟩
abbrev cJ0_indexOf_0f7a4 : ByteArray := prog_25_method_79_code
def yJ0_indexOf_0f7a4 : MethodName := ⟨RJ0, "indexOf", "(I)I"⟩
abbrev cJ0_indexOf_7cf53 : ByteArray := prog_25_method_80_code
def yJ0_indexOf_7cf53 : MethodName := ⟨RJ0, "indexOf", "(II)I"⟩
abbrev cJ0_coder_7d493 : ByteArray := prog_25_method_152_code
def yJ0_coder_7d493 : MethodName := ⟨RJ0, "coder", "()B"⟩
abbrev cJ0_isLatin1_aae02 : ByteArray := prog_25_method_154_code
def yJ0_isLatin1_aae02 : MethodName := ⟨RJ0, "isLatin1", "()Z"⟩
abbrev cJ0_checkIndex_df160 : ByteArray := prog_25_method_155_code
def yJ0_checkIndex_df160 : MethodName := ⟨RJ0, "checkIndex", "(II)V"⟩
abbrev cJ0_checkBoundsBeginEnd_23922 : ByteArray := prog_25_method_158_code
def yJ0_checkBoundsBeginEnd_23922 : MethodName := ⟨RJ0, "checkBoundsBeginEnd", "(III)V"⟩
abbrev cJ1_charAt_3b067 : ByteArray := prog_26_method_2_code
def yJ1_charAt_3b067 : MethodName := ⟨RJ1, "charAt", "([BI)C"⟩
abbrev cJ1_canEncode_9a6ad : ByteArray := prog_26_method_4_code
def yJ1_canEncode_9a6ad : MethodName := ⟨RJ1, "canEncode", "(I)Z"⟩
abbrev cJ1_indexOf_4cfef : ByteArray := prog_26_method_22_code
def yJ1_indexOf_4cfef : MethodName := ⟨RJ1, "indexOf", "([BIII)I"⟩
abbrev cJ1_indexOfChar_4cfef : ByteArray := prog_26_method_23_code
def yJ1_indexOfChar_4cfef : MethodName := ⟨RJ1, "indexOfChar", "([BIII)I"⟩
abbrev cJ2_getChar_3b067 : ByteArray := prog_27_method_5_code
def yJ2_getChar_3b067 : MethodName := ⟨RJ2, "getChar", "([BI)C"⟩
abbrev cJ2_length_9d52b : ByteArray := prog_27_method_6_code
def yJ2_length_9d52b : MethodName := ⟨RJ2, "length", "([B)I"⟩
abbrev cJ2_indexOf_4cfef : ByteArray := prog_27_method_40_code
def yJ2_indexOf_4cfef : MethodName := ⟨RJ2, "indexOf", "([BIII)I"⟩
abbrev cJ2_indexOfChar_4cfef : ByteArray := prog_27_method_47_code
def yJ2_indexOfChar_4cfef : MethodName := ⟨RJ2, "indexOfChar", "([BIII)I"⟩
abbrev cJ2_indexOfCharUnsafe_4cfef : ByteArray := prog_27_method_48_code
def yJ2_indexOfCharUnsafe_4cfef : MethodName := ⟨RJ2, "indexOfCharUnsafe", "([BIII)I"⟩
abbrev cJ2_indexOfSupplementary_4cfef : ByteArray := prog_27_method_49_code
def yJ2_indexOfSupplementary_4cfef : MethodName := ⟨RJ2, "indexOfSupplementary", "([BIII)I"⟩
abbrev cJ2_charAt_3b067 : ByteArray := prog_27_method_83_code
def yJ2_charAt_3b067 : MethodName := ⟨RJ2, "charAt", "([BI)C"⟩
abbrev cJ2_checkIndex_2214a : ByteArray := prog_27_method_91_code
def yJ2_checkIndex_2214a : MethodName := ⟨RJ2, "checkIndex", "(I[B)V"⟩
abbrev cJ2_checkBoundsBeginEnd_d044e : ByteArray := prog_27_method_93_code
def yJ2_checkBoundsBeginEnd_d044e : MethodName := ⟨RJ2, "checkBoundsBeginEnd", "(II[B)V"⟩
abbrev cJ7_fill_d0a16 : ByteArray := prog_30_method_101_code
def yJ7_fill_d0a16 : MethodName := ⟨RJ7, "fill", "([JJ)V"⟩
abbrev cJ7_fill_53178 : ByteArray := prog_30_method_103_code
def yJ7_fill_53178 : MethodName := ⟨RJ7, "fill", "([II)V"⟩
abbrev cJ7_copyOf_9075b : ByteArray := prog_30_method_121_code
def yJ7_copyOf_9075b : MethodName := ⟨RJ7, "copyOf", "([BI)[B"⟩
abbrev cJ7_copyOf_59c91 : ByteArray := prog_30_method_123_code
def yJ7_copyOf_59c91 : MethodName := ⟨RJ7, "copyOf", "([II)[I"⟩
abbrev cJ7_copyOf_c38d5 : ByteArray := prog_30_method_124_code
def yJ7_copyOf_c38d5 : MethodName := ⟨RJ7, "copyOf", "([JI)[J"⟩
abbrev cJ3_checkIndex_8e157 : ByteArray := prog_31_method_11_code
def yJ3_checkIndex_8e157 : MethodName := ⟨RJ3, "checkIndex", "(IILjava/util/function/BiFunction;)I"⟩
abbrev cJ3_checkFromToIndex_8c36e : ByteArray := prog_31_method_12_code
def yJ3_checkFromToIndex_8c36e : MethodName := ⟨RJ3, "checkFromToIndex", "(IIILjava/util/function/BiFunction;)I"⟩
abbrev cL_begin : ByteArray := method_3_code
def yL_begin : MethodName := ⟨RL, "begin", "(LNeedHouse;)I"⟩
abbrev cL_run : ByteArray := method_4_code
def yL_run : MethodName := ⟨RL, "run", "(LNeedHouse;I[J)I"⟩
abbrev cL_law : ByteArray := code
def yL_law : MethodName := ⟨RL, "law", "([I)Z"⟩
abbrev vwCl : List vw_C := [(RX0, TX0, 20), (RX1, TX1, 9), (RX2, TX2, 12), (RX3, TX3, 14), (RX4, TX4, 13), (RX5, TX5, 10), (RX6, TX6, 3), (RX7, TX7, 22), (RX8, TX8, 18), (RX9, TX9, 20), (RX10, TX10, 17), (RX11, TX11, 18), (RX12, TX12, 14), (RX13, TX13, 6), (RX14, TX14, 136)]
end
section
/-! ===== BEGIN exceptions that leave a method, and their catching by the caller (launches without stack traces) ===== -/
section VXA
/-! The laws vx_back, vx_callV, vx_callS, vx_callSW, vx_throw0, vx_throwS follow proofs of the library, with one case more: JvmDerived/Free/Laws.lean (Back.of_free), Shelf42/LK1.lean (callV, callS), Shelf/KitTraced.lean (throwNew0V, throwNewS). -/
/-- where a method has thrown q: the class by its name, the cell, what was written, the world -/
def vx_T (XC : String → State → State → Prop) (st : State) (q : Addr) (t : State) (mc ms : Nat) (free : Addr → Prop) : Prop :=
  ∃ (E : String) (ce : Cell) (L : List Loc), XC E st t ∧ t.heap[q]? = some ce ∧ ce.vm = .none ∧ st.vm.findClass E = some ce.cls ∧ st.WarmedH t.vm ∧ st.sameButNew ({ t with vm := st.vm } : State) L mc ms ∧ ∀ z ∈ L, free z.base
def vx_Q (Qc : Array Value → State → Outcome → State → Prop) (XC : String → State → State → Prop) (mc ms : Nat) (free : Addr → Prop) : Array Value → State → Outcome → State → Prop := fun a st o t =>
  (Qc a st o t ∧ ∃ L, FrameEnd st o t L mc ms ∧ ∀ q ∈ L, free q.base) ∨ ∃ q, o = .threw q ∧ vx_T XC st q t mc ms free
/-- a callee that returns or throws -/
def vx_Met (l : Launch) (y : MethodName) (ws : List Cond) (rm : Room) (Pc : Array Value → State → Prop) (Qc : Array Value → State → Outcome → State → Prop) (XC : String → State → State → Prop) (mc ms : Nat) (free : Addr → Prop) : Prop :=
  MetFree l y (headSpec ws rm) Pc (fun _ _ _ _ _ => True) (vx_Q Qc XC mc ms free)
def vx_Post (XC : String → State → State → Prop) (mc ms : Nat) (free : Addr → Prop) : Pt → Array Value → Addr → Pt → Prop := fun A a q B =>
  ∃ (g : JFrame) (mk : MethodId) (t : State) (L : List Loc) (E : String) (ce : Cell), B.U.heap = t.heap ∧ B.U.vm = t.vm ∧ XC E (A.U.calling g mk a) t ∧ t.heap[q]? = some ce ∧ ce.vm = .none ∧ A.U.vm.findClass E = some ce.cls ∧ B.locs = A.locs ++ L ∧ (∀ z ∈ L, free z.base) ∧ B.cells = A.cells + mc ∧ B.slots = A.slots + ms
def vx_Back (l : Launch) (R : Room) (p : Program) (e : Env) (below : List Frame) (s : State) (sargs : Array Value) (y : MethodName) (len W9 : Nat)
    (Pre : Pt → Array Value → Prop) (Post : Pt → Array Value → Option Value → Pt → Prop) (PostX : Pt → Array Value → Addr → Pt → Prop) : Prop :=
  ∀ (m : MethodId) (meth : Method) (c : Code) (A : Pt) (g : JFrame) (ig : Instr) (mk : MethodId) (a : Array Value),
    Stand p l e R s m sargs below meth c A.U A.locs A.cells A.slots → g.method = m → g.locals.size = c.maxLocals → decode c.code g.pc = .ok (ig, len) →
    2 * g.monitorRoom + (g.stack.map fun v => v.category).sum ≤ W9 → A.U.methodNamed? y = some mk → Pre A a →
    (∃ (v : Option Value) (B : Pt), Stand p l e R s m sargs below meth c B.U B.locs B.cells B.slots ∧ Post A a v B ∧
      Steps p.tables e below (doInvoke e (A.U.setTop g) [] mk a).1 (B.U.setTop { g with pc := g.pc + len, stack := v.toList ++ g.stack })) ∨
    (∃ (q : Addr) (B : Pt), Stand p l e R s m sargs below meth c B.U B.locs B.cells B.slots ∧ PostX A a q B ∧
      Steps p.tables e below (doInvoke e (A.U.setTop g) [] mk a).1 ((B.U.setTop g).pushFrame (.throwing q)))
section Payer
variable {l : Launch} {R : Room} {p : Program} {e : Env} {below : List Frame} {s : State} {sargs : Array Value} {y : MethodName} {len W9 : Nat}
theorem vx_back {ws : List Cond} {rm : Room} {Pc : Array Value → State → Prop} {Qc : Array Value → State → Outcome → State → Prop} {XC : String → State → State → Prop} {mc ms : Nat} {free : Addr → Prop} {bytes : ByteArray} {maxL : Nat} {ret : Option FieldType}
    (hM : vx_Met l y ws rm Pc Qc XC mc ms free) (hblind : FrameBlind Pc) (hrc : rm.cells = mc) (hrs : rm.slots = ms)
    (hframes : rm.frames + 1 ≤ R.frames) (hlocals : W9 + (maxL + 11) + rm.locals ≤ R.locals)
    (hws : ∀ w ∈ ws, ∀ a' U, s.WarmedH U.vm → w.before a' U = true) (hcode : Cond.code y bytes maxL ret ∈ ws) (hinit : ∀ a' U, s.WarmedH U.vm → (Cond.initialized y.cls).before a' U = true) :
    vx_Back l R p e below s sargs y len W9 (PreOf R mc ms Pc) (PostOf Qc mc ms free) (vx_Post XC mc ms free) := by
  intro m meth c A g ig mk a X hg hsize hdg hW hn hp
  have h1 : (headSpec ws rm).pre.before a A.U = true := atoms_intro fun w hw => hws w hw _ _ X.warmed
  have h2 : (Cond.code y bytes maxL ret).before a A.U = true := hws _ hcode _ _ X.warmed
  have h3 : (Cond.initialized y.cls).before a A.U = true := hinit _ _ X.warmed
  have h4 : A.cells + (headSpec ws rm).room.cells ≤ R.cells := by rw [show (headSpec ws rm).room.cells = mc from hrc]; exact hp.1
  have h5 : A.slots + (headSpec ws rm).room.slots ≤ R.slots := by rw [show (headSpec ws rm).room.slots = ms from hrs]; exact hp.2.1
  have hPc : Pc a (A.U.calling g mk a) := hblind _ _ _ _ hp.2.2
  obtain ⟨U, Ls, c0, s0⟩ := A
  dsimp only [Pt.U, Pt.locs, Pt.cells, Pt.slots] at h1 h2 h3 h4 h5 X hn hPc ⊢
  obtain ⟨methY, cY, hmY, hcY, -, hlY, -, -, -, -⟩ := Cond.code_spec hn h2
  obtain ⟨kY, hkY, -⟩ := className_of_methodNamed hn
  have hinitY : kY.init = .initialized := Cond.initialized_spec (findClass_of_methodNamed hn) hkY h3
  have h : At U g.method c below := by rw [hg]; exact X.here
  have hlocals9 : W9 + (maxL + 11) + (headSpec ws rm).room.locals ≤ R.locals := hlocals
  have happ : (headSpec ws rm).appliesLoose y e.platform (U.calling g mk a) = true :=
    Spec.appliesLoose_calling (g := g) h hdg hn hkY hinitY
      (X.room_calling (g := g) (R' := (headSpec ws rm).room) hsize hmY hcY hframes (by rw [hlY]; omega) h4 h5) h1
  obtain ⟨mid, hmid⟩ := h.above
  have hfr : (U.setTop g).frames = (.java g :: mid) ++ below := by rw [State.frames_setTop' g h.top, hmid]; rfl
  obtain ⟨o, s₂, hsteps, -, hend, hq⟩ := Steps.callFree hM p X.admits X.cas X.clock (acts := []) hfr happ hPc trivial
  have hq' : vx_Q Qc XC mc ms free a (U.calling g mk a) o s₂ := hq
  rw [State.frames_setTop' g h.top] at hend
  obtain ⟨g₀, hg0⟩ := Option.isSome_iff_exists.mp h.top
  obtain ⟨r, hr⟩ := State.topJava?_eq_some.mp hg0
  have hr' : (({ U with heap := s₂.heap, slotsUsed := s₂.slotsUsed } : State).setVm s₂.vm).frames = .java g₀ :: r := hr
  rcases hq' with ⟨hqc, L, hfe, hL⟩ | ⟨q, rfl, E, ce, L, hx, hce, hcv, hcl, hW₂, hsm, hL⟩
  · obtain ⟨⟨v, rfl⟩, hW₂, e2, q2, q3, q4, q5, q6⟩ := id hfe
    have e3 : s₂ = ({ (U.calling g mk a).setFrames s₂.frames with heap := s₂.heap, slotsUsed := s₂.slotsUsed } : State).setVm s₂.vm := by
      have : s₂ = ({ s₂ with vm := (U.calling g mk a).vm } : State).setVm s₂.vm := rfl
      rw [e2] at this
      exact this
    obtain ⟨c₂, i₂, len₂, hc₂, hd₂, hf₂⟩ := hend
    have hW' : U.WarmedH s₂.vm := hW₂
    have hcc : c₂ = c := by
      have h1 : s₂.code? g.method = U.code? g.method := by
        rw [State.code?_eq, State.code?_eq, hW'.alike.method?]
      exact Option.some.inj (hc₂.symm.trans (h1.trans h.code))
    subst hcc
    have hlen : len₂ = len := by rw [hdg] at hd₂; cases hd₂; rfl
    subst hlen
    have hs₂ : s₂ = (({ U with heap := s₂.heap, slotsUsed := s₂.slotsUsed } : State).setVm s₂.vm).setTop { g with pc := g.pc + len₂, stack := v.toList ++ g.stack } := by
      refine e3.trans ?_
      rw [hf₂, State.calling_eq h.top, State.setFrames_setFrames, State.setTop_of_frames _ hr', hr]
      rfl
    have hsame : U.sameButNew ({ U with heap := s₂.heap, slotsUsed := s₂.slotsUsed } : State) L mc ms := by
      refine ⟨?_, q2, q3, q4, q5, q6⟩
      obtain ⟨t, ht, -⟩ := State.frames_cons hr
      show ({ U with heap := s₂.heap, slotsUsed := s₂.slotsUsed } : State) = { U.setFrames U.frames with heap := s₂.heap, slotsUsed := s₂.slotsUsed }
      rw [State.setFrames_self ht]
    subst hg
    refine Or.inl ⟨v, ⟨(({ U with heap := s₂.heap, slotsUsed := s₂.slotsUsed } : State).setVm s₂.vm), Ls ++ L, c0 + mc, s0 + ms⟩,
      ⟨X.admits, X.cas, X.clock, X.frames, X.room, X.hears, X.method, X.code, (X.here.setHeapUsed s₂.heap s₂.slotsUsed).setVm hW'.alike, X.tail, State.WarmedH.trans X.warmed hW', X.limits, X.bytes, X.same.trans (hsame.setVm s.vm)⟩,
      ⟨g, mk, s₂, L, rfl, rfl, hqc, rfl, hL, rfl, rfl⟩, ?_⟩
    show Steps p.tables e below _ ((({ U with heap := s₂.heap, slotsUsed := s₂.slotsUsed } : State).setVm s₂.vm).setTop { g with pc := g.pc + len₂, stack := v.toList ++ g.stack })
    rw [← hs₂]
    exact hsteps
  · obtain ⟨e2, q2, q3, q4, q5, q6⟩ := id hsm
    have e3 : s₂ = ({ (U.calling g mk a).setFrames s₂.frames with heap := s₂.heap, slotsUsed := s₂.slotsUsed } : State).setVm s₂.vm := by
      have : s₂ = ({ s₂ with vm := (U.calling g mk a).vm } : State).setVm s₂.vm := rfl
      rw [e2] at this
      exact this
    have hf₂ : s₂.frames = .throwing q :: .java g :: U.frames.tail := hend
    have hW' : U.WarmedH s₂.vm := hW₂
    have hs₂ : s₂ = ((({ U with heap := s₂.heap, slotsUsed := s₂.slotsUsed } : State).setVm s₂.vm).setTop g).pushFrame (.throwing q) := by
      refine e3.trans ?_
      rw [hf₂, State.calling_eq h.top, State.setFrames_setFrames, State.pushFrame, State.frames_setTop _ hr', State.setTop_of_frames _ hr', State.setFrames_setFrames, hr]
      rfl
    have hsame : U.sameButNew ({ U with heap := s₂.heap, slotsUsed := s₂.slotsUsed } : State) L mc ms := by
      refine ⟨?_, q2, q3, q4, q5, q6⟩
      obtain ⟨t, ht, -⟩ := State.frames_cons hr
      show ({ U with heap := s₂.heap, slotsUsed := s₂.slotsUsed } : State) = { U.setFrames U.frames with heap := s₂.heap, slotsUsed := s₂.slotsUsed }
      rw [State.setFrames_self ht]
    subst hg
    refine Or.inr ⟨q, ⟨(({ U with heap := s₂.heap, slotsUsed := s₂.slotsUsed } : State).setVm s₂.vm), Ls ++ L, c0 + mc, s0 + ms⟩,
      ⟨X.admits, X.cas, X.clock, X.frames, X.room, X.hears, X.method, X.code, (X.here.setHeapUsed s₂.heap s₂.slotsUsed).setVm hW'.alike, X.tail, State.WarmedH.trans X.warmed hW', X.limits, X.bytes, X.same.trans (hsame.setVm s.vm)⟩,
      ⟨g, mk, s₂, L, E, ce, rfl, rfl, hx, hce, hcv, hcl, rfl, hL, rfl, rfl⟩, ?_⟩
    show Steps p.tables e below _ (((({ U with heap := s₂.heap, slotsUsed := s₂.slotsUsed } : State).setVm s₂.vm).setTop g).pushFrame (.throwing q))
    rw [← hs₂]
    exact hsteps
end Payer
section Calls
variable {p : Program} {l : Launch} {e : Env} {R : Room} {s : State} {m : MethodId} {args : Array Value} {below : List Frame} {meth : Method} {c : Code} {T : State} {locs : List Loc} {cells slots : Nat}
theorem vx_callV (X : Stand p l e R s m args below meth c T locs cells slots) (hexec : p.tables.exec = Jvm.exec) {own C : String} {index : Nat} {y : MethodName} {bytes : ByteArray} {maxL : Nat} {ret : Option FieldType}
    (hown : s.vm.findClass own = some m.cls) (hlink : (Cond.methodLink own index y).before args s = true) (hinst : (Cond.instanceMethod y).before args s = true) (hsel : (Cond.selects C y y).before args s = true)
    (hcode : (Cond.code y bytes maxL ret).before args s = true) (hy : y.cls ≠ "java/lang/invoke/MethodHandle" ∧ y.cls ≠ "java/lang/invoke/VarHandle")
    {W9 : Nat} {Pre : Pt → Array Value → Prop} {Post : Pt → Array Value → Option Value → Pt → Prop} {PostX : Pt → Array Value → Addr → Pt → Prop} (hK : vx_Back l R p e below s args y 3 W9 Pre Post PostX)
    {b : Addr} {cellB : Cell} (hcell : T.heap[b]? = some cellB) (hobj : cellB.vm.isStatics = false) (hcls : s.vm.findClass C = some cellB.cls)
    {g : JFrame} (hg : g.method = m) (hsize : g.locals.size = c.maxLocals) {argsL rest : List Value} (hlen : ∀ sig, parseMethodDescriptor y.desc = some sig → argsL.length = sig.parameters.length)
    (hstack : g.stack = argsL.reverse ++ .ref b :: rest) (hW : 2 * g.monitorRoom + (rest.map fun v => v.category).sum ≤ W9) (hdg : decode c.code g.pc = .ok (.invokevirtual index, 3))
    (hpre : ∀ vm₁, s.WarmedH vm₁ → Pre ⟨T.setVm vm₁, locs, cells, slots⟩ (Value.ref b :: argsL).toArray) :
    (∃ (v : Option Value) (vm₁ : Vm) (B : Pt), s.WarmedH vm₁ ∧ Stand p l e R s m args below meth c B.U B.locs B.cells B.slots ∧ Post ⟨T.setVm vm₁, locs, cells, slots⟩ (Value.ref b :: argsL).toArray v B ∧
      ∀ target, Steps p.tables e below (B.U.setTop { g with pc := g.pc + 3, stack := v.toList ++ rest }) target → Steps p.tables e below (T.setTop g) target) ∨
    (∃ (q : Addr) (vm₁ : Vm) (B : Pt), s.WarmedH vm₁ ∧ Stand p l e R s m args below meth c B.U B.locs B.cells B.slots ∧ PostX ⟨T.setVm vm₁, locs, cells, slots⟩ (Value.ref b :: argsL).toArray q B ∧
      Steps p.tables e below (T.setTop g) ((B.U.setTop { g with stack := rest }).pushFrame (.throwing q))) := by
  obtain ⟨mk, methM, hnamed, hmethM, hstM, habM⟩ := Cond.instanceMethod_spec hinst
  obtain ⟨methM', cM, hmethM', -, -, -, -, -, -, hsigM⟩ := Cond.code_spec hnamed hcode
  cases hmethM.symm.trans hmethM'
  obtain ⟨c2, r2, m2, q1, q2, q3, q4, kP, hkP, hkPi⟩ := Cond.selects_spec hsel
  cases hcls.symm.trans q1
  cases (State.methodFound?_of_named hnamed hy).symm.trans q2
  cases hnamed.symm.trans q3
  have hselP : selectMethod e.platform s.vm cellB.cls mk = .method mk := by rw [Launch.admits_selectMethod X.admits]; exact q4
  obtain ⟨vm₁, X₁, hstep₁⟩ := X.invokevirtual hexec hown hlink hnamed hmethM hstM hkP hkPi hy (a := b) (cell := cellB) hcell
    (fun z h => by rw [h] at hobj; cases hobj) hselP hmethM habM hkP hkPi (g := g) hg (argsL := argsL) (rest := rest) (hlen _ hsigM) hstack hdg
  rcases hK m meth c ⟨T.setVm vm₁, locs, cells, slots⟩ { g with stack := rest } (.invokevirtual index) mk (Value.ref b :: argsL).toArray X₁ hg hsize hdg hW (X₁.named hnamed) (hpre vm₁ X₁.warmed) with ⟨v, B, X', hpost, hsteps⟩ | ⟨q, B, X', hpost, hsteps⟩
  · exact Or.inl ⟨v, vm₁, B, X₁.warmed, X', hpost, fun target h => hstep₁ _ fun acts => by rw [doInvoke_state]; exact hsteps.trans h⟩
  · exact Or.inr ⟨q, vm₁, B, X₁.warmed, X', hpost, hstep₁ _ fun acts => by rw [doInvoke_state]; exact hsteps⟩
theorem vx_callS (X : Stand p l e R s m args below meth c T locs cells slots) (hexec : p.tables.exec = Jvm.exec) {own : String} {index : Nat} {y : MethodName} {bytes : ByteArray} {maxL : Nat} {ret : Option FieldType}
    (hown : s.vm.findClass own = some m.cls) (hlink : (Cond.methodLink own index y).before args s = true) (hstat : (Cond.static y).before args s = true) (hinit : (Cond.initialized y.cls).before args s = true)
    (hcode : (Cond.code y bytes maxL ret).before args s = true) (hy : y.cls ≠ "java/lang/invoke/MethodHandle" ∧ y.cls ≠ "java/lang/invoke/VarHandle")
    {W9 : Nat} {Pre : Pt → Array Value → Prop} {Post : Pt → Array Value → Option Value → Pt → Prop} {PostX : Pt → Array Value → Addr → Pt → Prop} (hK : vx_Back l R p e below s args y 3 W9 Pre Post PostX)
    {g : JFrame} (hg : g.method = m) (hsize : g.locals.size = c.maxLocals) {argsL rest : List Value} (hlen : ∀ sig, parseMethodDescriptor y.desc = some sig → argsL.length = sig.parameters.length)
    (hstack : g.stack = argsL.reverse ++ rest) (hW : 2 * g.monitorRoom + (rest.map fun v => v.category).sum ≤ W9) (hdg : decode c.code g.pc = .ok (.invokestatic index, 3))
    (hpre : ∀ vm₁, s.WarmedH vm₁ → Pre ⟨T.setVm vm₁, locs, cells, slots⟩ argsL.toArray) :
    (∃ (v : Option Value) (vm₁ : Vm) (B : Pt), s.WarmedH vm₁ ∧ Stand p l e R s m args below meth c B.U B.locs B.cells B.slots ∧ Post ⟨T.setVm vm₁, locs, cells, slots⟩ argsL.toArray v B ∧
      ∀ target, Steps p.tables e below (B.U.setTop { g with pc := g.pc + 3, stack := v.toList ++ rest }) target → Steps p.tables e below (T.setTop g) target) ∨
    (∃ (q : Addr) (vm₁ : Vm) (B : Pt), s.WarmedH vm₁ ∧ Stand p l e R s m args below meth c B.U B.locs B.cells B.slots ∧ PostX ⟨T.setVm vm₁, locs, cells, slots⟩ argsL.toArray q B ∧
      Steps p.tables e below (T.setTop g) ((B.U.setTop { g with stack := rest }).pushFrame (.throwing q))) := by
  obtain ⟨mk, hnamed⟩ := Cond.code_named hcode
  obtain ⟨methM, cM, hmethM, -, -, -, -, -, -, hsigM⟩ := Cond.code_spec hnamed hcode
  have hstatic : methM.isStatic = true := Cond.static_spec hnamed hmethM hstat
  obtain ⟨kP, hkP, -⟩ := className_of_methodNamed hnamed
  have hinitP : kP.init = .initialized := Cond.initialized_spec (findClass_of_methodNamed hnamed) hkP hinit
  obtain ⟨vm₁, X₁, hstep₁⟩ := X.invokestatic hexec hown hlink hnamed hmethM hstatic hkP hinitP hy (g := g) hg (argsL := argsL) (rest := rest) (hlen _ hsigM) hstack hdg
  rcases hK m meth c ⟨T.setVm vm₁, locs, cells, slots⟩ { g with stack := rest } (.invokestatic index) mk argsL.toArray X₁ hg hsize hdg hW (X₁.named hnamed) (hpre vm₁ X₁.warmed) with ⟨v, B, X', hpost, hsteps⟩ | ⟨q, B, X', hpost, hsteps⟩
  · exact Or.inl ⟨v, vm₁, B, X₁.warmed, X', hpost, fun target h => hstep₁ _ fun acts => by rw [doInvoke_state]; exact hsteps.trans h⟩
  · exact Or.inr ⟨q, vm₁, B, X₁.warmed, X', hpost, hstep₁ _ fun acts => by rw [doInvoke_state]; exact hsteps⟩
end Calls
theorem vx_cls {s : State} {T : State} {vm₁ : Vm} {E : String} {k : ClassId} (hW : s.WarmedH vm₁) (h : (T.setVm vm₁).vm.findClass E = some k) : s.vm.findClass E = some k := by
  have h1 : vm₁.findClass E = some k := h
  rw [hW.alike.findClass] at h1
  exact h1
/-- the method's frame g, with q thrown over it -/
def vx_W (p : Program) (l : Launch) (e : Env) (R : Room) (s : State) (m : MethodId) (args : Array Value) (below : List Frame) (meth : Method) (c : Code) (H : Heap) (locs : List Loc) (cells slots : Nat) (Q : State → Prop) (g : JFrame) (q : Addr) : Prop :=
  ∀ T : State, T.heap = H → Stand p l e R s m args below meth c T locs cells slots → ∃ t, Steps p.tables e below ((T.setTop g).pushFrame (.throwing q)) t ∧ Q t
def vx_Run (p : Program) (l : Launch) (e : Env) (R : Room) (s : State) (m : MethodId) (args : Array Value) (below : List Frame) (meth : Method) (c : Code) (H : Heap) (locs : List Loc) (cells slots mc ms : Nat) (g : JFrame) (rest : List Value) (Qa : State → Outcome → State → Prop) (XC : String → State → State → Prop) (free : Addr → Prop) : Prop :=
  ∀ T : State, T.heap = H → Stand p l e R s m args below meth c T locs cells slots →
    (∃ (v : Option Value) (st₀ t T' : State) (L : List Loc), st₀.heap = H ∧ Stand p l e R s m args below meth c T' (locs ++ L) (cells + mc) (slots + ms) ∧ (∀ q ∈ L, free q.base) ∧ T'.heap = t.heap ∧ T'.vm = t.vm ∧ Qa st₀ (.returned v) t ∧
      Goes p e below T g T' { g with pc := g.pc + 3, stack := v.toList ++ rest }) ∨
    (∃ (q : Addr) (st₀ t T' : State) (L : List Loc) (E : String) (ce : Cell), st₀.heap = H ∧ Stand p l e R s m args below meth c T' (locs ++ L) (cells + mc) (slots + ms) ∧ (∀ z ∈ L, free z.base) ∧ T'.heap = t.heap ∧ T'.vm = t.vm ∧ XC E st₀ t ∧ t.heap[q]? = some ce ∧ ce.vm = .none ∧ s.vm.findClass E = some ce.cls ∧
      Steps p.tables e below (T.setTop g) ((T'.setTop { g with stack := rest }).pushFrame (.throwing q)))
def vx_X {S : Type} (px : S → Prop) (B : String → S → State → Prop) (A : Nat → Prop) : String → State → State → Prop := fun E st t => ∃ u : S, px u ∧ B E u t ∧ va_F A st t
section Runs
variable {p : Program} {l : Launch} {e : Env} {R : Room} {s : State} {m : MethodId} {args : Array Value} {below : List Frame} {meth : Method} {c : Code} {H : Heap} {locs : List Loc} {cells slots : Nat}
variable {y : MethodName} {bytes cc : ByteArray} {maxL nL mc ms n index : Nat} {ret : Option FieldType} {ws : List Cond} {rm : Room} {Pc : Array Value → State → Prop} {Qc : Array Value → State → Outcome → State → Prop} {XC : String → State → State → Prop} {free : Addr → Prop} {Ts : List Cond} {own C : String} {b : Addr} {As rest : List Value} {g : JFrame}
theorem vx_callBack (cb : CallB R s args own index y bytes maxL ret ws rm mc ms n) (hM : vx_Met l y ws rm Pc Qc XC mc ms free) (hbl : FrameBlind Pc) : vx_Back l R p e below s args y 3 8 (PreOf R mc ms Pc) (PostOf Qc mc ms free) (vx_Post XC mc ms free) := by
  obtain ⟨hrc, hrs, hfr, hlo, hws, hcw, -, hini, -⟩ := cb
  exact vx_back (bytes := bytes) (maxL := maxL) (ret := ret) hM hbl hrc hrs hfr hlo hws hcw (fun a' U hW => word_at hW (Or.inl (by first | rfl | simp [Cond.onTables, Cond.keeps, Cond.steady])) hini)
theorem vx_runV (S : CallFix p m c cc nL s args Ts own) (hM : vx_Met l y ws rm Pc Qc XC mc ms free) (cw : CallW R s args own C index y bytes maxL ret ws rm mc ms n) (hp : PreV s H C b Pc As)
    (hg : g.method = m) (hn : As.length = n) (hsize : g.locals.size = nL) (hstack : g.stack = As.reverse ++ .ref b :: rest) (hW : 2 * g.monitorRoom + (rest.map fun v => v.category).sum ≤ 8) (hdg : decode cc g.pc = .ok (.invokevirtual index, 3)) (hf : cells + mc ≤ R.cells ∧ slots + ms ≤ R.slots) :
    vx_Run p l e R s m args below meth c H locs cells slots mc ms g rest (Qc (Value.ref b :: As).toArray) XC free := by
  have hK : vx_Back l R p e below s args y 3 8 (PreOf R mc ms Pc) (PostOf Qc mc ms free) (vx_Post XC mc ms free) := vx_callBack cw.1 hM hp.1
  obtain ⟨⟨-, -, -, -, -, -, hcode, -, hy, hlen, hl⟩, hin, hse⟩ := cw
  obtain ⟨hx, hb, hml, ho, -⟩ := S
  obtain ⟨-, ⟨cellB, hcB, hoB, hclB⟩, hPc⟩ := hp
  intro T hT X
  rcases vx_callV X hx (C := C) (bytes := bytes) (maxL := maxL) (ret := ret) ho hl hin hse hcode hy hK (by rw [hT]; exact hcB) hoB hclB hg (hsize.trans hml.symm) (argsL := As) (rest := rest) (fun sig h => hn.trans (hlen sig h)) hstack hW (by rw [hb]; exact hdg)
    (fun vm₁ hW₁ => ⟨hf.1, hf.2, hPc (T.setVm vm₁) hT hW₁⟩) with ⟨v, vm₁, ⟨U', l2, c2, s2⟩, hW₁, X', ⟨g', mk, t, L, e1, e2, hq, h1, hL, h2, h3⟩, st⟩ | ⟨q, vm₁, ⟨U', l2, c2, s2⟩, hW₁, X', ⟨g', mk, t, L, E, ce, e1, e2, hq, hce, hcv, hcl, h1, hL, h2, h3⟩, st⟩
  · dsimp only [Pt.U, Pt.locs, Pt.cells, Pt.slots] at X' e1 e2 h1 h2 h3 st
    subst h1; subst h2; subst h3
    exact Or.inl ⟨v, (T.setVm vm₁).calling g' mk (Value.ref b :: As).toArray, t, U', L, hT, X', hL, e1, e2, hq, st⟩
  · dsimp only [Pt.U, Pt.locs, Pt.cells, Pt.slots] at X' e1 e2 h1 h2 h3 st hcl
    subst h1; subst h2; subst h3
    exact Or.inr ⟨q, (T.setVm vm₁).calling g' mk (Value.ref b :: As).toArray, t, U', L, E, ce, hT, X', hL, e1, e2, hq, hce, hcv, vx_cls hW₁ hcl, st⟩
theorem vx_runS (S : CallFix p m c cc nL s args Ts own) (hM : vx_Met l y ws rm Pc Qc XC mc ms free) (cw : CallB R s args own index y bytes maxL ret ws rm mc ms n ∧ (Cond.static y).before args s = true) (hp : PreS s H Pc As)
    (hg : g.method = m) (hn : As.length = n) (hsize : g.locals.size = nL) (hstack : g.stack = As.reverse ++ rest) (hW : 2 * g.monitorRoom + (rest.map fun v => v.category).sum ≤ 8) (hdg : decode cc g.pc = .ok (.invokestatic index, 3)) (hf : cells + mc ≤ R.cells ∧ slots + ms ≤ R.slots) :
    vx_Run p l e R s m args below meth c H locs cells slots mc ms g rest (Qc As.toArray) XC free := by
  have hK : vx_Back l R p e below s args y 3 8 (PreOf R mc ms Pc) (PostOf Qc mc ms free) (vx_Post XC mc ms free) := vx_callBack cw.1 hM hp.1
  obtain ⟨⟨-, -, -, -, -, -, hcode, hini, hy, hlen, hl⟩, hstt⟩ := cw
  obtain ⟨hx, hb, hml, ho, -⟩ := S
  intro T hT X
  rcases vx_callS X hx (bytes := bytes) (maxL := maxL) (ret := ret) ho hl hstt hini hcode hy hK hg (hsize.trans hml.symm) (argsL := As) (rest := rest) (fun sig h => hn.trans (hlen sig h)) hstack hW (by rw [hb]; exact hdg)
    (fun vm₁ hW₁ => ⟨hf.1, hf.2, hp.2 (T.setVm vm₁) hT hW₁⟩) with ⟨v, vm₁, ⟨U', l2, c2, s2⟩, hW₁, X', ⟨g', mk, t, L, e1, e2, hq, h1, hL, h2, h3⟩, st⟩ | ⟨q, vm₁, ⟨U', l2, c2, s2⟩, hW₁, X', ⟨g', mk, t, L, E, ce, e1, e2, hq, hce, hcv, hcl, h1, hL, h2, h3⟩, st⟩
  · dsimp only [Pt.U, Pt.locs, Pt.cells, Pt.slots] at X' e1 e2 h1 h2 h3 st
    subst h1; subst h2; subst h3
    exact Or.inl ⟨v, (T.setVm vm₁).calling g' mk As.toArray, t, U', L, hT, X', hL, e1, e2, hq, st⟩
  · dsimp only [Pt.U, Pt.locs, Pt.cells, Pt.slots] at X' e1 e2 h1 h2 h3 st hcl
    subst h1; subst h2; subst h3
    exact Or.inr ⟨q, (T.setVm vm₁).calling g' mk As.toArray, t, U', L, E, ce, hT, X', hL, e1, e2, hq, hce, hcv, vx_cls hW₁ hcl, st⟩
end Runs
section Rows
variable {p : Program} {l : Launch} {e : Env} {R : Room} {s : State} {m : MethodId} {args : Array Value} {below : List Frame} {meth : Method} {c : Code} {H : Heap} {locs : List Loc} {cells slots : Nat} {Q : State → Prop}
variable {mc ms : Nat} {free : Addr → Prop} {A0 A1 : Nat → Prop} {H0 : Heap} {a : Array Value} {pc : Nat} {ls : Array Slot} {st0 rest : List Value}
theorem vx_keep {st₀ t T' : State} {L : List Loc} (h0 : st₀.heap = H) (e1 : T'.heap = t.heap) (hS : va_S A0 H0 H locs) (hA : ∀ q, q < H.size → A1 q → A0 q) (hf : ∀ q, free q → A0 q) (hL : ∀ q ∈ L, free q.base) (hF : va_F A1 st₀ t) :
    H.size ≤ T'.heap.size ∧ (∀ q : Nat, q < H.size → ¬ A1 q → T'.heap[q]? = H[q]?) ∧ va_S A0 H0 T'.heap (locs ++ L) := by
  obtain ⟨hz, hk⟩ := hF
  rw [h0] at hz hk
  exact ⟨by rw [e1]; exact hz, fun q h1 h2 => by rw [e1]; exact hk q h1 h2,
    ⟨Nat.le_trans hS.1 (by rw [e1]; exact hz), fun q h1 h2 => by rw [e1, hk q (Nat.lt_of_lt_of_le h1 hS.1) (fun z => h2 (hA q (Nat.lt_of_lt_of_le h1 hS.1) z))]; exact hS.2.1 q h1 h2, fun q hq => by
      rcases List.mem_append.mp hq with h | h
      · exact hS.2.2 q h
      · exact hf _ (hL q h)⟩⟩
theorem vx_calli {S SX : Type} {post : Int32 → S → Prop} {px : SX → Prop} {B : S → State → Prop} {BX : String → SX → State → Prop} {AX : Nat → Prop} (hr : vx_Run p l e R s m args below meth c H locs cells slots mc ms (F0 m pc ls st0) rest (va_Qi post B A1 a) (vx_X px BX AX) free) (hS : va_S A0 H0 H locs) (hA : ∀ q, q < H.size → A1 q → A0 q) (hf : ∀ q, free q → A0 q) (hAX : ∀ q, q < H.size → AX q → A0 q)
    (kx : ∀ (E : String) (ce : Cell) (q9 : Addr) (u : SX) (t : State) (H1 : Heap) (locs1 : List Loc), t.heap = H1 → s.vm.Alike t.vm → px u → BX E u t → H.size ≤ H1.size → (∀ q : Nat, q < H.size → ¬ AX q → H1[q]? = H[q]?) → va_S A0 H0 H1 locs1 → H1[q9]? = some ce → ce.vm = .none → s.vm.findClass E = some ce.cls → vx_W p l e R s m args below meth c H1 locs1 (cells + mc) (slots + ms) Q (F0 m pc ls rest) q9)
    (kk : ∀ (r : Int32) (u : S) (t : State) (H1 : Heap) (locs1 : List Loc), t.heap = H1 → s.vm.Alike t.vm → post r u → B u t → H.size ≤ H1.size → (∀ q : Nat, q < H.size → ¬ A1 q → H1[q]? = H[q]?) → va_S A0 H0 H1 locs1 → W p l e R s m args below meth c H1 locs1 (cells + mc) (slots + ms) Q (F0 m (pc + 3) ls (.int r :: rest))) : W p l e R s m args below meth c H locs cells slots Q (F0 m pc ls st0) := by
  intro T hT X
  rcases hr T hT X with ⟨v, st₀, t, T', L, h0, X', hL, e1, e2, ⟨⟨r, u, hv, hp, hb⟩, hF⟩, st⟩ | ⟨q, st₀, t, T', L, E, ce, h0, X', hL, e1, e2, ⟨u, hp, hb, hF⟩, hce, hcv, hcl, st⟩
  · cases hv
    obtain ⟨k1, k2, k3⟩ := vx_keep h0 e1 hS hA hf hL hF
    obtain ⟨t2, a1, b1⟩ := kk r u t T'.heap (locs ++ L) e1.symm (by rw [← e2]; exact X'.warmed.alike) hp hb k1 k2 k3 T' rfl X'
    exact ⟨t2, st t2 a1, b1⟩
  · obtain ⟨k1, k2, k3⟩ := vx_keep h0 e1 hS hAX hf hL hF
    obtain ⟨t2, a1, b1⟩ := kx E ce q u t T'.heap (locs ++ L) e1.symm (by rw [← e2]; exact X'.warmed.alike) hp hb k1 k2 k3 (by rw [e1]; exact hce) hcv hcl T' rfl X'
    exact ⟨t2, st.trans a1, b1⟩
theorem vx_calll {S SX : Type} {post : Int64 → S → Prop} {px : SX → Prop} {B : S → State → Prop} {BX : String → SX → State → Prop} {AX : Nat → Prop} (hr : vx_Run p l e R s m args below meth c H locs cells slots mc ms (F0 m pc ls st0) rest (va_Ql post B A1 a) (vx_X px BX AX) free) (hS : va_S A0 H0 H locs) (hA : ∀ q, q < H.size → A1 q → A0 q) (hf : ∀ q, free q → A0 q) (hAX : ∀ q, q < H.size → AX q → A0 q)
    (kx : ∀ (E : String) (ce : Cell) (q9 : Addr) (u : SX) (t : State) (H1 : Heap) (locs1 : List Loc), t.heap = H1 → s.vm.Alike t.vm → px u → BX E u t → H.size ≤ H1.size → (∀ q : Nat, q < H.size → ¬ AX q → H1[q]? = H[q]?) → va_S A0 H0 H1 locs1 → H1[q9]? = some ce → ce.vm = .none → s.vm.findClass E = some ce.cls → vx_W p l e R s m args below meth c H1 locs1 (cells + mc) (slots + ms) Q (F0 m pc ls rest) q9)
    (kk : ∀ (r : Int64) (u : S) (t : State) (H1 : Heap) (locs1 : List Loc), t.heap = H1 → s.vm.Alike t.vm → post r u → B u t → H.size ≤ H1.size → (∀ q : Nat, q < H.size → ¬ A1 q → H1[q]? = H[q]?) → va_S A0 H0 H1 locs1 → W p l e R s m args below meth c H1 locs1 (cells + mc) (slots + ms) Q (F0 m (pc + 3) ls (.long r :: rest))) : W p l e R s m args below meth c H locs cells slots Q (F0 m pc ls st0) := by
  intro T hT X
  rcases hr T hT X with ⟨v, st₀, t, T', L, h0, X', hL, e1, e2, ⟨⟨r, u, hv, hp, hb⟩, hF⟩, st⟩ | ⟨q, st₀, t, T', L, E, ce, h0, X', hL, e1, e2, ⟨u, hp, hb, hF⟩, hce, hcv, hcl, st⟩
  · cases hv
    obtain ⟨k1, k2, k3⟩ := vx_keep h0 e1 hS hA hf hL hF
    obtain ⟨t2, a1, b1⟩ := kk r u t T'.heap (locs ++ L) e1.symm (by rw [← e2]; exact X'.warmed.alike) hp hb k1 k2 k3 T' rfl X'
    exact ⟨t2, st t2 a1, b1⟩
  · obtain ⟨k1, k2, k3⟩ := vx_keep h0 e1 hS hAX hf hL hF
    obtain ⟨t2, a1, b1⟩ := kx E ce q u t T'.heap (locs ++ L) e1.symm (by rw [← e2]; exact X'.warmed.alike) hp hb k1 k2 k3 (by rw [e1]; exact hce) hcv hcl T' rfl X'
    exact ⟨t2, st.trans a1, b1⟩
theorem vx_callf {S SX : Type} {post : UInt32 → S → Prop} {px : SX → Prop} {B : S → State → Prop} {BX : String → SX → State → Prop} {AX : Nat → Prop} (hr : vx_Run p l e R s m args below meth c H locs cells slots mc ms (F0 m pc ls st0) rest (va_Qf post B A1 a) (vx_X px BX AX) free) (hS : va_S A0 H0 H locs) (hA : ∀ q, q < H.size → A1 q → A0 q) (hf : ∀ q, free q → A0 q) (hAX : ∀ q, q < H.size → AX q → A0 q)
    (kx : ∀ (E : String) (ce : Cell) (q9 : Addr) (u : SX) (t : State) (H1 : Heap) (locs1 : List Loc), t.heap = H1 → s.vm.Alike t.vm → px u → BX E u t → H.size ≤ H1.size → (∀ q : Nat, q < H.size → ¬ AX q → H1[q]? = H[q]?) → va_S A0 H0 H1 locs1 → H1[q9]? = some ce → ce.vm = .none → s.vm.findClass E = some ce.cls → vx_W p l e R s m args below meth c H1 locs1 (cells + mc) (slots + ms) Q (F0 m pc ls rest) q9)
    (kk : ∀ (r : UInt32) (u : S) (t : State) (H1 : Heap) (locs1 : List Loc), t.heap = H1 → s.vm.Alike t.vm → post r u → B u t → H.size ≤ H1.size → (∀ q : Nat, q < H.size → ¬ A1 q → H1[q]? = H[q]?) → va_S A0 H0 H1 locs1 → W p l e R s m args below meth c H1 locs1 (cells + mc) (slots + ms) Q (F0 m (pc + 3) ls (.float r :: rest))) : W p l e R s m args below meth c H locs cells slots Q (F0 m pc ls st0) := by
  intro T hT X
  rcases hr T hT X with ⟨v, st₀, t, T', L, h0, X', hL, e1, e2, ⟨⟨r, u, hv, hp, hb⟩, hF⟩, st⟩ | ⟨q, st₀, t, T', L, E, ce, h0, X', hL, e1, e2, ⟨u, hp, hb, hF⟩, hce, hcv, hcl, st⟩
  · cases hv
    obtain ⟨k1, k2, k3⟩ := vx_keep h0 e1 hS hA hf hL hF
    obtain ⟨t2, a1, b1⟩ := kk r u t T'.heap (locs ++ L) e1.symm (by rw [← e2]; exact X'.warmed.alike) hp hb k1 k2 k3 T' rfl X'
    exact ⟨t2, st t2 a1, b1⟩
  · obtain ⟨k1, k2, k3⟩ := vx_keep h0 e1 hS hAX hf hL hF
    obtain ⟨t2, a1, b1⟩ := kx E ce q u t T'.heap (locs ++ L) e1.symm (by rw [← e2]; exact X'.warmed.alike) hp hb k1 k2 k3 (by rw [e1]; exact hce) hcv hcl T' rfl X'
    exact ⟨t2, st.trans a1, b1⟩
theorem vx_calld {S SX : Type} {post : UInt64 → S → Prop} {px : SX → Prop} {B : S → State → Prop} {BX : String → SX → State → Prop} {AX : Nat → Prop} (hr : vx_Run p l e R s m args below meth c H locs cells slots mc ms (F0 m pc ls st0) rest (va_Qd post B A1 a) (vx_X px BX AX) free) (hS : va_S A0 H0 H locs) (hA : ∀ q, q < H.size → A1 q → A0 q) (hf : ∀ q, free q → A0 q) (hAX : ∀ q, q < H.size → AX q → A0 q)
    (kx : ∀ (E : String) (ce : Cell) (q9 : Addr) (u : SX) (t : State) (H1 : Heap) (locs1 : List Loc), t.heap = H1 → s.vm.Alike t.vm → px u → BX E u t → H.size ≤ H1.size → (∀ q : Nat, q < H.size → ¬ AX q → H1[q]? = H[q]?) → va_S A0 H0 H1 locs1 → H1[q9]? = some ce → ce.vm = .none → s.vm.findClass E = some ce.cls → vx_W p l e R s m args below meth c H1 locs1 (cells + mc) (slots + ms) Q (F0 m pc ls rest) q9)
    (kk : ∀ (r : UInt64) (u : S) (t : State) (H1 : Heap) (locs1 : List Loc), t.heap = H1 → s.vm.Alike t.vm → post r u → B u t → H.size ≤ H1.size → (∀ q : Nat, q < H.size → ¬ A1 q → H1[q]? = H[q]?) → va_S A0 H0 H1 locs1 → W p l e R s m args below meth c H1 locs1 (cells + mc) (slots + ms) Q (F0 m (pc + 3) ls (.double r :: rest))) : W p l e R s m args below meth c H locs cells slots Q (F0 m pc ls st0) := by
  intro T hT X
  rcases hr T hT X with ⟨v, st₀, t, T', L, h0, X', hL, e1, e2, ⟨⟨r, u, hv, hp, hb⟩, hF⟩, st⟩ | ⟨q, st₀, t, T', L, E, ce, h0, X', hL, e1, e2, ⟨u, hp, hb, hF⟩, hce, hcv, hcl, st⟩
  · cases hv
    obtain ⟨k1, k2, k3⟩ := vx_keep h0 e1 hS hA hf hL hF
    obtain ⟨t2, a1, b1⟩ := kk r u t T'.heap (locs ++ L) e1.symm (by rw [← e2]; exact X'.warmed.alike) hp hb k1 k2 k3 T' rfl X'
    exact ⟨t2, st t2 a1, b1⟩
  · obtain ⟨k1, k2, k3⟩ := vx_keep h0 e1 hS hAX hf hL hF
    obtain ⟨t2, a1, b1⟩ := kx E ce q u t T'.heap (locs ++ L) e1.symm (by rw [← e2]; exact X'.warmed.alike) hp hb k1 k2 k3 (by rw [e1]; exact hce) hcv hcl T' rfl X'
    exact ⟨t2, st.trans a1, b1⟩
theorem vx_callv {S SX : Type} {post : S → Prop} {px : SX → Prop} {B : S → State → Prop} {BX : String → SX → State → Prop} {AX : Nat → Prop} (hr : vx_Run p l e R s m args below meth c H locs cells slots mc ms (F0 m pc ls st0) rest (va_Qv post B A1 a) (vx_X px BX AX) free) (hS : va_S A0 H0 H locs) (hA : ∀ q, q < H.size → A1 q → A0 q) (hf : ∀ q, free q → A0 q) (hAX : ∀ q, q < H.size → AX q → A0 q)
    (kx : ∀ (E : String) (ce : Cell) (q9 : Addr) (u : SX) (t : State) (H1 : Heap) (locs1 : List Loc), t.heap = H1 → s.vm.Alike t.vm → px u → BX E u t → H.size ≤ H1.size → (∀ q : Nat, q < H.size → ¬ AX q → H1[q]? = H[q]?) → va_S A0 H0 H1 locs1 → H1[q9]? = some ce → ce.vm = .none → s.vm.findClass E = some ce.cls → vx_W p l e R s m args below meth c H1 locs1 (cells + mc) (slots + ms) Q (F0 m pc ls rest) q9)
    (kk : ∀ (u : S) (t : State) (H1 : Heap) (locs1 : List Loc), t.heap = H1 → s.vm.Alike t.vm → post u → B u t → H.size ≤ H1.size → (∀ q : Nat, q < H.size → ¬ A1 q → H1[q]? = H[q]?) → va_S A0 H0 H1 locs1 → W p l e R s m args below meth c H1 locs1 (cells + mc) (slots + ms) Q (F0 m (pc + 3) ls (rest))) : W p l e R s m args below meth c H locs cells slots Q (F0 m pc ls st0) := by
  intro T hT X
  rcases hr T hT X with ⟨v, st₀, t, T', L, h0, X', hL, e1, e2, ⟨⟨u, hv, hp, hb⟩, hF⟩, st⟩ | ⟨q, st₀, t, T', L, E, ce, h0, X', hL, e1, e2, ⟨u, hp, hb, hF⟩, hce, hcv, hcl, st⟩
  · cases hv
    obtain ⟨k1, k2, k3⟩ := vx_keep h0 e1 hS hA hf hL hF
    obtain ⟨t2, a1, b1⟩ := kk u t T'.heap (locs ++ L) e1.symm (by rw [← e2]; exact X'.warmed.alike) hp hb k1 k2 k3 T' rfl X'
    exact ⟨t2, st t2 a1, b1⟩
  · obtain ⟨k1, k2, k3⟩ := vx_keep h0 e1 hS hAX hf hL hF
    obtain ⟨t2, a1, b1⟩ := kx E ce q u t T'.heap (locs ++ L) e1.symm (by rw [← e2]; exact X'.warmed.alike) hp hb k1 k2 k3 (by rw [e1]; exact hce) hcv hcl T' rfl X'
    exact ⟨t2, st.trans a1, b1⟩
end Rows
section Ends
variable {p : Program} {l : Launch} {e : Env} {R : Room} {s : State} {m : MethodId} {args : Array Value} {below : List Frame} {meth : Method} {c : Code} {H : Heap} {locs : List Loc} {cells slots : Nat} {Q : State → Prop}
variable {mc ms : Nat} {free : Addr → Prop} {A0 A1 : Nat → Prop} {H0 : Heap} {a : Array Value} {ls : Array Slot} {st0 rest : List Value}
variable {Qc : Array Value → State → Outcome → State → Prop} {XC : String → State → State → Prop}
/-- what a body that may throw owes at its end -/
def vx_MQ (below : List Frame) (Qc : Array Value → State → Outcome → State → Prop) (XC : String → State → State → Prop) (a : Array Value) (s : State) (mc ms : Nat) (free : Addr → Prop) : State → Prop := fun t =>
  ∃ o, t.status = .running ∧ Ended t below o ∧ vx_Q Qc XC mc ms free a s o t
theorem vx_ret {g : JFrame} {mc ms : Nat} (k : W p l e R s m args below meth c H locs cells slots (MQ below Qc args s mc ms free) g) : W p l e R s m args below meth c H locs cells slots (vx_MQ below Qc XC args s mc ms free) g := by
  intro T hT X
  obtain ⟨t, a1, o, b1, b2, b3, b4⟩ := k T hT X
  exact ⟨t, a1, o, b1, b2, Or.inl ⟨b3, b4⟩⟩
/-- not caught here: it goes on to the caller -/
theorem vx_widen {g : JFrame} {q : Addr} {k n : Nat} (h1 : cells ≤ k) (h2 : slots ≤ n) (kk : vx_W p l e R s m args below meth c H locs k n Q g q) : vx_W p l e R s m args below meth c H locs cells slots Q g q := fun T hT X => kk T hT (stand_widen X h1 h2)
theorem vx_out {pc : Nat} {E : String} {ce : Cell} {q : Addr} {mc ms : Nat} (hout : ∀ x ∈ c.exceptionTable.toList, covers x pc = false) (hlocks : meth.locks = false) (hcell : H[q]? = some ce) (hv : ce.vm = .none) (hcl : s.vm.findClass E = some ce.cls)
    (hx : ∀ t : State, t.heap = H → s.vm.Alike t.vm → XC E s t) (hf : ∀ z ∈ locs, free z.base) (hc : cells ≤ mc) (hs : slots ≤ ms) :
    vx_W p l e R s m args below meth c H locs cells slots (vx_MQ below Qc XC args s mc ms free) (F0 m pc ls rest) q := by
  intro T hT X
  obtain ⟨st1, hrun, hend, hW, hsm⟩ := X.leaveThrown q (g := F0 m pc ls rest) rfl rfl rfl hout hlocks
  have hcell9 : (T.setFrames (.throwing q :: below)).heap[q]? = some ce := by
    show T.heap[q]? = some ce
    rw [hT]; exact hcell
  exact ⟨_, st1, .threw q, hrun, hend, Or.inr ⟨q, rfl, E, ce, locs, hx _ hT hW.alike, hcell9, hv, hcl, hW, hsm.mono hc hs, hf⟩⟩
theorem vx_frame {U : State} {k n : Nat} (h : s.sameButNew ({ U with vm := s.vm } : State) locs k n) : s.heap.size ≤ U.heap.size ∧ ∀ q : Nat, q < s.heap.size → (∀ z ∈ locs, z.base ≠ q) → U.heap[q]? = s.heap[q]? := by
  obtain ⟨-, h2, -, -, -, h6⟩ := h
  refine ⟨h2, fun q hq hz => ?_⟩
  obtain ⟨c9, e1, e2, e3, e4⟩ := h6 q _ (Array.getElem?_eq_getElem hq)
  have hs : c9.slots = (s.heap[q]).slots := Array.ext_getElem? fun i => e4 i fun hm => hz _ hm rfl
  have h9 : c9 = s.heap[q] := by
    rw [hs] at e2
    exact e2
  have e5 : U.heap[q]? = some c9 := e1
  rw [e5, h9, Array.getElem?_eq_getElem hq]
/-- the words of a throw but the four that speak of the heap -/
def vx_no (w : Cond) : Bool := decide (w ≠ .isRef (.static Bundle.tN "UNASSIGNED_STACK" Bundle.steD)) && decide (w ≠ .isRef (.static Bundle.tN "SUPPRESSED_SENTINEL" Bundle.listD)) && decide (w ≠ .laysStatic Bundle.tN "UNASSIGNED_STACK" Bundle.steD) && decide (w ≠ .laysStatic Bundle.tN "SUPPRESSED_SENTINEL" Bundle.listD)
def vx_at0 (own : String) (ic : Nat) (X : String) (names : List String) : List Cond := (Bundle.ownAtoms0 own ic X names).filter vx_no
def vx_atS (own : String) (ic : Nat) (X : String) (names : List String) : List Cond := (Bundle.ownAtoms own ic X names).filter vx_no
/-- a word that the tables alone decide, or a good one -/
def vx_ot (w : Cond) : Bool := w.onTables || goodWord w
theorem vx_ot_at {args a' : Array Value} {s U : State} {w : Cond} (hW : s.WarmedH U.vm) (hvm : s.vm = U.vm) (hg : vx_ot w = true) (h : w.before args s = true) : w.before a' U = true := by
  simp only [vx_ot, Bool.or_eq_true] at hg
  rcases hg with hg | hg
  · exact va_tabs hg hvm h
  · exact word_at hW (good_of_word hg) h
/-- a list's words: the good ones out of the method's own list, the others by premises of their own -/
theorem vx_hat {args : Array Value} {s : State} {L B : List Cond} (h1 : ∀ w ∈ L.filter goodWord, w.before args s = true) (h2 : ∀ w ∈ L.filter (fun w => !goodWord w), w ∈ B) (h3 : ∀ w ∈ B, w.before args s = true) : ∀ w ∈ L, w.before args s = true := by
  intro w hw
  by_cases g : goodWord w = true
  · exact h1 w (List.mem_filter.mpr ⟨hw, g⟩)
  · refine h3 w (h2 w (List.mem_filter.mpr ⟨hw, ?_⟩))
    show (!goodWord w) = true
    cases hgw : goodWord w
    · rfl
    · exact absurd hgw g
theorem vx_c {args : Array Value} {s : State} {w : Cond} {B : List Cond} (h : w.before args s = true) (t : ∀ w ∈ B, w.before args s = true) : ∀ w' ∈ w :: B, w'.before args s = true := fun w' h' => (List.mem_cons.mp h').elim (fun e => by rw [e]; exact h) (t w')
theorem vx_n {args : Array Value} {s : State} : ∀ w ∈ ([] : List Cond), w.before args s = true := fun _ h => nomatch h
theorem vx_own {args : Array Value} {s : State} {L : List Cond} (h1 : ∀ w ∈ L.filter vx_no, w.before args s = true)
    (hU : (Cond.isRef (.static Bundle.tN "UNASSIGNED_STACK" Bundle.steD)).before args s = true) (hN : (Cond.isRef (.static Bundle.tN "SUPPRESSED_SENTINEL" Bundle.listD)).before args s = true)
    (lU : (Cond.laysStatic Bundle.tN "UNASSIGNED_STACK" Bundle.steD).before args s = true) (lN : (Cond.laysStatic Bundle.tN "SUPPRESSED_SENTINEL" Bundle.listD).before args s = true) : ∀ w ∈ L, w.before args s = true := by
  intro w hw
  by_cases e1 : w = .isRef (.static Bundle.tN "UNASSIGNED_STACK" Bundle.steD)
  · rw [e1]; exact hU
  · by_cases e2 : w = .isRef (.static Bundle.tN "SUPPRESSED_SENTINEL" Bundle.listD)
    · rw [e2]; exact hN
    · by_cases e3 : w = .laysStatic Bundle.tN "UNASSIGNED_STACK" Bundle.steD
      · rw [e3]; exact lU
      · by_cases e4 : w = .laysStatic Bundle.tN "SUPPRESSED_SENTINEL" Bundle.listD
        · rw [e4]; exact lN
        · exact h1 w (List.mem_filter.mpr ⟨hw, by unfold vx_no; rw [decide_eq_true e1, decide_eq_true e2, decide_eq_true e3, decide_eq_true e4]; rfl⟩)
/-- where a static field lies, its class's statics cell in H -/
def vx_L (C n d : String) (A : Nat → Prop) (U : State) (H : Heap) : Prop := ∃ (c : ClassId) (k : Class) (i : Nat) (f : Field) (a : Nat) (cell : Cell), U.vm.findClass C = some c ∧ U.fieldFound? C n d = some (c, k, i, f) ∧ f.isStatic = true ∧ k.statics = some a ∧ H[a]? = some cell ∧ cell.vm.isStatics = true ∧ cell.cls = c ∧ f.slot < cell.slots.size ∧ k.staticTypes[f.slot]? = some f.type ∧ ¬ A a
theorem vx_L.moved {C n d : String} {A : Nat → Prop} {u U : State} {H : Heap} (hvm : u.vm.Alike U.vm) (h : vx_L C n d A u H) : vx_L C n d A U H := by
  obtain ⟨c, k, i, f, a, cell, h1, h2, h3, h4, h5, h6, h7, h8, h9, h10⟩ := h
  obtain ⟨k', hi', he⟩ := State.fieldFound?_setVm hvm h2
  exact ⟨c, k', i, f, a, cell, by rw [hvm.findClass]; exact h1, hi', h3, by rw [he]; exact h4, h5, h6, h7, h8, by rw [he]; exact h9, h10⟩
theorem vx_L.kept {C n d : String} {A : Nat → Prop} {U : State} {H H1 : Heap} (h : vx_L C n d A U H) (hq : ∀ a : Nat, a < H.size → ¬ A a → H1[a]? = H[a]?) : vx_L C n d A U H1 := by
  obtain ⟨c, k, i, f, a, cell, h1, h2, h3, h4, h5, h6, h7, h8, h9, h10⟩ := h
  exact ⟨c, k, i, f, a, cell, h1, h2, h3, h4, by rw [hq a (Array.getElem?_eq_some_iff.mp h5).1 h10]; exact h5, h6, h7, h8, h9, h10⟩
theorem vx_L.narrow {C n d : String} {A B : Nat → Prop} {U : State} {H : Heap} (h : vx_L C n d A U H) (hAB : ∀ q, B q → A q) : vx_L C n d B U H := by
  obtain ⟨c, k, i, f, a, cell, h1, h2, h3, h4, h5, h6, h7, h8, h9, h10⟩ := h
  exact ⟨c, k, i, f, a, cell, h1, h2, h3, h4, h5, h6, h7, h8, h9, fun z => h10 (hAB _ z)⟩
theorem vx_L.word {C n d : String} {A : Nat → Prop} {s : State} {args : Array Value} (h : vx_L C n d A s s.heap) : (Cond.laysStatic C n d).before args s = true := by
  obtain ⟨c, k, i, f, a, cell, h1, h2, h3, h4, h5, h6, h7, h8, h9, -⟩ := h
  show (Cond.laysStatic C n d).holds args s none s [] = true
  exact Cond.laysStatic_of h1 h2 h3 h4 h5 h6 h7 h8 h9
/-- .. and what it holds: null or some reference -/
def vx_Zq (C n d : String) (A : Nat → Prop) (U : State) (H : Heap) : Prop := va_Zq C n d A U H ∧ vx_L C n d A U H
theorem vx_Zq.moved {C n d : String} {A : Nat → Prop} {u U : State} {H : Heap} (hvm : u.vm.Alike U.vm) (h : vx_Zq C n d A u H) : vx_Zq C n d A U H := ⟨va_Zq.moved hvm h.1, vx_L.moved hvm h.2⟩
theorem vx_Zq.kept {C n d : String} {A : Nat → Prop} {U : State} {H H1 : Heap} (h : vx_Zq C n d A U H) (hq : ∀ a : Nat, a < H.size → ¬ A a → H1[a]? = H[a]?) : vx_Zq C n d A U H1 := ⟨va_Zq.kept h.1 hq, vx_L.kept h.2 hq⟩
theorem vx_Zq.narrow {C n d : String} {A B : Nat → Prop} {U : State} {H : Heap} (h : vx_Zq C n d A U H) (hAB : ∀ q, B q → A q) : vx_Zq C n d B U H := ⟨va_Zq.narrow h.1 hAB, vx_L.narrow h.2 hAB⟩
theorem vx_Zqof {args : Array Value} {s : State} {C n d : String} {A : Nat → Prop} (hl : (Cond.laysStatic C n d).before args s = true) (hini : (Cond.initialized C).before args s = true) (h : (Cond.isRef (.static C n d)).before args s = true) (hA : ∀ a : Nat, a < s.heap.size → ¬ A a) : vx_Zq C n d A s s.heap := by
  refine ⟨va_Zqof hl hini h hA, ?_⟩
  obtain ⟨c, k, i, f, a, cell, h1, h2, h3, h4, h5, h6, h7, h8, h9⟩ := Cond.laysStatic_spec hl
  exact ⟨c, k, i, f, a, cell, h1, h2, h3, h4, h5, h6, h7, h8, h9, hA a (Array.getElem?_eq_some_iff.mp h5).1⟩
theorem vx_isRef {C n d : String} {v : Value} {A : Nat → Prop} {s : State} {args : Array Value} (h : va_Z C n d v A s s.heap) (hv : v.isRef = true) : (Cond.isRef (.static C n d)).before args s = true := by
  obtain ⟨cf, kf, fi, f, a, cell, h1, h2, h3, h4, h5, h6, h7, -⟩ := h
  have he : (Term.static C n d).eval args s none [] s = some v := by
    simp [Term.eval, State.fieldNamed?, h1, h2, h4, h5, h6, h7]
  simp only [Cond.before, Cond.holds, Cond.value, he]
  cases v <;> simp_all [Value.isRef]
theorem vx_isRefq {C n d : String} {A : Nat → Prop} {s : State} {args : Array Value} (h : va_Zq C n d A s s.heap) : (Cond.isRef (.static C n d)).before args s = true := by
  rcases h with h | ⟨t, h⟩
  · exact vx_isRef h rfl
  · exact vx_isRef h rfl
/-- the same frame, seen from here: as if the method were called anew in this heap -/
theorem vx_rebase {T : State} (X : Stand p l e R s m args below meth c T locs cells slots) {R' : Room} (hf : R'.frames ≤ R.frames) (hl : R'.locals ≤ R.locals) (hc : cells + R'.cells ≤ R.cells) (hs : slots + R'.slots ≤ R.slots) :
    Stand p l e R' ((T.setVm s.vm).setFrames (.invoking m args :: below)) m args below meth c T [] 0 0 := by
  have htop : (T.setVm s.vm).topJava?.isSome := X.here.top
  have hF : ((T.setVm s.vm).setFrames (.invoking m args :: below)).frames = .invoking m args :: below := State.frames_setFrames _ (State.cur_lt_of_top htop)
  obtain ⟨g₀, hg0⟩ := Option.isSome_iff_exists.mp htop
  obtain ⟨r, hr⟩ := State.topJava?_eq_some.mp hg0
  have hl9 : e.platform.stackLimits (T.setVm s.vm).me = e.platform.stackLimits s.me := X.limits
  have hb9 : (T.setVm s.vm).me.stackBytes = s.me.stackBytes := X.bytes
  refine ⟨X.admits, X.cas, X.clock, hF, ?_, X.hears, X.method, X.code, X.here, X.tail, X.warmed, ?_, ?_, ?_⟩
  · have h := X.room
    have hU : ((T.setVm s.vm).setFrames (.invoking m args :: below)).localsInUse = s.localsInUse := by
      rw [State.localsInUse_invoking hF (meth := meth) (c := c) X.method X.code, State.localsInUse_invoking X.frames X.method X.code]
    simp only [State.hasRoom, Bool.and_eq_true, decide_eq_true_eq] at h ⊢
    obtain ⟨⟨⟨⟨h1, h2, h3, h4, h5, h6⟩, h7⟩, h8⟩, h9⟩ := h
    rw [X.frames, List.length_cons] at h2 h3
    have q1 := X.heapSize
    have q2 := X.used
    simp only [hF, hU, List.length_cons, State.stackLimits_setFrames, State.stackBytes_setFrames, hl9, hb9]
    refine ⟨⟨⟨⟨by omega, by omega, by omega, by omega, by omega, h6⟩, ?_⟩, ?_⟩, X.book⟩
    · show T.heap.size + R'.cells ≤ e.platform.maxCells
      omega
    · show T.slotsUsed + R'.slots ≤ e.platform.maxSlots
      omega
  · rw [State.stackLimits_setFrames]; rfl
  · rw [State.stackBytes_setFrames]; rfl
  · refine ⟨?_, Nat.le_refl _, Nat.le_refl _, ?_, ?_, fun a c9 h9 => ⟨c9, h9, rfl, rfl, fun _ _ => rfl⟩⟩
    · obtain ⟨t, ht, -⟩ := State.frames_cons hr
      show T.setVm s.vm = { ((T.setVm s.vm).setFrames (.invoking m args :: below)).setFrames (T.setVm s.vm).frames with heap := T.heap, slotsUsed := T.slotsUsed }
      rw [State.setFrames_setFrames, State.setFrames_self ht]
      rfl
    · show T.slotsUsed = T.slotsUsed + ((T.heap.toList.drop T.heap.size).map (·.slots.size)).sum
      rw [List.drop_eq_nil_of_le (Nat.le_of_eq Array.length_toList)]
      rfl
    · show ((T.heap.toList.drop T.heap.size).map (·.slots.size)).sum ≤ 0
      rw [List.drop_eq_nil_of_le (Nat.le_of_eq Array.length_toList)]
      exact Nat.le_refl _
/-- 'throw new E()': new; dup; invokespecial; athrow -/
theorem vx_throw0 {cc : ByteArray} {pc : Nat} (hexec : p.tables.exec = Jvm.exec) (hb : c.code = cc) (hl : l.stackTraces = false) {own cls : String} {names : List String} {ik ic mc ms : Nat} {A : Nat → Prop}
    (hown : s.vm.findClass own = some m.cls) (hcls : Bundle.fit cls = true) (hnames : ∀ n ∈ names, Bundle.fit n = true)
    (hk : (Cond.classLink own ik cls).before args s = true) (hini : (Cond.initialized cls).before args s = true) (hat : ∀ w ∈ vx_at0 own ic cls names, w.before args s = true)
    (hgood : ∀ w ∈ Cond.classLink own ik cls :: Cond.initialized cls :: vx_at0 own ic cls names, vx_ot w = true)
    (hU : vx_Zq Bundle.tN "UNASSIGNED_STACK" Bundle.steD A s s.heap) (hN : vx_Zq Bundle.tN "SUPPRESSED_SENTINEL" Bundle.listD A s s.heap) (hS : va_S A s.heap H locs) (hsize : ls.size = c.maxLocals)
    (d0 : decode cc pc = .ok (.new ik, 3)) (d3 : decode cc (pc + 3) = .ok (.dup, 1)) (d4 : decode cc (pc + 4) = .ok (.invokespecial ic, 3)) (d7 : decode cc (pc + 7) = .ok (.athrow, 1))
    (hout : ∀ x ∈ c.exceptionTable.toList, covers x (pc + 7) = false)
    (hRframes : names.length + 3 < R.frames) (hRlocals : (rest.map fun v => v.category).sum + (13 * (names.length + 1) + 42) ≤ R.locals) (hRcells : cells + 1 ≤ R.cells) (hRslots : slots + 6 ≤ R.slots) (hlocks : meth.locks = false)
    (hx : ∀ t : State, s.vm.Alike t.vm → H.size ≤ t.heap.size → (∀ q : Nat, q < H.size → t.heap[q]? = H[q]?) → XC cls s t)
    (hf : ∀ z ∈ locs, free z.base) (hc : cells + 1 ≤ mc) (hs : slots + 6 ≤ ms) :
    W p l e R s m args below meth c H locs cells slots (vx_MQ below Qc XC args s mc ms free) (F0 m pc ls rest) := by
  intro T hT X
  have htr : e.platform.stackTraces = false := (show e.platform.stackTraces = l.stackTraces by rw [X.admits.platform]).trans hl
  have Y := vx_rebase X (R' := { frames := R.frames, locals := R.locals, cells := 1, slots := 6 }) (Nat.le_refl _) (Nat.le_refl _) hRcells hRslots
  obtain ⟨s', hA⟩ : ∃ z, z = (T.setVm s.vm).setFrames (.invoking m args :: below) := ⟨_, rfl⟩
  rw [← hA] at Y
  have hvm : s'.vm = s.vm := by rw [hA]; rfl
  have hhp : s'.heap = H := by rw [hA]; exact hT
  have hW0 : s.WarmedH s'.vm := by rw [hvm]; exact State.WarmedH.refl s
  have hat' : ∀ w ∈ vx_at0 own ic cls names, w.before args s' = true := fun w hw => vx_ot_at hW0 hvm.symm (hgood w (List.mem_cons_of_mem _ (List.mem_cons_of_mem _ hw))) (hat w hw)
  have hk' : (Cond.classLink own ik cls).before args s' = true := vx_ot_at hW0 hvm.symm (hgood _ List.mem_cons_self) hk
  have hini' : (Cond.initialized cls).before args s' = true := vx_ot_at hW0 hvm.symm (hgood _ (List.mem_cons_of_mem _ List.mem_cons_self)) hini
  have hU' : vx_Zq Bundle.tN "UNASSIGNED_STACK" Bundle.steD A s' s'.heap := by rw [hhp]; exact vx_Zq.moved hW0.alike (hU.kept hS.2.1)
  have hN' : vx_Zq Bundle.tN "SUPPRESSED_SENTINEL" Bundle.listD A s' s'.heap := by rw [hhp]; exact vx_Zq.moved hW0.alike (hN.kept hS.2.1)
  have h : ∀ w ∈ Bundle.ownAtoms0 own ic cls names, w.before args s' = true := vx_own hat' (vx_isRefq hU'.1) (vx_isRefq hN'.1) hU'.2.word hN'.2.word
  have hown' : s'.vm.findClass own = some m.cls := by rw [hvm]; exact hown
  have hins : (Cond.instantiable cls 6).before args s' = true := h _ (by simp [Bundle.ownAtoms0])
  obtain ⟨vm₁, cX, kX, hfX, hkX, -, -, X₁, st1⟩ := Y.newCold hexec (own := own) (C := cls) (index := ik) (n := 6) hown' hk' hins hini'
    (g := F0 m pc ls rest) rfl (by rw [hb]; exact d0) (Nat.le_refl _) (Nat.le_refl _)
  generalize hT1 : (T.setVm vm₁).pushCell { cls := cX, slots := kX.instanceTypes.map defaultValue, vm := .none } = T1 at X₁ st1
  have hcat : (Value.ref T.heap.size).category = 1 := rfl
  have hcellA : T1.heap[T.heap.size]? = some (freshCell cX kX) := by rw [← hT1]; exact State.heap_pushCell_size _ _
  have d3' : decode c.code (pc + 3) = .ok (.dup, 1) := by rw [hb]; exact d3
  obtain ⟨U, hsteps, hrun, hend, hW, hsame, ce, hce, hO⟩ := X₁.ctorThrow0 hexec htr (own := own) (cls := cls) (names := names) (ic := ic) hown' hcls hnames h (fun x hx => nomatch hx) hfX hkX hcellA (by rw [hhp, hT]; exact Nat.le_refl _)
    (g := { method := m, pc := pc + 4, locals := ls, stack := .ref T.heap.size :: .ref T.heap.size :: rest, locked := none }) rfl hsize rfl rfl (rest := rest) rfl
    (by rw [hb]; exact d4) (by rw [hb]; exact d7) hout hRframes (by simp only [List.map_cons, List.sum_cons, hcat]; omega) hlocks
  obtain ⟨f1, f2⟩ := vx_frame hsame
  rw [hhp] at f1 f2
  have hWs : s.WarmedH U.vm := State.WarmedH.trans hW0 hW
  have hcl : s.vm.findClass cls = some ce.cls := by
    have h9 := hO.cls
    rw [hvm] at h9
    exact h9
  have hall : s.sameButNew ({ U with vm := s.vm } : State) locs mc ms := by
    subst hA
    obtain ⟨e1, e2⟩ := hsame
    rw [State.setFrames_setFrames] at e1
    have h2 : (T.setVm s.vm).sameButNew ({ U with vm := s.vm } : State) [] (0 + 1) (0 + 6) := ⟨e1, e2⟩
    have h3 := X.same.trans h2
    rw [List.append_nil] at h3
    exact h3.mono hc hs
  refine ⟨U, ?_, .threw T.heap.size, hrun, hend, Or.inr ⟨T.heap.size, rfl, cls, ce, locs, hx U hWs.alike f1 (fun q hq => f2 q hq (fun z hz => nomatch hz)), hce, hO.vm, hcl, hWs, hall, hf⟩⟩
  refine st1 _ ?_
  show Steps p.tables e below (T1.setTop { method := m, pc := pc + 3, locals := ls, stack := .ref T.heap.size :: rest, locked := none }) _
  jvm_step X₁.here [X₁.here.top, hexec, d3', Value.category]
  exact hsteps
/-- 'throw new E("text")': new; dup; ldc; invokespecial; athrow -/
theorem vx_throwS {cc : ByteArray} {pc : Nat} (hexec : p.tables.exec = Jvm.exec) (hb : c.code = cc) (hl : l.stackTraces = false) {own cls text : String} {names : List String} {ik is ic mc ms sa : Nat} {A : Nat → Prop}
    (hown : s.vm.findClass own = some m.cls) (hcls : Bundle.fit cls = true) (hnames : ∀ n ∈ names, Bundle.fit n = true)
    (hk : (Cond.classLink own ik cls).before args s = true) (hini : (Cond.initialized cls).before args s = true) (hstr : vk_R own is text sa s) (hat : ∀ w ∈ vx_atS own ic cls names, w.before args s = true)
    (hgood : ∀ w ∈ Cond.classLink own ik cls :: Cond.initialized cls :: vx_atS own ic cls names, vx_ot w = true)
    (hU : vx_Zq Bundle.tN "UNASSIGNED_STACK" Bundle.steD A s s.heap) (hN : vx_Zq Bundle.tN "SUPPRESSED_SENTINEL" Bundle.listD A s s.heap) (hS : va_S A s.heap H locs) (hsize : ls.size = c.maxLocals)
    (d0 : decode cc pc = .ok (.new ik, 3)) (d3 : decode cc (pc + 3) = .ok (.dup, 1)) (d4 : decode cc (pc + 4) = .ok (.ldc is, 2)) (d6 : decode cc (pc + 6) = .ok (.invokespecial ic, 3)) (d9 : decode cc (pc + 9) = .ok (.athrow, 1))
    (hout : ∀ x ∈ c.exceptionTable.toList, covers x (pc + 9) = false)
    (hRframes : names.length + 3 < R.frames) (hRlocals : (rest.map fun v => v.category).sum + (13 * (names.length + 1) + 43) ≤ R.locals) (hRcells : cells + 1 ≤ R.cells) (hRslots : slots + 6 ≤ R.slots) (hlocks : meth.locks = false)
    (hx : ∀ t : State, s.vm.Alike t.vm → H.size ≤ t.heap.size → (∀ q : Nat, q < H.size → t.heap[q]? = H[q]?) → XC cls s t)
    (hf : ∀ z ∈ locs, free z.base) (hc : cells + 1 ≤ mc) (hs : slots + 6 ≤ ms) :
    W p l e R s m args below meth c H locs cells slots (vx_MQ below Qc XC args s mc ms free) (F0 m pc ls rest) := by
  intro T hT X
  have htr : e.platform.stackTraces = false := (show e.platform.stackTraces = l.stackTraces by rw [X.admits.platform]).trans hl
  have Y := vx_rebase X (R' := { frames := R.frames, locals := R.locals, cells := 1, slots := 6 }) (Nat.le_refl _) (Nat.le_refl _) hRcells hRslots
  obtain ⟨s', hA⟩ : ∃ z, z = (T.setVm s.vm).setFrames (.invoking m args :: below) := ⟨_, rfl⟩
  rw [← hA] at Y
  have hvm : s'.vm = s.vm := by rw [hA]; rfl
  have hhp : s'.heap = H := by rw [hA]; exact hT
  have hW0 : s.WarmedH s'.vm := by rw [hvm]; exact State.WarmedH.refl s
  have hat' : ∀ w ∈ vx_atS own ic cls names, w.before args s' = true := fun w hw => vx_ot_at hW0 hvm.symm (hgood w (List.mem_cons_of_mem _ (List.mem_cons_of_mem _ hw))) (hat w hw)
  have hk' : (Cond.classLink own ik cls).before args s' = true := vx_ot_at hW0 hvm.symm (hgood _ List.mem_cons_self) hk
  have hini' : (Cond.initialized cls).before args s' = true := vx_ot_at hW0 hvm.symm (hgood _ (List.mem_cons_of_mem _ List.mem_cons_self)) hini
  have hU' : vx_Zq Bundle.tN "UNASSIGNED_STACK" Bundle.steD A s' s'.heap := by rw [hhp]; exact vx_Zq.moved hW0.alike (hU.kept hS.2.1)
  have hN' : vx_Zq Bundle.tN "SUPPRESSED_SENTINEL" Bundle.listD A s' s'.heap := by rw [hhp]; exact vx_Zq.moved hW0.alike (hN.kept hS.2.1)
  have h : ∀ w ∈ Bundle.ownAtoms own ic cls names, w.before args s' = true := vx_own hat' (vx_isRefq hU'.1) (vx_isRefq hN'.1) hU'.2.word hN'.2.word
  have hown' : s'.vm.findClass own = some m.cls := by rw [hvm]; exact hown
  have hins : (Cond.instantiable cls 6).before args s' = true := h _ (by simp [Bundle.ownAtoms])
  obtain ⟨vm₁, cX, kX, hfX, hkX, -, -, X₁, st1⟩ := Y.newCold hexec (own := own) (C := cls) (index := ik) (n := 6) hown' hk' hins hini'
    (g := F0 m pc ls rest) rfl (by rw [hb]; exact d0) (Nat.le_refl _) (Nat.le_refl _)
  generalize hT1 : (T.setVm vm₁).pushCell { cls := cX, slots := kX.instanceTypes.map defaultValue, vm := .none } = T1 at X₁ st1
  have hcat : (Value.ref T.heap.size).category = 1 := rfl
  have hcellA : T1.heap[T.heap.size]? = some (freshCell cX kX) := by rw [← hT1]; exact State.heap_pushCell_size _ _
  have d3' : decode c.code (pc + 3) = .ok (.dup, 1) := by rw [hb]; exact d3
  have d4' : decode c.code (pc + 4) = .ok (.ldc is, 2) := by rw [hb]; exact d4
  have hstr' : vk_R own is text sa s' := vk_R.warm hW0 hstr
  obtain ⟨U, hsteps, hrun, hend, hW, hsame, ce, hce, hO⟩ := X₁.ctorThrowS hexec htr (own := own) (cls := cls) (names := names) (ic := ic) hown' hcls hnames h (fun x hx => nomatch hx) hfX hkX hcellA (by rw [hhp, hT]; exact Nat.le_refl _) (msg := .ref sa) rfl
    (g := { method := m, pc := pc + 6, locals := ls, stack := .ref sa :: .ref T.heap.size :: .ref T.heap.size :: rest, locked := none }) rfl hsize rfl rfl (rest := rest) rfl
    (by rw [hb]; exact d6) (by rw [hb]; exact d9) hout hRframes (by simp only [List.map_cons, List.sum_cons, hcat]; omega) hlocks
  obtain ⟨f1, f2⟩ := vx_frame hsame
  rw [hhp] at f1 f2
  have hWs : s.WarmedH U.vm := State.WarmedH.trans hW0 hW
  have hcl : s.vm.findClass cls = some ce.cls := by
    have h9 := hO.cls
    rw [hvm] at h9
    exact h9
  have hall : s.sameButNew ({ U with vm := s.vm } : State) locs mc ms := by
    subst hA
    obtain ⟨e1, e2⟩ := hsame
    rw [State.setFrames_setFrames] at e1
    have h2 : (T.setVm s.vm).sameButNew ({ U with vm := s.vm } : State) [] (0 + 1) (0 + 6) := ⟨e1, e2⟩
    have h3 := X.same.trans h2
    rw [List.append_nil] at h3
    exact h3.mono hc hs
  refine ⟨U, ?_, .threw T.heap.size, hrun, hend, Or.inr ⟨T.heap.size, rfl, cls, ce, locs, hx U hWs.alike f1 (fun q hq => f2 q hq (fun z hz => nomatch hz)), hce, hO.vm, hcl, hWs, hall, hf⟩⟩
  refine st1 _ ?_
  show Steps p.tables e below (T1.setTop { method := m, pc := pc + 3, locals := ls, stack := .ref T.heap.size :: rest, locked := none }) _
  jvm_step X₁.here [X₁.here.top, hexec, d3', Value.category]
  exact X₁.ldcString hexec (own := own) (text := text) (index := is) (a := sa) hown' hstr'.1 hstr'.2
    (g := { method := m, pc := pc + 4, locals := ls, stack := .ref T.heap.size :: .ref T.heap.size :: rest, locked := none }) rfl d4' _ hsteps
/-- 'throw new E("text")', the text by a wide index -/
theorem vx_throwSW {cc : ByteArray} {pc : Nat} (hexec : p.tables.exec = Jvm.exec) (hb : c.code = cc) (hl : l.stackTraces = false) {own cls text : String} {names : List String} {ik is ic mc ms sa : Nat} {A : Nat → Prop}
    (hown : s.vm.findClass own = some m.cls) (hcls : Bundle.fit cls = true) (hnames : ∀ n ∈ names, Bundle.fit n = true)
    (hk : (Cond.classLink own ik cls).before args s = true) (hini : (Cond.initialized cls).before args s = true) (hstr : vk_R own is text sa s) (hat : ∀ w ∈ vx_atS own ic cls names, w.before args s = true)
    (hgood : ∀ w ∈ Cond.classLink own ik cls :: Cond.initialized cls :: vx_atS own ic cls names, vx_ot w = true)
    (hU : vx_Zq Bundle.tN "UNASSIGNED_STACK" Bundle.steD A s s.heap) (hN : vx_Zq Bundle.tN "SUPPRESSED_SENTINEL" Bundle.listD A s s.heap) (hS : va_S A s.heap H locs) (hsize : ls.size = c.maxLocals)
    (d0 : decode cc pc = .ok (.new ik, 3)) (d3 : decode cc (pc + 3) = .ok (.dup, 1)) (d4 : decode cc (pc + 4) = .ok (.ldc_w is, 3)) (d7 : decode cc (pc + 7) = .ok (.invokespecial ic, 3)) (d10 : decode cc (pc + 10) = .ok (.athrow, 1))
    (hout : ∀ x ∈ c.exceptionTable.toList, covers x (pc + 10) = false)
    (hRframes : names.length + 3 < R.frames) (hRlocals : (rest.map fun v => v.category).sum + (13 * (names.length + 1) + 43) ≤ R.locals) (hRcells : cells + 1 ≤ R.cells) (hRslots : slots + 6 ≤ R.slots) (hlocks : meth.locks = false)
    (hx : ∀ t : State, s.vm.Alike t.vm → H.size ≤ t.heap.size → (∀ q : Nat, q < H.size → t.heap[q]? = H[q]?) → XC cls s t)
    (hf : ∀ z ∈ locs, free z.base) (hc : cells + 1 ≤ mc) (hs : slots + 6 ≤ ms) :
    W p l e R s m args below meth c H locs cells slots (vx_MQ below Qc XC args s mc ms free) (F0 m pc ls rest) := by
  intro T hT X
  have htr : e.platform.stackTraces = false := (show e.platform.stackTraces = l.stackTraces by rw [X.admits.platform]).trans hl
  have Y := vx_rebase X (R' := { frames := R.frames, locals := R.locals, cells := 1, slots := 6 }) (Nat.le_refl _) (Nat.le_refl _) hRcells hRslots
  obtain ⟨s', hA⟩ : ∃ z, z = (T.setVm s.vm).setFrames (.invoking m args :: below) := ⟨_, rfl⟩
  rw [← hA] at Y
  have hvm : s'.vm = s.vm := by rw [hA]; rfl
  have hhp : s'.heap = H := by rw [hA]; exact hT
  have hW0 : s.WarmedH s'.vm := by rw [hvm]; exact State.WarmedH.refl s
  have hat' : ∀ w ∈ vx_atS own ic cls names, w.before args s' = true := fun w hw => vx_ot_at hW0 hvm.symm (hgood w (List.mem_cons_of_mem _ (List.mem_cons_of_mem _ hw))) (hat w hw)
  have hk' : (Cond.classLink own ik cls).before args s' = true := vx_ot_at hW0 hvm.symm (hgood _ List.mem_cons_self) hk
  have hini' : (Cond.initialized cls).before args s' = true := vx_ot_at hW0 hvm.symm (hgood _ (List.mem_cons_of_mem _ List.mem_cons_self)) hini
  have hU' : vx_Zq Bundle.tN "UNASSIGNED_STACK" Bundle.steD A s' s'.heap := by rw [hhp]; exact vx_Zq.moved hW0.alike (hU.kept hS.2.1)
  have hN' : vx_Zq Bundle.tN "SUPPRESSED_SENTINEL" Bundle.listD A s' s'.heap := by rw [hhp]; exact vx_Zq.moved hW0.alike (hN.kept hS.2.1)
  have h : ∀ w ∈ Bundle.ownAtoms own ic cls names, w.before args s' = true := vx_own hat' (vx_isRefq hU'.1) (vx_isRefq hN'.1) hU'.2.word hN'.2.word
  have hown' : s'.vm.findClass own = some m.cls := by rw [hvm]; exact hown
  have hins : (Cond.instantiable cls 6).before args s' = true := h _ (by simp [Bundle.ownAtoms])
  obtain ⟨vm₁, cX, kX, hfX, hkX, -, -, X₁, st1⟩ := Y.newCold hexec (own := own) (C := cls) (index := ik) (n := 6) hown' hk' hins hini'
    (g := F0 m pc ls rest) rfl (by rw [hb]; exact d0) (Nat.le_refl _) (Nat.le_refl _)
  generalize hT1 : (T.setVm vm₁).pushCell { cls := cX, slots := kX.instanceTypes.map defaultValue, vm := .none } = T1 at X₁ st1
  have hcat : (Value.ref T.heap.size).category = 1 := rfl
  have hcellA : T1.heap[T.heap.size]? = some (freshCell cX kX) := by rw [← hT1]; exact State.heap_pushCell_size _ _
  have d3' : decode c.code (pc + 3) = .ok (.dup, 1) := by rw [hb]; exact d3
  have d4' : decode c.code (pc + 4) = .ok (.ldc_w is, 3) := by rw [hb]; exact d4
  have hstr' : vk_R own is text sa s' := vk_R.warm hW0 hstr
  obtain ⟨U, hsteps, hrun, hend, hW, hsame, ce, hce, hO⟩ := X₁.ctorThrowS hexec htr (own := own) (cls := cls) (names := names) (ic := ic) hown' hcls hnames h (fun x hx => nomatch hx) hfX hkX hcellA (by rw [hhp, hT]; exact Nat.le_refl _) (msg := .ref sa) rfl
    (g := { method := m, pc := pc + 7, locals := ls, stack := .ref sa :: .ref T.heap.size :: .ref T.heap.size :: rest, locked := none }) rfl hsize rfl rfl (rest := rest) rfl
    (by rw [hb]; exact d7) (by rw [hb]; exact d10) hout hRframes (by simp only [List.map_cons, List.sum_cons, hcat]; omega) hlocks
  obtain ⟨f1, f2⟩ := vx_frame hsame
  rw [hhp] at f1 f2
  have hWs : s.WarmedH U.vm := State.WarmedH.trans hW0 hW
  have hcl : s.vm.findClass cls = some ce.cls := by
    have h9 := hO.cls
    rw [hvm] at h9
    exact h9
  have hall : s.sameButNew ({ U with vm := s.vm } : State) locs mc ms := by
    subst hA
    obtain ⟨e1, e2⟩ := hsame
    rw [State.setFrames_setFrames] at e1
    have h2 : (T.setVm s.vm).sameButNew ({ U with vm := s.vm } : State) [] (0 + 1) (0 + 6) := ⟨e1, e2⟩
    have h3 := X.same.trans h2
    rw [List.append_nil] at h3
    exact h3.mono hc hs
  refine ⟨U, ?_, .threw T.heap.size, hrun, hend, Or.inr ⟨T.heap.size, rfl, cls, ce, locs, hx U hWs.alike f1 (fun q hq => f2 q hq (fun z hz => nomatch hz)), hce, hO.vm, hcl, hWs, hall, hf⟩⟩
  refine st1 _ ?_
  show Steps p.tables e below (T1.setTop { method := m, pc := pc + 3, locals := ls, stack := .ref T.heap.size :: rest, locked := none }) _
  jvm_step X₁.here [X₁.here.top, hexec, d3', Value.category]
  exact X₁.ldcStringW hexec (own := own) (text := text) (index := is) (a := sa) hown' hstr'.1 hstr'.2
    (g := { method := m, pc := pc + 4, locals := ls, stack := .ref T.heap.size :: .ref T.heap.size :: rest, locked := none }) rfl d4' _ hsteps
end Ends
section Bodies
variable {l : Launch}
theorem vx_ofW {y : MethodName} {ws ws' : List Cond} {rm : Room} {Pc : Array Value → State → Prop} {Qc : Array Value → State → Outcome → State → Prop} {XC : String → State → State → Prop} {mc ms : Nat} {free : Addr → Prop} {cc : ByteArray} {maxL : Nat} {ret : Option FieldType}
    (hy : plainName y.cls = true) (hw : ws = Cond.code y cc maxL ret :: ws')
    (body : ∀ p e s m args below meth c s₁, BodyLoose p l y (headSpec ws rm) cc maxL ret e s m args below meth c s₁ → c.maxLocals = maxL → (∀ x ∈ c.exceptionTable.toList, False) → Pc args s →
      W p l e (headSpec ws rm).room s m args below meth c s.heap [] 0 0 (vx_MQ below Qc XC args s mc ms free) (entryFrame m args maxL)) : vx_Met l y ws rm Pc Qc XC mc ms free := by
  refine MetFree.of_bodyS (code := cc) (maxLocals := maxL) (ret := ret) hy ?_ ?_
  · intro args s m h hn
    obtain ⟨meth, c, h1, h2, h3, h4, h5, h6, -, -⟩ := Cond.code_spec hn (atoms_spec (ws := ws) h _ (by rw [hw]; exact List.mem_cons_self))
    exact ⟨meth, c, h1, h2, h3, h4, h5, h6⟩
  · intro p e s m args below meth c s₁ B hml hP _
    have hh0 : s₁.heap = s.heap := by rw [B.state]; rfl
    have ht : ∀ x ∈ c.exceptionTable.toList, False := by
      obtain ⟨meth9, c9, h1, h2, -, -, -, -, h7, -⟩ := Cond.code_spec B.named (atoms_spec (ws := ws) B.pre _ (by rw [hw]; exact List.mem_cons_self))
      cases Option.some.inj (h1.symm.trans B.method)
      cases Option.some.inj (h2.symm.trans (Stand.of_body B).code)
      intro x hx
      rw [Array.isEmpty_iff.mp h7] at hx
      cases hx
    obtain ⟨t, a1, o, b1, b2, b3⟩ := body p e s m args below meth c s₁ B hml ht hP s₁ hh0 (Stand.of_body B)
    exact ⟨t, o, a1, b1, b2, b3⟩
/-- the table of a body with handlers -/
theorem vx_table {p : Program} {x y : MethodName} {S : Spec} {cc bytes : ByteArray} {maxL maxL' : Nat} {ret ret' : Option FieldType} {e : Env} {s s₁ : State} {m : MethodId} {args : Array Value} {below : List Frame} {meth : Method} {c : Code} {hh : List (Nat × Nat × Nat × Nat)}
    (B : BodyLoose p l y S cc maxL ret e s m args below meth c s₁) (h : (Cond.codeWith y bytes maxL' ret' hh).before args s = true) : c.exceptionTable.toList = tableOf hh := by
  obtain ⟨m9, meth9, c9, hn9, h1, h2, -, -, h6, -⟩ := Cond.codeWith_spec h
  cases Option.some.inj (hn9.symm.trans B.named)
  cases Option.some.inj (h1.symm.trans B.method)
  cases Option.some.inj (h2.symm.trans (Stand.of_body B).code)
  rw [← h6, table_eq]
end Bodies
end VXA
/-! ===== END ===== -/
/-! ===== BEGIN a static call of a method with an exception table ===== -/
section VXS
variable {p : Program} {l : Launch} {e : Env} {R : Room} {s : State} {m : MethodId} {args : Array Value} {below : List Frame} {meth : Method} {c : Code} {T : State} {H : Heap} {locs : List Loc} {cells slots : Nat}
abbrev vx_CSW (R : Room) (s : State) (args : Array Value) (own : String) (index : Nat) (y : MethodName) (bytes : ByteArray) (maxL : Nat) (ret : Option FieldType) (hh : List (Nat × Nat × Nat × Nat)) (ws : List Cond) (rm : Room) (mc ms n : Nat) : Prop :=
  (rm.cells = mc ∧ rm.slots = ms ∧ rm.frames + 1 ≤ R.frames ∧ 8 + (maxL + 11) + rm.locals ≤ R.locals ∧ (∀ w ∈ ws, ∀ (a' : Array Value) (U : State), s.WarmedH U.vm → w.before a' U = true) ∧ Cond.codeWith y bytes maxL ret hh ∈ ws) ∧
  (Cond.codeWith y bytes maxL ret hh).before args s = true ∧ (Cond.initialized y.cls).before args s = true ∧ (y.cls ≠ "java/lang/invoke/MethodHandle" ∧ y.cls ≠ "java/lang/invoke/VarHandle") ∧
  (∀ sig, parseMethodDescriptor y.desc = some sig → n = sig.parameters.length) ∧ (Cond.methodLink own index y).before args s = true ∧ (Cond.static y).before args s = true
theorem vx_cwSW {own : String} {index maxL mc ms : Nat} {y : MethodName} {bytes : ByteArray} {ret : Option FieldType} {hh : List (Nat × Nat × Nat × Nat)} {Ts ws ws' : List Cond} {rm : Room} (n : Nat) (ht : ∀ w ∈ Ts, w.before args s = true) (hT : GoodIn Ts (va_wsS own index y ws)) (hw : ws = Cond.codeWith y bytes maxL ret hh :: ws') (hrc : rm.cells = mc) (hrs : rm.slots = ms)
    (hd : y.cls ≠ "java/lang/invoke/MethodHandle" ∧ y.cls ≠ "java/lang/invoke/VarHandle" ∧ (parseMethodDescriptor y.desc).map (fun d => d.parameters.length) = some n) (hR : rm.frames + 1 ≤ R.frames ∧ 8 + (maxL + 11) + rm.locals ≤ R.locals) :
    vx_CSW R s args own index y bytes maxL ret hh ws rm mc ms n := by
  have ok : ∀ w ∈ va_wsS own index y ws, w.before args s = true := fun w h => ht w (hT w h).1
  have hG : GoodIn Ts ws := fun w h => hT w (by unfold va_wsS; exact List.mem_append_right _ h)
  have hc : Cond.codeWith y bytes maxL ret hh ∈ ws := by rw [hw]; exact List.mem_cons_self
  refine ⟨⟨hrc, hrs, hR.1, hR.2, pay_in ht hG, hc⟩, ht _ (hG _ hc).1, ok _ (by simp [va_wsS]), ⟨hd.1, hd.2.1⟩, fun sig h => ?_, ok _ (by simp [va_wsS]), ok _ (by simp [va_wsS])⟩
  have h2 := hd.2.2
  rw [h] at h2
  exact (Option.some.inj h2).symm
theorem vx_callSW (X : Stand p l e R s m args below meth c T locs cells slots) (hexec : p.tables.exec = Jvm.exec) {own : String} {index : Nat} {y : MethodName} {bytes : ByteArray} {maxL : Nat} {ret : Option FieldType} {hh : List (Nat × Nat × Nat × Nat)}
    (hown : s.vm.findClass own = some m.cls) (hlink : (Cond.methodLink own index y).before args s = true) (hstat : (Cond.static y).before args s = true) (hinit : (Cond.initialized y.cls).before args s = true)
    (hcode : (Cond.codeWith y bytes maxL ret hh).before args s = true) (hy : y.cls ≠ "java/lang/invoke/MethodHandle" ∧ y.cls ≠ "java/lang/invoke/VarHandle")
    {W9 : Nat} {Pre : Pt → Array Value → Prop} {Post : Pt → Array Value → Option Value → Pt → Prop} (hK : Back l R p e below s args y 3 W9 Pre Post)
    {g : JFrame} (hg : g.method = m) (hsize : g.locals.size = c.maxLocals) {argsL rest : List Value} (hlen : ∀ sig, parseMethodDescriptor y.desc = some sig → argsL.length = sig.parameters.length)
    (hstack : g.stack = argsL.reverse ++ rest) (hW : 2 * g.monitorRoom + (rest.map fun v => v.category).sum ≤ W9) (hdg : decode c.code g.pc = .ok (.invokestatic index, 3))
    (hpre : ∀ vm₁, s.WarmedH vm₁ → Pre ⟨T.setVm vm₁, locs, cells, slots⟩ argsL.toArray) :
    ∃ (v : Option Value) (vm₁ : Vm) (B : Pt), s.WarmedH vm₁ ∧ Stand p l e R s m args below meth c B.U B.locs B.cells B.slots ∧ Post ⟨T.setVm vm₁, locs, cells, slots⟩ argsL.toArray v B ∧
      ∀ target, Steps p.tables e below (B.U.setTop { g with pc := g.pc + 3, stack := v.toList ++ rest }) target → Steps p.tables e below (T.setTop g) target := by
  obtain ⟨mk, methM, cM, hnamed, hmethM, -, -, -, -, -, -, hsigM⟩ := Cond.codeWith_spec hcode
  have hstatic : methM.isStatic = true := Cond.static_spec hnamed hmethM hstat
  obtain ⟨kP, hkP, -⟩ := className_of_methodNamed hnamed
  have hinitP : kP.init = .initialized := Cond.initialized_spec (findClass_of_methodNamed hnamed) hkP hinit
  obtain ⟨vm₁, X₁, hstep₁⟩ := X.invokestatic hexec hown hlink hnamed hmethM hstatic hkP hinitP hy (g := g) hg (argsL := argsL) (rest := rest) (hlen _ hsigM) hstack hdg
  obtain ⟨v, B, X', hpost, hsteps⟩ := hK m meth c ⟨T.setVm vm₁, locs, cells, slots⟩ { g with stack := rest } (.invokestatic index) mk argsL.toArray X₁ hg hsize hdg hW (X₁.named hnamed) (hpre vm₁ X₁.warmed)
  exact ⟨v, vm₁, B, X₁.warmed, X', hpost, fun target h => hstep₁ _ fun acts => by rw [doInvoke_state]; exact hsteps.trans h⟩
theorem vx_runSW {y : MethodName} {bytes cc : ByteArray} {maxL nL mc ms n index : Nat} {ret : Option FieldType} {hh : List (Nat × Nat × Nat × Nat)} {ws : List Cond} {rm : Room} {Pc : Array Value → State → Prop} {Qc : Array Value → State → Outcome → State → Prop} {free : Addr → Prop} {Ts : List Cond} {own : String} {As rest : List Value} {g : JFrame}
    (S : CallFix p m c cc nL s args Ts own) (hM : Met l y ws rm Pc Qc mc ms free) (cw : vx_CSW R s args own index y bytes maxL ret hh ws rm mc ms n) (hp : PreS s H Pc As)
    (hg : g.method = m) (hn : As.length = n) (hsize : g.locals.size = nL) (hstack : g.stack = As.reverse ++ rest) (hW : 2 * g.monitorRoom + (rest.map fun v => v.category).sum ≤ 8) (hdg : decode cc g.pc = .ok (.invokestatic index, 3)) (hf : cells + mc ≤ R.cells ∧ slots + ms ≤ R.slots) :
    va_Run p l e R s m args below meth c H locs cells slots mc ms g rest (Qc As.toArray) (free) := by
  obtain ⟨⟨hrc, hrs, hfr, hlo, hws, hcw⟩, hcode, hini, hy, hlen, hl, hstt⟩ := cw
  have hK : Back l R p e below s args y 3 8 (PreOf R mc ms Pc) (PostOf Qc mc ms free) := va_backW (hh := hh) (bytes := bytes) (maxL := maxL) (ret := ret) hM hp.1 hrc hrs hfr hlo hws hcw (fun a' U hW => word_at hW (Or.inl (by first | rfl | simp [Cond.onTables, Cond.keeps, Cond.steady])) hini)
  obtain ⟨hx, hb, hml, ho, -⟩ := S
  intro T hT X
  obtain ⟨v, vm₁, ⟨U', l2, c2, s2⟩, hW₁, X', ⟨g', mk, t, L, e1, e2, hq, h1, hL, h2, h3⟩, st⟩ := vx_callSW X hx (hh := hh) (bytes := bytes) (maxL := maxL) (ret := ret) ho hl hstt hini hcode hy hK hg (hsize.trans hml.symm) (argsL := As) (rest := rest) (fun sig h => hn.trans (hlen sig h)) hstack hW (by rw [hb]; exact hdg)
    (fun vm₁ hW₁ => ⟨hf.1, hf.2, hp.2 (T.setVm vm₁) hT hW₁⟩)
  dsimp only [Pt.U, Pt.locs, Pt.cells, Pt.slots] at X' e1 e2 h1 h2 h3 st
  subst h1; subst h2; subst h3
  exact ⟨v, (T.setVm vm₁).calling g' mk As.toArray, t, U', L, hT, X', hL, e1, e2, hq, st⟩
/-- a thing of a world lies in the heap -/
theorem vx_lt {D : va_G} {cl : List vw_C} {ws : va_W} {H1 : Heap} (h : va_P D cl ws H1) {k : Nat} {q : Nat × va_E} (hk : ws[k]? = some q) : q.1 < H1.size := (h k q hk).lt
end VXS
/-! ===== END ===== -/
/-! ===== BEGIN methods with a table of their own: called by a name, returning or throwing ===== -/
section VXH
/-! vx_backW, vx_callVX, vx_callSX, vx_callVW, vx_runVW, vx_runVX, vx_runSX, vx_ofWH follow the same proofs as their sisters above (Free/Laws.lean, Shelf42/LK1.lean); vx_outP calls Shelf42/NT130.lean (outThrough). -/
section
variable {l : Launch} {R : Room} {p : Program} {e : Env} {below : List Frame} {s : State} {sargs : Array Value} {y : MethodName} {len W9 : Nat}
theorem vx_backW {ws : List Cond} {rm : Room} {Pc : Array Value → State → Prop} {Qc : Array Value → State → Outcome → State → Prop} {XC : String → State → State → Prop} {mc ms : Nat} {free : Addr → Prop} {bytes : ByteArray} {maxL : Nat} {ret : Option FieldType} {hh : List (Nat × Nat × Nat × Nat)}
    (hM : vx_Met l y ws rm Pc Qc XC mc ms free) (hblind : FrameBlind Pc) (hrc : rm.cells = mc) (hrs : rm.slots = ms)
    (hframes : rm.frames + 1 ≤ R.frames) (hlocals : W9 + (maxL + 11) + rm.locals ≤ R.locals)
    (hws : ∀ w ∈ ws, ∀ a' U, s.WarmedH U.vm → w.before a' U = true) (hcode : Cond.codeWith y bytes maxL ret hh ∈ ws) (hinit : ∀ a' U, s.WarmedH U.vm → (Cond.initialized y.cls).before a' U = true) :
    vx_Back l R p e below s sargs y len W9 (PreOf R mc ms Pc) (PostOf Qc mc ms free) (vx_Post XC mc ms free) := by
  intro m meth c A g ig mk a X hg hsize hdg hW hn hp
  have h1 : (headSpec ws rm).pre.before a A.U = true := atoms_intro fun w hw => hws w hw _ _ X.warmed
  have h2 : (Cond.codeWith y bytes maxL ret hh).before a A.U = true := hws _ hcode _ _ X.warmed
  have h3 : (Cond.initialized y.cls).before a A.U = true := hinit _ _ X.warmed
  have h4 : A.cells + (headSpec ws rm).room.cells ≤ R.cells := by rw [show (headSpec ws rm).room.cells = mc from hrc]; exact hp.1
  have h5 : A.slots + (headSpec ws rm).room.slots ≤ R.slots := by rw [show (headSpec ws rm).room.slots = ms from hrs]; exact hp.2.1
  have hPc : Pc a (A.U.calling g mk a) := hblind _ _ _ _ hp.2.2
  obtain ⟨U, Ls, c0, s0⟩ := A
  dsimp only [Pt.U, Pt.locs, Pt.cells, Pt.slots] at h1 h2 h3 h4 h5 X hn hPc ⊢
  obtain ⟨m9, methY, cY, hn9, hmY, hcY, -, hlY, -⟩ := Cond.codeWith_spec h2
  cases Option.some.inj (hn9.symm.trans hn)
  obtain ⟨kY, hkY, -⟩ := className_of_methodNamed hn
  have hinitY : kY.init = .initialized := Cond.initialized_spec (findClass_of_methodNamed hn) hkY h3
  have h : At U g.method c below := by rw [hg]; exact X.here
  have hlocals9 : W9 + (maxL + 11) + (headSpec ws rm).room.locals ≤ R.locals := hlocals
  have happ : (headSpec ws rm).appliesLoose y e.platform (U.calling g mk a) = true :=
    Spec.appliesLoose_calling (g := g) h hdg hn hkY hinitY
      (X.room_calling (g := g) (R' := (headSpec ws rm).room) hsize hmY hcY hframes (by rw [hlY]; omega) h4 h5) h1
  obtain ⟨mid, hmid⟩ := h.above
  have hfr : (U.setTop g).frames = (.java g :: mid) ++ below := by rw [State.frames_setTop' g h.top, hmid]; rfl
  obtain ⟨o, s₂, hsteps, -, hend, hq⟩ := Steps.callFree hM p X.admits X.cas X.clock (acts := []) hfr happ hPc trivial
  have hq' : vx_Q Qc XC mc ms free a (U.calling g mk a) o s₂ := hq
  rw [State.frames_setTop' g h.top] at hend
  obtain ⟨g₀, hg0⟩ := Option.isSome_iff_exists.mp h.top
  obtain ⟨r, hr⟩ := State.topJava?_eq_some.mp hg0
  have hr' : (({ U with heap := s₂.heap, slotsUsed := s₂.slotsUsed } : State).setVm s₂.vm).frames = .java g₀ :: r := hr
  rcases hq' with ⟨hqc, L, hfe, hL⟩ | ⟨q, rfl, E, ce, L, hx, hce, hcv, hcl, hW₂, hsm, hL⟩
  · obtain ⟨⟨v, rfl⟩, hW₂, e2, q2, q3, q4, q5, q6⟩ := id hfe
    have e3 : s₂ = ({ (U.calling g mk a).setFrames s₂.frames with heap := s₂.heap, slotsUsed := s₂.slotsUsed } : State).setVm s₂.vm := by
      have : s₂ = ({ s₂ with vm := (U.calling g mk a).vm } : State).setVm s₂.vm := rfl
      rw [e2] at this
      exact this
    obtain ⟨c₂, i₂, len₂, hc₂, hd₂, hf₂⟩ := hend
    have hW' : U.WarmedH s₂.vm := hW₂
    have hcc : c₂ = c := by
      have h1 : s₂.code? g.method = U.code? g.method := by
        rw [State.code?_eq, State.code?_eq, hW'.alike.method?]
      exact Option.some.inj (hc₂.symm.trans (h1.trans h.code))
    subst hcc
    have hlen : len₂ = len := by rw [hdg] at hd₂; cases hd₂; rfl
    subst hlen
    have hs₂ : s₂ = (({ U with heap := s₂.heap, slotsUsed := s₂.slotsUsed } : State).setVm s₂.vm).setTop { g with pc := g.pc + len₂, stack := v.toList ++ g.stack } := by
      refine e3.trans ?_
      rw [hf₂, State.calling_eq h.top, State.setFrames_setFrames, State.setTop_of_frames _ hr', hr]
      rfl
    have hsame : U.sameButNew ({ U with heap := s₂.heap, slotsUsed := s₂.slotsUsed } : State) L mc ms := by
      refine ⟨?_, q2, q3, q4, q5, q6⟩
      obtain ⟨t, ht, -⟩ := State.frames_cons hr
      show ({ U with heap := s₂.heap, slotsUsed := s₂.slotsUsed } : State) = { U.setFrames U.frames with heap := s₂.heap, slotsUsed := s₂.slotsUsed }
      rw [State.setFrames_self ht]
    subst hg
    refine Or.inl ⟨v, ⟨(({ U with heap := s₂.heap, slotsUsed := s₂.slotsUsed } : State).setVm s₂.vm), Ls ++ L, c0 + mc, s0 + ms⟩,
      ⟨X.admits, X.cas, X.clock, X.frames, X.room, X.hears, X.method, X.code, (X.here.setHeapUsed s₂.heap s₂.slotsUsed).setVm hW'.alike, X.tail, State.WarmedH.trans X.warmed hW', X.limits, X.bytes, X.same.trans (hsame.setVm s.vm)⟩,
      ⟨g, mk, s₂, L, rfl, rfl, hqc, rfl, hL, rfl, rfl⟩, ?_⟩
    show Steps p.tables e below _ ((({ U with heap := s₂.heap, slotsUsed := s₂.slotsUsed } : State).setVm s₂.vm).setTop { g with pc := g.pc + len₂, stack := v.toList ++ g.stack })
    rw [← hs₂]
    exact hsteps
  · obtain ⟨e2, q2, q3, q4, q5, q6⟩ := id hsm
    have e3 : s₂ = ({ (U.calling g mk a).setFrames s₂.frames with heap := s₂.heap, slotsUsed := s₂.slotsUsed } : State).setVm s₂.vm := by
      have : s₂ = ({ s₂ with vm := (U.calling g mk a).vm } : State).setVm s₂.vm := rfl
      rw [e2] at this
      exact this
    have hf₂ : s₂.frames = .throwing q :: .java g :: U.frames.tail := hend
    have hW' : U.WarmedH s₂.vm := hW₂
    have hs₂ : s₂ = ((({ U with heap := s₂.heap, slotsUsed := s₂.slotsUsed } : State).setVm s₂.vm).setTop g).pushFrame (.throwing q) := by
      refine e3.trans ?_
      rw [hf₂, State.calling_eq h.top, State.setFrames_setFrames, State.pushFrame, State.frames_setTop _ hr', State.setTop_of_frames _ hr', State.setFrames_setFrames, hr]
      rfl
    have hsame : U.sameButNew ({ U with heap := s₂.heap, slotsUsed := s₂.slotsUsed } : State) L mc ms := by
      refine ⟨?_, q2, q3, q4, q5, q6⟩
      obtain ⟨t, ht, -⟩ := State.frames_cons hr
      show ({ U with heap := s₂.heap, slotsUsed := s₂.slotsUsed } : State) = { U.setFrames U.frames with heap := s₂.heap, slotsUsed := s₂.slotsUsed }
      rw [State.setFrames_self ht]
    subst hg
    refine Or.inr ⟨q, ⟨(({ U with heap := s₂.heap, slotsUsed := s₂.slotsUsed } : State).setVm s₂.vm), Ls ++ L, c0 + mc, s0 + ms⟩,
      ⟨X.admits, X.cas, X.clock, X.frames, X.room, X.hears, X.method, X.code, (X.here.setHeapUsed s₂.heap s₂.slotsUsed).setVm hW'.alike, X.tail, State.WarmedH.trans X.warmed hW', X.limits, X.bytes, X.same.trans (hsame.setVm s.vm)⟩,
      ⟨g, mk, s₂, L, E, ce, rfl, rfl, hx, hce, hcv, hcl, rfl, hL, rfl, rfl⟩, ?_⟩
    show Steps p.tables e below _ (((({ U with heap := s₂.heap, slotsUsed := s₂.slotsUsed } : State).setVm s₂.vm).setTop g).pushFrame (.throwing q))
    rw [← hs₂]
    exact hsteps
end
variable {p : Program} {l : Launch} {e : Env} {R : Room} {s : State} {m : MethodId} {args : Array Value} {below : List Frame} {meth : Method} {c : Code} {T : State} {H : Heap} {locs : List Loc} {cells slots : Nat}
theorem vx_callVX (X : Stand p l e R s m args below meth c T locs cells slots) (hexec : p.tables.exec = Jvm.exec) {own C : String} {index : Nat} {y : MethodName} {bytes : ByteArray} {maxL : Nat} {ret : Option FieldType} {hh : List (Nat × Nat × Nat × Nat)}
    (hown : s.vm.findClass own = some m.cls) (hlink : (Cond.methodLink own index y).before args s = true) (hinst : (Cond.instanceMethod y).before args s = true) (hsel : (Cond.selects C y y).before args s = true)
    (hcode : (Cond.codeWith y bytes maxL ret hh).before args s = true) (hy : y.cls ≠ "java/lang/invoke/MethodHandle" ∧ y.cls ≠ "java/lang/invoke/VarHandle")
    {W9 : Nat} {Pre : Pt → Array Value → Prop} {Post : Pt → Array Value → Option Value → Pt → Prop} {PostX : Pt → Array Value → Addr → Pt → Prop} (hK : vx_Back l R p e below s args y 3 W9 Pre Post PostX)
    {b : Addr} {cellB : Cell} (hcell : T.heap[b]? = some cellB) (hobj : cellB.vm.isStatics = false) (hcls : s.vm.findClass C = some cellB.cls)
    {g : JFrame} (hg : g.method = m) (hsize : g.locals.size = c.maxLocals) {argsL rest : List Value} (hlen : ∀ sig, parseMethodDescriptor y.desc = some sig → argsL.length = sig.parameters.length)
    (hstack : g.stack = argsL.reverse ++ .ref b :: rest) (hW : 2 * g.monitorRoom + (rest.map fun v => v.category).sum ≤ W9) (hdg : decode c.code g.pc = .ok (.invokevirtual index, 3))
    (hpre : ∀ vm₁, s.WarmedH vm₁ → Pre ⟨T.setVm vm₁, locs, cells, slots⟩ (Value.ref b :: argsL).toArray) :
    (∃ (v : Option Value) (vm₁ : Vm) (B : Pt), s.WarmedH vm₁ ∧ Stand p l e R s m args below meth c B.U B.locs B.cells B.slots ∧ Post ⟨T.setVm vm₁, locs, cells, slots⟩ (Value.ref b :: argsL).toArray v B ∧
      ∀ target, Steps p.tables e below (B.U.setTop { g with pc := g.pc + 3, stack := v.toList ++ rest }) target → Steps p.tables e below (T.setTop g) target) ∨
    (∃ (q : Addr) (vm₁ : Vm) (B : Pt), s.WarmedH vm₁ ∧ Stand p l e R s m args below meth c B.U B.locs B.cells B.slots ∧ PostX ⟨T.setVm vm₁, locs, cells, slots⟩ (Value.ref b :: argsL).toArray q B ∧
      Steps p.tables e below (T.setTop g) ((B.U.setTop { g with stack := rest }).pushFrame (.throwing q))) := by
  obtain ⟨mk, methM, hnamed, hmethM, hstM, habM⟩ := Cond.instanceMethod_spec hinst
  obtain ⟨m8, methM', cM, hn8, hmethM', -, -, -, -, -, -, hsigM⟩ := Cond.codeWith_spec hcode
  cases Option.some.inj (hn8.symm.trans hnamed)
  cases hmethM.symm.trans hmethM'
  obtain ⟨c2, r2, m2, q1, q2, q3, q4, kP, hkP, hkPi⟩ := Cond.selects_spec hsel
  cases hcls.symm.trans q1
  cases (State.methodFound?_of_named hnamed hy).symm.trans q2
  cases hnamed.symm.trans q3
  have hselP : selectMethod e.platform s.vm cellB.cls mk = .method mk := by rw [Launch.admits_selectMethod X.admits]; exact q4
  obtain ⟨vm₁, X₁, hstep₁⟩ := X.invokevirtual hexec hown hlink hnamed hmethM hstM hkP hkPi hy (a := b) (cell := cellB) hcell
    (fun z h => by rw [h] at hobj; cases hobj) hselP hmethM habM hkP hkPi (g := g) hg (argsL := argsL) (rest := rest) (hlen _ hsigM) hstack hdg
  rcases hK m meth c ⟨T.setVm vm₁, locs, cells, slots⟩ { g with stack := rest } (.invokevirtual index) mk (Value.ref b :: argsL).toArray X₁ hg hsize hdg hW (X₁.named hnamed) (hpre vm₁ X₁.warmed) with ⟨v, B, X', hpost, hsteps⟩ | ⟨q, B, X', hpost, hsteps⟩
  · exact Or.inl ⟨v, vm₁, B, X₁.warmed, X', hpost, fun target h => hstep₁ _ fun acts => by rw [doInvoke_state]; exact hsteps.trans h⟩
  · exact Or.inr ⟨q, vm₁, B, X₁.warmed, X', hpost, hstep₁ _ fun acts => by rw [doInvoke_state]; exact hsteps⟩
theorem vx_callSX (X : Stand p l e R s m args below meth c T locs cells slots) (hexec : p.tables.exec = Jvm.exec) {own : String} {index : Nat} {y : MethodName} {bytes : ByteArray} {maxL : Nat} {ret : Option FieldType} {hh : List (Nat × Nat × Nat × Nat)}
    (hown : s.vm.findClass own = some m.cls) (hlink : (Cond.methodLink own index y).before args s = true) (hstat : (Cond.static y).before args s = true) (hinit : (Cond.initialized y.cls).before args s = true)
    (hcode : (Cond.codeWith y bytes maxL ret hh).before args s = true) (hy : y.cls ≠ "java/lang/invoke/MethodHandle" ∧ y.cls ≠ "java/lang/invoke/VarHandle")
    {W9 : Nat} {Pre : Pt → Array Value → Prop} {Post : Pt → Array Value → Option Value → Pt → Prop} {PostX : Pt → Array Value → Addr → Pt → Prop} (hK : vx_Back l R p e below s args y 3 W9 Pre Post PostX)
    {g : JFrame} (hg : g.method = m) (hsize : g.locals.size = c.maxLocals) {argsL rest : List Value} (hlen : ∀ sig, parseMethodDescriptor y.desc = some sig → argsL.length = sig.parameters.length)
    (hstack : g.stack = argsL.reverse ++ rest) (hW : 2 * g.monitorRoom + (rest.map fun v => v.category).sum ≤ W9) (hdg : decode c.code g.pc = .ok (.invokestatic index, 3))
    (hpre : ∀ vm₁, s.WarmedH vm₁ → Pre ⟨T.setVm vm₁, locs, cells, slots⟩ argsL.toArray) :
    (∃ (v : Option Value) (vm₁ : Vm) (B : Pt), s.WarmedH vm₁ ∧ Stand p l e R s m args below meth c B.U B.locs B.cells B.slots ∧ Post ⟨T.setVm vm₁, locs, cells, slots⟩ argsL.toArray v B ∧
      ∀ target, Steps p.tables e below (B.U.setTop { g with pc := g.pc + 3, stack := v.toList ++ rest }) target → Steps p.tables e below (T.setTop g) target) ∨
    (∃ (q : Addr) (vm₁ : Vm) (B : Pt), s.WarmedH vm₁ ∧ Stand p l e R s m args below meth c B.U B.locs B.cells B.slots ∧ PostX ⟨T.setVm vm₁, locs, cells, slots⟩ argsL.toArray q B ∧
      Steps p.tables e below (T.setTop g) ((B.U.setTop { g with stack := rest }).pushFrame (.throwing q))) := by
  obtain ⟨mk, methM, cM, hnamed, hmethM, -, -, -, -, -, -, hsigM⟩ := Cond.codeWith_spec hcode
  have hstatic : methM.isStatic = true := Cond.static_spec hnamed hmethM hstat
  obtain ⟨kP, hkP, -⟩ := className_of_methodNamed hnamed
  have hinitP : kP.init = .initialized := Cond.initialized_spec (findClass_of_methodNamed hnamed) hkP hinit
  obtain ⟨vm₁, X₁, hstep₁⟩ := X.invokestatic hexec hown hlink hnamed hmethM hstatic hkP hinitP hy (g := g) hg (argsL := argsL) (rest := rest) (hlen _ hsigM) hstack hdg
  rcases hK m meth c ⟨T.setVm vm₁, locs, cells, slots⟩ { g with stack := rest } (.invokestatic index) mk argsL.toArray X₁ hg hsize hdg hW (X₁.named hnamed) (hpre vm₁ X₁.warmed) with ⟨v, B, X', hpost, hsteps⟩ | ⟨q, B, X', hpost, hsteps⟩
  · exact Or.inl ⟨v, vm₁, B, X₁.warmed, X', hpost, fun target h => hstep₁ _ fun acts => by rw [doInvoke_state]; exact hsteps.trans h⟩
  · exact Or.inr ⟨q, vm₁, B, X₁.warmed, X', hpost, hstep₁ _ fun acts => by rw [doInvoke_state]; exact hsteps⟩
theorem vx_callVW (X : Stand p l e R s m args below meth c T locs cells slots) (hexec : p.tables.exec = Jvm.exec) {own C : String} {index : Nat} {y : MethodName} {bytes : ByteArray} {maxL : Nat} {ret : Option FieldType} {hh : List (Nat × Nat × Nat × Nat)}
    (hown : s.vm.findClass own = some m.cls) (hlink : (Cond.methodLink own index y).before args s = true) (hinst : (Cond.instanceMethod y).before args s = true) (hsel : (Cond.selects C y y).before args s = true)
    (hcode : (Cond.codeWith y bytes maxL ret hh).before args s = true) (hy : y.cls ≠ "java/lang/invoke/MethodHandle" ∧ y.cls ≠ "java/lang/invoke/VarHandle")
    {W9 : Nat} {Pre : Pt → Array Value → Prop} {Post : Pt → Array Value → Option Value → Pt → Prop} (hK : Back l R p e below s args y 3 W9 Pre Post)
    {b : Addr} {cellB : Cell} (hcell : T.heap[b]? = some cellB) (hobj : cellB.vm.isStatics = false) (hcls : s.vm.findClass C = some cellB.cls)
    {g : JFrame} (hg : g.method = m) (hsize : g.locals.size = c.maxLocals) {argsL rest : List Value} (hlen : ∀ sig, parseMethodDescriptor y.desc = some sig → argsL.length = sig.parameters.length)
    (hstack : g.stack = argsL.reverse ++ .ref b :: rest) (hW : 2 * g.monitorRoom + (rest.map fun v => v.category).sum ≤ W9) (hdg : decode c.code g.pc = .ok (.invokevirtual index, 3))
    (hpre : ∀ vm₁, s.WarmedH vm₁ → Pre ⟨T.setVm vm₁, locs, cells, slots⟩ (Value.ref b :: argsL).toArray) :
    ∃ (v : Option Value) (vm₁ : Vm) (B : Pt), s.WarmedH vm₁ ∧ Stand p l e R s m args below meth c B.U B.locs B.cells B.slots ∧ Post ⟨T.setVm vm₁, locs, cells, slots⟩ (Value.ref b :: argsL).toArray v B ∧
      ∀ target, Steps p.tables e below (B.U.setTop { g with pc := g.pc + 3, stack := v.toList ++ rest }) target → Steps p.tables e below (T.setTop g) target := by
  obtain ⟨mk, methM, hnamed, hmethM, hstM, habM⟩ := Cond.instanceMethod_spec hinst
  obtain ⟨m8, methM', cM, hn8, hmethM', -, -, -, -, -, -, hsigM⟩ := Cond.codeWith_spec hcode
  cases Option.some.inj (hn8.symm.trans hnamed)
  cases hmethM.symm.trans hmethM'
  obtain ⟨c2, r2, m2, q1, q2, q3, q4, kP, hkP, hkPi⟩ := Cond.selects_spec hsel
  cases hcls.symm.trans q1
  cases (State.methodFound?_of_named hnamed hy).symm.trans q2
  cases hnamed.symm.trans q3
  have hselP : selectMethod e.platform s.vm cellB.cls mk = .method mk := by rw [Launch.admits_selectMethod X.admits]; exact q4
  obtain ⟨vm₁, X₁, hstep₁⟩ := X.invokevirtual hexec hown hlink hnamed hmethM hstM hkP hkPi hy (a := b) (cell := cellB) hcell
    (fun z h => by rw [h] at hobj; cases hobj) hselP hmethM habM hkP hkPi (g := g) hg (argsL := argsL) (rest := rest) (hlen _ hsigM) hstack hdg
  obtain ⟨v, B, X', hpost, hsteps⟩ := hK m meth c ⟨T.setVm vm₁, locs, cells, slots⟩ { g with stack := rest } (.invokevirtual index) mk (Value.ref b :: argsL).toArray X₁ hg hsize hdg hW (X₁.named hnamed) (hpre vm₁ X₁.warmed)
  exact ⟨v, vm₁, B, X₁.warmed, X', hpost, fun target h => hstep₁ _ fun acts => by rw [doInvoke_state]; exact hsteps.trans h⟩
abbrev vx_CVW (R : Room) (s : State) (args : Array Value) (own C : String) (index : Nat) (y : MethodName) (bytes : ByteArray) (maxL : Nat) (ret : Option FieldType) (hh : List (Nat × Nat × Nat × Nat)) (ws : List Cond) (rm : Room) (mc ms n : Nat) : Prop :=
  (rm.cells = mc ∧ rm.slots = ms ∧ rm.frames + 1 ≤ R.frames ∧ 8 + (maxL + 11) + rm.locals ≤ R.locals ∧ (∀ w ∈ ws, ∀ (a' : Array Value) (U : State), s.WarmedH U.vm → w.before a' U = true) ∧ Cond.codeWith y bytes maxL ret hh ∈ ws) ∧
  (Cond.codeWith y bytes maxL ret hh).before args s = true ∧ (Cond.initialized y.cls).before args s = true ∧ (y.cls ≠ "java/lang/invoke/MethodHandle" ∧ y.cls ≠ "java/lang/invoke/VarHandle") ∧
  (∀ sig, parseMethodDescriptor y.desc = some sig → n = sig.parameters.length) ∧ (Cond.methodLink own index y).before args s = true ∧ (Cond.instanceMethod y).before args s = true ∧ (Cond.selects C y y).before args s = true
theorem vx_cwVW {own C : String} {index maxL mc ms : Nat} {y : MethodName} {bytes : ByteArray} {ret : Option FieldType} {hh : List (Nat × Nat × Nat × Nat)} {Ts ws ws' : List Cond} {rm : Room} (n : Nat) (ht : ∀ w ∈ Ts, w.before args s = true) (hT : GoodIn Ts (wsV own index C y ws)) (hw : ws = Cond.codeWith y bytes maxL ret hh :: ws') (hrc : rm.cells = mc) (hrs : rm.slots = ms)
    (hd : y.cls = C ∧ y.cls ≠ "java/lang/invoke/MethodHandle" ∧ y.cls ≠ "java/lang/invoke/VarHandle" ∧ (parseMethodDescriptor y.desc).map (fun d => d.parameters.length) = some n) (hR : rm.frames + 1 ≤ R.frames ∧ 8 + (maxL + 11) + rm.locals ≤ R.locals) :
    vx_CVW R s args own C index y bytes maxL ret hh ws rm mc ms n := by
  obtain ⟨hC, hd⟩ := hd
  subst hC
  have ok : ∀ w ∈ wsV own index y.cls y ws, w.before args s = true := fun w h => ht w (hT w h).1
  have hG : GoodIn Ts ws := fun w h => hT w (by unfold wsV; exact List.mem_append_right _ h)
  have hc : Cond.codeWith y bytes maxL ret hh ∈ ws := by rw [hw]; exact List.mem_cons_self
  refine ⟨⟨hrc, hrs, hR.1, hR.2, pay_in ht hG, hc⟩, ht _ (hG _ hc).1, ok _ (by simp [wsV]), ⟨hd.1, hd.2.1⟩, fun sig h => ?_, ok _ (by simp [wsV]), ok _ (by simp [wsV]), ok _ (by simp [wsV])⟩
  have h2 := hd.2.2
  rw [h] at h2
  exact (Option.some.inj h2).symm
theorem vx_runVW {y : MethodName} {bytes cc : ByteArray} {maxL nL mc ms n index : Nat} {ret : Option FieldType} {hh : List (Nat × Nat × Nat × Nat)} {ws : List Cond} {rm : Room} {Pc : Array Value → State → Prop} {Qc : Array Value → State → Outcome → State → Prop} {free : Addr → Prop} {Ts : List Cond} {own C : String} {b : Addr} {As rest : List Value} {g : JFrame}
    (S : CallFix p m c cc nL s args Ts own) (hM : Met l y ws rm Pc Qc mc ms free) (cw : vx_CVW R s args own C index y bytes maxL ret hh ws rm mc ms n) (hp : PreV s H C b Pc As)
    (hg : g.method = m) (hn : As.length = n) (hsize : g.locals.size = nL) (hstack : g.stack = As.reverse ++ .ref b :: rest) (hW : 2 * g.monitorRoom + (rest.map fun v => v.category).sum ≤ 8) (hdg : decode cc g.pc = .ok (.invokevirtual index, 3)) (hf : cells + mc ≤ R.cells ∧ slots + ms ≤ R.slots) :
    va_Run p l e R s m args below meth c H locs cells slots mc ms g rest (Qc (Value.ref b :: As).toArray) free := by
  obtain ⟨⟨hrc, hrs, hfr, hlo, hws, hcw⟩, hcode, hini, hy, hlen, hl, hin, hse⟩ := cw
  have hK : Back l R p e below s args y 3 8 (PreOf R mc ms Pc) (PostOf Qc mc ms free) := va_backW (hh := hh) (bytes := bytes) (maxL := maxL) (ret := ret) hM hp.1 hrc hrs hfr hlo hws hcw (fun a' U hW => word_at hW (Or.inl (by first | rfl | simp [Cond.onTables, Cond.keeps, Cond.steady])) hini)
  obtain ⟨hx, hb, hml, ho, -⟩ := S
  obtain ⟨-, ⟨cellB, hcB, hoB, hclB⟩, hPc⟩ := hp
  intro T hT X
  obtain ⟨v, vm₁, ⟨U', l2, c2, s2⟩, hW₁, X', ⟨g', mk, t, L, e1, e2, hq, h1, hL, h2, h3⟩, st⟩ := vx_callVW X hx (C := C) (hh := hh) (bytes := bytes) (maxL := maxL) (ret := ret) ho hl hin hse hcode hy hK (by rw [hT]; exact hcB) hoB hclB hg (hsize.trans hml.symm) (argsL := As) (rest := rest) (fun sig h => hn.trans (hlen sig h)) hstack hW (by rw [hb]; exact hdg)
    (fun vm₁ hW₁ => ⟨hf.1, hf.2, hPc (T.setVm vm₁) hT hW₁⟩)
  dsimp only [Pt.U, Pt.locs, Pt.cells, Pt.slots] at X' e1 e2 h1 h2 h3 st
  subst h1; subst h2; subst h3
  exact ⟨v, (T.setVm vm₁).calling g' mk (Value.ref b :: As).toArray, t, U', L, hT, X', hL, e1, e2, hq, st⟩
section
variable {y : MethodName} {bytes cc : ByteArray} {maxL nL mc ms n index : Nat} {ret : Option FieldType} {ws : List Cond} {rm : Room} {Pc : Array Value → State → Prop} {Qc : Array Value → State → Outcome → State → Prop} {XC : String → State → State → Prop} {free : Addr → Prop} {Ts : List Cond} {own C : String} {b : Addr} {As rest : List Value} {g : JFrame}
theorem vx_runVX {hh : List (Nat × Nat × Nat × Nat)} (S : CallFix p m c cc nL s args Ts own) (hM : vx_Met l y ws rm Pc Qc XC mc ms free) (cw : vx_CVW R s args own C index y bytes maxL ret hh ws rm mc ms n) (hp : PreV s H C b Pc As)
    (hg : g.method = m) (hn : As.length = n) (hsize : g.locals.size = nL) (hstack : g.stack = As.reverse ++ .ref b :: rest) (hW : 2 * g.monitorRoom + (rest.map fun v => v.category).sum ≤ 8) (hdg : decode cc g.pc = .ok (.invokevirtual index, 3)) (hf : cells + mc ≤ R.cells ∧ slots + ms ≤ R.slots) :
    vx_Run p l e R s m args below meth c H locs cells slots mc ms g rest (Qc (Value.ref b :: As).toArray) XC free := by
  obtain ⟨⟨hrc, hrs, hfr, hlo, hws, hcw⟩, hcode, hini, hy, hlen, hl, hin, hse⟩ := cw
  have hK : vx_Back l R p e below s args y 3 8 (PreOf R mc ms Pc) (PostOf Qc mc ms free) (vx_Post XC mc ms free) := vx_backW (hh := hh) (bytes := bytes) (maxL := maxL) (ret := ret) hM hp.1 hrc hrs hfr hlo hws hcw (fun a' U hW => word_at hW (Or.inl (by first | rfl | simp [Cond.onTables, Cond.keeps, Cond.steady])) hini)
  obtain ⟨hx, hb, hml, ho, -⟩ := S
  obtain ⟨-, ⟨cellB, hcB, hoB, hclB⟩, hPc⟩ := hp
  intro T hT X
  rcases vx_callVX X hx (C := C) (hh := hh) (bytes := bytes) (maxL := maxL) (ret := ret) ho hl hin hse hcode hy hK (by rw [hT]; exact hcB) hoB hclB hg (hsize.trans hml.symm) (argsL := As) (rest := rest) (fun sig h => hn.trans (hlen sig h)) hstack hW (by rw [hb]; exact hdg)
    (fun vm₁ hW₁ => ⟨hf.1, hf.2, hPc (T.setVm vm₁) hT hW₁⟩) with ⟨v, vm₁, ⟨U', l2, c2, s2⟩, hW₁, X', ⟨g', mk, t, L, e1, e2, hq, h1, hL, h2, h3⟩, st⟩ | ⟨q, vm₁, ⟨U', l2, c2, s2⟩, hW₁, X', ⟨g', mk, t, L, E, ce, e1, e2, hq, hce, hcv, hcl, h1, hL, h2, h3⟩, st⟩
  · dsimp only [Pt.U, Pt.locs, Pt.cells, Pt.slots] at X' e1 e2 h1 h2 h3 st
    subst h1; subst h2; subst h3
    exact Or.inl ⟨v, (T.setVm vm₁).calling g' mk (Value.ref b :: As).toArray, t, U', L, hT, X', hL, e1, e2, hq, st⟩
  · dsimp only [Pt.U, Pt.locs, Pt.cells, Pt.slots] at X' e1 e2 h1 h2 h3 st hcl
    subst h1; subst h2; subst h3
    exact Or.inr ⟨q, (T.setVm vm₁).calling g' mk (Value.ref b :: As).toArray, t, U', L, E, ce, hT, X', hL, e1, e2, hq, hce, hcv, vx_cls hW₁ hcl, st⟩
theorem vx_runSX {hh : List (Nat × Nat × Nat × Nat)} (S : CallFix p m c cc nL s args Ts own) (hM : vx_Met l y ws rm Pc Qc XC mc ms free) (cw : vx_CSW R s args own index y bytes maxL ret hh ws rm mc ms n) (hp : PreS s H Pc As)
    (hg : g.method = m) (hn : As.length = n) (hsize : g.locals.size = nL) (hstack : g.stack = As.reverse ++ rest) (hW : 2 * g.monitorRoom + (rest.map fun v => v.category).sum ≤ 8) (hdg : decode cc g.pc = .ok (.invokestatic index, 3)) (hf : cells + mc ≤ R.cells ∧ slots + ms ≤ R.slots) :
    vx_Run p l e R s m args below meth c H locs cells slots mc ms g rest (Qc As.toArray) XC free := by
  obtain ⟨⟨hrc, hrs, hfr, hlo, hws, hcw⟩, hcode, hini, hy, hlen, hl, hstt⟩ := cw
  have hK : vx_Back l R p e below s args y 3 8 (PreOf R mc ms Pc) (PostOf Qc mc ms free) (vx_Post XC mc ms free) := vx_backW (hh := hh) (bytes := bytes) (maxL := maxL) (ret := ret) hM hp.1 hrc hrs hfr hlo hws hcw (fun a' U hW => word_at hW (Or.inl (by first | rfl | simp [Cond.onTables, Cond.keeps, Cond.steady])) hini)
  obtain ⟨hx, hb, hml, ho, -⟩ := S
  intro T hT X
  rcases vx_callSX X hx (hh := hh) (bytes := bytes) (maxL := maxL) (ret := ret) ho hl hstt hini hcode hy hK hg (hsize.trans hml.symm) (argsL := As) (rest := rest) (fun sig h => hn.trans (hlen sig h)) hstack hW (by rw [hb]; exact hdg)
    (fun vm₁ hW₁ => ⟨hf.1, hf.2, hp.2 (T.setVm vm₁) hT hW₁⟩) with ⟨v, vm₁, ⟨U', l2, c2, s2⟩, hW₁, X', ⟨g', mk, t, L, e1, e2, hq, h1, hL, h2, h3⟩, st⟩ | ⟨q, vm₁, ⟨U', l2, c2, s2⟩, hW₁, X', ⟨g', mk, t, L, E, ce, e1, e2, hq, hce, hcv, hcl, h1, hL, h2, h3⟩, st⟩
  · dsimp only [Pt.U, Pt.locs, Pt.cells, Pt.slots] at X' e1 e2 h1 h2 h3 st
    subst h1; subst h2; subst h3
    exact Or.inl ⟨v, (T.setVm vm₁).calling g' mk As.toArray, t, U', L, hT, X', hL, e1, e2, hq, st⟩
  · dsimp only [Pt.U, Pt.locs, Pt.cells, Pt.slots] at X' e1 e2 h1 h2 h3 st hcl
    subst h1; subst h2; subst h3
    exact Or.inr ⟨q, (T.setVm vm₁).calling g' mk As.toArray, t, U', L, E, ce, hT, X', hL, e1, e2, hq, hce, hcv, vx_cls hW₁ hcl, st⟩
end
end VXH
theorem vx_ofWH {l : Launch} {y : MethodName} {ws ws' : List Cond} {rm : Room} {Pc : Array Value → State → Prop} {Qc : Array Value → State → Outcome → State → Prop} {XC : String → State → State → Prop} {mc ms : Nat} {free : Addr → Prop} {cc : ByteArray} {maxL : Nat} {ret : Option FieldType} {hh : List (Nat × Nat × Nat × Nat)}
    (hy : plainName y.cls = true) (hw : ws = Cond.codeWith y cc maxL ret hh :: ws')
    (body : ∀ p e s m args below meth c s₁, BodyLoose p l y (headSpec ws rm) cc maxL ret e s m args below meth c s₁ → c.maxLocals = maxL → Pc args s →
      W p l e (headSpec ws rm).room s m args below meth c s.heap [] 0 0 (vx_MQ below Qc XC args s mc ms free) (entryFrame m args maxL)) : vx_Met l y ws rm Pc Qc XC mc ms free := by
  refine MetFree.of_bodyS (code := cc) (maxLocals := maxL) (ret := ret) hy ?_ ?_
  · intro args s m h hn
    obtain ⟨m9, meth, c, hn9, h1, h2, h3, h4, -, h5, h6, -⟩ := Cond.codeWith_spec (atoms_spec (ws := ws) h _ (by rw [hw]; exact List.mem_cons_self))
    cases hn.symm.trans hn9
    exact ⟨meth, c, h1, h2, h3, h4, h5, h6⟩
  · intro p e s m args below meth c s₁ B hml hP _
    have hh0 : s₁.heap = s.heap := by rw [B.state]; rfl
    obtain ⟨t, a1, o, b1, b2, b3⟩ := body p e s m args below meth c s₁ B hml hP s₁ hh0 (Stand.of_body B)
    exact ⟨t, o, a1, b1, b2, b3⟩
/-! ===== END ===== -/
end
section
/-- what a row of fields holds at some places; the rest is not told -/
def hasF (fs : List Value) (n : Nat) (l : List (Nat × Value)) : Prop := fs.length = n ∧ ∀ q ∈ l, fs[q.1]? = some q.2
theorem hasF.at {fs : List Value} {n : Nat} {l : List (Nat × Value)} (h : hasF fs n l) (k : Nat) {i : Nat} {v : Value} (hk : l[k]? = some (i, v)) : fs[i]? = some v := h.2 _ (List.mem_of_getElem? hk)
theorem hasF.sub {fs : List Value} {n : Nat} {l l' : List (Nat × Value)} (h : hasF fs n l) (ks : List Nat) (hl : lv_pick l ks = l') : hasF fs n l' := by
  refine ⟨h.1, fun q hq => ?_⟩
  subst hl
  obtain ⟨i, -, hi⟩ := List.mem_filterMap.mp hq
  exact h.2 q (List.mem_of_getElem? hi)
theorem hasF.app {fs : List Value} {n : Nat} {l l' : List (Nat × Value)} (h : hasF fs n l) (h' : hasF fs n l') : hasF fs n (l ++ l') := ⟨h.1, fun q hq => (List.mem_append.mp hq).elim (h.2 q) (h'.2 q)⟩
theorem hasF.set {fs : List Value} {n : Nat} {l l' : List (Nat × Value)} (h : hasF fs n l) (i : Nat) (v : Value) (hi : i < n) (hl : (i, v) :: l.filter (fun q => !(q.1 == i)) = l') : hasF (fs.set i v) n l' := by
  refine ⟨by rw [List.length_set]; exact h.1, fun q hq => ?_⟩
  subst hl
  rcases List.mem_cons.mp hq with rfl | hq
  · exact List.getElem?_set_self (by rw [h.1]; exact hi)
  · obtain ⟨h1, h2⟩ := List.mem_filter.mp hq
    have hne : ¬ q.1 = i := by simpa using h2
    rw [List.getElem?_set_ne (fun z => hne z.symm)]
    exact h.2 q h1
/-- two rows of fields that are the same but at some places -/
def sameF (f g : List Value) (ks : List Nat) : Prop := g.length = f.length ∧ ∀ j : Nat, j ∉ ks → g[j]? = f[j]?
theorem sameF.rf {f : List Value} : sameF f f [] := ⟨rfl, fun _ _ => rfl⟩
theorem sameF.set {f g : List Value} {ks : List Nat} (h : sameF f g ks) (i : Nat) (v : Value) : sameF f (g.set i v) (i :: ks) := by
  refine ⟨by rw [List.length_set]; exact h.1, fun j hj => ?_⟩
  rw [List.getElem?_set_ne (fun z => hj (by rw [z]; exact List.mem_cons_self))]
  exact h.2 j (fun z => hj (List.mem_cons_of_mem _ z))
theorem sameF.mono {f g : List Value} {ks ks' : List Nat} (h : sameF f g ks) (hk : ∀ x ∈ ks, x ∈ ks') : sameF f g ks' := ⟨h.1, fun j hj => h.2 j (fun z => hj (hk j z))⟩
theorem sameF.trans {f g k : List Value} {a b : List Nat} (h : sameF f g a) (h' : sameF g k b) : sameF f k (b ++ a) :=
  ⟨h'.1.trans h.1, fun j hj => (h'.2 j (fun z => hj (List.mem_append_left _ z))).trans (h.2 j (fun z => hj (List.mem_append_right _ z)))⟩
theorem hasF.same {f g : List Value} {n : Nat} {l l' : List (Nat × Value)} {ks : List Nat} (h : hasF f n l) (hs : sameF f g ks) (hl : l.filter (fun q => !(ks.contains q.1)) = l') : hasF g n l' := by
  refine ⟨hs.1.trans h.1, fun q hq => ?_⟩
  subst hl
  obtain ⟨h1, h2⟩ := List.mem_filter.mp hq
  rw [hs.2 q.1 (by simpa using h2)]
  exact h.2 q h1
section AX
variable {p : Program} {l : Launch} {e : Env} {R : Room} {s : State} {m : MethodId} {args : Array Value} {below : List Frame} {meth : Method} {c : Code} {H : Heap} {locs : List Loc} {cells slots : Nat} {Q : State → Prop}
/-- athrow of a thing that is there -/
theorem ax_athrow {cc : ByteArray} {pc : Nat} {ls : Array Slot} {rest : List Value} {q : Nat} (hexec : p.tables.exec = Jvm.exec) (hb : c.code = cc) (hdg : decode cc pc = .ok (.athrow, 1))
    (kk : vx_W p l e R s m args below meth c H locs cells slots Q (F0 m pc ls rest) q) : W p l e R s m args below meth c H locs cells slots Q (F0 m pc ls (.ref q :: rest)) := by
  intro T hT X
  obtain ⟨t, a, b⟩ := kk T hT X
  refine ⟨t, ?_, b⟩
  have hdg' : decode c.code pc = .ok (.athrow, 1) := by rw [hb]; exact hdg
  jvm_step X.here [X.here.top, hexec, hdg', athrow.wp_sem]
  exact a
end AX
/-! a throw that is caught here: the search through the rows of the method's own table -/
section CX
/-- from the rows on, in the state S, the search comes to the handler h and leaves the tables v -/
def cx_F (e : Env) (S : State) (f : JFrame) (a : Addr) (rows : List ExceptionTableEntry) (h : Nat) (v : Vm) : Prop :=
  ∀ (Q : Handler → Pre) (E : CtlPost) (d : Bool) (acts : List Action), wp (findHandler.go f a rows) Q E e d acts S ↔ Q (.found h) d acts (S.setVm v)
/-- the first row takes it -/
theorem cx_hit {e : Env} {s0 S : State} {f : JFrame} {a : Addr} {x : ExceptionTableEntry} {t : List ExceptionTableEntry} {k : ClassId} {cell : Cell} (hx : covers x f.pc = true) (h0 : x.catchType ≠ 0)
    (hW : s0.WarmedH S.vm) (hl : s0.vm.ClassLinks e.platform f.method.cls x.catchType k) (hcell : S.heap[a]? = some cell) (hobj : ∀ z, cell.vm ≠ .statics z)
    (hk : ∃ z, s0.vm.classes[cell.cls]? = some z) (hfit : s0.vm.assignable cell.cls k = true) :
    ∃ v, s0.WarmedH v ∧ cx_F e S f a (x :: t) x.handlerPc v := by
  obtain ⟨d1, _, _, kt, hd, _, _, _, _, hkt, _, hopen⟩ := hl.here
  have hS := hW.classLinks hl
  refine ⟨_, hW.noted hd hopen (State.rightAt_cls hl), fun Q E d acts => ?_⟩
  have hal : S.vm.Alike (S.vm.noted f.method.cls x.catchType (.cls k)) := (Vm.Alike.refl S.vm).noted _ _ _
  obtain ⟨ha, ht⟩ := (resolveClass_links e.toSetting hS).op (op := VmOp.resolveClass f.method.cls x.catchType) rfl
  obtain ⟨z1, hz1⟩ := hk
  obtain ⟨y1, hy1, -⟩ := hW.alike.2.2 _ _ hz1
  obtain ⟨y2, hy2, -⟩ := hW.alike.2.2 _ _ hkt
  obtain ⟨u1, hu1, -⟩ := hal.2.2 _ _ hy1
  obtain ⟨u2, hu2, -⟩ := hal.2.2 _ _ hy2
  have hf : (S.vm.noted f.method.cls x.catchType (.cls k)).assignable cell.cls k = true := by rw [hal.assignable, hW.alike.assignable]; exact hfit
  simp only [covers] at hx
  simp [findHandler.go, hx, h0, ha, ht, hcell, hobj, hu1, hu2, hf, VmOp.dirties, VmOp.acts]
/-- the first row covers the place, and names a class that it isn't -/
theorem cx_miss {e : Env} {s0 S : State} {f : JFrame} {a : Addr} {x : ExceptionTableEntry} {t : List ExceptionTableEntry} {k : ClassId} {cell : Cell} {h : Nat} (hx : covers x f.pc = true) (h0 : x.catchType ≠ 0)
    (hW : s0.WarmedH S.vm) (hl : s0.vm.ClassLinks e.platform f.method.cls x.catchType k) (hcell : S.heap[a]? = some cell) (hobj : ∀ z, cell.vm ≠ .statics z)
    (hk : ∃ z, s0.vm.classes[cell.cls]? = some z) (hno : s0.vm.assignable cell.cls k = false)
    (rest : ∀ S1 : State, S1.heap = S.heap → s0.WarmedH S1.vm → ∃ v, s0.WarmedH v ∧ cx_F e S1 f a t h v) :
    ∃ v, s0.WarmedH v ∧ cx_F e S f a (x :: t) h v := by
  obtain ⟨d1, _, _, kt, hd, _, _, _, _, hkt, _, hopen⟩ := hl.here
  have hS := hW.classLinks hl
  obtain ⟨v, hv, hF⟩ := rest (S.setVm (S.vm.noted f.method.cls x.catchType (.cls k))) rfl (hW.noted hd hopen (State.rightAt_cls hl))
  refine ⟨v, hv, fun Q E d acts => ?_⟩
  have hal : S.vm.Alike (S.vm.noted f.method.cls x.catchType (.cls k)) := (Vm.Alike.refl S.vm).noted _ _ _
  obtain ⟨ha, ht⟩ := (resolveClass_links e.toSetting hS).op (op := VmOp.resolveClass f.method.cls x.catchType) rfl
  obtain ⟨z1, hz1⟩ := hk
  obtain ⟨y1, hy1, -⟩ := hW.alike.2.2 _ _ hz1
  obtain ⟨y2, hy2, -⟩ := hW.alike.2.2 _ _ hkt
  obtain ⟨u1, hu1, -⟩ := hal.2.2 _ _ hy1
  obtain ⟨u2, hu2, -⟩ := hal.2.2 _ _ hy2
  have hf : (S.vm.noted f.method.cls x.catchType (.cls k)).assignable cell.cls k = false := by rw [hal.assignable, hW.alike.assignable]; exact hno
  have h2 := hF Q E d acts
  simp only [covers] at hx
  simp [findHandler.go, hx, h0, ha, ht, hcell, hobj, hu1, hu2, hf, VmOp.dirties, VmOp.acts]
  exact h2
variable {p : Program} {l : Launch} {e : Env} {R : Room} {s : State} {m : MethodId} {args : Array Value} {below : List Frame} {meth : Method} {c : Code} {H : Heap} {locs : List Loc} {cells slots : Nat} {Q : State → Prop}
/-- what was thrown over the frame is caught where the search comes to -/
theorem cx_go {pc h : Nat} {ls : Array Slot} {rest : List Value} {q : Addr}
    (hF : ∀ S : State, S.heap = H → s.WarmedH S.vm → ∃ v, s.WarmedH v ∧ cx_F e S (F0 m pc ls rest) q c.exceptionTable.toList h v)
    (kk : W p l e R s m args below meth c H locs cells slots Q (F0 m h ls [.ref q])) : vx_W p l e R s m args below meth c H locs cells slots Q (F0 m pc ls rest) q := by
  intro T hT X
  obtain ⟨v, hv, hf⟩ := hF ((T.setTop (F0 m pc ls rest)).pushFrame (.throwing q)) hT X.warmed
  obtain ⟨t, a1, b1⟩ := kk (T.setVm v) hT (X.noted hv)
  refine ⟨t, ?_, b1⟩
  have hall : ∀ (Q : Handler → Pre) (E : CtlPost) (d : Bool) (acts : List Action), wp (findHandler (F0 m pc ls rest) q) Q E e d acts ((T.setTop (F0 m pc ls rest)).pushFrame (.throwing q)) ↔ Q (.found h) d acts (((T.setTop (F0 m pc ls rest)).pushFrame (.throwing q)).setVm v) := fun Q E d acts => by
    rw [W.findHandler_eq (f := F0 m pc ls rest) (s := ((T.setTop (F0 m pc ls rest)).pushFrame (.throwing q))) (meth := meth) (code := c) X.method' X.code]
    exact hf Q E d acts
  obtain ⟨g1, g2⟩ := X.here.throwing q (g := F0 m pc ls rest)
  refine Steps.head g1 g2 ?_
  obtain ⟨j0, hj⟩ := Option.isSome_iff_exists.mp X.here.top
  obtain ⟨r, hr⟩ := State.topJava?_eq_some.mp hj
  have hr2 : (T.setVm v).frames = .java j0 :: r := hr
  have st : (stepThrowing e ((T.setTop (F0 m pc ls rest)).pushFrame (.throwing q)) q (.java (F0 m pc ls rest) :: r)).Is ((((T.setTop (F0 m pc ls rest)).pushFrame (.throwing q)).setVm v).setFrames (.java { F0 m pc ls rest with pc := h, stack := [.ref q] } :: r)) [] := by
    simp only [stepThrowing, searchFrame, vmDo]
    generalize hgo : Sem.go _ e false [] ((T.setTop (F0 m pc ls rest)).pushFrame (.throwing q)) = res
    obtain ⟨as, rfl, h3⟩ := Sem.eq_ok_of hgo (a := Handler.found h) (s' := ((T.setTop (F0 m pc ls rest)).pushFrame (.throwing q)).setVm v) (acts' := []) (by simp [hall])
    exact ⟨rfl, h3⟩
  rw [stepThread_throwing (frames_entered X.here.top _), hr, List.tail_cons, st.1]
  have e1 : (((T.setTop (F0 m pc ls rest)).pushFrame (.throwing q)).setVm v).setFrames (.java { F0 m pc ls rest with pc := h, stack := [.ref q] } :: r) = (T.setVm v).setTop (F0 m h ls [.ref q]) := by
    have swap : ∀ (u : State) (F : List Frame), (u.setFrames F).setVm v = (u.setVm v).setFrames F := fun _ _ => rfl
    rw [State.setTop_of_frames _ hr2, State.pushFrame, State.setTop_of_frames _ hr, State.setFrames_setFrames, swap, State.setFrames_setFrames]
  rw [e1]
  exact a1
end CX
/-! a new thing's fields, and the classes of arrays -/
def dfs (n : Nat) (ty : Nat → FieldType) : List Value := (List.range n).map (fun j => defaultValue (ty j))
theorem dfs_ok {n : Nat} {ty : Nat → FieldType} : ∀ j, j < n → defaultValue (ty j) = vp_V (dfs n ty) j := by
  intro j hj
  simp [vp_V, dfs, List.getD, hj]
theorem dfs_has {n : Nat} {ty : Nat → FieldType} {l : List (Nat × Value)} (h : ∀ q ∈ l, q.1 < n ∧ defaultValue (ty q.1) = q.2) : hasF (dfs n ty) n l := by
  refine ⟨by simp [dfs], fun q hq => ?_⟩
  obtain ⟨h1, h2⟩ := h q hq
  simp [dfs, h1, h2]
theorem kU_int {D : va_G} {cl : List vw_C} {tys : List (ClassId × FieldType)} {U : State} (h : va_K D cl tys U) {a b : ClassId} (i j : Nat) (hi : tys[i]? = some (a, .int)) (hj : tys[j]? = some (b, .int)) : a = b := Option.some.inj ((show U.vm.findClass _ = some a from (h.2 i _ hi).2).symm.trans (show U.vm.findClass _ = some b from (h.2 j _ hj).2))
theorem kU_long {D : va_G} {cl : List vw_C} {tys : List (ClassId × FieldType)} {U : State} (h : va_K D cl tys U) {a b : ClassId} (i j : Nat) (hi : tys[i]? = some (a, .long)) (hj : tys[j]? = some (b, .long)) : a = b := Option.some.inj ((show U.vm.findClass _ = some a from (h.2 i _ hi).2).symm.trans (show U.vm.findClass _ = some b from (h.2 j _ hj).2))
theorem kU_byte {D : va_G} {cl : List vw_C} {tys : List (ClassId × FieldType)} {U : State} (h : va_K D cl tys U) {a b : ClassId} (i j : Nat) (hi : tys[i]? = some (a, .byte)) (hj : tys[j]? = some (b, .byte)) : a = b := Option.some.inj ((show U.vm.findClass _ = some a from (h.2 i _ hi).2).symm.trans (show U.vm.findClass _ = some b from (h.2 j _ hj).2))
theorem kU_boolean {D : va_G} {cl : List vw_C} {tys : List (ClassId × FieldType)} {U : State} (h : va_K D cl tys U) {a b : ClassId} (i j : Nat) (hi : tys[i]? = some (a, .boolean)) (hj : tys[j]? = some (b, .boolean)) : a = b := Option.some.inj ((show U.vm.findClass _ = some a from (h.2 i _ hi).2).symm.trans (show U.vm.findClass _ = some b from (h.2 j _ hj).2))
theorem na_int (n : Nat) : ∀ cA : ClassId, vp_cell cA (n, .inl (fun _ => 0)) = arrV cA n (fun _ => defaultValue .int) := fun _ => rfl
theorem na_byte (n : Nat) : ∀ cA : ClassId, vp_cell cA (n, .inl (fun _ => 0)) = arrV cA n (fun _ => defaultValue .byte) := fun _ => rfl
theorem na_boolean (n : Nat) : ∀ cA : ClassId, vp_cell cA (n, .inl (fun _ => 0)) = arrV cA n (fun _ => defaultValue .boolean) := fun _ => rfl
theorem na_long (n : Nat) : ∀ cA : ClassId, vp_cell cA (n, .inr (.inl (fun _ => 0))) = arrV cA n (fun _ => defaultValue .long) := fun _ => rfl
end
section
theorem dX14_put_0 : decode cX14_put 0 = .ok (.bipush 24, 2) := by decide +kernel
theorem dX14_put_2 : decode cX14_put 2 = .ok (.istore_n 2, 1) := by decide +kernel
theorem dX14_put_3 : decode cX14_put 3 = .ok (.iload_n 2, 1) := by decide +kernel
theorem dX14_put_4 : decode cX14_put 4 = .ok (.ifCond .lt 35, 3) := by decide +kernel
theorem dX14_put_7 : decode cX14_put 7 = .ok (.aload_n 0, 1) := by decide +kernel
theorem dX14_put_8 : decode cX14_put 8 = .ok (.getfield 16, 3) := by decide +kernel
theorem dX14_put_11 : decode cX14_put 11 = .ok (.aload_n 0, 1) := by decide +kernel
theorem dX14_put_12 : decode cX14_put 12 = .ok (.getfield 333, 3) := by decide +kernel
theorem dX14_put_15 : decode cX14_put 15 = .ok (.iload_n 1, 1) := by decide +kernel
theorem dX14_put_16 : decode cX14_put 16 = .ok (.iload_n 2, 1) := by decide +kernel
theorem dX14_put_17 : decode cX14_put 17 = .ok (.ishr, 1) := by decide +kernel
theorem dX14_put_18 : decode cX14_put 18 = .ok (.sipush 255, 3) := by decide +kernel
theorem dX14_put_21 : decode cX14_put 21 = .ok (.iand, 1) := by decide +kernel
theorem dX14_put_22 : decode cX14_put 22 = .ok (.iastore, 1) := by decide +kernel
theorem dX14_put_23 : decode cX14_put 23 = .ok (.aload_n 0, 1) := by decide +kernel
theorem dX14_put_24 : decode cX14_put 24 = .ok (.dup, 1) := by decide +kernel
theorem dX14_put_25 : decode cX14_put 25 = .ok (.getfield 333, 3) := by decide +kernel
theorem dX14_put_28 : decode cX14_put 28 = .ok (.iconst 1, 1) := by decide +kernel
theorem dX14_put_29 : decode cX14_put 29 = .ok (.iadd, 1) := by decide +kernel
theorem dX14_put_30 : decode cX14_put 30 = .ok (.putfield 333, 3) := by decide +kernel
theorem dX14_put_33 : decode cX14_put 33 = .ok (.iinc 2 (-8), 3) := by decide +kernel
theorem dX14_put_36 : decode cX14_put 36 = .ok (.goto (-33), 3) := by decide +kernel
theorem dX14_put_39 : decode cX14_put 39 = .ok (.return_, 1) := by decide +kernel
theorem dX14_feed_0 : decode cX14_feed 0 = .ok (.aload_n 0, 1) := by decide +kernel
theorem dX14_feed_1 : decode cX14_feed 1 = .ok (.iconst 0, 1) := by decide +kernel
theorem dX14_feed_2 : decode cX14_feed 2 = .ok (.putfield 329, 3) := by decide +kernel
theorem dX14_feed_5 : decode cX14_feed 5 = .ok (.aload_n 0, 1) := by decide +kernel
theorem dX14_feed_6 : decode cX14_feed 6 = .ok (.getfield 333, 3) := by decide +kernel
theorem dX14_feed_9 : decode cX14_feed 9 = .ok (.bipush 20, 2) := by decide +kernel
theorem dX14_feed_11 : decode cX14_feed 11 = .ok (.iadd, 1) := by decide +kernel
theorem dX14_feed_12 : decode cX14_feed 12 = .ok (.sipush 4000, 3) := by decide +kernel
theorem dX14_feed_15 : decode cX14_feed 15 = .ok (.if_icmp .le 5, 3) := by decide +kernel
theorem dX14_feed_18 : decode cX14_feed 18 = .ok (.iconst (-1), 1) := by decide +kernel
theorem dX14_feed_19 : decode cX14_feed 19 = .ok (.ireturn, 1) := by decide +kernel
theorem dX14_feed_20 : decode cX14_feed 20 = .ok (.aload_n 0, 1) := by decide +kernel
theorem dX14_feed_21 : decode cX14_feed 21 = .ok (.iload_n 1, 1) := by decide +kernel
theorem dX14_feed_22 : decode cX14_feed 22 = .ok (.invokevirtual 336, 3) := by decide +kernel
theorem dX14_feed_25 : decode cX14_feed 25 = .ok (.aload_n 0, 1) := by decide +kernel
theorem dX14_feed_26 : decode cX14_feed 26 = .ok (.iload_n 2, 1) := by decide +kernel
theorem dX14_feed_27 : decode cX14_feed 27 = .ok (.invokevirtual 336, 3) := by decide +kernel
theorem dX14_feed_30 : decode cX14_feed 30 = .ok (.aload_n 0, 1) := by decide +kernel
theorem dX14_feed_31 : decode cX14_feed 31 = .ok (.iload_n 3, 1) := by decide +kernel
theorem dX14_feed_32 : decode cX14_feed 32 = .ok (.invokevirtual 336, 3) := by decide +kernel
theorem dX14_feed_35 : decode cX14_feed 35 = .ok (.aload_n 0, 1) := by decide +kernel
theorem dX14_feed_36 : decode cX14_feed 36 = .ok (.iload 4, 2) := by decide +kernel
theorem dX14_feed_38 : decode cX14_feed 38 = .ok (.invokevirtual 336, 3) := by decide +kernel
theorem dX14_feed_41 : decode cX14_feed 41 = .ok (.aload_n 0, 1) := by decide +kernel
theorem dX14_feed_42 : decode cX14_feed 42 = .ok (.iload 5, 2) := by decide +kernel
theorem dX14_feed_44 : decode cX14_feed 44 = .ok (.invokevirtual 336, 3) := by decide +kernel
theorem dX14_feed_47 : decode cX14_feed 47 = .ok (.aload_n 0, 1) := by decide +kernel
theorem dX14_feed_48 : decode cX14_feed 48 = .ok (.getfield 333, 3) := by decide +kernel
theorem dX14_feed_51 : decode cX14_feed 51 = .ok (.ireturn, 1) := by decide +kernel
theorem dX14_back_0 : decode cX14_back 0 = .ok (.aload_n 0, 1) := by decide +kernel
theorem dX14_back_1 : decode cX14_back 1 = .ok (.iconst 0, 1) := by decide +kernel
theorem dX14_back_2 : decode cX14_back 2 = .ok (.putfield 329, 3) := by decide +kernel
theorem dX14_back_5 : decode cX14_back 5 = .ok (.iload_n 1, 1) := by decide +kernel
theorem dX14_back_6 : decode cX14_back 6 = .ok (.ifCond .lt 11, 3) := by decide +kernel
theorem dX14_back_9 : decode cX14_back 9 = .ok (.iload_n 1, 1) := by decide +kernel
theorem dX14_back_10 : decode cX14_back 10 = .ok (.aload_n 0, 1) := by decide +kernel
theorem dX14_back_11 : decode cX14_back 11 = .ok (.getfield 333, 3) := by decide +kernel
theorem dX14_back_14 : decode cX14_back 14 = .ok (.if_icmp .le 5, 3) := by decide +kernel
theorem dX14_back_17 : decode cX14_back 17 = .ok (.iconst (-1), 1) := by decide +kernel
theorem dX14_back_18 : decode cX14_back 18 = .ok (.ireturn, 1) := by decide +kernel
theorem dX14_back_19 : decode cX14_back 19 = .ok (.aload_n 0, 1) := by decide +kernel
theorem dX14_back_20 : decode cX14_back 20 = .ok (.dup, 1) := by decide +kernel
theorem dX14_back_21 : decode cX14_back 21 = .ok (.getfield 333, 3) := by decide +kernel
theorem dX14_back_24 : decode cX14_back 24 = .ok (.iload_n 1, 1) := by decide +kernel
theorem dX14_back_25 : decode cX14_back 25 = .ok (.isub, 1) := by decide +kernel
theorem dX14_back_26 : decode cX14_back 26 = .ok (.putfield 333, 3) := by decide +kernel
theorem dX14_back_29 : decode cX14_back 29 = .ok (.aload_n 0, 1) := by decide +kernel
theorem dX14_back_30 : decode cX14_back 30 = .ok (.getfield 333, 3) := by decide +kernel
theorem dX14_back_33 : decode cX14_back 33 = .ok (.ireturn, 1) := by decide +kernel
theorem dX14_thrown_0 : decode cX14_thrown 0 = .ok (.aload_n 0, 1) := by decide +kernel
theorem dX14_thrown_1 : decode cX14_thrown 1 = .ok (.getfield 329, 3) := by decide +kernel
theorem dX14_thrown_4 : decode cX14_thrown 4 = .ok (.ireturn, 1) := by decide +kernel
theorem dX14_count_0 : decode cX14_count 0 = .ok (.aload_n 0, 1) := by decide +kernel
theorem dX14_count_1 : decode cX14_count 1 = .ok (.iconst 0, 1) := by decide +kernel
theorem dX14_count_2 : decode cX14_count 2 = .ok (.putfield 329, 3) := by decide +kernel
theorem dX14_count_5 : decode cX14_count 5 = .ok (.iload_n 1, 1) := by decide +kernel
theorem dX14_count_6 : decode cX14_count 6 = .ok (.ifCond .lt 9, 3) := by decide +kernel
theorem dX14_count_9 : decode cX14_count 9 = .ok (.iload_n 1, 1) := by decide +kernel
theorem dX14_count_10 : decode cX14_count 10 = .ok (.bipush 12, 2) := by decide +kernel
theorem dX14_count_12 : decode cX14_count 12 = .ok (.if_icmp .le 5, 3) := by decide +kernel
theorem dX14_count_15 : decode cX14_count 15 = .ok (.iconst (-1), 1) := by decide +kernel
theorem dX14_count_16 : decode cX14_count 16 = .ok (.ireturn, 1) := by decide +kernel
theorem dX14_count_17 : decode cX14_count 17 = .ok (.aload_n 0, 1) := by decide +kernel
theorem dX14_count_18 : decode cX14_count 18 = .ok (.getfield 844, 3) := by decide +kernel
theorem dX14_count_21 : decode cX14_count 21 = .ok (.ifCond .eq 15, 3) := by decide +kernel
theorem dX14_count_24 : decode cX14_count 24 = .ok (.iload_n 1, 1) := by decide +kernel
theorem dX14_count_25 : decode cX14_count 25 = .ok (.iconst 4, 1) := by decide +kernel
theorem dX14_count_26 : decode cX14_count 26 = .ok (.if_icmp .le 12, 3) := by decide +kernel
theorem dX14_count_29 : decode cX14_count 29 = .ok (.aload_n 0, 1) := by decide +kernel
theorem dX14_count_30 : decode cX14_count 30 = .ok (.getfield 847, 3) := by decide +kernel
theorem dX14_count_33 : decode cX14_count 33 = .ok (.ifCond .ne 5, 3) := by decide +kernel
theorem dX14_count_36 : decode cX14_count 36 = .ok (.iconst 0, 1) := by decide +kernel
theorem dX14_count_37 : decode cX14_count 37 = .ok (.ireturn, 1) := by decide +kernel
theorem dX14_count_38 : decode cX14_count 38 = .ok (.iload_n 1, 1) := by decide +kernel
theorem dX14_count_39 : decode cX14_count 39 = .ok (.tableswitch 165 0 11 #[61, 66, 71, 76, 83, 88, 93, 98, 103, 108, 143, 160], 61) := by decide +kernel
theorem dX14_count_100 : decode cX14_count 100 = .ok (.aload_n 0, 1) := by decide +kernel
theorem dX14_count_101 : decode cX14_count 101 = .ok (.getfield 853, 3) := by decide +kernel
theorem dX14_count_104 : decode cX14_count 104 = .ok (.ireturn, 1) := by decide +kernel
theorem dX14_count_105 : decode cX14_count 105 = .ok (.aload_n 0, 1) := by decide +kernel
theorem dX14_count_106 : decode cX14_count 106 = .ok (.getfield 571, 3) := by decide +kernel
theorem dX14_count_109 : decode cX14_count 109 = .ok (.ireturn, 1) := by decide +kernel
theorem dX14_count_110 : decode cX14_count 110 = .ok (.aload_n 0, 1) := by decide +kernel
theorem dX14_count_111 : decode cX14_count 111 = .ok (.getfield 547, 3) := by decide +kernel
theorem dX14_count_114 : decode cX14_count 114 = .ok (.ireturn, 1) := by decide +kernel
theorem dX14_count_115 : decode cX14_count 115 = .ok (.aload_n 0, 1) := by decide +kernel
theorem dX14_count_116 : decode cX14_count 116 = .ok (.getfield 544, 3) := by decide +kernel
theorem dX14_count_119 : decode cX14_count 119 = .ok (.iconst 5, 1) := by decide +kernel
theorem dX14_count_120 : decode cX14_count 120 = .ok (.isub, 1) := by decide +kernel
theorem dX14_count_121 : decode cX14_count 121 = .ok (.ireturn, 1) := by decide +kernel
theorem dX14_count_122 : decode cX14_count 122 = .ok (.aload_n 0, 1) := by decide +kernel
theorem dX14_count_123 : decode cX14_count 123 = .ok (.getfield 783, 3) := by decide +kernel
theorem dX14_count_126 : decode cX14_count 126 = .ok (.ireturn, 1) := by decide +kernel
theorem dX14_count_127 : decode cX14_count 127 = .ok (.aload_n 0, 1) := by decide +kernel
theorem dX14_count_128 : decode cX14_count 128 = .ok (.getfield 847, 3) := by decide +kernel
theorem dX14_count_131 : decode cX14_count 131 = .ok (.ireturn, 1) := by decide +kernel
theorem dX14_count_132 : decode cX14_count 132 = .ok (.aload_n 0, 1) := by decide +kernel
theorem dX14_count_133 : decode cX14_count 133 = .ok (.getfield 966, 3) := by decide +kernel
theorem dX14_count_136 : decode cX14_count 136 = .ok (.ireturn, 1) := by decide +kernel
theorem dX14_count_137 : decode cX14_count 137 = .ok (.aload_n 0, 1) := by decide +kernel
theorem dX14_count_138 : decode cX14_count 138 = .ok (.getfield 934, 3) := by decide +kernel
theorem dX14_count_141 : decode cX14_count 141 = .ok (.ireturn, 1) := by decide +kernel
theorem dX14_count_142 : decode cX14_count 142 = .ok (.aload_n 0, 1) := by decide +kernel
theorem dX14_count_143 : decode cX14_count 143 = .ok (.getfield 969, 3) := by decide +kernel
theorem dX14_count_146 : decode cX14_count 146 = .ok (.ireturn, 1) := by decide +kernel
theorem dX14_count_147 : decode cX14_count 147 = .ok (.aload_n 0, 1) := by decide +kernel
theorem dX14_count_148 : decode cX14_count 148 = .ok (.getfield 847, 3) := by decide +kernel
theorem dX14_count_151 : decode cX14_count 151 = .ok (.iconst 1, 1) := by decide +kernel
theorem dX14_count_152 : decode cX14_count 152 = .ok (.if_icmp .eq 5, 3) := by decide +kernel
theorem dX14_count_155 : decode cX14_count 155 = .ok (.iconst 0, 1) := by decide +kernel
theorem dX14_count_156 : decode cX14_count 156 = .ok (.ireturn, 1) := by decide +kernel
theorem dX14_count_157 : decode cX14_count 157 = .ok (.aload_n 0, 1) := by decide +kernel
theorem dX14_count_158 : decode cX14_count 158 = .ok (.aload_n 0, 1) := by decide +kernel
theorem dX14_count_159 : decode cX14_count 159 = .ok (.getfield 919, 3) := by decide +kernel
theorem dX14_count_162 : decode cX14_count 162 = .ok (.ifCond .eq 7, 3) := by decide +kernel
theorem dX14_count_165 : decode cX14_count 165 = .ok (.iconst (-1), 1) := by decide +kernel
theorem dX14_count_166 : decode cX14_count 166 = .ok (.goto 7, 3) := by decide +kernel
theorem dX14_count_169 : decode cX14_count 169 = .ok (.aload_n 0, 1) := by decide +kernel
theorem dX14_count_170 : decode cX14_count 170 = .ok (.getfield 984, 3) := by decide +kernel
theorem dX14_count_173 : decode cX14_count 173 = .ok (.iconst 0, 1) := by decide +kernel
theorem dX14_count_174 : decode cX14_count 174 = .ok (.invokevirtual 898, 3) := by decide +kernel
theorem dX14_count_177 : decode cX14_count 177 = .ok (.aload_n 0, 1) := by decide +kernel
theorem dX14_count_178 : decode cX14_count 178 = .ok (.getfield 892, 3) := by decide +kernel
theorem dX14_count_181 : decode cX14_count 181 = .ok (.ireturn, 1) := by decide +kernel
theorem dX14_count_182 : decode cX14_count 182 = .ok (.aload_n 0, 1) := by decide +kernel
theorem dX14_count_183 : decode cX14_count 183 = .ok (.getfield 847, 3) := by decide +kernel
theorem dX14_count_186 : decode cX14_count 186 = .ok (.iconst 1, 1) := by decide +kernel
theorem dX14_count_187 : decode cX14_count 187 = .ok (.if_icmp .ne 10, 3) := by decide +kernel
theorem dX14_count_190 : decode cX14_count 190 = .ok (.aload_n 0, 1) := by decide +kernel
theorem dX14_count_191 : decode cX14_count 191 = .ok (.getfield 925, 3) := by decide +kernel
theorem dX14_count_194 : decode cX14_count 194 = .ok (.goto 4, 3) := by decide +kernel
theorem dX14_count_197 : decode cX14_count 197 = .ok (.iconst 0, 1) := by decide +kernel
theorem dX14_count_198 : decode cX14_count 198 = .ok (.ireturn, 1) := by decide +kernel
theorem dX14_count_199 : decode cX14_count 199 = .ok (.aload_n 0, 1) := by decide +kernel
theorem dX14_count_200 : decode cX14_count 200 = .ok (.getfield 972, 3) := by decide +kernel
theorem dX14_count_203 : decode cX14_count 203 = .ok (.ireturn, 1) := by decide +kernel
theorem dX14_count_204 : decode cX14_count 204 = .ok (.aload_n 0, 1) := by decide +kernel
theorem dX14_count_205 : decode cX14_count 205 = .ok (.getfield 975, 3) := by decide +kernel
theorem dX14_count_208 : decode cX14_count 208 = .ok (.ireturn, 1) := by decide +kernel
theorem dX14_isDefinition_0 : decode cX14_isDefinition 0 = .ok (.aload_n 0, 1) := by decide +kernel
theorem dX14_isDefinition_1 : decode cX14_isDefinition 1 = .ok (.getfield 844, 3) := by decide +kernel
theorem dX14_isDefinition_4 : decode cX14_isDefinition 4 = .ok (.ifCond .eq 19, 3) := by decide +kernel
theorem dX14_isDefinition_7 : decode cX14_isDefinition 7 = .ok (.iload_n 1, 1) := by decide +kernel
theorem dX14_isDefinition_8 : decode cX14_isDefinition 8 = .ok (.ifCond .lt 15, 3) := by decide +kernel
theorem dX14_isDefinition_11 : decode cX14_isDefinition 11 = .ok (.iload_n 1, 1) := by decide +kernel
theorem dX14_isDefinition_12 : decode cX14_isDefinition 12 = .ok (.aload_n 0, 1) := by decide +kernel
theorem dX14_isDefinition_13 : decode cX14_isDefinition 13 = .ok (.getfield 571, 3) := by decide +kernel
theorem dX14_isDefinition_16 : decode cX14_isDefinition 16 = .ok (.if_icmp .ge 7, 3) := by decide +kernel
theorem dX14_isDefinition_19 : decode cX14_isDefinition 19 = .ok (.iconst 1, 1) := by decide +kernel
theorem dX14_isDefinition_20 : decode cX14_isDefinition 20 = .ok (.goto 4, 3) := by decide +kernel
theorem dX14_isDefinition_23 : decode cX14_isDefinition 23 = .ok (.iconst 0, 1) := by decide +kernel
theorem dX14_isDefinition_24 : decode cX14_isDefinition 24 = .ok (.ireturn, 1) := by decide +kernel
theorem dX14_sign_0 : decode cX14_sign 0 = .ok (.aload_n 0, 1) := by decide +kernel
theorem dX14_sign_1 : decode cX14_sign 1 = .ok (.iconst 0, 1) := by decide +kernel
theorem dX14_sign_2 : decode cX14_sign 2 = .ok (.putfield 329, 3) := by decide +kernel
theorem dX14_sign_5 : decode cX14_sign 5 = .ok (.aload_n 0, 1) := by decide +kernel
theorem dX14_sign_6 : decode cX14_sign 6 = .ok (.iload_n 1, 1) := by decide +kernel
theorem dX14_sign_7 : decode cX14_sign 7 = .ok (.invokevirtual 1084, 3) := by decide +kernel
theorem dX14_sign_10 : decode cX14_sign 10 = .ok (.ifCond .eq 26, 3) := by decide +kernel
theorem dX14_sign_13 : decode cX14_sign 13 = .ok (.iload_n 2, 1) := by decide +kernel
theorem dX14_sign_14 : decode cX14_sign 14 = .ok (.ifCond .lt 22, 3) := by decide +kernel
theorem dX14_sign_17 : decode cX14_sign 17 = .ok (.iload_n 2, 1) := by decide +kernel
theorem dX14_sign_18 : decode cX14_sign 18 = .ok (.aload_n 0, 1) := by decide +kernel
theorem dX14_sign_19 : decode cX14_sign 19 = .ok (.getfield 251, 3) := by decide +kernel
theorem dX14_sign_22 : decode cX14_sign 22 = .ok (.iload_n 1, 1) := by decide +kernel
theorem dX14_sign_23 : decode cX14_sign 23 = .ok (.iconst 1, 1) := by decide +kernel
theorem dX14_sign_24 : decode cX14_sign 24 = .ok (.iadd, 1) := by decide +kernel
theorem dX14_sign_25 : decode cX14_sign 25 = .ok (.iaload, 1) := by decide +kernel
theorem dX14_sign_26 : decode cX14_sign 26 = .ok (.aload_n 0, 1) := by decide +kernel
theorem dX14_sign_27 : decode cX14_sign 27 = .ok (.getfield 251, 3) := by decide +kernel
theorem dX14_sign_30 : decode cX14_sign 30 = .ok (.iload_n 1, 1) := by decide +kernel
theorem dX14_sign_31 : decode cX14_sign 31 = .ok (.iaload, 1) := by decide +kernel
theorem dX14_sign_32 : decode cX14_sign 32 = .ok (.isub, 1) := by decide +kernel
theorem dX14_sign_33 : decode cX14_sign 33 = .ok (.if_icmp .lt 7, 3) := by decide +kernel
theorem dX14_sign_36 : decode cX14_sign 36 = .ok (.iconst (-1), 1) := by decide +kernel
theorem dX14_sign_37 : decode cX14_sign 37 = .ok (.goto 16, 3) := by decide +kernel
theorem dX14_sign_40 : decode cX14_sign 40 = .ok (.aload_n 0, 1) := by decide +kernel
theorem dX14_sign_41 : decode cX14_sign 41 = .ok (.getfield 247, 3) := by decide +kernel
theorem dX14_sign_44 : decode cX14_sign 44 = .ok (.aload_n 0, 1) := by decide +kernel
theorem dX14_sign_45 : decode cX14_sign 45 = .ok (.getfield 251, 3) := by decide +kernel
theorem dX14_sign_48 : decode cX14_sign 48 = .ok (.iload_n 1, 1) := by decide +kernel
theorem dX14_sign_49 : decode cX14_sign 49 = .ok (.iaload, 1) := by decide +kernel
theorem dX14_sign_50 : decode cX14_sign 50 = .ok (.iload_n 2, 1) := by decide +kernel
theorem dX14_sign_51 : decode cX14_sign 51 = .ok (.iadd, 1) := by decide +kernel
theorem dX14_sign_52 : decode cX14_sign 52 = .ok (.baload, 1) := by decide +kernel
theorem dX14_sign_53 : decode cX14_sign 53 = .ok (.ireturn, 1) := by decide +kernel
theorem dX14_strict_0 : decode cX14_strict 0 = .ok (.aload_n 0, 1) := by decide +kernel
theorem dX14_strict_1 : decode cX14_strict 1 = .ok (.iconst 0, 1) := by decide +kernel
theorem dX14_strict_2 : decode cX14_strict 2 = .ok (.putfield 329, 3) := by decide +kernel
theorem dX14_strict_5 : decode cX14_strict 5 = .ok (.aload_n 0, 1) := by decide +kernel
theorem dX14_strict_6 : decode cX14_strict 6 = .ok (.iload_n 1, 1) := by decide +kernel
theorem dX14_strict_7 : decode cX14_strict 7 = .ok (.invokevirtual 1084, 3) := by decide +kernel
theorem dX14_strict_10 : decode cX14_strict 10 = .ok (.ifCond .eq 7, 3) := by decide +kernel
theorem dX14_strict_13 : decode cX14_strict 13 = .ok (.iload_n 2, 1) := by decide +kernel
theorem dX14_strict_14 : decode cX14_strict 14 = .ok (.ifCond .ge 5, 3) := by decide +kernel
theorem dX14_strict_17 : decode cX14_strict 17 = .ok (.iconst (-1), 1) := by decide +kernel
theorem dX14_strict_18 : decode cX14_strict 18 = .ok (.ireturn, 1) := by decide +kernel
theorem dX14_strict_19 : decode cX14_strict 19 = .ok (.aload_n 0, 1) := by decide +kernel
theorem dX14_strict_20 : decode cX14_strict 20 = .ok (.getfield 131, 3) := by decide +kernel
theorem dX14_strict_23 : decode cX14_strict 23 = .ok (.aload_n 0, 1) := by decide +kernel
theorem dX14_strict_24 : decode cX14_strict 24 = .ok (.getfield 149, 3) := by decide +kernel
theorem dX14_strict_27 : decode cX14_strict 27 = .ok (.aload_n 0, 1) := by decide +kernel
theorem dX14_strict_28 : decode cX14_strict 28 = .ok (.getfield 179, 3) := by decide +kernel
theorem dX14_strict_31 : decode cX14_strict 31 = .ok (.iload_n 1, 1) := by decide +kernel
theorem dX14_strict_32 : decode cX14_strict 32 = .ok (.iaload, 1) := by decide +kernel
theorem dX14_strict_33 : decode cX14_strict 33 = .ok (.iaload, 1) := by decide +kernel
theorem dX14_strict_34 : decode cX14_strict 34 = .ok (.iaload, 1) := by decide +kernel
theorem dX14_strict_35 : decode cX14_strict 35 = .ok (.istore_n 3, 1) := by decide +kernel
theorem dX14_strict_36 : decode cX14_strict 36 = .ok (.iconst 0, 1) := by decide +kernel
theorem dX14_strict_37 : decode cX14_strict 37 = .ok (.istore 4, 2) := by decide +kernel
theorem dX14_strict_39 : decode cX14_strict 39 = .ok (.iload 4, 2) := by decide +kernel
theorem dX14_strict_41 : decode cX14_strict 41 = .ok (.iload_n 2, 1) := by decide +kernel
theorem dX14_strict_42 : decode cX14_strict 42 = .ok (.if_icmp .ge 20, 3) := by decide +kernel
theorem dX14_strict_45 : decode cX14_strict 45 = .ok (.iload_n 3, 1) := by decide +kernel
theorem dX14_strict_46 : decode cX14_strict 46 = .ok (.ifCond .lt 16, 3) := by decide +kernel
theorem dX14_strict_49 : decode cX14_strict 49 = .ok (.aload_n 0, 1) := by decide +kernel
theorem dX14_strict_50 : decode cX14_strict 50 = .ok (.getfield 140, 3) := by decide +kernel
theorem dX14_strict_53 : decode cX14_strict 53 = .ok (.iload_n 3, 1) := by decide +kernel
theorem dX14_strict_54 : decode cX14_strict 54 = .ok (.iaload, 1) := by decide +kernel
theorem dX14_strict_55 : decode cX14_strict 55 = .ok (.istore_n 3, 1) := by decide +kernel
theorem dX14_strict_56 : decode cX14_strict 56 = .ok (.iinc 4 1, 3) := by decide +kernel
theorem dX14_strict_59 : decode cX14_strict 59 = .ok (.goto (-20), 3) := by decide +kernel
theorem dX14_strict_62 : decode cX14_strict 62 = .ok (.iload_n 3, 1) := by decide +kernel
theorem dX14_strict_63 : decode cX14_strict 63 = .ok (.ifCond .ge 7, 3) := by decide +kernel
theorem dX14_strict_66 : decode cX14_strict 66 = .ok (.iconst (-1), 1) := by decide +kernel
theorem dX14_strict_67 : decode cX14_strict 67 = .ok (.goto 22, 3) := by decide +kernel
theorem dX14_strict_70 : decode cX14_strict 70 = .ok (.aload_n 0, 1) := by decide +kernel
theorem dX14_strict_71 : decode cX14_strict 71 = .ok (.getfield 257, 3) := by decide +kernel
theorem dX14_strict_74 : decode cX14_strict 74 = .ok (.aload_n 0, 1) := by decide +kernel
theorem dX14_strict_75 : decode cX14_strict 75 = .ok (.getfield 143, 3) := by decide +kernel
theorem dX14_strict_78 : decode cX14_strict 78 = .ok (.iload_n 3, 1) := by decide +kernel
theorem dX14_strict_79 : decode cX14_strict 79 = .ok (.iaload, 1) := by decide +kernel
theorem dX14_strict_80 : decode cX14_strict 80 = .ok (.baload, 1) := by decide +kernel
theorem dX14_strict_81 : decode cX14_strict 81 = .ok (.ifCond .eq 7, 3) := by decide +kernel
theorem dX14_strict_84 : decode cX14_strict 84 = .ok (.iconst 1, 1) := by decide +kernel
theorem dX14_strict_85 : decode cX14_strict 85 = .ok (.goto 4, 3) := by decide +kernel
theorem dX14_strict_88 : decode cX14_strict 88 = .ok (.iconst 0, 1) := by decide +kernel
theorem dX14_strict_89 : decode cX14_strict 89 = .ok (.ireturn, 1) := by decide +kernel
theorem dX14_group_0 : decode cX14_group 0 = .ok (.aload_n 0, 1) := by decide +kernel
theorem dX14_group_1 : decode cX14_group 1 = .ok (.iconst 0, 1) := by decide +kernel
theorem dX14_group_2 : decode cX14_group 2 = .ok (.putfield 329, 3) := by decide +kernel
theorem dX14_group_5 : decode cX14_group 5 = .ok (.aload_n 0, 1) := by decide +kernel
theorem dX14_group_6 : decode cX14_group 6 = .ok (.iload_n 1, 1) := by decide +kernel
theorem dX14_group_7 : decode cX14_group 7 = .ok (.invokevirtual 1084, 3) := by decide +kernel
theorem dX14_group_10 : decode cX14_group 10 = .ok (.ifCond .eq 17, 3) := by decide +kernel
theorem dX14_group_13 : decode cX14_group 13 = .ok (.aload_n 0, 1) := by decide +kernel
theorem dX14_group_14 : decode cX14_group 14 = .ok (.getfield 228, 3) := by decide +kernel
theorem dX14_group_17 : decode cX14_group 17 = .ok (.aload_n 0, 1) := by decide +kernel
theorem dX14_group_18 : decode cX14_group 18 = .ok (.getfield 179, 3) := by decide +kernel
theorem dX14_group_21 : decode cX14_group 21 = .ok (.iload_n 1, 1) := by decide +kernel
theorem dX14_group_22 : decode cX14_group 22 = .ok (.iaload, 1) := by decide +kernel
theorem dX14_group_23 : decode cX14_group 23 = .ok (.iaload, 1) := by decide +kernel
theorem dX14_group_24 : decode cX14_group 24 = .ok (.goto 4, 3) := by decide +kernel
theorem dX14_group_27 : decode cX14_group 27 = .ok (.iconst (-1), 1) := by decide +kernel
theorem dX14_group_28 : decode cX14_group 28 = .ok (.ireturn, 1) := by decide +kernel
theorem dX14_global_0 : decode cX14_global 0 = .ok (.aload_n 0, 1) := by decide +kernel
theorem dX14_global_1 : decode cX14_global 1 = .ok (.iconst 0, 1) := by decide +kernel
theorem dX14_global_2 : decode cX14_global 2 = .ok (.putfield 329, 3) := by decide +kernel
theorem dX14_global_5 : decode cX14_global 5 = .ok (.aload_n 0, 1) := by decide +kernel
theorem dX14_global_6 : decode cX14_global 6 = .ok (.iload_n 1, 1) := by decide +kernel
theorem dX14_global_7 : decode cX14_global 7 = .ok (.invokevirtual 1084, 3) := by decide +kernel
theorem dX14_global_10 : decode cX14_global 10 = .ok (.ifCond .eq 19, 3) := by decide +kernel
theorem dX14_global_13 : decode cX14_global 13 = .ok (.aload_n 0, 1) := by decide +kernel
theorem dX14_global_14 : decode cX14_global 14 = .ok (.getfield 847, 3) := by decide +kernel
theorem dX14_global_17 : decode cX14_global 17 = .ok (.ifCond .eq 12, 3) := by decide +kernel
theorem dX14_global_20 : decode cX14_global 20 = .ok (.iload_n 2, 1) := by decide +kernel
theorem dX14_global_21 : decode cX14_global 21 = .ok (.ifCond .lt 8, 3) := by decide +kernel
theorem dX14_global_24 : decode cX14_global 24 = .ok (.iload_n 2, 1) := by decide +kernel
theorem dX14_global_25 : decode cX14_global 25 = .ok (.iconst 2, 1) := by decide +kernel
theorem dX14_global_26 : decode cX14_global 26 = .ok (.if_icmp .le 5, 3) := by decide +kernel
theorem dX14_global_29 : decode cX14_global 29 = .ok (.iconst (-1), 1) := by decide +kernel
theorem dX14_global_30 : decode cX14_global 30 = .ok (.ireturn, 1) := by decide +kernel
theorem dX14_global_31 : decode cX14_global 31 = .ok (.iload_n 2, 1) := by decide +kernel
theorem dX14_global_32 : decode cX14_global 32 = .ok (.ifCond .ne 10, 3) := by decide +kernel
theorem dX14_global_35 : decode cX14_global 35 = .ok (.aload_n 0, 1) := by decide +kernel
theorem dX14_global_36 : decode cX14_global 36 = .ok (.getfield 296, 3) := by decide +kernel
theorem dX14_global_39 : decode cX14_global 39 = .ok (.iload_n 1, 1) := by decide +kernel
theorem dX14_global_40 : decode cX14_global 40 = .ok (.iaload, 1) := by decide +kernel
theorem dX14_global_41 : decode cX14_global 41 = .ok (.ireturn, 1) := by decide +kernel
theorem dX14_global_42 : decode cX14_global 42 = .ok (.aload_n 0, 1) := by decide +kernel
theorem dX14_global_43 : decode cX14_global 43 = .ok (.getfield 296, 3) := by decide +kernel
theorem dX14_global_46 : decode cX14_global 46 = .ok (.iload_n 1, 1) := by decide +kernel
theorem dX14_global_47 : decode cX14_global 47 = .ok (.iaload, 1) := by decide +kernel
theorem dX14_global_48 : decode cX14_global 48 = .ok (.iconst 2, 1) := by decide +kernel
theorem dX14_global_49 : decode cX14_global 49 = .ok (.if_icmp .eq 5, 3) := by decide +kernel
theorem dX14_global_52 : decode cX14_global 52 = .ok (.iconst (-1), 1) := by decide +kernel
theorem dX14_global_53 : decode cX14_global 53 = .ok (.ireturn, 1) := by decide +kernel
theorem dX14_global_54 : decode cX14_global 54 = .ok (.aload_n 0, 1) := by decide +kernel
theorem dX14_global_55 : decode cX14_global 55 = .ok (.getfield 299, 3) := by decide +kernel
theorem dX14_global_58 : decode cX14_global 58 = .ok (.iload_n 1, 1) := by decide +kernel
theorem dX14_global_59 : decode cX14_global 59 = .ok (.laload, 1) := by decide +kernel
theorem dX14_global_60 : decode cX14_global 60 = .ok (.lstore_n 3, 1) := by decide +kernel
theorem dX14_global_61 : decode cX14_global 61 = .ok (.lload_n 3, 1) := by decide +kernel
theorem dX14_global_62 : decode cX14_global 62 = .ok (.invokestatic 873, 3) := by decide +kernel
theorem dX14_global_65 : decode cX14_global 65 = .ok (.ifCond .ne 7, 3) := by decide +kernel
theorem dX14_global_68 : decode cX14_global 68 = .ok (.iconst 1, 1) := by decide +kernel
theorem dX14_global_69 : decode cX14_global 69 = .ok (.goto 4, 3) := by decide +kernel
theorem dX14_global_72 : decode cX14_global 72 = .ok (.iconst 0, 1) := by decide +kernel
theorem dX14_global_73 : decode cX14_global 73 = .ok (.istore 5, 2) := by decide +kernel
theorem dX14_global_75 : decode cX14_global 75 = .ok (.lload_n 3, 1) := by decide +kernel
theorem dX14_global_76 : decode cX14_global 76 = .ok (.invokestatic 873, 3) := by decide +kernel
theorem dX14_global_79 : decode cX14_global 79 = .ok (.iconst 1, 1) := by decide +kernel
theorem dX14_global_80 : decode cX14_global 80 = .ok (.if_icmp .ne 13, 3) := by decide +kernel
theorem dX14_global_83 : decode cX14_global 83 = .ok (.aload_n 0, 1) := by decide +kernel
theorem dX14_global_84 : decode cX14_global 84 = .ok (.getfield 176, 3) := by decide +kernel
theorem dX14_global_87 : decode cX14_global 87 = .ok (.lload_n 3, 1) := by decide +kernel
theorem dX14_global_88 : decode cX14_global 88 = .ok (.l2i, 1) := by decide +kernel
theorem dX14_global_89 : decode cX14_global 89 = .ok (.iaload, 1) := by decide +kernel
theorem dX14_global_90 : decode cX14_global 90 = .ok (.ifCond .eq 22, 3) := by decide +kernel
theorem dX14_global_93 : decode cX14_global 93 = .ok (.lload_n 3, 1) := by decide +kernel
theorem dX14_global_94 : decode cX14_global 94 = .ok (.invokestatic 873, 3) := by decide +kernel
theorem dX14_global_97 : decode cX14_global 97 = .ok (.iconst 4, 1) := by decide +kernel
theorem dX14_global_98 : decode cX14_global 98 = .ok (.if_icmp .ne 18, 3) := by decide +kernel
theorem dX14_global_101 : decode cX14_global 101 = .ok (.aload_n 0, 1) := by decide +kernel
theorem dX14_global_102 : decode cX14_global 102 = .ok (.getfield 263, 3) := by decide +kernel
theorem dX14_global_105 : decode cX14_global 105 = .ok (.lload_n 3, 1) := by decide +kernel
theorem dX14_global_106 : decode cX14_global 106 = .ok (.l2i, 1) := by decide +kernel
theorem dX14_global_107 : decode cX14_global 107 = .ok (.iaload, 1) := by decide +kernel
theorem dX14_global_108 : decode cX14_global 108 = .ok (.iconst 1, 1) := by decide +kernel
theorem dX14_global_109 : decode cX14_global 109 = .ok (.if_icmp .ne 7, 3) := by decide +kernel
theorem dX14_global_112 : decode cX14_global 112 = .ok (.iconst 1, 1) := by decide +kernel
theorem dX14_global_113 : decode cX14_global 113 = .ok (.goto 4, 3) := by decide +kernel
theorem dX14_global_116 : decode cX14_global 116 = .ok (.iconst 0, 1) := by decide +kernel
theorem dX14_global_117 : decode cX14_global 117 = .ok (.istore 6, 2) := by decide +kernel
theorem dX14_global_119 : decode cX14_global 119 = .ok (.iload_n 2, 1) := by decide +kernel
theorem dX14_global_120 : decode cX14_global 120 = .ok (.iconst 1, 1) := by decide +kernel
theorem dX14_global_121 : decode cX14_global 121 = .ok (.if_icmp .ne 23, 3) := by decide +kernel
theorem dX14_global_124 : decode cX14_global 124 = .ok (.iload 5, 2) := by decide +kernel
theorem dX14_global_126 : decode cX14_global 126 = .ok (.ifCond .eq 7, 3) := by decide +kernel
theorem dX14_global_129 : decode cX14_global 129 = .ok (.iconst 0, 1) := by decide +kernel
theorem dX14_global_130 : decode cX14_global 130 = .ok (.goto 13, 3) := by decide +kernel
theorem dX14_global_133 : decode cX14_global 133 = .ok (.iload 6, 2) := by decide +kernel
theorem dX14_global_135 : decode cX14_global 135 = .ok (.ifCond .eq 7, 3) := by decide +kernel
theorem dX14_global_138 : decode cX14_global 138 = .ok (.iconst 1, 1) := by decide +kernel
theorem dX14_global_139 : decode cX14_global 139 = .ok (.goto 4, 3) := by decide +kernel
theorem dX14_global_142 : decode cX14_global 142 = .ok (.iconst 2, 1) := by decide +kernel
theorem dX14_global_143 : decode cX14_global 143 = .ok (.ireturn, 1) := by decide +kernel
theorem dX14_global_144 : decode cX14_global 144 = .ok (.iload 5, 2) := by decide +kernel
theorem dX14_global_146 : decode cX14_global 146 = .ok (.ifCond .eq 8, 3) := by decide +kernel
theorem dX14_global_149 : decode cX14_global 149 = .ok (.lload_n 3, 1) := by decide +kernel
theorem dX14_global_150 : decode cX14_global 150 = .ok (.l2i, 1) := by decide +kernel
theorem dX14_global_151 : decode cX14_global 151 = .ok (.goto 21, 3) := by decide +kernel
theorem dX14_global_154 : decode cX14_global 154 = .ok (.iload 6, 2) := by decide +kernel
theorem dX14_global_156 : decode cX14_global 156 = .ok (.ifCond .eq 11, 3) := by decide +kernel
theorem dX14_global_159 : decode cX14_global 159 = .ok (.aload_n 0, 1) := by decide +kernel
theorem dX14_global_160 : decode cX14_global 160 = .ok (.lload_n 3, 1) := by decide +kernel
theorem dX14_global_161 : decode cX14_global 161 = .ok (.invokevirtual 1055, 3) := by decide +kernel
theorem dX14_global_164 : decode cX14_global 164 = .ok (.goto 8, 3) := by decide +kernel
theorem dX14_global_167 : decode cX14_global 167 = .ok (.aload_n 0, 1) := by decide +kernel
theorem dX14_global_168 : decode cX14_global 168 = .ok (.lload_n 3, 1) := by decide +kernel
theorem dX14_global_169 : decode cX14_global 169 = .ok (.invokevirtual 1058, 3) := by decide +kernel
theorem dX14_global_172 : decode cX14_global 172 = .ok (.ireturn, 1) := by decide +kernel
theorem dX14_shown_0 : decode cX14_shown 0 = .ok (.aload_n 0, 1) := by decide +kernel
theorem dX14_shown_1 : decode cX14_shown 1 = .ok (.iconst 0, 1) := by decide +kernel
theorem dX14_shown_2 : decode cX14_shown 2 = .ok (.putfield 329, 3) := by decide +kernel
theorem dX14_shown_5 : decode cX14_shown 5 = .ok (.aload_n 0, 1) := by decide +kernel
theorem dX14_shown_6 : decode cX14_shown 6 = .ok (.getfield 847, 3) := by decide +kernel
theorem dX14_shown_9 : decode cX14_shown 9 = .ok (.ifCond .eq 15, 3) := by decide +kernel
theorem dX14_shown_12 : decode cX14_shown 12 = .ok (.iload_n 1, 1) := by decide +kernel
theorem dX14_shown_13 : decode cX14_shown 13 = .ok (.ifCond .lt 11, 3) := by decide +kernel
theorem dX14_shown_16 : decode cX14_shown 16 = .ok (.iload_n 1, 1) := by decide +kernel
theorem dX14_shown_17 : decode cX14_shown 17 = .ok (.aload_n 0, 1) := by decide +kernel
theorem dX14_shown_18 : decode cX14_shown 18 = .ok (.getfield 972, 3) := by decide +kernel
theorem dX14_shown_21 : decode cX14_shown 21 = .ok (.if_icmp .lt 7, 3) := by decide +kernel
theorem dX14_shown_24 : decode cX14_shown 24 = .ok (.iconst (-1), 1) := by decide +kernel
theorem dX14_shown_25 : decode cX14_shown 25 = .ok (.goto 9, 3) := by decide +kernel
theorem dX14_shown_28 : decode cX14_shown 28 = .ok (.aload_n 0, 1) := by decide +kernel
theorem dX14_shown_29 : decode cX14_shown 29 = .ok (.getfield 323, 3) := by decide +kernel
theorem dX14_shown_32 : decode cX14_shown 32 = .ok (.iload_n 1, 1) := by decide +kernel
theorem dX14_shown_33 : decode cX14_shown 33 = .ok (.baload, 1) := by decide +kernel
theorem dX14_shown_34 : decode cX14_shown 34 = .ok (.ireturn, 1) := by decide +kernel
theorem dX14_said_0 : decode cX14_said 0 = .ok (.aload_n 0, 1) := by decide +kernel
theorem dX14_said_1 : decode cX14_said 1 = .ok (.iconst 0, 1) := by decide +kernel
theorem dX14_said_2 : decode cX14_said 2 = .ok (.putfield 329, 3) := by decide +kernel
theorem dX14_said_5 : decode cX14_said 5 = .ok (.aload_n 0, 1) := by decide +kernel
theorem dX14_said_6 : decode cX14_said 6 = .ok (.getfield 847, 3) := by decide +kernel
theorem dX14_said_9 : decode cX14_said 9 = .ok (.ifCond .eq 15, 3) := by decide +kernel
theorem dX14_said_12 : decode cX14_said 12 = .ok (.iload_n 1, 1) := by decide +kernel
theorem dX14_said_13 : decode cX14_said 13 = .ok (.ifCond .lt 11, 3) := by decide +kernel
theorem dX14_said_16 : decode cX14_said 16 = .ok (.iload_n 1, 1) := by decide +kernel
theorem dX14_said_17 : decode cX14_said 17 = .ok (.aload_n 0, 1) := by decide +kernel
theorem dX14_said_18 : decode cX14_said 18 = .ok (.getfield 975, 3) := by decide +kernel
theorem dX14_said_21 : decode cX14_said 21 = .ok (.if_icmp .lt 7, 3) := by decide +kernel
theorem dX14_said_24 : decode cX14_said 24 = .ok (.iconst 0, 1) := by decide +kernel
theorem dX14_said_25 : decode cX14_said 25 = .ok (.goto 9, 3) := by decide +kernel
theorem dX14_said_28 : decode cX14_said 28 = .ok (.aload_n 0, 1) := by decide +kernel
theorem dX14_said_29 : decode cX14_said 29 = .ok (.getfield 326, 3) := by decide +kernel
theorem dX14_said_32 : decode cX14_said 32 = .ok (.iload_n 1, 1) := by decide +kernel
theorem dX14_said_33 : decode cX14_said 33 = .ok (.iaload, 1) := by decide +kernel
theorem dX14_said_34 : decode cX14_said 34 = .ok (.ireturn, 1) := by decide +kernel
theorem dX14_begin_0 : decode cX14_begin 0 = .ok (.aload_n 0, 1) := by decide +kernel
theorem dX14_begin_1 : decode cX14_begin 1 = .ok (.aload_n 0, 1) := by decide +kernel
theorem dX14_begin_2 : decode cX14_begin 2 = .ok (.getfield 844, 3) := by decide +kernel
theorem dX14_begin_5 : decode cX14_begin 5 = .ok (.ifCond .eq 7, 3) := by decide +kernel
theorem dX14_begin_8 : decode cX14_begin 8 = .ok (.iconst 0, 1) := by decide +kernel
theorem dX14_begin_9 : decode cX14_begin 9 = .ok (.goto 4, 3) := by decide +kernel
theorem dX14_begin_12 : decode cX14_begin 12 = .ok (.iconst 1, 1) := by decide +kernel
theorem dX14_begin_13 : decode cX14_begin 13 = .ok (.putfield 329, 3) := by decide +kernel
theorem dX14_begin_16 : decode cX14_begin 16 = .ok (.aload_n 0, 1) := by decide +kernel
theorem dX14_begin_17 : decode cX14_begin 17 = .ok (.getfield 329, 3) := by decide +kernel
theorem dX14_begin_20 : decode cX14_begin 20 = .ok (.iconst 1, 1) := by decide +kernel
theorem dX14_begin_21 : decode cX14_begin 21 = .ok (.if_icmp .ne 4, 3) := by decide +kernel
theorem dX14_begin_24 : decode cX14_begin 24 = .ok (.return_, 1) := by decide +kernel
theorem dX14_begin_25 : decode cX14_begin 25 = .ok (.aload_n 0, 1) := by decide +kernel
theorem dX14_begin_26 : decode cX14_begin 26 = .ok (.iconst 1, 1) := by decide +kernel
theorem dX14_begin_27 : decode cX14_begin 27 = .ok (.putfield 847, 3) := by decide +kernel
theorem dX14_begin_30 : decode cX14_begin 30 = .ok (.aload_n 0, 1) := by decide +kernel
theorem dX14_begin_31 : decode cX14_begin 31 = .ok (.iconst 0, 1) := by decide +kernel
theorem dX14_begin_32 : decode cX14_begin 32 = .ok (.putfield 966, 3) := by decide +kernel
theorem dX14_begin_35 : decode cX14_begin 35 = .ok (.aload_n 0, 1) := by decide +kernel
theorem dX14_begin_36 : decode cX14_begin 36 = .ok (.iconst 0, 1) := by decide +kernel
theorem dX14_begin_37 : decode cX14_begin 37 = .ok (.putfield 934, 3) := by decide +kernel
theorem dX14_begin_40 : decode cX14_begin 40 = .ok (.aload_n 0, 1) := by decide +kernel
theorem dX14_begin_41 : decode cX14_begin 41 = .ok (.iconst 0, 1) := by decide +kernel
theorem dX14_begin_42 : decode cX14_begin 42 = .ok (.putfield 969, 3) := by decide +kernel
theorem dX14_begin_45 : decode cX14_begin 45 = .ok (.aload_n 0, 1) := by decide +kernel
theorem dX14_begin_46 : decode cX14_begin 46 = .ok (.iconst 0, 1) := by decide +kernel
theorem dX14_begin_47 : decode cX14_begin 47 = .ok (.putfield 908, 3) := by decide +kernel
theorem dX14_begin_50 : decode cX14_begin 50 = .ok (.aload_n 0, 1) := by decide +kernel
theorem dX14_begin_51 : decode cX14_begin 51 = .ok (.iconst 0, 1) := by decide +kernel
theorem dX14_begin_52 : decode cX14_begin 52 = .ok (.putfield 931, 3) := by decide +kernel
theorem dX14_begin_55 : decode cX14_begin 55 = .ok (.aload_n 0, 1) := by decide +kernel
theorem dX14_begin_56 : decode cX14_begin 56 = .ok (.iconst 0, 1) := by decide +kernel
theorem dX14_begin_57 : decode cX14_begin 57 = .ok (.putfield 928, 3) := by decide +kernel
theorem dX14_begin_60 : decode cX14_begin 60 = .ok (.aload_n 0, 1) := by decide +kernel
theorem dX14_begin_61 : decode cX14_begin 61 = .ok (.iconst 0, 1) := by decide +kernel
theorem dX14_begin_62 : decode cX14_begin 62 = .ok (.putfield 892, 3) := by decide +kernel
theorem dX14_begin_65 : decode cX14_begin 65 = .ok (.aload_n 0, 1) := by decide +kernel
theorem dX14_begin_66 : decode cX14_begin 66 = .ok (.iconst 0, 1) := by decide +kernel
theorem dX14_begin_67 : decode cX14_begin 67 = .ok (.putfield 925, 3) := by decide +kernel
theorem dX14_begin_70 : decode cX14_begin 70 = .ok (.aload_n 0, 1) := by decide +kernel
theorem dX14_begin_71 : decode cX14_begin 71 = .ok (.getfield 311, 3) := by decide +kernel
theorem dX14_begin_74 : decode cX14_begin 74 = .ok (.iconst 0, 1) := by decide +kernel
theorem dX14_begin_75 : decode cX14_begin 75 = .ok (.iconst 0, 1) := by decide +kernel
theorem dX14_begin_76 : decode cX14_begin 76 = .ok (.iastore, 1) := by decide +kernel
theorem dX14_begin_77 : decode cX14_begin 77 = .ok (.aload_n 0, 1) := by decide +kernel
theorem dX14_begin_78 : decode cX14_begin 78 = .ok (.iconst 0, 1) := by decide +kernel
theorem dX14_begin_79 : decode cX14_begin 79 = .ok (.putfield 972, 3) := by decide +kernel
theorem dX14_begin_82 : decode cX14_begin 82 = .ok (.aload_n 0, 1) := by decide +kernel
theorem dX14_begin_83 : decode cX14_begin 83 = .ok (.iconst 0, 1) := by decide +kernel
theorem dX14_begin_84 : decode cX14_begin 84 = .ok (.putfield 975, 3) := by decide +kernel
theorem dX14_begin_87 : decode cX14_begin 87 = .ok (.aload_n 0, 1) := by decide +kernel
theorem dX14_begin_88 : decode cX14_begin 88 = .ok (.iconst 1, 1) := by decide +kernel
theorem dX14_begin_89 : decode cX14_begin 89 = .ok (.putfield 919, 3) := by decide +kernel
theorem dX14_begin_92 : decode cX14_begin 92 = .ok (.aload_n 0, 1) := by decide +kernel
theorem dX14_begin_93 : decode cX14_begin 93 = .ok (.iconst 0, 1) := by decide +kernel
theorem dX14_begin_94 : decode cX14_begin 94 = .ok (.putfield 895, 3) := by decide +kernel
theorem dX14_begin_97 : decode cX14_begin 97 = .ok (.iconst 0, 1) := by decide +kernel
theorem dX14_begin_98 : decode cX14_begin 98 = .ok (.istore_n 1, 1) := by decide +kernel
theorem dX14_begin_99 : decode cX14_begin 99 = .ok (.iconst 0, 1) := by decide +kernel
theorem dX14_begin_100 : decode cX14_begin 100 = .ok (.istore_n 2, 1) := by decide +kernel
theorem dX14_begin_101 : decode cX14_begin 101 = .ok (.iload_n 2, 1) := by decide +kernel
theorem dX14_begin_102 : decode cX14_begin 102 = .ok (.aload_n 0, 1) := by decide +kernel
theorem dX14_begin_103 : decode cX14_begin 103 = .ok (.getfield 571, 3) := by decide +kernel
theorem dX14_begin_106 : decode cX14_begin 106 = .ok (.if_icmp .ge 87, 3) := by decide +kernel
theorem dX14_begin_109 : decode cX14_begin 109 = .ok (.aload_n 0, 1) := by decide +kernel
theorem dX14_begin_110 : decode cX14_begin 110 = .ok (.getfield 149, 3) := by decide +kernel
theorem dX14_begin_113 : decode cX14_begin 113 = .ok (.aload_n 0, 1) := by decide +kernel
theorem dX14_begin_114 : decode cX14_begin 114 = .ok (.getfield 179, 3) := by decide +kernel
theorem dX14_begin_117 : decode cX14_begin 117 = .ok (.iload_n 2, 1) := by decide +kernel
theorem dX14_begin_118 : decode cX14_begin 118 = .ok (.iaload, 1) := by decide +kernel
theorem dX14_begin_119 : decode cX14_begin 119 = .ok (.iaload, 1) := by decide +kernel
theorem dX14_begin_120 : decode cX14_begin 120 = .ok (.istore_n 3, 1) := by decide +kernel
theorem dX14_begin_121 : decode cX14_begin 121 = .ok (.aload_n 0, 1) := by decide +kernel
theorem dX14_begin_122 : decode cX14_begin 122 = .ok (.getfield 296, 3) := by decide +kernel
theorem dX14_begin_125 : decode cX14_begin 125 = .ok (.iload_n 2, 1) := by decide +kernel
theorem dX14_begin_126 : decode cX14_begin 126 = .ok (.aload_n 0, 1) := by decide +kernel
theorem dX14_begin_127 : decode cX14_begin 127 = .ok (.getfield 131, 3) := by decide +kernel
theorem dX14_begin_130 : decode cX14_begin 130 = .ok (.iload_n 3, 1) := by decide +kernel
theorem dX14_begin_131 : decode cX14_begin 131 = .ok (.iaload, 1) := by decide +kernel
theorem dX14_begin_132 : decode cX14_begin 132 = .ok (.ifCond .lt 7, 3) := by decide +kernel
theorem dX14_begin_135 : decode cX14_begin 135 = .ok (.iconst 2, 1) := by decide +kernel
theorem dX14_begin_136 : decode cX14_begin 136 = .ok (.goto 4, 3) := by decide +kernel
theorem dX14_begin_139 : decode cX14_begin 139 = .ok (.iconst 0, 1) := by decide +kernel
theorem dX14_begin_140 : decode cX14_begin 140 = .ok (.iastore, 1) := by decide +kernel
theorem dX14_begin_141 : decode cX14_begin 141 = .ok (.aload_n 0, 1) := by decide +kernel
theorem dX14_begin_142 : decode cX14_begin 142 = .ok (.getfield 299, 3) := by decide +kernel
theorem dX14_begin_145 : decode cX14_begin 145 = .ok (.iload_n 2, 1) := by decide +kernel
theorem dX14_begin_146 : decode cX14_begin 146 = .ok (.iconst 2, 1) := by decide +kernel
theorem dX14_begin_147 : decode cX14_begin 147 = .ok (.iload_n 2, 1) := by decide +kernel
theorem dX14_begin_148 : decode cX14_begin 148 = .ok (.invokestatic 937, 3) := by decide +kernel
theorem dX14_begin_151 : decode cX14_begin 151 = .ok (.lastore, 1) := by decide +kernel
theorem dX14_begin_152 : decode cX14_begin 152 = .ok (.aload_n 0, 1) := by decide +kernel
theorem dX14_begin_153 : decode cX14_begin 153 = .ok (.getfield 131, 3) := by decide +kernel
theorem dX14_begin_156 : decode cX14_begin 156 = .ok (.iload_n 3, 1) := by decide +kernel
theorem dX14_begin_157 : decode cX14_begin 157 = .ok (.iaload, 1) := by decide +kernel
theorem dX14_begin_158 : decode cX14_begin 158 = .ok (.ifCond .ge 29, 3) := by decide +kernel
theorem dX14_begin_161 : decode cX14_begin 161 = .ok (.aload_n 0, 1) := by decide +kernel
theorem dX14_begin_162 : decode cX14_begin 162 = .ok (.aload_n 0, 1) := by decide +kernel
theorem dX14_begin_163 : decode cX14_begin 163 = .ok (.getfield 134, 3) := by decide +kernel
theorem dX14_begin_166 : decode cX14_begin 166 = .ok (.iload_n 3, 1) := by decide +kernel
theorem dX14_begin_167 : decode cX14_begin 167 = .ok (.iaload, 1) := by decide +kernel
theorem dX14_begin_168 : decode cX14_begin 168 = .ok (.invokevirtual 978, 3) := by decide +kernel
theorem dX14_begin_171 : decode cX14_begin 171 = .ok (.ifCond .eq 16, 3) := by decide +kernel
theorem dX14_begin_174 : decode cX14_begin 174 = .ok (.iload_n 1, 1) := by decide +kernel
theorem dX14_begin_175 : decode cX14_begin 175 = .ok (.aload_n 0, 1) := by decide +kernel
theorem dX14_begin_176 : decode cX14_begin 176 = .ok (.aload_n 0, 1) := by decide +kernel
theorem dX14_begin_177 : decode cX14_begin 177 = .ok (.getfield 134, 3) := by decide +kernel
theorem dX14_begin_180 : decode cX14_begin 180 = .ok (.iload_n 3, 1) := by decide +kernel
theorem dX14_begin_181 : decode cX14_begin 181 = .ok (.iaload, 1) := by decide +kernel
theorem dX14_begin_182 : decode cX14_begin 182 = .ok (.invokevirtual 886, 3) := by decide +kernel
theorem dX14_begin_185 : decode cX14_begin 185 = .ok (.iadd, 1) := by decide +kernel
theorem dX14_begin_186 : decode cX14_begin 186 = .ok (.istore_n 1, 1) := by decide +kernel
theorem dX14_begin_187 : decode cX14_begin 187 = .ok (.iinc 2 1, 3) := by decide +kernel
theorem dX14_begin_190 : decode cX14_begin 190 = .ok (.goto (-89), 3) := by decide +kernel
theorem dX14_begin_193 : decode cX14_begin 193 = .ok (.aload_n 0, 1) := by decide +kernel
theorem dX14_begin_194 : decode cX14_begin 194 = .ok (.iconst 5, 1) := by decide +kernel
theorem dX14_begin_195 : decode cX14_begin 195 = .ok (.aload_n 0, 1) := by decide +kernel
theorem dX14_begin_196 : decode cX14_begin 196 = .ok (.getfield 152, 3) := by decide +kernel
theorem dX14_begin_199 : decode cX14_begin 199 = .ok (.aload_n 0, 1) := by decide +kernel
theorem dX14_begin_200 : decode cX14_begin 200 = .ok (.aload_n 0, 1) := by decide +kernel
theorem dX14_begin_201 : decode cX14_begin 201 = .ok (.getfield 584, 3) := by decide +kernel
theorem dX14_begin_204 : decode cX14_begin 204 = .ok (.invokevirtual 786, 3) := by decide +kernel
theorem dX14_begin_207 : decode cX14_begin 207 = .ok (.iaload, 1) := by decide +kernel
theorem dX14_begin_208 : decode cX14_begin 208 = .ok (.invokestatic 937, 3) := by decide +kernel
theorem dX14_begin_211 : decode cX14_begin 211 = .ok (.putfield 922, 3) := by decide +kernel
theorem dX14_begin_214 : decode cX14_begin 214 = .ok (.iload_n 1, 1) := by decide +kernel
theorem dX14_begin_215 : decode cX14_begin 215 = .ok (.sipush 4000, 3) := by decide +kernel
theorem dX14_begin_218 : decode cX14_begin 218 = .ok (.if_icmp .le 10, 3) := by decide +kernel
theorem dX14_begin_221 : decode cX14_begin 221 = .ok (.aload_n 0, 1) := by decide +kernel
theorem dX14_begin_222 : decode cX14_begin 222 = .ok (.bipush 6, 2) := by decide +kernel
theorem dX14_begin_224 : decode cX14_begin 224 = .ok (.putfield 847, 3) := by decide +kernel
theorem dX14_begin_227 : decode cX14_begin 227 = .ok (.return_, 1) := by decide +kernel
theorem dX14_begin_228 : decode cX14_begin 228 = .ok (.aload_n 0, 1) := by decide +kernel
theorem dX14_begin_229 : decode cX14_begin 229 = .ok (.iload_n 1, 1) := by decide +kernel
theorem dX14_begin_230 : decode cX14_begin 230 = .ok (.putfield 892, 3) := by decide +kernel
theorem dX14_begin_233 : decode cX14_begin 233 = .ok (.iconst 0, 1) := by decide +kernel
theorem dX14_begin_234 : decode cX14_begin 234 = .ok (.istore_n 2, 1) := by decide +kernel
theorem dX14_begin_235 : decode cX14_begin 235 = .ok (.iload_n 2, 1) := by decide +kernel
theorem dX14_begin_236 : decode cX14_begin 236 = .ok (.aload_n 0, 1) := by decide +kernel
theorem dX14_begin_237 : decode cX14_begin 237 = .ok (.getfield 571, 3) := by decide +kernel
theorem dX14_begin_240 : decode cX14_begin 240 = .ok (.if_icmp .ge 69, 3) := by decide +kernel
theorem dX14_begin_243 : decode cX14_begin 243 = .ok (.aload_n 0, 1) := by decide +kernel
theorem dX14_begin_244 : decode cX14_begin 244 = .ok (.getfield 149, 3) := by decide +kernel
theorem dX14_begin_247 : decode cX14_begin 247 = .ok (.aload_n 0, 1) := by decide +kernel
theorem dX14_begin_248 : decode cX14_begin 248 = .ok (.getfield 179, 3) := by decide +kernel
theorem dX14_begin_251 : decode cX14_begin 251 = .ok (.iload_n 2, 1) := by decide +kernel
theorem dX14_begin_252 : decode cX14_begin 252 = .ok (.iaload, 1) := by decide +kernel
theorem dX14_begin_253 : decode cX14_begin 253 = .ok (.iaload, 1) := by decide +kernel
theorem dX14_begin_254 : decode cX14_begin 254 = .ok (.istore_n 3, 1) := by decide +kernel
theorem dX14_begin_255 : decode cX14_begin 255 = .ok (.aload_n 0, 1) := by decide +kernel
theorem dX14_begin_256 : decode cX14_begin 256 = .ok (.getfield 131, 3) := by decide +kernel
theorem dX14_begin_259 : decode cX14_begin 259 = .ok (.iload_n 3, 1) := by decide +kernel
theorem dX14_begin_260 : decode cX14_begin 260 = .ok (.iaload, 1) := by decide +kernel
theorem dX14_begin_261 : decode cX14_begin 261 = .ok (.ifCond .ge 42, 3) := by decide +kernel
theorem dX14_begin_264 : decode cX14_begin 264 = .ok (.aload_n 0, 1) := by decide +kernel
theorem dX14_begin_265 : decode cX14_begin 265 = .ok (.aload_n 0, 1) := by decide +kernel
theorem dX14_begin_266 : decode cX14_begin 266 = .ok (.getfield 134, 3) := by decide +kernel
theorem dX14_begin_269 : decode cX14_begin 269 = .ok (.iload_n 3, 1) := by decide +kernel
theorem dX14_begin_270 : decode cX14_begin 270 = .ok (.iaload, 1) := by decide +kernel
theorem dX14_begin_271 : decode cX14_begin 271 = .ok (.invokevirtual 978, 3) := by decide +kernel
theorem dX14_begin_274 : decode cX14_begin 274 = .ok (.ifCond .ne 6, 3) := by decide +kernel
theorem dX14_begin_277 : decode cX14_begin 277 = .ok (.goto 26, 3) := by decide +kernel
theorem dX14_begin_280 : decode cX14_begin 280 = .ok (.aload_n 0, 1) := by decide +kernel
theorem dX14_begin_281 : decode cX14_begin 281 = .ok (.getfield 299, 3) := by decide +kernel
theorem dX14_begin_284 : decode cX14_begin 284 = .ok (.iload_n 2, 1) := by decide +kernel
theorem dX14_begin_285 : decode cX14_begin 285 = .ok (.aload_n 0, 1) := by decide +kernel
theorem dX14_begin_286 : decode cX14_begin 286 = .ok (.aload_n 0, 1) := by decide +kernel
theorem dX14_begin_287 : decode cX14_begin 287 = .ok (.getfield 134, 3) := by decide +kernel
theorem dX14_begin_290 : decode cX14_begin 290 = .ok (.iload_n 3, 1) := by decide +kernel
theorem dX14_begin_291 : decode cX14_begin 291 = .ok (.iaload, 1) := by decide +kernel
theorem dX14_begin_292 : decode cX14_begin 292 = .ok (.invokevirtual 956, 3) := by decide +kernel
theorem dX14_begin_295 : decode cX14_begin 295 = .ok (.lastore, 1) := by decide +kernel
theorem dX14_begin_296 : decode cX14_begin 296 = .ok (.aload_n 0, 1) := by decide +kernel
theorem dX14_begin_297 : decode cX14_begin 297 = .ok (.getfield 296, 3) := by decide +kernel
theorem dX14_begin_300 : decode cX14_begin 300 = .ok (.iload_n 2, 1) := by decide +kernel
theorem dX14_begin_301 : decode cX14_begin 301 = .ok (.iconst 2, 1) := by decide +kernel
theorem dX14_begin_302 : decode cX14_begin 302 = .ok (.iastore, 1) := by decide +kernel
theorem dX14_begin_303 : decode cX14_begin 303 = .ok (.iinc 2 1, 3) := by decide +kernel
theorem dX14_begin_306 : decode cX14_begin 306 = .ok (.goto (-71), 3) := by decide +kernel
theorem dX14_begin_309 : decode cX14_begin 309 = .ok (.iconst 0, 1) := by decide +kernel
theorem dX14_begin_310 : decode cX14_begin 310 = .ok (.istore_n 2, 1) := by decide +kernel
theorem dX14_begin_311 : decode cX14_begin 311 = .ok (.iload_n 2, 1) := by decide +kernel
theorem dX14_begin_312 : decode cX14_begin 312 = .ok (.aload_n 0, 1) := by decide +kernel
theorem dX14_begin_313 : decode cX14_begin 313 = .ok (.getfield 571, 3) := by decide +kernel
theorem dX14_begin_316 : decode cX14_begin 316 = .ok (.if_icmp .ge 59, 3) := by decide +kernel
theorem dX14_begin_319 : decode cX14_begin 319 = .ok (.aload_n 0, 1) := by decide +kernel
theorem dX14_begin_320 : decode cX14_begin 320 = .ok (.getfield 149, 3) := by decide +kernel
theorem dX14_begin_323 : decode cX14_begin 323 = .ok (.aload_n 0, 1) := by decide +kernel
theorem dX14_begin_324 : decode cX14_begin 324 = .ok (.getfield 179, 3) := by decide +kernel
theorem dX14_begin_327 : decode cX14_begin 327 = .ok (.iload_n 2, 1) := by decide +kernel
theorem dX14_begin_328 : decode cX14_begin 328 = .ok (.iaload, 1) := by decide +kernel
theorem dX14_begin_329 : decode cX14_begin 329 = .ok (.iaload, 1) := by decide +kernel
theorem dX14_begin_330 : decode cX14_begin 330 = .ok (.istore_n 3, 1) := by decide +kernel
theorem dX14_begin_331 : decode cX14_begin 331 = .ok (.aload_n 0, 1) := by decide +kernel
theorem dX14_begin_332 : decode cX14_begin 332 = .ok (.getfield 131, 3) := by decide +kernel
theorem dX14_begin_335 : decode cX14_begin 335 = .ok (.iload_n 3, 1) := by decide +kernel
theorem dX14_begin_336 : decode cX14_begin 336 = .ok (.iaload, 1) := by decide +kernel
theorem dX14_begin_337 : decode cX14_begin 337 = .ok (.ifCond .ge 32, 3) := by decide +kernel
theorem dX14_begin_340 : decode cX14_begin 340 = .ok (.aload_n 0, 1) := by decide +kernel
theorem dX14_begin_341 : decode cX14_begin 341 = .ok (.aload_n 0, 1) := by decide +kernel
theorem dX14_begin_342 : decode cX14_begin 342 = .ok (.getfield 134, 3) := by decide +kernel
theorem dX14_begin_345 : decode cX14_begin 345 = .ok (.iload_n 3, 1) := by decide +kernel
theorem dX14_begin_346 : decode cX14_begin 346 = .ok (.iaload, 1) := by decide +kernel
theorem dX14_begin_347 : decode cX14_begin 347 = .ok (.invokevirtual 978, 3) := by decide +kernel
theorem dX14_begin_350 : decode cX14_begin 350 = .ok (.ifCond .eq 19, 3) := by decide +kernel
theorem dX14_begin_353 : decode cX14_begin 353 = .ok (.aload_n 0, 1) := by decide +kernel
theorem dX14_begin_354 : decode cX14_begin 354 = .ok (.aload_n 0, 1) := by decide +kernel
theorem dX14_begin_355 : decode cX14_begin 355 = .ok (.getfield 299, 3) := by decide +kernel
theorem dX14_begin_358 : decode cX14_begin 358 = .ok (.iload_n 2, 1) := by decide +kernel
theorem dX14_begin_359 : decode cX14_begin 359 = .ok (.laload, 1) := by decide +kernel
theorem dX14_begin_360 : decode cX14_begin 360 = .ok (.aload_n 0, 1) := by decide +kernel
theorem dX14_begin_361 : decode cX14_begin 361 = .ok (.getfield 134, 3) := by decide +kernel
theorem dX14_begin_364 : decode cX14_begin 364 = .ok (.iload_n 3, 1) := by decide +kernel
theorem dX14_begin_365 : decode cX14_begin 365 = .ok (.iaload, 1) := by decide +kernel
theorem dX14_begin_366 : decode cX14_begin 366 = .ok (.invokevirtual 959, 3) := by decide +kernel
theorem dX14_begin_369 : decode cX14_begin 369 = .ok (.iinc 2 1, 3) := by decide +kernel
theorem dX14_begin_372 : decode cX14_begin 372 = .ok (.goto (-61), 3) := by decide +kernel
theorem dX14_begin_375 : decode cX14_begin 375 = .ok (.return_, 1) := by decide +kernel
def pw_c_X14_put : List Cond := .code yX14_put cX14_put 3 none :: ([.fieldLink RX14 16 "NeedHouseModel" "tape" "[I", .fieldLink RX14 333 "NeedHouseModel" "taped" "I"] ++ (wsX140 ++ []))
set_option maxHeartbeats 4000000 in
set_option maxRecDepth 100000 in
theorem c_X14_put (l : Launch) (dC : Nat → ClassId) (dI : Nat → Nat → Nat) (sz : Nat) (h0 : Nat) (qt : Nat) (cI : ClassId) (fs : List Value) (f : Nat → Int32) (n : Nat) (p0 : Int32) (hF : hasF fs 136 [(2, .ref qt), (3, .int (nI n))]) (hn : n + 4 ≤ 4000) : Met l yX14_put pw_c_X14_put ({ frames := 0, cells := 0, slots := 0, locals := 0 }) (va_Pc [.ref h0, .int p0] (fun U => U.heap.size = sz ∧ va_P (dC, dI) vwCl [(h0, .inr (14, fs)), (qt, .inl (cI, 4000, .inl f))] U.heap ∧ va_K (dC, dI) vwCl [(cI, .int)] U ∧ va_D (fun _ => True) [(h0, .inr (14, fs)), (qt, .inl (cI, 4000, .inl f))])) (va_Qv (fun (u : (List Value) × (Nat → Int32)) => hasF u.1 136 [(3, .int (nI (n + 4)))] ∧ sameF fs u.1 [3]) (fun (u : (List Value) × (Nat → Int32)) (t : State) => va_P (dC, dI) vwCl [(h0, .inr (14, u.1)), (qt, .inl (cI, 4000, .inl u.2))] t.heap ∧ va_K (dC, dI) vwCl [(cI, .int)] t ∧ va_D (va_A [(h0, .inr (14, fs)), (qt, .inl (cI, 4000, .inl f))] sz) [(h0, .inr (14, u.1)), (qt, .inl (cI, 4000, .inl u.2))]) (va_A [(h0, .inr (14, fs)), (qt, .inl (cI, 4000, .inl f))] sz)) 0 0 (va_A [(h0, .inr (14, fs)), (qt, .inl (cI, 4000, .inl f))] sz) := by
  refine Met.ofW (cc := cX14_put) (maxL := 3) (ret := none) (by decide) rfl ?_
  intro p e s m args below meth c s₁ B hml hv
  obtain ⟨rfl, hsz, hP, hK, hD0⟩ := hv
  have hx := B.exec
  have hb := B.bytes
  have hr := B.returns
  have hts := atoms_spec (ws := pw_c_X14_put) B.pre
  have hown : s.vm.findClass RX14 = some m.cls := findClass_of_methodNamed B.named
  have hlocks := B.notSynchronized
  have hin_X14 : ∀ w ∈ u_ws RX14 TX14 136, w ∈ pw_c_X14_put := fun w h => List.mem_cons_of_mem _ (List.mem_append_right _ (List.mem_append_left _ h))
  subst hsz
  have hD := hD0.self (sz := s.heap.size)
  generalize hAe : va_A [(h0, .inr (14, fs)), (qt, .inl (cI, 4000, .inl f))] s.heap.size = A at hD ⊢
  have hA : ∀ q : Nat, s.heap.size ≤ q → A q := fun q h => by rw [← hAe]; exact Or.inr h
  have hS : va_S A s.heap s.heap [] := va_S.rf
  have hP : va_P (dC, dI) vwCl [(h0, .inr (14, fs)), (qt, .inl (cI, 4000, .inl f))] s.heap := hP
  have hl := lv_entry ([.ref h0, .int p0]) (n := 3) (Nat.le_of_ble_eq_true rfl)
  rw [lg_entry_eq]
  generalize (lg_sl ([.ref h0, .int p0]) ++ List.replicate (3 - (lg_sl ([.ref h0, .int p0])).length) Slot.unset).toArray = ls at hl ⊢
  have hl : lv_has ls 3 [(0, .ref h0), (1, .int p0)] := hl
  refine lv_bipush (v := 24) hx hb dX14_put_0 (by decide) ?_
  refine lv_istore_n (lv' := [(2, .int 24), (0, .ref h0), (1, .int p0)]) hx hb dX14_put_2 rfl hl (by decide) rfl (fun ls hl => ?_)
  refine lv_iload_n hx hb dX14_put_3 rfl (lv_at hl 0 rfl) ?_
  refine lv_if_lt (tgt := 39) hx hb dX14_put_4 (by decide) (fun c_1 => absurd c_1 (by decide)) (fun _ => ?_)
  refine lv_aload_n hx hb dX14_put_7 rfl (lv_at hl 1 rfl) ?_
  refine va_get (D := (dC, dI)) (ci := 14) (v := .ref qt) (C := RX14) (T := TX14) (N := 136) hx hb hts hin_X14 hown hK hP 0 rfl rfl 2 (by decide) (hts (.fieldLink RX14 16 "NeedHouseModel" "tape" "[I") (List.mem_of_getElem? (i := 1) rfl)) (fun _ h9 => h9) (hF.at 0 rfl) dX14_put_8 ?_
  refine lv_aload_n hx hb dX14_put_11 rfl (lv_at hl 1 rfl) ?_
  refine va_get (D := (dC, dI)) (ci := 14) (v := .int (nI n)) (C := RX14) (T := TX14) (N := 136) hx hb hts hin_X14 hown hK hP 0 rfl rfl 3 (by decide) (hts (.fieldLink RX14 333 "NeedHouseModel" "taped" "I") (List.mem_of_getElem? (i := 2) rfl)) (fun _ h9 => h9) (hF.at 1 rfl) dX14_put_12 ?_
  refine lv_iload_n hx hb dX14_put_15 rfl (lv_at hl 2 rfl) ?_
  refine lv_iload_n hx hb dX14_put_16 rfl (lv_at hl 0 rfl) ?_
  refine lv_ishr hx hb dX14_put_17 ?_
  refine lv_topi (fun x_2 ex_2 => ?_)
  refine lv_sipush (v := 255) hx hb dX14_put_18 (by decide) ?_
  refine lv_iand hx hb dX14_put_21 ?_
  refine lv_topi (fun x_3 ex_3 => ?_)
  refine va_iast hx hb hK hP hD hS 1 0 rfl rfl (vp_in_nI (by omega) (by decide)) dX14_put_22 (fun H locs hP hD hS => ?_)
  have hP : va_P (dC, dI) vwCl [(h0, .inr (14, fs)), (qt, .inl (cI, 4000, .inl (upd f (nI n : Int32).toNatClampNeg x_3)))] H := hP
  have hD : va_D A [(h0, .inr (14, fs)), (qt, .inl (cI, 4000, .inl (upd f (nI n : Int32).toNatClampNeg x_3)))] := hD
  generalize upd f (nI n : Int32).toNatClampNeg x_3 = f_4 at hP hD
  have hP : va_P (dC, dI) vwCl [(h0, .inr (14, fs)), (qt, .inl (cI, 4000, .inl f_4))] H := hP
  have hD : va_D A [(h0, .inr (14, fs)), (qt, .inl (cI, 4000, .inl f_4))] := hD
  refine lv_aload_n hx hb dX14_put_23 rfl (lv_at hl 1 rfl) ?_
  refine lv_dup hx hb dX14_put_24 rfl ?_
  refine va_get (D := (dC, dI)) (ci := 14) (v := .int (nI n)) (C := RX14) (T := TX14) (N := 136) hx hb hts hin_X14 hown hK hP 0 rfl rfl 3 (by decide) (hts (.fieldLink RX14 333 "NeedHouseModel" "taped" "I") (List.mem_of_getElem? (i := 2) rfl)) (fun _ h9 => h9) (hF.at 1 rfl) dX14_put_25 ?_
  refine lv_iconst (v := 1) hx hb dX14_put_28 (by decide) ?_
  refine lv_iadd hx hb dX14_put_29 ?_
  refine lv_topi (fun x_5 ex_5 => ?_)
  obtain rfl : x_5 = (nI (n + 1)) := ex_5.trans (by first | exact nI_1 _ | exact nI_add _ _)
  refine va_put (D := (dC, dI)) (ci := 14) (v := .int (nI (n + 1))) (ty := .int) (C := RX14) (T := TX14) (N := 136) hx hb hts hin_X14 tyX14 tyX14_ok nmX14 hown hK hP hD hS 0 rfl rfl 3 (by decide) (hts (.fieldLink RX14 333 "NeedHouseModel" "taped" "I") (List.mem_of_getElem? (i := 2) rfl)) (fun _ h9 => h9) rfl (by decide +kernel) rfl rfl (by rw [hF.1]; decide) dX14_put_30 (fun H locs hP hD hS => ?_)
  have hP : va_P (dC, dI) vwCl [(h0, .inr (14, (fs.set 3 (.int (nI (n + 1)))))), (qt, .inl (cI, 4000, .inl f_4))] H := hP
  have hD : va_D A [(h0, .inr (14, (fs.set 3 (.int (nI (n + 1)))))), (qt, .inl (cI, 4000, .inl f_4))] := hD
  have hF_6 := hF.set 3 (.int (nI (n + 1))) (l' := [(3, .int (nI (n + 1))), (2, .ref qt)]) (by decide) rfl
  have hE_7 := (sameF.rf (f := fs)).set 3 (.int (nI (n + 1)))
  generalize fs.set 3 (.int (nI (n + 1))) = fs_8 at hP hD hF_6 hE_7
  have hP : va_P (dC, dI) vwCl [(h0, .inr (14, fs_8)), (qt, .inl (cI, 4000, .inl f_4))] H := hP
  have hD : va_D A [(h0, .inr (14, fs_8)), (qt, .inl (cI, 4000, .inl f_4))] := hD
  refine lv_iinc (v := 16) (lv' := [(2, .int 16), (0, .ref h0), (1, .int p0)]) hx hb dX14_put_33 hl (k := 0) rfl (by decide +kernel) (by decide) rfl (fun ls hl => ?_)
  refine lv_goto (tgt := 3) hx hb dX14_put_36 (by decide) ?_
  refine lv_iload_n hx hb dX14_put_3 rfl (lv_at hl 0 rfl) ?_
  refine lv_if_lt (tgt := 39) hx hb dX14_put_4 (by decide) (fun c_9 => absurd c_9 (by decide)) (fun _ => ?_)
  refine lv_aload_n hx hb dX14_put_7 rfl (lv_at hl 1 rfl) ?_
  refine va_get (D := (dC, dI)) (ci := 14) (v := .ref qt) (C := RX14) (T := TX14) (N := 136) hx hb hts hin_X14 hown hK hP 0 rfl rfl 2 (by decide) (hts (.fieldLink RX14 16 "NeedHouseModel" "tape" "[I") (List.mem_of_getElem? (i := 1) rfl)) (fun _ h9 => h9) (hF_6.at 1 rfl) dX14_put_8 ?_
  refine lv_aload_n hx hb dX14_put_11 rfl (lv_at hl 1 rfl) ?_
  refine va_get (D := (dC, dI)) (ci := 14) (v := .int (nI (n + 1))) (C := RX14) (T := TX14) (N := 136) hx hb hts hin_X14 hown hK hP 0 rfl rfl 3 (by decide) (hts (.fieldLink RX14 333 "NeedHouseModel" "taped" "I") (List.mem_of_getElem? (i := 2) rfl)) (fun _ h9 => h9) (hF_6.at 0 rfl) dX14_put_12 ?_
  refine lv_iload_n hx hb dX14_put_15 rfl (lv_at hl 2 rfl) ?_
  refine lv_iload_n hx hb dX14_put_16 rfl (lv_at hl 0 rfl) ?_
  refine lv_ishr hx hb dX14_put_17 ?_
  refine lv_topi (fun x_10 ex_10 => ?_)
  refine lv_sipush (v := 255) hx hb dX14_put_18 (by decide) ?_
  refine lv_iand hx hb dX14_put_21 ?_
  refine lv_topi (fun x_11 ex_11 => ?_)
  refine va_iast hx hb hK hP hD hS 1 0 rfl rfl (vp_in_nI (by omega) (by decide)) dX14_put_22 (fun H locs hP hD hS => ?_)
  have hP : va_P (dC, dI) vwCl [(h0, .inr (14, fs_8)), (qt, .inl (cI, 4000, .inl (upd f_4 ((nI (n + 1)) : Int32).toNatClampNeg x_11)))] H := hP
  have hD : va_D A [(h0, .inr (14, fs_8)), (qt, .inl (cI, 4000, .inl (upd f_4 ((nI (n + 1)) : Int32).toNatClampNeg x_11)))] := hD
  generalize upd f_4 ((nI (n + 1)) : Int32).toNatClampNeg x_11 = f_12 at hP hD
  have hP : va_P (dC, dI) vwCl [(h0, .inr (14, fs_8)), (qt, .inl (cI, 4000, .inl f_12))] H := hP
  have hD : va_D A [(h0, .inr (14, fs_8)), (qt, .inl (cI, 4000, .inl f_12))] := hD
  refine lv_aload_n hx hb dX14_put_23 rfl (lv_at hl 1 rfl) ?_
  refine lv_dup hx hb dX14_put_24 rfl ?_
  refine va_get (D := (dC, dI)) (ci := 14) (v := .int (nI (n + 1))) (C := RX14) (T := TX14) (N := 136) hx hb hts hin_X14 hown hK hP 0 rfl rfl 3 (by decide) (hts (.fieldLink RX14 333 "NeedHouseModel" "taped" "I") (List.mem_of_getElem? (i := 2) rfl)) (fun _ h9 => h9) (hF_6.at 0 rfl) dX14_put_25 ?_
  refine lv_iconst (v := 1) hx hb dX14_put_28 (by decide) ?_
  refine lv_iadd hx hb dX14_put_29 ?_
  refine lv_topi (fun x_13 ex_13 => ?_)
  obtain rfl : x_13 = (nI (n + 2)) := ex_13.trans (by first | exact nI_1 _ | exact nI_add _ _)
  refine va_put (D := (dC, dI)) (ci := 14) (v := .int (nI (n + 2))) (ty := .int) (C := RX14) (T := TX14) (N := 136) hx hb hts hin_X14 tyX14 tyX14_ok nmX14 hown hK hP hD hS 0 rfl rfl 3 (by decide) (hts (.fieldLink RX14 333 "NeedHouseModel" "taped" "I") (List.mem_of_getElem? (i := 2) rfl)) (fun _ h9 => h9) rfl (by decide +kernel) rfl rfl (by rw [hF_6.1]; decide) dX14_put_30 (fun H locs hP hD hS => ?_)
  have hP : va_P (dC, dI) vwCl [(h0, .inr (14, (fs_8.set 3 (.int (nI (n + 2)))))), (qt, .inl (cI, 4000, .inl f_12))] H := hP
  have hD : va_D A [(h0, .inr (14, (fs_8.set 3 (.int (nI (n + 2)))))), (qt, .inl (cI, 4000, .inl f_12))] := hD
  have hF_14 := hF_6.set 3 (.int (nI (n + 2))) (l' := [(3, .int (nI (n + 2))), (2, .ref qt)]) (by decide) rfl
  have hE_15 := hE_7.set 3 (.int (nI (n + 2)))
  generalize fs_8.set 3 (.int (nI (n + 2))) = fs_16 at hP hD hF_14 hE_15
  have hP : va_P (dC, dI) vwCl [(h0, .inr (14, fs_16)), (qt, .inl (cI, 4000, .inl f_12))] H := hP
  have hD : va_D A [(h0, .inr (14, fs_16)), (qt, .inl (cI, 4000, .inl f_12))] := hD
  refine lv_iinc (v := 8) (lv' := [(2, .int 8), (0, .ref h0), (1, .int p0)]) hx hb dX14_put_33 hl (k := 0) rfl (by decide +kernel) (by decide) rfl (fun ls hl => ?_)
  refine lv_goto (tgt := 3) hx hb dX14_put_36 (by decide) ?_
  refine lv_iload_n hx hb dX14_put_3 rfl (lv_at hl 0 rfl) ?_
  refine lv_if_lt (tgt := 39) hx hb dX14_put_4 (by decide) (fun c_17 => absurd c_17 (by decide)) (fun _ => ?_)
  refine lv_aload_n hx hb dX14_put_7 rfl (lv_at hl 1 rfl) ?_
  refine va_get (D := (dC, dI)) (ci := 14) (v := .ref qt) (C := RX14) (T := TX14) (N := 136) hx hb hts hin_X14 hown hK hP 0 rfl rfl 2 (by decide) (hts (.fieldLink RX14 16 "NeedHouseModel" "tape" "[I") (List.mem_of_getElem? (i := 1) rfl)) (fun _ h9 => h9) (hF_14.at 1 rfl) dX14_put_8 ?_
  refine lv_aload_n hx hb dX14_put_11 rfl (lv_at hl 1 rfl) ?_
  refine va_get (D := (dC, dI)) (ci := 14) (v := .int (nI (n + 2))) (C := RX14) (T := TX14) (N := 136) hx hb hts hin_X14 hown hK hP 0 rfl rfl 3 (by decide) (hts (.fieldLink RX14 333 "NeedHouseModel" "taped" "I") (List.mem_of_getElem? (i := 2) rfl)) (fun _ h9 => h9) (hF_14.at 0 rfl) dX14_put_12 ?_
  refine lv_iload_n hx hb dX14_put_15 rfl (lv_at hl 2 rfl) ?_
  refine lv_iload_n hx hb dX14_put_16 rfl (lv_at hl 0 rfl) ?_
  refine lv_ishr hx hb dX14_put_17 ?_
  refine lv_topi (fun x_18 ex_18 => ?_)
  refine lv_sipush (v := 255) hx hb dX14_put_18 (by decide) ?_
  refine lv_iand hx hb dX14_put_21 ?_
  refine lv_topi (fun x_19 ex_19 => ?_)
  refine va_iast hx hb hK hP hD hS 1 0 rfl rfl (vp_in_nI (by omega) (by decide)) dX14_put_22 (fun H locs hP hD hS => ?_)
  have hP : va_P (dC, dI) vwCl [(h0, .inr (14, fs_16)), (qt, .inl (cI, 4000, .inl (upd f_12 ((nI (n + 2)) : Int32).toNatClampNeg x_19)))] H := hP
  have hD : va_D A [(h0, .inr (14, fs_16)), (qt, .inl (cI, 4000, .inl (upd f_12 ((nI (n + 2)) : Int32).toNatClampNeg x_19)))] := hD
  generalize upd f_12 ((nI (n + 2)) : Int32).toNatClampNeg x_19 = f_20 at hP hD
  have hP : va_P (dC, dI) vwCl [(h0, .inr (14, fs_16)), (qt, .inl (cI, 4000, .inl f_20))] H := hP
  have hD : va_D A [(h0, .inr (14, fs_16)), (qt, .inl (cI, 4000, .inl f_20))] := hD
  refine lv_aload_n hx hb dX14_put_23 rfl (lv_at hl 1 rfl) ?_
  refine lv_dup hx hb dX14_put_24 rfl ?_
  refine va_get (D := (dC, dI)) (ci := 14) (v := .int (nI (n + 2))) (C := RX14) (T := TX14) (N := 136) hx hb hts hin_X14 hown hK hP 0 rfl rfl 3 (by decide) (hts (.fieldLink RX14 333 "NeedHouseModel" "taped" "I") (List.mem_of_getElem? (i := 2) rfl)) (fun _ h9 => h9) (hF_14.at 0 rfl) dX14_put_25 ?_
  refine lv_iconst (v := 1) hx hb dX14_put_28 (by decide) ?_
  refine lv_iadd hx hb dX14_put_29 ?_
  refine lv_topi (fun x_21 ex_21 => ?_)
  obtain rfl : x_21 = (nI (n + 3)) := ex_21.trans (by first | exact nI_1 _ | exact nI_add _ _)
  refine va_put (D := (dC, dI)) (ci := 14) (v := .int (nI (n + 3))) (ty := .int) (C := RX14) (T := TX14) (N := 136) hx hb hts hin_X14 tyX14 tyX14_ok nmX14 hown hK hP hD hS 0 rfl rfl 3 (by decide) (hts (.fieldLink RX14 333 "NeedHouseModel" "taped" "I") (List.mem_of_getElem? (i := 2) rfl)) (fun _ h9 => h9) rfl (by decide +kernel) rfl rfl (by rw [hF_14.1]; decide) dX14_put_30 (fun H locs hP hD hS => ?_)
  have hP : va_P (dC, dI) vwCl [(h0, .inr (14, (fs_16.set 3 (.int (nI (n + 3)))))), (qt, .inl (cI, 4000, .inl f_20))] H := hP
  have hD : va_D A [(h0, .inr (14, (fs_16.set 3 (.int (nI (n + 3)))))), (qt, .inl (cI, 4000, .inl f_20))] := hD
  have hF_22 := hF_14.set 3 (.int (nI (n + 3))) (l' := [(3, .int (nI (n + 3))), (2, .ref qt)]) (by decide) rfl
  have hE_23 := hE_15.set 3 (.int (nI (n + 3)))
  generalize fs_16.set 3 (.int (nI (n + 3))) = fs_24 at hP hD hF_22 hE_23
  have hP : va_P (dC, dI) vwCl [(h0, .inr (14, fs_24)), (qt, .inl (cI, 4000, .inl f_20))] H := hP
  have hD : va_D A [(h0, .inr (14, fs_24)), (qt, .inl (cI, 4000, .inl f_20))] := hD
  refine lv_iinc (v := 0) (lv' := [(2, .int 0), (0, .ref h0), (1, .int p0)]) hx hb dX14_put_33 hl (k := 0) rfl (by decide +kernel) (by decide) rfl (fun ls hl => ?_)
  refine lv_goto (tgt := 3) hx hb dX14_put_36 (by decide) ?_
  refine lv_iload_n hx hb dX14_put_3 rfl (lv_at hl 0 rfl) ?_
  refine lv_if_lt (tgt := 39) hx hb dX14_put_4 (by decide) (fun c_25 => absurd c_25 (by decide)) (fun _ => ?_)
  refine lv_aload_n hx hb dX14_put_7 rfl (lv_at hl 1 rfl) ?_
  refine va_get (D := (dC, dI)) (ci := 14) (v := .ref qt) (C := RX14) (T := TX14) (N := 136) hx hb hts hin_X14 hown hK hP 0 rfl rfl 2 (by decide) (hts (.fieldLink RX14 16 "NeedHouseModel" "tape" "[I") (List.mem_of_getElem? (i := 1) rfl)) (fun _ h9 => h9) (hF_22.at 1 rfl) dX14_put_8 ?_
  refine lv_aload_n hx hb dX14_put_11 rfl (lv_at hl 1 rfl) ?_
  refine va_get (D := (dC, dI)) (ci := 14) (v := .int (nI (n + 3))) (C := RX14) (T := TX14) (N := 136) hx hb hts hin_X14 hown hK hP 0 rfl rfl 3 (by decide) (hts (.fieldLink RX14 333 "NeedHouseModel" "taped" "I") (List.mem_of_getElem? (i := 2) rfl)) (fun _ h9 => h9) (hF_22.at 0 rfl) dX14_put_12 ?_
  refine lv_iload_n hx hb dX14_put_15 rfl (lv_at hl 2 rfl) ?_
  refine lv_iload_n hx hb dX14_put_16 rfl (lv_at hl 0 rfl) ?_
  refine lv_ishr hx hb dX14_put_17 ?_
  refine lv_topi (fun x_26 ex_26 => ?_)
  refine lv_sipush (v := 255) hx hb dX14_put_18 (by decide) ?_
  refine lv_iand hx hb dX14_put_21 ?_
  refine lv_topi (fun x_27 ex_27 => ?_)
  refine va_iast hx hb hK hP hD hS 1 0 rfl rfl (vp_in_nI (by omega) (by decide)) dX14_put_22 (fun H locs hP hD hS => ?_)
  have hP : va_P (dC, dI) vwCl [(h0, .inr (14, fs_24)), (qt, .inl (cI, 4000, .inl (upd f_20 ((nI (n + 3)) : Int32).toNatClampNeg x_27)))] H := hP
  have hD : va_D A [(h0, .inr (14, fs_24)), (qt, .inl (cI, 4000, .inl (upd f_20 ((nI (n + 3)) : Int32).toNatClampNeg x_27)))] := hD
  generalize upd f_20 ((nI (n + 3)) : Int32).toNatClampNeg x_27 = f_28 at hP hD
  have hP : va_P (dC, dI) vwCl [(h0, .inr (14, fs_24)), (qt, .inl (cI, 4000, .inl f_28))] H := hP
  have hD : va_D A [(h0, .inr (14, fs_24)), (qt, .inl (cI, 4000, .inl f_28))] := hD
  refine lv_aload_n hx hb dX14_put_23 rfl (lv_at hl 1 rfl) ?_
  refine lv_dup hx hb dX14_put_24 rfl ?_
  refine va_get (D := (dC, dI)) (ci := 14) (v := .int (nI (n + 3))) (C := RX14) (T := TX14) (N := 136) hx hb hts hin_X14 hown hK hP 0 rfl rfl 3 (by decide) (hts (.fieldLink RX14 333 "NeedHouseModel" "taped" "I") (List.mem_of_getElem? (i := 2) rfl)) (fun _ h9 => h9) (hF_22.at 0 rfl) dX14_put_25 ?_
  refine lv_iconst (v := 1) hx hb dX14_put_28 (by decide) ?_
  refine lv_iadd hx hb dX14_put_29 ?_
  refine lv_topi (fun x_29 ex_29 => ?_)
  obtain rfl : x_29 = (nI (n + 4)) := ex_29.trans (by first | exact nI_1 _ | exact nI_add _ _)
  refine va_put (D := (dC, dI)) (ci := 14) (v := .int (nI (n + 4))) (ty := .int) (C := RX14) (T := TX14) (N := 136) hx hb hts hin_X14 tyX14 tyX14_ok nmX14 hown hK hP hD hS 0 rfl rfl 3 (by decide) (hts (.fieldLink RX14 333 "NeedHouseModel" "taped" "I") (List.mem_of_getElem? (i := 2) rfl)) (fun _ h9 => h9) rfl (by decide +kernel) rfl rfl (by rw [hF_22.1]; decide) dX14_put_30 (fun H locs hP hD hS => ?_)
  have hP : va_P (dC, dI) vwCl [(h0, .inr (14, (fs_24.set 3 (.int (nI (n + 4)))))), (qt, .inl (cI, 4000, .inl f_28))] H := hP
  have hD : va_D A [(h0, .inr (14, (fs_24.set 3 (.int (nI (n + 4)))))), (qt, .inl (cI, 4000, .inl f_28))] := hD
  have hF_30 := hF_22.set 3 (.int (nI (n + 4))) (l' := [(3, .int (nI (n + 4))), (2, .ref qt)]) (by decide) rfl
  have hE_31 := hE_23.set 3 (.int (nI (n + 4)))
  generalize fs_24.set 3 (.int (nI (n + 4))) = fs_32 at hP hD hF_30 hE_31
  have hP : va_P (dC, dI) vwCl [(h0, .inr (14, fs_32)), (qt, .inl (cI, 4000, .inl f_28))] H := hP
  have hD : va_D A [(h0, .inr (14, fs_32)), (qt, .inl (cI, 4000, .inl f_28))] := hD
  refine lv_iinc (v := (-8)) (lv' := [(2, .int (-8)), (0, .ref h0), (1, .int p0)]) hx hb dX14_put_33 hl (k := 0) rfl (by decide +kernel) (by decide) rfl (fun ls hl => ?_)
  refine lv_goto (tgt := 3) hx hb dX14_put_36 (by decide) ?_
  refine lv_iload_n hx hb dX14_put_3 rfl (lv_at hl 0 rfl) ?_
  refine lv_if_lt (tgt := 39) hx hb dX14_put_4 (by decide) (fun _ => ?_) (fun c_33 => absurd (by decide) c_33)
  have hP9 := hP.sub (ws' := [(h0, .inr (14, fs_32)), (qt, .inl (cI, 4000, .inl f_28))]) [0, 1] rfl
  have hD9 := hD.sub (ws' := [(h0, .inr (14, fs_32)), (qt, .inl (cI, 4000, .inl f_28))]) [0, 1] (by decide) rfl
  have hK9 := hK.sub (tys' := [(cI, .int)]) [0] rfl
  exact W.vret hx hb hr (fun t ht hW => ⟨⟨((fs_32, f_28)), rfl, ⟨hF_30.sub [0] rfl, hE_31.mono (by decide)⟩, by rw [ht]; exact hP9, va_K.moved hW.alike hK9, hD9⟩, hS.F ht⟩) hS.2.2 dX14_put_39
def pw_c_X14_feed : List Cond := .code yX14_feed cX14_feed 6 (some .int) :: ([.fieldLink RX14 329 "NeedHouseModel" "thrown" "I", .fieldLink RX14 333 "NeedHouseModel" "taped" "I", .methodLink RX14 336 yX14_put, .instanceMethod yX14_put, .selects RX14 yX14_put yX14_put, .initialized RX14, .code yX14_put cX14_put 3 none, .fieldLink RX14 16 "NeedHouseModel" "tape" "[I"] ++ (wsX140 ++ []))
set_option maxRecDepth 20000 in
theorem g_c_X14_feed_c_X14_put_22 : GoodIn pw_c_X14_feed (wsV RX14 336 RX14 yX14_put pw_c_X14_put) := goodIn_r _ [3, 4, 5, 6, 7, 8, 2, 9, 10, 11, 12, 13, 14, 15, 16, 17, 18, 19, 20, 21, 22, 23, 24, 25, 26, 27, 28, 29, 30, 31, 32, 33, 34, 35, 36, 37, 38, 39, 40, 41, 42, 43, 44, 45, 46, 47, 48, 49, 50, 51, 52, 53, 54, 55, 56, 57, 58, 59, 60, 61, 62, 63, 64, 65, 66, 67, 68, 69, 70, 71, 72, 73, 74, 75, 76, 77, 78, 79, 80, 81, 82, 83, 84, 85, 86, 87, 88, 89, 90, 91, 92, 93, 94, 95, 96, 97, 98, 99, 100, 101, 102, 103, 104, 105, 106, 107, 108, 109, 110, 111, 112, 113, 114, 115, 116, 117, 118, 119, 120, 121, 122, 123, 124, 125, 126, 127, 128, 129, 130, 131, 132, 133, 134, 135, 136, 137, 138, 139, 140, 141, 142, 143, 144] rfl (by decide +kernel)
set_option maxRecDepth 20000 in
theorem g_c_X14_feed_c_X14_put_27 : GoodIn pw_c_X14_feed (wsV RX14 336 RX14 yX14_put pw_c_X14_put) := goodIn_r _ [3, 4, 5, 6, 7, 8, 2, 9, 10, 11, 12, 13, 14, 15, 16, 17, 18, 19, 20, 21, 22, 23, 24, 25, 26, 27, 28, 29, 30, 31, 32, 33, 34, 35, 36, 37, 38, 39, 40, 41, 42, 43, 44, 45, 46, 47, 48, 49, 50, 51, 52, 53, 54, 55, 56, 57, 58, 59, 60, 61, 62, 63, 64, 65, 66, 67, 68, 69, 70, 71, 72, 73, 74, 75, 76, 77, 78, 79, 80, 81, 82, 83, 84, 85, 86, 87, 88, 89, 90, 91, 92, 93, 94, 95, 96, 97, 98, 99, 100, 101, 102, 103, 104, 105, 106, 107, 108, 109, 110, 111, 112, 113, 114, 115, 116, 117, 118, 119, 120, 121, 122, 123, 124, 125, 126, 127, 128, 129, 130, 131, 132, 133, 134, 135, 136, 137, 138, 139, 140, 141, 142, 143, 144] rfl (by decide +kernel)
set_option maxRecDepth 20000 in
theorem g_c_X14_feed_c_X14_put_32 : GoodIn pw_c_X14_feed (wsV RX14 336 RX14 yX14_put pw_c_X14_put) := goodIn_r _ [3, 4, 5, 6, 7, 8, 2, 9, 10, 11, 12, 13, 14, 15, 16, 17, 18, 19, 20, 21, 22, 23, 24, 25, 26, 27, 28, 29, 30, 31, 32, 33, 34, 35, 36, 37, 38, 39, 40, 41, 42, 43, 44, 45, 46, 47, 48, 49, 50, 51, 52, 53, 54, 55, 56, 57, 58, 59, 60, 61, 62, 63, 64, 65, 66, 67, 68, 69, 70, 71, 72, 73, 74, 75, 76, 77, 78, 79, 80, 81, 82, 83, 84, 85, 86, 87, 88, 89, 90, 91, 92, 93, 94, 95, 96, 97, 98, 99, 100, 101, 102, 103, 104, 105, 106, 107, 108, 109, 110, 111, 112, 113, 114, 115, 116, 117, 118, 119, 120, 121, 122, 123, 124, 125, 126, 127, 128, 129, 130, 131, 132, 133, 134, 135, 136, 137, 138, 139, 140, 141, 142, 143, 144] rfl (by decide +kernel)
set_option maxRecDepth 20000 in
theorem g_c_X14_feed_c_X14_put_38 : GoodIn pw_c_X14_feed (wsV RX14 336 RX14 yX14_put pw_c_X14_put) := goodIn_r _ [3, 4, 5, 6, 7, 8, 2, 9, 10, 11, 12, 13, 14, 15, 16, 17, 18, 19, 20, 21, 22, 23, 24, 25, 26, 27, 28, 29, 30, 31, 32, 33, 34, 35, 36, 37, 38, 39, 40, 41, 42, 43, 44, 45, 46, 47, 48, 49, 50, 51, 52, 53, 54, 55, 56, 57, 58, 59, 60, 61, 62, 63, 64, 65, 66, 67, 68, 69, 70, 71, 72, 73, 74, 75, 76, 77, 78, 79, 80, 81, 82, 83, 84, 85, 86, 87, 88, 89, 90, 91, 92, 93, 94, 95, 96, 97, 98, 99, 100, 101, 102, 103, 104, 105, 106, 107, 108, 109, 110, 111, 112, 113, 114, 115, 116, 117, 118, 119, 120, 121, 122, 123, 124, 125, 126, 127, 128, 129, 130, 131, 132, 133, 134, 135, 136, 137, 138, 139, 140, 141, 142, 143, 144] rfl (by decide +kernel)
set_option maxRecDepth 20000 in
theorem g_c_X14_feed_c_X14_put_44 : GoodIn pw_c_X14_feed (wsV RX14 336 RX14 yX14_put pw_c_X14_put) := goodIn_r _ [3, 4, 5, 6, 7, 8, 2, 9, 10, 11, 12, 13, 14, 15, 16, 17, 18, 19, 20, 21, 22, 23, 24, 25, 26, 27, 28, 29, 30, 31, 32, 33, 34, 35, 36, 37, 38, 39, 40, 41, 42, 43, 44, 45, 46, 47, 48, 49, 50, 51, 52, 53, 54, 55, 56, 57, 58, 59, 60, 61, 62, 63, 64, 65, 66, 67, 68, 69, 70, 71, 72, 73, 74, 75, 76, 77, 78, 79, 80, 81, 82, 83, 84, 85, 86, 87, 88, 89, 90, 91, 92, 93, 94, 95, 96, 97, 98, 99, 100, 101, 102, 103, 104, 105, 106, 107, 108, 109, 110, 111, 112, 113, 114, 115, 116, 117, 118, 119, 120, 121, 122, 123, 124, 125, 126, 127, 128, 129, 130, 131, 132, 133, 134, 135, 136, 137, 138, 139, 140, 141, 142, 143, 144] rfl (by decide +kernel)
set_option maxHeartbeats 4000000 in
set_option maxRecDepth 100000 in
theorem c_X14_feed (l : Launch) (dC : Nat → ClassId) (dI : Nat → Nat → Nat) (sz : Nat) (h0 : Nat) (qt : Nat) (cI : ClassId) (fs : List Value) (f : Nat → Int32) (th : Int32) (p0 : Int32) (p1 : Int32) (p2 : Int32) (p3 : Int32) (p4 : Int32) (hF : hasF fs 136 [(1, .int th), (2, .ref qt), (3, .int 0)]) : Met l yX14_feed pw_c_X14_feed ({ frames := 1, cells := 0, slots := 0, locals := 22 }) (va_Pc [.ref h0, .int p0, .int p1, .int p2, .int p3, .int p4] (fun U => U.heap.size = sz ∧ va_P (dC, dI) vwCl [(h0, .inr (14, fs)), (qt, .inl (cI, 4000, .inl f))] U.heap ∧ va_K (dC, dI) vwCl [(cI, .int)] U ∧ va_D (fun _ => True) [(h0, .inr (14, fs)), (qt, .inl (cI, 4000, .inl f))])) (va_Qi (fun (r : Int32) (u : (List Value) × (Nat → Int32)) => r = nI 20 ∧ hasF u.1 136 [(3, .int (nI 20)), (1, .int 0)] ∧ sameF fs u.1 [3, 1]) (fun (u : (List Value) × (Nat → Int32)) (t : State) => va_P (dC, dI) vwCl [(h0, .inr (14, u.1)), (qt, .inl (cI, 4000, .inl u.2))] t.heap ∧ va_K (dC, dI) vwCl [(cI, .int)] t ∧ va_D (va_A [(h0, .inr (14, fs)), (qt, .inl (cI, 4000, .inl f))] sz) [(h0, .inr (14, u.1)), (qt, .inl (cI, 4000, .inl u.2))]) (va_A [(h0, .inr (14, fs)), (qt, .inl (cI, 4000, .inl f))] sz)) 0 0 (va_A [(h0, .inr (14, fs)), (qt, .inl (cI, 4000, .inl f))] sz) := by
  refine Met.ofW (cc := cX14_feed) (maxL := 6) (ret := (some .int)) (by decide) rfl ?_
  intro p e s m args below meth c s₁ B hml hv
  obtain ⟨rfl, hsz, hP, hK, hD0⟩ := hv
  have hx := B.exec
  have hb := B.bytes
  have hr := B.returns
  have hts := atoms_spec (ws := pw_c_X14_feed) B.pre
  have hown : s.vm.findClass RX14 = some m.cls := findClass_of_methodNamed B.named
  have hlocks := B.notSynchronized
  have hin_X14 : ∀ w ∈ u_ws RX14 TX14 136, w ∈ pw_c_X14_feed := fun w h => List.mem_cons_of_mem _ (List.mem_append_right _ (List.mem_append_left _ h))
  subst hsz
  have hD := hD0.self (sz := s.heap.size)
  generalize hAe : va_A [(h0, .inr (14, fs)), (qt, .inl (cI, 4000, .inl f))] s.heap.size = A at hD ⊢
  have hA : ∀ q : Nat, s.heap.size ≤ q → A q := fun q h => by rw [← hAe]; exact Or.inr h
  have hS : va_S A s.heap s.heap [] := va_S.rf
  have hP : va_P (dC, dI) vwCl [(h0, .inr (14, fs)), (qt, .inl (cI, 4000, .inl f))] s.heap := hP
  have hl := lv_entry ([.ref h0, .int p0, .int p1, .int p2, .int p3, .int p4]) (n := 6) (Nat.le_of_ble_eq_true rfl)
  rw [lg_entry_eq]
  generalize (lg_sl ([.ref h0, .int p0, .int p1, .int p2, .int p3, .int p4]) ++ List.replicate (6 - (lg_sl ([.ref h0, .int p0, .int p1, .int p2, .int p3, .int p4])).length) Slot.unset).toArray = ls at hl ⊢
  have hl : lv_has ls 6 [(0, .ref h0), (1, .int p0), (2, .int p1), (3, .int p2), (4, .int p3), (5, .int p4)] := hl
  refine lv_aload_n hx hb dX14_feed_0 rfl (lv_at hl 0 rfl) ?_
  refine lv_iconst (v := 0) hx hb dX14_feed_1 (by decide) ?_
  refine va_put (D := (dC, dI)) (ci := 14) (v := .int 0) (ty := .int) (C := RX14) (T := TX14) (N := 136) hx hb hts hin_X14 tyX14 tyX14_ok nmX14 hown hK hP hD hS 0 rfl rfl 1 (by decide) (hts (.fieldLink RX14 329 "NeedHouseModel" "thrown" "I") (List.mem_of_getElem? (i := 1) rfl)) (fun _ h9 => h9) rfl (by decide +kernel) rfl rfl (by rw [hF.1]; decide) dX14_feed_2 (fun H locs hP hD hS => ?_)
  have hP : va_P (dC, dI) vwCl [(h0, .inr (14, (fs.set 1 (.int 0)))), (qt, .inl (cI, 4000, .inl f))] H := hP
  have hD : va_D A [(h0, .inr (14, (fs.set 1 (.int 0)))), (qt, .inl (cI, 4000, .inl f))] := hD
  have hF_1 := hF.set 1 (.int 0) (l' := [(1, .int 0), (2, .ref qt), (3, .int 0)]) (by decide) rfl
  have hE_2 := (sameF.rf (f := fs)).set 1 (.int 0)
  generalize fs.set 1 (.int 0) = fs_3 at hP hD hF_1 hE_2
  have hP : va_P (dC, dI) vwCl [(h0, .inr (14, fs_3)), (qt, .inl (cI, 4000, .inl f))] H := hP
  have hD : va_D A [(h0, .inr (14, fs_3)), (qt, .inl (cI, 4000, .inl f))] := hD
  refine lv_aload_n hx hb dX14_feed_5 rfl (lv_at hl 0 rfl) ?_
  refine va_get (D := (dC, dI)) (ci := 14) (v := .int 0) (C := RX14) (T := TX14) (N := 136) hx hb hts hin_X14 hown hK hP 0 rfl rfl 3 (by decide) (hts (.fieldLink RX14 333 "NeedHouseModel" "taped" "I") (List.mem_of_getElem? (i := 2) rfl)) (fun _ h9 => h9) (hF_1.at 2 rfl) dX14_feed_6 ?_
  refine lv_bipush (v := 20) hx hb dX14_feed_9 (by decide) ?_
  refine lv_iadd hx hb dX14_feed_11 ?_
  refine lv_topi (fun x_4 ex_4 => ?_)
  obtain rfl : x_4 = 20 := ex_4.trans (by decide +kernel)
  refine lv_sipush (v := 4000) hx hb dX14_feed_12 (by decide) ?_
  refine lv_icmp_le (tgt := 20) hx hb dX14_feed_15 (by decide) (fun _ => ?_) (fun c_5 => absurd (by decide) c_5)
  refine lv_aload_n hx hb dX14_feed_20 rfl (lv_at hl 0 rfl) ?_
  refine lv_iload_n hx hb dX14_feed_21 rfl (lv_at hl 1 rfl) ?_
  have hF_6 : hasF fs_3 136 [(1, .int 0), (2, .ref qt), (3, .int (nI 0))] := hF_1
  have hPc := hP.sub (ws' := [(h0, .inr (14, fs_3)), (qt, .inl (cI, 4000, .inl f))]) [0, 1] rfl
  have hDc := hD.sub (ws' := [(h0, .inr (14, fs_3)), (qt, .inl (cI, 4000, .inl f))]) [0, 1] (by decide) rfl
  have hKc := hK.sub (tys' := [(cI, .int)]) [0] rfl
  have hFc := va_free (wc := [(h0, .inr (14, fs_3)), (qt, .inl (cI, 4000, .inl f))]) hD hS hA [0, 1] rfl
  refine va_callv (va_runV (As := [.int p0]) (rest := []) ⟨hx, hb, hml, hown, hts⟩ (c_X14_put l dC dI H.size h0 qt cI fs_3 f 0 p0 (hF_6.sub [1, 2] rfl) (by decide)) (cwV 1 hts g_c_X14_feed_c_X14_put_22 rfl rfl rfl (by decide +kernel) ⟨Nat.le_of_ble_eq_true rfl, Nat.le_of_ble_eq_true rfl⟩) ⟨fun a U g mk q => by obtain ⟨q0, q1, qP, qK, qD⟩ := q; exact ⟨q0, q1, qP, va_K.moved (u := U) (U := U.calling g mk a) (Vm.Alike.refl U.vm) qK, qD⟩, va_recv hKc hPc (ci := 14) (q0 := 0) rfl rfl, fun U hU hW => ⟨rfl, by rw [hU], by rw [hU]; exact hPc, va_K.moved hW.alike hKc, hDc.weaken (fun _ _ _ _ => trivial)⟩⟩ rfl rfl hl.1 rfl (lv_room (Nat.le_of_ble_eq_true rfl)) dX14_feed_22 ⟨show 0 + 0 ≤ 0 by decide, show 0 + 0 ≤ 0 by decide⟩) hS (fun q _ h => hFc q h) hFc (fun u t H1 locs ht hvm hw hB hz1 hk1 hS => ?_)
  obtain ⟨fs1_9, f1_10⟩ := u
  obtain ⟨hP1, hK1, hD1⟩ := hB
  rw [ht] at hP1
  have hK1 := va_K.moved hvm.symm hK1
  try dsimp only at hw hP1 hK1 hD1
  obtain ⟨hF_11, hE_12⟩ := hw
  obtain ⟨hP, hD⟩ := va_join (wr := []) (w1 := [(h0, .inr (14, fs1_9)), (qt, .inl (cI, 4000, .inl f1_10))]) hP hD [0, 1] [] rfl rfl (by decide) (by decide) hk1 hFc hP1 hD1
  generalize H1 = H at hP hS ⊢
  have hK := (hK.sub (tys' := []) [] rfl).app hK1
  have hK : va_K (dC, dI) vwCl [(cI, .int)] s := hK
  have hP : va_P (dC, dI) vwCl [(h0, .inr (14, fs1_9)), (qt, .inl (cI, 4000, .inl f1_10))] H := hP
  have hD : va_D A [(h0, .inr (14, fs1_9)), (qt, .inl (cI, 4000, .inl f1_10))] := hD
  have hF_13 := hF_6.same hE_12 (l' := [(1, .int 0), (2, .ref qt)]) rfl
  have hF_14 := hF_11.app hF_13
  have hE_15 := hE_2.trans hE_12
  refine lv_aload_n hx hb dX14_feed_25 rfl (lv_at hl 0 rfl) ?_
  refine lv_iload_n hx hb dX14_feed_26 rfl (lv_at hl 2 rfl) ?_
  have hF_16 : hasF fs1_9 136 [(3, .int (nI 4)), (1, .int 0), (2, .ref qt)] := hF_14
  have hPc := hP.sub (ws' := [(h0, .inr (14, fs1_9)), (qt, .inl (cI, 4000, .inl f1_10))]) [0, 1] rfl
  have hDc := hD.sub (ws' := [(h0, .inr (14, fs1_9)), (qt, .inl (cI, 4000, .inl f1_10))]) [0, 1] (by decide) rfl
  have hKc := hK.sub (tys' := [(cI, .int)]) [0] rfl
  have hFc := va_free (wc := [(h0, .inr (14, fs1_9)), (qt, .inl (cI, 4000, .inl f1_10))]) hD hS hA [0, 1] rfl
  refine va_callv (va_runV (As := [.int p1]) (rest := []) ⟨hx, hb, hml, hown, hts⟩ (c_X14_put l dC dI H.size h0 qt cI fs1_9 f1_10 4 p1 (hF_16.sub [2, 0] rfl) (by decide)) (cwV 1 hts g_c_X14_feed_c_X14_put_27 rfl rfl rfl (by decide +kernel) ⟨Nat.le_of_ble_eq_true rfl, Nat.le_of_ble_eq_true rfl⟩) ⟨fun a U g mk q => by obtain ⟨q0, q1, qP, qK, qD⟩ := q; exact ⟨q0, q1, qP, va_K.moved (u := U) (U := U.calling g mk a) (Vm.Alike.refl U.vm) qK, qD⟩, va_recv hKc hPc (ci := 14) (q0 := 0) rfl rfl, fun U hU hW => ⟨rfl, by rw [hU], by rw [hU]; exact hPc, va_K.moved hW.alike hKc, hDc.weaken (fun _ _ _ _ => trivial)⟩⟩ rfl rfl hl.1 rfl (lv_room (Nat.le_of_ble_eq_true rfl)) dX14_feed_27 ⟨show 0 + 0 ≤ 0 by decide, show 0 + 0 ≤ 0 by decide⟩) hS (fun q _ h => hFc q h) hFc (fun u t H1 locs ht hvm hw hB hz1 hk1 hS => ?_)
  obtain ⟨fs1_19, f1_20⟩ := u
  obtain ⟨hP1, hK1, hD1⟩ := hB
  rw [ht] at hP1
  have hK1 := va_K.moved hvm.symm hK1
  try dsimp only at hw hP1 hK1 hD1
  obtain ⟨hF_21, hE_22⟩ := hw
  obtain ⟨hP, hD⟩ := va_join (wr := []) (w1 := [(h0, .inr (14, fs1_19)), (qt, .inl (cI, 4000, .inl f1_20))]) hP hD [0, 1] [] rfl rfl (by decide) (by decide) hk1 hFc hP1 hD1
  generalize H1 = H at hP hS ⊢
  have hK := (hK.sub (tys' := []) [] rfl).app hK1
  have hK : va_K (dC, dI) vwCl [(cI, .int)] s := hK
  have hP : va_P (dC, dI) vwCl [(h0, .inr (14, fs1_19)), (qt, .inl (cI, 4000, .inl f1_20))] H := hP
  have hD : va_D A [(h0, .inr (14, fs1_19)), (qt, .inl (cI, 4000, .inl f1_20))] := hD
  have hF_23 := hF_16.same hE_22 (l' := [(1, .int 0), (2, .ref qt)]) rfl
  have hF_24 := hF_21.app hF_23
  have hE_25 := hE_15.trans hE_22
  refine lv_aload_n hx hb dX14_feed_30 rfl (lv_at hl 0 rfl) ?_
  refine lv_iload_n hx hb dX14_feed_31 rfl (lv_at hl 3 rfl) ?_
  have hF_26 : hasF fs1_19 136 [(3, .int (nI 8)), (1, .int 0), (2, .ref qt)] := hF_24
  have hPc := hP.sub (ws' := [(h0, .inr (14, fs1_19)), (qt, .inl (cI, 4000, .inl f1_20))]) [0, 1] rfl
  have hDc := hD.sub (ws' := [(h0, .inr (14, fs1_19)), (qt, .inl (cI, 4000, .inl f1_20))]) [0, 1] (by decide) rfl
  have hKc := hK.sub (tys' := [(cI, .int)]) [0] rfl
  have hFc := va_free (wc := [(h0, .inr (14, fs1_19)), (qt, .inl (cI, 4000, .inl f1_20))]) hD hS hA [0, 1] rfl
  refine va_callv (va_runV (As := [.int p2]) (rest := []) ⟨hx, hb, hml, hown, hts⟩ (c_X14_put l dC dI H.size h0 qt cI fs1_19 f1_20 8 p2 (hF_26.sub [2, 0] rfl) (by decide)) (cwV 1 hts g_c_X14_feed_c_X14_put_32 rfl rfl rfl (by decide +kernel) ⟨Nat.le_of_ble_eq_true rfl, Nat.le_of_ble_eq_true rfl⟩) ⟨fun a U g mk q => by obtain ⟨q0, q1, qP, qK, qD⟩ := q; exact ⟨q0, q1, qP, va_K.moved (u := U) (U := U.calling g mk a) (Vm.Alike.refl U.vm) qK, qD⟩, va_recv hKc hPc (ci := 14) (q0 := 0) rfl rfl, fun U hU hW => ⟨rfl, by rw [hU], by rw [hU]; exact hPc, va_K.moved hW.alike hKc, hDc.weaken (fun _ _ _ _ => trivial)⟩⟩ rfl rfl hl.1 rfl (lv_room (Nat.le_of_ble_eq_true rfl)) dX14_feed_32 ⟨show 0 + 0 ≤ 0 by decide, show 0 + 0 ≤ 0 by decide⟩) hS (fun q _ h => hFc q h) hFc (fun u t H1 locs ht hvm hw hB hz1 hk1 hS => ?_)
  obtain ⟨fs1_29, f1_30⟩ := u
  obtain ⟨hP1, hK1, hD1⟩ := hB
  rw [ht] at hP1
  have hK1 := va_K.moved hvm.symm hK1
  try dsimp only at hw hP1 hK1 hD1
  obtain ⟨hF_31, hE_32⟩ := hw
  obtain ⟨hP, hD⟩ := va_join (wr := []) (w1 := [(h0, .inr (14, fs1_29)), (qt, .inl (cI, 4000, .inl f1_30))]) hP hD [0, 1] [] rfl rfl (by decide) (by decide) hk1 hFc hP1 hD1
  generalize H1 = H at hP hS ⊢
  have hK := (hK.sub (tys' := []) [] rfl).app hK1
  have hK : va_K (dC, dI) vwCl [(cI, .int)] s := hK
  have hP : va_P (dC, dI) vwCl [(h0, .inr (14, fs1_29)), (qt, .inl (cI, 4000, .inl f1_30))] H := hP
  have hD : va_D A [(h0, .inr (14, fs1_29)), (qt, .inl (cI, 4000, .inl f1_30))] := hD
  have hF_33 := hF_26.same hE_32 (l' := [(1, .int 0), (2, .ref qt)]) rfl
  have hF_34 := hF_31.app hF_33
  have hE_35 := hE_25.trans hE_32
  refine lv_aload_n hx hb dX14_feed_35 rfl (lv_at hl 0 rfl) ?_
  refine lv_iload hx hb dX14_feed_36 (lv_at hl 4 rfl) ?_
  have hF_36 : hasF fs1_29 136 [(3, .int (nI 12)), (1, .int 0), (2, .ref qt)] := hF_34
  have hPc := hP.sub (ws' := [(h0, .inr (14, fs1_29)), (qt, .inl (cI, 4000, .inl f1_30))]) [0, 1] rfl
  have hDc := hD.sub (ws' := [(h0, .inr (14, fs1_29)), (qt, .inl (cI, 4000, .inl f1_30))]) [0, 1] (by decide) rfl
  have hKc := hK.sub (tys' := [(cI, .int)]) [0] rfl
  have hFc := va_free (wc := [(h0, .inr (14, fs1_29)), (qt, .inl (cI, 4000, .inl f1_30))]) hD hS hA [0, 1] rfl
  refine va_callv (va_runV (As := [.int p3]) (rest := []) ⟨hx, hb, hml, hown, hts⟩ (c_X14_put l dC dI H.size h0 qt cI fs1_29 f1_30 12 p3 (hF_36.sub [2, 0] rfl) (by decide)) (cwV 1 hts g_c_X14_feed_c_X14_put_38 rfl rfl rfl (by decide +kernel) ⟨Nat.le_of_ble_eq_true rfl, Nat.le_of_ble_eq_true rfl⟩) ⟨fun a U g mk q => by obtain ⟨q0, q1, qP, qK, qD⟩ := q; exact ⟨q0, q1, qP, va_K.moved (u := U) (U := U.calling g mk a) (Vm.Alike.refl U.vm) qK, qD⟩, va_recv hKc hPc (ci := 14) (q0 := 0) rfl rfl, fun U hU hW => ⟨rfl, by rw [hU], by rw [hU]; exact hPc, va_K.moved hW.alike hKc, hDc.weaken (fun _ _ _ _ => trivial)⟩⟩ rfl rfl hl.1 rfl (lv_room (Nat.le_of_ble_eq_true rfl)) dX14_feed_38 ⟨show 0 + 0 ≤ 0 by decide, show 0 + 0 ≤ 0 by decide⟩) hS (fun q _ h => hFc q h) hFc (fun u t H1 locs ht hvm hw hB hz1 hk1 hS => ?_)
  obtain ⟨fs1_39, f1_40⟩ := u
  obtain ⟨hP1, hK1, hD1⟩ := hB
  rw [ht] at hP1
  have hK1 := va_K.moved hvm.symm hK1
  try dsimp only at hw hP1 hK1 hD1
  obtain ⟨hF_41, hE_42⟩ := hw
  obtain ⟨hP, hD⟩ := va_join (wr := []) (w1 := [(h0, .inr (14, fs1_39)), (qt, .inl (cI, 4000, .inl f1_40))]) hP hD [0, 1] [] rfl rfl (by decide) (by decide) hk1 hFc hP1 hD1
  generalize H1 = H at hP hS ⊢
  have hK := (hK.sub (tys' := []) [] rfl).app hK1
  have hK : va_K (dC, dI) vwCl [(cI, .int)] s := hK
  have hP : va_P (dC, dI) vwCl [(h0, .inr (14, fs1_39)), (qt, .inl (cI, 4000, .inl f1_40))] H := hP
  have hD : va_D A [(h0, .inr (14, fs1_39)), (qt, .inl (cI, 4000, .inl f1_40))] := hD
  have hF_43 := hF_36.same hE_42 (l' := [(1, .int 0), (2, .ref qt)]) rfl
  have hF_44 := hF_41.app hF_43
  have hE_45 := hE_35.trans hE_42
  refine lv_aload_n hx hb dX14_feed_41 rfl (lv_at hl 0 rfl) ?_
  refine lv_iload hx hb dX14_feed_42 (lv_at hl 5 rfl) ?_
  have hF_46 : hasF fs1_39 136 [(3, .int (nI 16)), (1, .int 0), (2, .ref qt)] := hF_44
  have hPc := hP.sub (ws' := [(h0, .inr (14, fs1_39)), (qt, .inl (cI, 4000, .inl f1_40))]) [0, 1] rfl
  have hDc := hD.sub (ws' := [(h0, .inr (14, fs1_39)), (qt, .inl (cI, 4000, .inl f1_40))]) [0, 1] (by decide) rfl
  have hKc := hK.sub (tys' := [(cI, .int)]) [0] rfl
  have hFc := va_free (wc := [(h0, .inr (14, fs1_39)), (qt, .inl (cI, 4000, .inl f1_40))]) hD hS hA [0, 1] rfl
  refine va_callv (va_runV (As := [.int p4]) (rest := []) ⟨hx, hb, hml, hown, hts⟩ (c_X14_put l dC dI H.size h0 qt cI fs1_39 f1_40 16 p4 (hF_46.sub [2, 0] rfl) (by decide)) (cwV 1 hts g_c_X14_feed_c_X14_put_44 rfl rfl rfl (by decide +kernel) ⟨Nat.le_of_ble_eq_true rfl, Nat.le_of_ble_eq_true rfl⟩) ⟨fun a U g mk q => by obtain ⟨q0, q1, qP, qK, qD⟩ := q; exact ⟨q0, q1, qP, va_K.moved (u := U) (U := U.calling g mk a) (Vm.Alike.refl U.vm) qK, qD⟩, va_recv hKc hPc (ci := 14) (q0 := 0) rfl rfl, fun U hU hW => ⟨rfl, by rw [hU], by rw [hU]; exact hPc, va_K.moved hW.alike hKc, hDc.weaken (fun _ _ _ _ => trivial)⟩⟩ rfl rfl hl.1 rfl (lv_room (Nat.le_of_ble_eq_true rfl)) dX14_feed_44 ⟨show 0 + 0 ≤ 0 by decide, show 0 + 0 ≤ 0 by decide⟩) hS (fun q _ h => hFc q h) hFc (fun u t H1 locs ht hvm hw hB hz1 hk1 hS => ?_)
  obtain ⟨fs1_49, f1_50⟩ := u
  obtain ⟨hP1, hK1, hD1⟩ := hB
  rw [ht] at hP1
  have hK1 := va_K.moved hvm.symm hK1
  try dsimp only at hw hP1 hK1 hD1
  obtain ⟨hF_51, hE_52⟩ := hw
  obtain ⟨hP, hD⟩ := va_join (wr := []) (w1 := [(h0, .inr (14, fs1_49)), (qt, .inl (cI, 4000, .inl f1_50))]) hP hD [0, 1] [] rfl rfl (by decide) (by decide) hk1 hFc hP1 hD1
  generalize H1 = H at hP hS ⊢
  have hK := (hK.sub (tys' := []) [] rfl).app hK1
  have hK : va_K (dC, dI) vwCl [(cI, .int)] s := hK
  have hP : va_P (dC, dI) vwCl [(h0, .inr (14, fs1_49)), (qt, .inl (cI, 4000, .inl f1_50))] H := hP
  have hD : va_D A [(h0, .inr (14, fs1_49)), (qt, .inl (cI, 4000, .inl f1_50))] := hD
  have hF_53 := hF_46.same hE_52 (l' := [(1, .int 0), (2, .ref qt)]) rfl
  have hF_54 := hF_51.app hF_53
  have hE_55 := hE_45.trans hE_52
  refine lv_aload_n hx hb dX14_feed_47 rfl (lv_at hl 0 rfl) ?_
  refine va_get (D := (dC, dI)) (ci := 14) (v := .int (nI (16 + 4))) (C := RX14) (T := TX14) (N := 136) hx hb hts hin_X14 hown hK hP 0 rfl rfl 3 (by decide) (hts (.fieldLink RX14 333 "NeedHouseModel" "taped" "I") (List.mem_of_getElem? (i := 2) rfl)) (fun _ h9 => h9) (hF_54.at 0 rfl) dX14_feed_48 ?_
  have hP9 := hP.sub (ws' := [(h0, .inr (14, fs1_49)), (qt, .inl (cI, 4000, .inl f1_50))]) [0, 1] rfl
  have hD9 := hD.sub (ws' := [(h0, .inr (14, fs1_49)), (qt, .inl (cI, 4000, .inl f1_50))]) [0, 1] (by decide) rfl
  have hK9 := hK.sub (tys' := [(cI, .int)]) [0] rfl
  exact W.iret (v := nI (16 + 4)) hx hb hr (fun t ht hW => ⟨⟨nI (16 + 4), ((fs1_49, f1_50)), rfl, ⟨rfl, hF_54.sub [0, 1] rfl, hE_55.mono (by decide)⟩, by rw [ht]; exact hP9, va_K.moved hW.alike hK9, hD9⟩, hS.F ht⟩) hS.2.2 dX14_feed_51
def pw_c_X14_back : List Cond := .code yX14_back cX14_back 2 (some .int) :: ([.fieldLink RX14 329 "NeedHouseModel" "thrown" "I", .fieldLink RX14 333 "NeedHouseModel" "taped" "I"] ++ (wsX140 ++ []))
set_option maxHeartbeats 4000000 in
set_option maxRecDepth 100000 in
theorem c_X14_back (l : Launch) (dC : Nat → ClassId) (dI : Nat → Nat → Nat) (sz : Nat) (h0 : Nat) (fs : List Value) (th : Int32) (p0 : Int32) (hF : hasF fs 136 [(1, .int th), (3, .int 0)]) : Met l yX14_back pw_c_X14_back ({ frames := 0, cells := 0, slots := 0, locals := 0 }) (va_Pc [.ref h0, .int p0] (fun U => U.heap.size = sz ∧ va_P (dC, dI) vwCl [(h0, .inr (14, fs))] U.heap ∧ va_K (dC, dI) vwCl [] U ∧ va_D (fun _ => True) [(h0, .inr (14, fs))])) (va_Qi (fun (r : Int32) (u : (List Value)) => r = (if p0 < 0 ∨ ¬ p0 ≤ 0 then -1 else 0) ∧ hasF u 136 [(1, .int 0), (3, .int 0)] ∧ sameF fs u [1, 3]) (fun (u : (List Value)) (t : State) => va_P (dC, dI) vwCl [(h0, .inr (14, u))] t.heap ∧ va_K (dC, dI) vwCl [] t ∧ va_D (va_A [(h0, .inr (14, fs))] sz) [(h0, .inr (14, u))]) (va_A [(h0, .inr (14, fs))] sz)) 0 0 (va_A [(h0, .inr (14, fs))] sz) := by
  refine Met.ofW (cc := cX14_back) (maxL := 2) (ret := (some .int)) (by decide) rfl ?_
  intro p e s m args below meth c s₁ B hml hv
  obtain ⟨rfl, hsz, hP, hK, hD0⟩ := hv
  have hx := B.exec
  have hb := B.bytes
  have hr := B.returns
  have hts := atoms_spec (ws := pw_c_X14_back) B.pre
  have hown : s.vm.findClass RX14 = some m.cls := findClass_of_methodNamed B.named
  have hlocks := B.notSynchronized
  have hin_X14 : ∀ w ∈ u_ws RX14 TX14 136, w ∈ pw_c_X14_back := fun w h => List.mem_cons_of_mem _ (List.mem_append_right _ (List.mem_append_left _ h))
  subst hsz
  have hD := hD0.self (sz := s.heap.size)
  generalize hAe : va_A [(h0, .inr (14, fs))] s.heap.size = A at hD ⊢
  have hA : ∀ q : Nat, s.heap.size ≤ q → A q := fun q h => by rw [← hAe]; exact Or.inr h
  have hS : va_S A s.heap s.heap [] := va_S.rf
  have hP : va_P (dC, dI) vwCl [(h0, .inr (14, fs))] s.heap := hP
  have hl := lv_entry ([.ref h0, .int p0]) (n := 2) (Nat.le_of_ble_eq_true rfl)
  rw [lg_entry_eq]
  generalize (lg_sl ([.ref h0, .int p0]) ++ List.replicate (2 - (lg_sl ([.ref h0, .int p0])).length) Slot.unset).toArray = ls at hl ⊢
  have hl : lv_has ls 2 [(0, .ref h0), (1, .int p0)] := hl
  refine lv_aload_n hx hb dX14_back_0 rfl (lv_at hl 0 rfl) ?_
  refine lv_iconst (v := 0) hx hb dX14_back_1 (by decide) ?_
  refine va_put (D := (dC, dI)) (ci := 14) (v := .int 0) (ty := .int) (C := RX14) (T := TX14) (N := 136) hx hb hts hin_X14 tyX14 tyX14_ok nmX14 hown hK hP hD hS 0 rfl rfl 1 (by decide) (hts (.fieldLink RX14 329 "NeedHouseModel" "thrown" "I") (List.mem_of_getElem? (i := 1) rfl)) (fun _ h9 => h9) rfl (by decide +kernel) rfl rfl (by rw [hF.1]; decide) dX14_back_2 (fun H locs hP hD hS => ?_)
  have hP : va_P (dC, dI) vwCl [(h0, .inr (14, (fs.set 1 (.int 0))))] H := hP
  have hD : va_D A [(h0, .inr (14, (fs.set 1 (.int 0))))] := hD
  have hF_1 := hF.set 1 (.int 0) (l' := [(1, .int 0), (3, .int 0)]) (by decide) rfl
  have hE_2 := (sameF.rf (f := fs)).set 1 (.int 0)
  generalize fs.set 1 (.int 0) = fs_3 at hP hD hF_1 hE_2
  have hP : va_P (dC, dI) vwCl [(h0, .inr (14, fs_3))] H := hP
  have hD : va_D A [(h0, .inr (14, fs_3))] := hD
  refine lv_iload_n hx hb dX14_back_5 rfl (lv_at hl 1 rfl) ?_
  refine lv_if_lt (tgt := 17) hx hb dX14_back_6 (by decide) (fun c_4 => ?_) (fun c_4 => ?_)
  ·
    refine lv_iconst (v := (-1)) hx hb dX14_back_17 (by decide) ?_
    have hP9 := hP.sub (ws' := [(h0, .inr (14, fs_3))]) [0] rfl
    have hD9 := hD.sub (ws' := [(h0, .inr (14, fs_3))]) [0] (by decide) rfl
    have hK9 := hK.sub (tys' := []) [] rfl
    exact W.iret (v := (-1)) hx hb hr (fun t ht hW => ⟨⟨(-1), (fs_3), rfl, ⟨(if_pos (Or.inl c_4)).symm, hF_1.sub [0, 1] rfl, hE_2.mono (by decide)⟩, by rw [ht]; exact hP9, va_K.moved hW.alike hK9, hD9⟩, hS.F ht⟩) hS.2.2 dX14_back_18
  ·
    refine lv_iload_n hx hb dX14_back_9 rfl (lv_at hl 1 rfl) ?_
    refine lv_aload_n hx hb dX14_back_10 rfl (lv_at hl 0 rfl) ?_
    refine va_get (D := (dC, dI)) (ci := 14) (v := .int 0) (C := RX14) (T := TX14) (N := 136) hx hb hts hin_X14 hown hK hP 0 rfl rfl 3 (by decide) (hts (.fieldLink RX14 333 "NeedHouseModel" "taped" "I") (List.mem_of_getElem? (i := 2) rfl)) (fun _ h9 => h9) (hF_1.at 1 rfl) dX14_back_11 ?_
    refine lv_icmp_le (tgt := 19) hx hb dX14_back_14 (by decide) (fun c_5 => ?_) (fun c_5 => ?_)
    ·
      obtain rfl : p0 = 0 := Int32.le_antisymm c_5 (Int32.not_lt.mp c_4)
      refine lv_aload_n hx hb dX14_back_19 rfl (lv_at hl 0 rfl) ?_
      refine lv_dup hx hb dX14_back_20 rfl ?_
      refine va_get (D := (dC, dI)) (ci := 14) (v := .int 0) (C := RX14) (T := TX14) (N := 136) hx hb hts hin_X14 hown hK hP 0 rfl rfl 3 (by decide) (hts (.fieldLink RX14 333 "NeedHouseModel" "taped" "I") (List.mem_of_getElem? (i := 2) rfl)) (fun _ h9 => h9) (hF_1.at 1 rfl) dX14_back_21 ?_
      refine lv_iload_n hx hb dX14_back_24 rfl (lv_at hl 1 rfl) ?_
      refine lv_isub hx hb dX14_back_25 ?_
      refine lv_topi (fun x_6 ex_6 => ?_)
      obtain rfl : x_6 = 0 := ex_6.trans (by decide +kernel)
      refine va_put (D := (dC, dI)) (ci := 14) (v := .int 0) (ty := .int) (C := RX14) (T := TX14) (N := 136) hx hb hts hin_X14 tyX14 tyX14_ok nmX14 hown hK hP hD hS 0 rfl rfl 3 (by decide) (hts (.fieldLink RX14 333 "NeedHouseModel" "taped" "I") (List.mem_of_getElem? (i := 2) rfl)) (fun _ h9 => h9) rfl (by decide +kernel) rfl rfl (by rw [hF_1.1]; decide) dX14_back_26 (fun H locs hP hD hS => ?_)
      have hP : va_P (dC, dI) vwCl [(h0, .inr (14, (fs_3.set 3 (.int 0))))] H := hP
      have hD : va_D A [(h0, .inr (14, (fs_3.set 3 (.int 0))))] := hD
      have hF_7 := hF_1.set 3 (.int 0) (l' := [(3, .int 0), (1, .int 0)]) (by decide) rfl
      have hE_8 := hE_2.set 3 (.int 0)
      generalize fs_3.set 3 (.int 0) = fs_9 at hP hD hF_7 hE_8
      have hP : va_P (dC, dI) vwCl [(h0, .inr (14, fs_9))] H := hP
      have hD : va_D A [(h0, .inr (14, fs_9))] := hD
      refine lv_aload_n hx hb dX14_back_29 rfl (lv_at hl 0 rfl) ?_
      refine va_get (D := (dC, dI)) (ci := 14) (v := .int 0) (C := RX14) (T := TX14) (N := 136) hx hb hts hin_X14 hown hK hP 0 rfl rfl 3 (by decide) (hts (.fieldLink RX14 333 "NeedHouseModel" "taped" "I") (List.mem_of_getElem? (i := 2) rfl)) (fun _ h9 => h9) (hF_7.at 0 rfl) dX14_back_30 ?_
      have hP9 := hP.sub (ws' := [(h0, .inr (14, fs_9))]) [0] rfl
      have hD9 := hD.sub (ws' := [(h0, .inr (14, fs_9))]) [0] (by decide) rfl
      have hK9 := hK.sub (tys' := []) [] rfl
      exact W.iret (v := 0) hx hb hr (fun t ht hW => ⟨⟨0, (fs_9), rfl, ⟨by decide, hF_7.sub [1, 0] rfl, hE_8.mono (by decide)⟩, by rw [ht]; exact hP9, va_K.moved hW.alike hK9, hD9⟩, hS.F ht⟩) hS.2.2 dX14_back_33
    ·
      refine lv_iconst (v := (-1)) hx hb dX14_back_17 (by decide) ?_
      have hP9 := hP.sub (ws' := [(h0, .inr (14, fs_3))]) [0] rfl
      have hD9 := hD.sub (ws' := [(h0, .inr (14, fs_3))]) [0] (by decide) rfl
      have hK9 := hK.sub (tys' := []) [] rfl
      exact W.iret (v := (-1)) hx hb hr (fun t ht hW => ⟨⟨(-1), (fs_3), rfl, ⟨(if_pos (Or.inr c_5)).symm, hF_1.sub [0, 1] rfl, hE_2.mono (by decide)⟩, by rw [ht]; exact hP9, va_K.moved hW.alike hK9, hD9⟩, hS.F ht⟩) hS.2.2 dX14_back_18
def pw_c_X14_thrown : List Cond := .code yX14_thrown cX14_thrown 1 (some .int) :: ([.fieldLink RX14 329 "NeedHouseModel" "thrown" "I"] ++ (wsX140 ++ []))
set_option maxHeartbeats 4000000 in
set_option maxRecDepth 100000 in
theorem c_X14_thrown (l : Launch) (dC : Nat → ClassId) (dI : Nat → Nat → Nat) (sz : Nat) (h0 : Nat) (fs : List Value) (th : Int32) (hF : hasF fs 136 [(1, .int th)]) : Met l yX14_thrown pw_c_X14_thrown ({ frames := 0, cells := 0, slots := 0, locals := 0 }) (va_Pc [.ref h0] (fun U => U.heap.size = sz ∧ va_P (dC, dI) vwCl [(h0, .inr (14, fs))] U.heap ∧ va_K (dC, dI) vwCl [] U ∧ va_D (fun _ => True) [(h0, .inr (14, fs))])) (va_Qi (fun (r : Int32) (u : (List Value)) => r = th ∧ hasF u 136 [(1, .int th)] ∧ sameF fs u []) (fun (u : (List Value)) (t : State) => va_P (dC, dI) vwCl [(h0, .inr (14, u))] t.heap ∧ va_K (dC, dI) vwCl [] t ∧ va_D (va_A [(h0, .inr (14, fs))] sz) [(h0, .inr (14, u))]) (va_A [(h0, .inr (14, fs))] sz)) 0 0 (va_A [(h0, .inr (14, fs))] sz) := by
  refine Met.ofW (cc := cX14_thrown) (maxL := 1) (ret := (some .int)) (by decide) rfl ?_
  intro p e s m args below meth c s₁ B hml hv
  obtain ⟨rfl, hsz, hP, hK, hD0⟩ := hv
  have hx := B.exec
  have hb := B.bytes
  have hr := B.returns
  have hts := atoms_spec (ws := pw_c_X14_thrown) B.pre
  have hown : s.vm.findClass RX14 = some m.cls := findClass_of_methodNamed B.named
  have hlocks := B.notSynchronized
  have hin_X14 : ∀ w ∈ u_ws RX14 TX14 136, w ∈ pw_c_X14_thrown := fun w h => List.mem_cons_of_mem _ (List.mem_append_right _ (List.mem_append_left _ h))
  subst hsz
  have hD := hD0.self (sz := s.heap.size)
  generalize hAe : va_A [(h0, .inr (14, fs))] s.heap.size = A at hD ⊢
  have hA : ∀ q : Nat, s.heap.size ≤ q → A q := fun q h => by rw [← hAe]; exact Or.inr h
  have hS : va_S A s.heap s.heap [] := va_S.rf
  have hP : va_P (dC, dI) vwCl [(h0, .inr (14, fs))] s.heap := hP
  have hl := lv_entry ([.ref h0]) (n := 1) (Nat.le_of_ble_eq_true rfl)
  rw [lg_entry_eq]
  generalize (lg_sl ([.ref h0]) ++ List.replicate (1 - (lg_sl ([.ref h0])).length) Slot.unset).toArray = ls at hl ⊢
  have hl : lv_has ls 1 [(0, .ref h0)] := hl
  refine lv_aload_n hx hb dX14_thrown_0 rfl (lv_at hl 0 rfl) ?_
  refine va_get (D := (dC, dI)) (ci := 14) (v := .int th) (C := RX14) (T := TX14) (N := 136) hx hb hts hin_X14 hown hK hP 0 rfl rfl 1 (by decide) (hts (.fieldLink RX14 329 "NeedHouseModel" "thrown" "I") (List.mem_of_getElem? (i := 1) rfl)) (fun _ h9 => h9) (hF.at 0 rfl) dX14_thrown_1 ?_
  have hP9 := hP.sub (ws' := [(h0, .inr (14, fs))]) [0] rfl
  have hD9 := hD.sub (ws' := [(h0, .inr (14, fs))]) [0] (by decide) rfl
  have hK9 := hK.sub (tys' := []) [] rfl
  exact W.iret (v := th) hx hb hr (fun t ht hW => ⟨⟨th, (fs), rfl, ⟨rfl, hF.sub [0] rfl, (sameF.rf (f := fs)).mono (by decide)⟩, by rw [ht]; exact hP9, va_K.moved hW.alike hK9, hD9⟩, hS.F ht⟩) hS.2.2 dX14_thrown_4
def pw_c_X14_count : List Cond := .code yX14_count cX14_count 2 (some .int) :: ([.fieldLink RX14 329 "NeedHouseModel" "thrown" "I", .fieldLink RX14 844 "NeedHouseModel" "isThere" "Z"] ++ (wsX140 ++ []))
set_option maxHeartbeats 4000000 in
set_option maxRecDepth 100000 in
theorem c_X14_count (l : Launch) (dC : Nat → ClassId) (dI : Nat → Nat → Nat) (sz : Nat) (h0 : Nat) (fs : List Value) (th : Int32) (p0 : Int32) (hF : hasF fs 136 [(1, .int th), (95, .int 0)]) : Met l yX14_count pw_c_X14_count ({ frames := 0, cells := 0, slots := 0, locals := 0 }) (va_Pc [.ref h0, .int p0] (fun U => U.heap.size = sz ∧ va_P (dC, dI) vwCl [(h0, .inr (14, fs))] U.heap ∧ va_K (dC, dI) vwCl [] U ∧ va_D (fun _ => True) [(h0, .inr (14, fs))])) (va_Qi (fun (r : Int32) (u : (List Value)) => r = (if p0 < 0 ∨ ¬ p0 ≤ 12 then -1 else 0) ∧ hasF u 136 [(1, .int 0)] ∧ sameF fs u [1]) (fun (u : (List Value)) (t : State) => va_P (dC, dI) vwCl [(h0, .inr (14, u))] t.heap ∧ va_K (dC, dI) vwCl [] t ∧ va_D (va_A [(h0, .inr (14, fs))] sz) [(h0, .inr (14, u))]) (va_A [(h0, .inr (14, fs))] sz)) 0 0 (va_A [(h0, .inr (14, fs))] sz) := by
  refine Met.ofW (cc := cX14_count) (maxL := 2) (ret := (some .int)) (by decide) rfl ?_
  intro p e s m args below meth c s₁ B hml hv
  obtain ⟨rfl, hsz, hP, hK, hD0⟩ := hv
  have hx := B.exec
  have hb := B.bytes
  have hr := B.returns
  have hts := atoms_spec (ws := pw_c_X14_count) B.pre
  have hown : s.vm.findClass RX14 = some m.cls := findClass_of_methodNamed B.named
  have hlocks := B.notSynchronized
  have hin_X14 : ∀ w ∈ u_ws RX14 TX14 136, w ∈ pw_c_X14_count := fun w h => List.mem_cons_of_mem _ (List.mem_append_right _ (List.mem_append_left _ h))
  subst hsz
  have hD := hD0.self (sz := s.heap.size)
  generalize hAe : va_A [(h0, .inr (14, fs))] s.heap.size = A at hD ⊢
  have hA : ∀ q : Nat, s.heap.size ≤ q → A q := fun q h => by rw [← hAe]; exact Or.inr h
  have hS : va_S A s.heap s.heap [] := va_S.rf
  have hP : va_P (dC, dI) vwCl [(h0, .inr (14, fs))] s.heap := hP
  have hl := lv_entry ([.ref h0, .int p0]) (n := 2) (Nat.le_of_ble_eq_true rfl)
  rw [lg_entry_eq]
  generalize (lg_sl ([.ref h0, .int p0]) ++ List.replicate (2 - (lg_sl ([.ref h0, .int p0])).length) Slot.unset).toArray = ls at hl ⊢
  have hl : lv_has ls 2 [(0, .ref h0), (1, .int p0)] := hl
  refine lv_aload_n hx hb dX14_count_0 rfl (lv_at hl 0 rfl) ?_
  refine lv_iconst (v := 0) hx hb dX14_count_1 (by decide) ?_
  refine va_put (D := (dC, dI)) (ci := 14) (v := .int 0) (ty := .int) (C := RX14) (T := TX14) (N := 136) hx hb hts hin_X14 tyX14 tyX14_ok nmX14 hown hK hP hD hS 0 rfl rfl 1 (by decide) (hts (.fieldLink RX14 329 "NeedHouseModel" "thrown" "I") (List.mem_of_getElem? (i := 1) rfl)) (fun _ h9 => h9) rfl (by decide +kernel) rfl rfl (by rw [hF.1]; decide) dX14_count_2 (fun H locs hP hD hS => ?_)
  have hP : va_P (dC, dI) vwCl [(h0, .inr (14, (fs.set 1 (.int 0))))] H := hP
  have hD : va_D A [(h0, .inr (14, (fs.set 1 (.int 0))))] := hD
  have hF_1 := hF.set 1 (.int 0) (l' := [(1, .int 0), (95, .int 0)]) (by decide) rfl
  have hE_2 := (sameF.rf (f := fs)).set 1 (.int 0)
  generalize fs.set 1 (.int 0) = fs_3 at hP hD hF_1 hE_2
  have hP : va_P (dC, dI) vwCl [(h0, .inr (14, fs_3))] H := hP
  have hD : va_D A [(h0, .inr (14, fs_3))] := hD
  refine lv_iload_n hx hb dX14_count_5 rfl (lv_at hl 1 rfl) ?_
  refine lv_if_lt (tgt := 15) hx hb dX14_count_6 (by decide) (fun c_4 => ?_) (fun c_4 => ?_)
  ·
    refine lv_iconst (v := (-1)) hx hb dX14_count_15 (by decide) ?_
    have hP9 := hP.sub (ws' := [(h0, .inr (14, fs_3))]) [0] rfl
    have hD9 := hD.sub (ws' := [(h0, .inr (14, fs_3))]) [0] (by decide) rfl
    have hK9 := hK.sub (tys' := []) [] rfl
    exact W.iret (v := (-1)) hx hb hr (fun t ht hW => ⟨⟨(-1), (fs_3), rfl, ⟨(if_pos (Or.inl c_4)).symm, hF_1.sub [0] rfl, hE_2.mono (by decide)⟩, by rw [ht]; exact hP9, va_K.moved hW.alike hK9, hD9⟩, hS.F ht⟩) hS.2.2 dX14_count_16
  ·
    refine lv_iload_n hx hb dX14_count_9 rfl (lv_at hl 1 rfl) ?_
    refine lv_bipush (v := 12) hx hb dX14_count_10 (by decide) ?_
    refine lv_icmp_le (tgt := 17) hx hb dX14_count_12 (by decide) (fun c_5 => ?_) (fun c_5 => ?_)
    ·
      refine lv_aload_n hx hb dX14_count_17 rfl (lv_at hl 0 rfl) ?_
      refine va_get (D := (dC, dI)) (ci := 14) (v := .int 0) (C := RX14) (T := TX14) (N := 136) hx hb hts hin_X14 hown hK hP 0 rfl rfl 95 (by decide) (hts (.fieldLink RX14 844 "NeedHouseModel" "isThere" "Z") (List.mem_of_getElem? (i := 2) rfl)) (fun _ h9 => h9) (hF_1.at 1 rfl) dX14_count_18 ?_
      refine lv_if_eq (tgt := 36) hx hb dX14_count_21 (by decide) (fun _ => ?_) (fun c_6 => absurd (by decide) c_6)
      refine lv_iconst (v := 0) hx hb dX14_count_36 (by decide) ?_
      have hP9 := hP.sub (ws' := [(h0, .inr (14, fs_3))]) [0] rfl
      have hD9 := hD.sub (ws' := [(h0, .inr (14, fs_3))]) [0] (by decide) rfl
      have hK9 := hK.sub (tys' := []) [] rfl
      exact W.iret (v := 0) hx hb hr (fun t ht hW => ⟨⟨0, (fs_3), rfl, ⟨(if_neg (fun z => z.elim c_4 (fun k => k c_5))).symm, hF_1.sub [0] rfl, hE_2.mono (by decide)⟩, by rw [ht]; exact hP9, va_K.moved hW.alike hK9, hD9⟩, hS.F ht⟩) hS.2.2 dX14_count_37
    ·
      refine lv_iconst (v := (-1)) hx hb dX14_count_15 (by decide) ?_
      have hP9 := hP.sub (ws' := [(h0, .inr (14, fs_3))]) [0] rfl
      have hD9 := hD.sub (ws' := [(h0, .inr (14, fs_3))]) [0] (by decide) rfl
      have hK9 := hK.sub (tys' := []) [] rfl
      exact W.iret (v := (-1)) hx hb hr (fun t ht hW => ⟨⟨(-1), (fs_3), rfl, ⟨(if_pos (Or.inr c_5)).symm, hF_1.sub [0] rfl, hE_2.mono (by decide)⟩, by rw [ht]; exact hP9, va_K.moved hW.alike hK9, hD9⟩, hS.F ht⟩) hS.2.2 dX14_count_16
def pw_c_X14_isDefinition : List Cond := .code yX14_isDefinition cX14_isDefinition 2 (some .boolean) :: ([.fieldLink RX14 844 "NeedHouseModel" "isThere" "Z"] ++ (wsX140 ++ []))
set_option maxHeartbeats 4000000 in
set_option maxRecDepth 100000 in
theorem c_X14_isDefinition (l : Launch) (dC : Nat → ClassId) (dI : Nat → Nat → Nat) (sz : Nat) (h0 : Nat) (fs : List Value) (p0 : Int32) (hF : hasF fs 136 [(95, .int 0)]) : Met l yX14_isDefinition pw_c_X14_isDefinition ({ frames := 0, cells := 0, slots := 0, locals := 0 }) (va_Pc [.ref h0, .int p0] (fun U => U.heap.size = sz ∧ va_P (dC, dI) vwCl [(h0, .inr (14, fs))] U.heap ∧ va_K (dC, dI) vwCl [] U ∧ va_D (fun _ => True) [(h0, .inr (14, fs))])) (va_Qi (fun (r : Int32) (u : (List Value)) => r = 0 ∧ sameF fs u []) (fun (u : (List Value)) (t : State) => va_P (dC, dI) vwCl [(h0, .inr (14, u))] t.heap ∧ va_K (dC, dI) vwCl [] t ∧ va_D (va_A [(h0, .inr (14, fs))] sz) [(h0, .inr (14, u))]) (va_A [(h0, .inr (14, fs))] sz)) 0 0 (va_A [(h0, .inr (14, fs))] sz) := by
  refine Met.ofW (cc := cX14_isDefinition) (maxL := 2) (ret := (some .boolean)) (by decide) rfl ?_
  intro p e s m args below meth c s₁ B hml hv
  obtain ⟨rfl, hsz, hP, hK, hD0⟩ := hv
  have hx := B.exec
  have hb := B.bytes
  have hr := B.returns
  have hts := atoms_spec (ws := pw_c_X14_isDefinition) B.pre
  have hown : s.vm.findClass RX14 = some m.cls := findClass_of_methodNamed B.named
  have hlocks := B.notSynchronized
  have hin_X14 : ∀ w ∈ u_ws RX14 TX14 136, w ∈ pw_c_X14_isDefinition := fun w h => List.mem_cons_of_mem _ (List.mem_append_right _ (List.mem_append_left _ h))
  subst hsz
  have hD := hD0.self (sz := s.heap.size)
  generalize hAe : va_A [(h0, .inr (14, fs))] s.heap.size = A at hD ⊢
  have hA : ∀ q : Nat, s.heap.size ≤ q → A q := fun q h => by rw [← hAe]; exact Or.inr h
  have hS : va_S A s.heap s.heap [] := va_S.rf
  have hP : va_P (dC, dI) vwCl [(h0, .inr (14, fs))] s.heap := hP
  have hl := lv_entry ([.ref h0, .int p0]) (n := 2) (Nat.le_of_ble_eq_true rfl)
  rw [lg_entry_eq]
  generalize (lg_sl ([.ref h0, .int p0]) ++ List.replicate (2 - (lg_sl ([.ref h0, .int p0])).length) Slot.unset).toArray = ls at hl ⊢
  have hl : lv_has ls 2 [(0, .ref h0), (1, .int p0)] := hl
  refine lv_aload_n hx hb dX14_isDefinition_0 rfl (lv_at hl 0 rfl) ?_
  refine va_get (D := (dC, dI)) (ci := 14) (v := .int 0) (C := RX14) (T := TX14) (N := 136) hx hb hts hin_X14 hown hK hP 0 rfl rfl 95 (by decide) (hts (.fieldLink RX14 844 "NeedHouseModel" "isThere" "Z") (List.mem_of_getElem? (i := 1) rfl)) (fun _ h9 => h9) (hF.at 0 rfl) dX14_isDefinition_1 ?_
  refine lv_if_eq (tgt := 23) hx hb dX14_isDefinition_4 (by decide) (fun _ => ?_) (fun c_1 => absurd (by decide) c_1)
  refine lv_iconst (v := 0) hx hb dX14_isDefinition_23 (by decide) ?_
  have hP9 := hP.sub (ws' := [(h0, .inr (14, fs))]) [0] rfl
  have hD9 := hD.sub (ws' := [(h0, .inr (14, fs))]) [0] (by decide) rfl
  have hK9 := hK.sub (tys' := []) [] rfl
  exact W.zret (v := 0) hx hb hr (by first | rfl | decide +kernel) (fun t ht hW => ⟨⟨0, (fs), rfl, ⟨rfl, (sameF.rf (f := fs)).mono (by decide)⟩, by rw [ht]; exact hP9, va_K.moved hW.alike hK9, hD9⟩, hS.F ht⟩) hS.2.2 dX14_isDefinition_24
def pw_c_X14_sign : List Cond := .code yX14_sign cX14_sign 3 (some .int) :: ([.fieldLink RX14 329 "NeedHouseModel" "thrown" "I", .methodLink RX14 1084 yX14_isDefinition, .instanceMethod yX14_isDefinition, .selects RX14 yX14_isDefinition yX14_isDefinition, .initialized RX14, .code yX14_isDefinition cX14_isDefinition 2 (some .boolean), .fieldLink RX14 844 "NeedHouseModel" "isThere" "Z"] ++ (wsX140 ++ []))
set_option maxRecDepth 20000 in
theorem g_c_X14_sign_c_X14_isDefinition_7 : GoodIn pw_c_X14_sign (wsV RX14 1084 RX14 yX14_isDefinition pw_c_X14_isDefinition) := goodIn_r _ [2, 3, 4, 5, 6, 7, 8, 9, 10, 11, 12, 13, 14, 15, 16, 17, 18, 19, 20, 21, 22, 23, 24, 25, 26, 27, 28, 29, 30, 31, 32, 33, 34, 35, 36, 37, 38, 39, 40, 41, 42, 43, 44, 45, 46, 47, 48, 49, 50, 51, 52, 53, 54, 55, 56, 57, 58, 59, 60, 61, 62, 63, 64, 65, 66, 67, 68, 69, 70, 71, 72, 73, 74, 75, 76, 77, 78, 79, 80, 81, 82, 83, 84, 85, 86, 87, 88, 89, 90, 91, 92, 93, 94, 95, 96, 97, 98, 99, 100, 101, 102, 103, 104, 105, 106, 107, 108, 109, 110, 111, 112, 113, 114, 115, 116, 117, 118, 119, 120, 121, 122, 123, 124, 125, 126, 127, 128, 129, 130, 131, 132, 133, 134, 135, 136, 137, 138, 139, 140, 141, 142, 143] rfl (by decide +kernel)
set_option maxHeartbeats 4000000 in
set_option maxRecDepth 100000 in
theorem c_X14_sign (l : Launch) (dC : Nat → ClassId) (dI : Nat → Nat → Nat) (sz : Nat) (h0 : Nat) (fs : List Value) (th : Int32) (p0 : Int32) (p1 : Int32) (hF : hasF fs 136 [(1, .int th), (95, .int 0)]) : Met l yX14_sign pw_c_X14_sign ({ frames := 1, cells := 0, slots := 0, locals := 21 }) (va_Pc [.ref h0, .int p0, .int p1] (fun U => U.heap.size = sz ∧ va_P (dC, dI) vwCl [(h0, .inr (14, fs))] U.heap ∧ va_K (dC, dI) vwCl [] U ∧ va_D (fun _ => True) [(h0, .inr (14, fs))])) (va_Qi (fun (r : Int32) (u : (List Value)) => r = -1 ∧ hasF u 136 [(1, .int 0)] ∧ sameF fs u [1]) (fun (u : (List Value)) (t : State) => va_P (dC, dI) vwCl [(h0, .inr (14, u))] t.heap ∧ va_K (dC, dI) vwCl [] t ∧ va_D (va_A [(h0, .inr (14, fs))] sz) [(h0, .inr (14, u))]) (va_A [(h0, .inr (14, fs))] sz)) 0 0 (va_A [(h0, .inr (14, fs))] sz) := by
  refine Met.ofW (cc := cX14_sign) (maxL := 3) (ret := (some .int)) (by decide) rfl ?_
  intro p e s m args below meth c s₁ B hml hv
  obtain ⟨rfl, hsz, hP, hK, hD0⟩ := hv
  have hx := B.exec
  have hb := B.bytes
  have hr := B.returns
  have hts := atoms_spec (ws := pw_c_X14_sign) B.pre
  have hown : s.vm.findClass RX14 = some m.cls := findClass_of_methodNamed B.named
  have hlocks := B.notSynchronized
  have hin_X14 : ∀ w ∈ u_ws RX14 TX14 136, w ∈ pw_c_X14_sign := fun w h => List.mem_cons_of_mem _ (List.mem_append_right _ (List.mem_append_left _ h))
  subst hsz
  have hD := hD0.self (sz := s.heap.size)
  generalize hAe : va_A [(h0, .inr (14, fs))] s.heap.size = A at hD ⊢
  have hA : ∀ q : Nat, s.heap.size ≤ q → A q := fun q h => by rw [← hAe]; exact Or.inr h
  have hS : va_S A s.heap s.heap [] := va_S.rf
  have hP : va_P (dC, dI) vwCl [(h0, .inr (14, fs))] s.heap := hP
  have hl := lv_entry ([.ref h0, .int p0, .int p1]) (n := 3) (Nat.le_of_ble_eq_true rfl)
  rw [lg_entry_eq]
  generalize (lg_sl ([.ref h0, .int p0, .int p1]) ++ List.replicate (3 - (lg_sl ([.ref h0, .int p0, .int p1])).length) Slot.unset).toArray = ls at hl ⊢
  have hl : lv_has ls 3 [(0, .ref h0), (1, .int p0), (2, .int p1)] := hl
  refine lv_aload_n hx hb dX14_sign_0 rfl (lv_at hl 0 rfl) ?_
  refine lv_iconst (v := 0) hx hb dX14_sign_1 (by decide) ?_
  refine va_put (D := (dC, dI)) (ci := 14) (v := .int 0) (ty := .int) (C := RX14) (T := TX14) (N := 136) hx hb hts hin_X14 tyX14 tyX14_ok nmX14 hown hK hP hD hS 0 rfl rfl 1 (by decide) (hts (.fieldLink RX14 329 "NeedHouseModel" "thrown" "I") (List.mem_of_getElem? (i := 1) rfl)) (fun _ h9 => h9) rfl (by decide +kernel) rfl rfl (by rw [hF.1]; decide) dX14_sign_2 (fun H locs hP hD hS => ?_)
  have hP : va_P (dC, dI) vwCl [(h0, .inr (14, (fs.set 1 (.int 0))))] H := hP
  have hD : va_D A [(h0, .inr (14, (fs.set 1 (.int 0))))] := hD
  have hF_1 := hF.set 1 (.int 0) (l' := [(1, .int 0), (95, .int 0)]) (by decide) rfl
  have hE_2 := (sameF.rf (f := fs)).set 1 (.int 0)
  generalize fs.set 1 (.int 0) = fs_3 at hP hD hF_1 hE_2
  have hP : va_P (dC, dI) vwCl [(h0, .inr (14, fs_3))] H := hP
  have hD : va_D A [(h0, .inr (14, fs_3))] := hD
  refine lv_aload_n hx hb dX14_sign_5 rfl (lv_at hl 0 rfl) ?_
  refine lv_iload_n hx hb dX14_sign_6 rfl (lv_at hl 1 rfl) ?_
  have hPc := hP.sub (ws' := [(h0, .inr (14, fs_3))]) [0] rfl
  have hDc := hD.sub (ws' := [(h0, .inr (14, fs_3))]) [0] (by decide) rfl
  have hKc := hK.sub (tys' := []) [] rfl
  have hFc := va_free (wc := [(h0, .inr (14, fs_3))]) hD hS hA [0] rfl
  refine va_calli (va_runV (As := [.int p0]) (rest := []) ⟨hx, hb, hml, hown, hts⟩ (c_X14_isDefinition l dC dI H.size h0 fs_3 p0 (hF_1.sub [1] rfl)) (cwV 1 hts g_c_X14_sign_c_X14_isDefinition_7 rfl rfl rfl (by decide +kernel) ⟨Nat.le_of_ble_eq_true rfl, Nat.le_of_ble_eq_true rfl⟩) ⟨fun a U g mk q => by obtain ⟨q0, q1, qP, qK, qD⟩ := q; exact ⟨q0, q1, qP, va_K.moved (u := U) (U := U.calling g mk a) (Vm.Alike.refl U.vm) qK, qD⟩, va_recv hKc hPc (ci := 14) (q0 := 0) rfl rfl, fun U hU hW => ⟨rfl, by rw [hU], by rw [hU]; exact hPc, va_K.moved hW.alike hKc, hDc.weaken (fun _ _ _ _ => trivial)⟩⟩ rfl rfl hl.1 rfl (lv_room (Nat.le_of_ble_eq_true rfl)) dX14_sign_7 ⟨show 0 + 0 ≤ 0 by decide, show 0 + 0 ≤ 0 by decide⟩) hS (fun q _ h => hFc q h) hFc (fun r_4 u t H1 locs ht hvm hw hB hz1 hk1 hS => ?_)
  obtain ⟨fs1_6, rfl⟩ : ∃ z, z = u := ⟨_, rfl⟩
  obtain ⟨hP1, hK1, hD1⟩ := hB
  rw [ht] at hP1
  have hK1 := va_K.moved hvm.symm hK1
  try dsimp only at hw hP1 hK1 hD1
  obtain ⟨hr_7, hE_8⟩ := hw
  obtain ⟨hP, hD⟩ := va_join (wr := []) (w1 := [(h0, .inr (14, fs1_6))]) hP hD [0] [] rfl rfl (by decide) (by decide) hk1 hFc hP1 hD1
  generalize H1 = H at hP hS ⊢
  have hK := (hK.sub (tys' := []) [] rfl).app hK1
  have hK : va_K (dC, dI) vwCl [] s := hK
  have hP : va_P (dC, dI) vwCl [(h0, .inr (14, fs1_6))] H := hP
  have hD : va_D A [(h0, .inr (14, fs1_6))] := hD
  have hF_9 := hF_1.same hE_8 (l' := [(1, .int 0), (95, .int 0)]) rfl
  have hE_10 := hE_2.trans hE_8
  subst hr_7
  refine lv_if_eq (tgt := 36) hx hb dX14_sign_10 (by decide) (fun _ => ?_) (fun c_11 => absurd (by decide) c_11)
  refine lv_iconst (v := (-1)) hx hb dX14_sign_36 (by decide) ?_
  refine lv_goto (tgt := 53) hx hb dX14_sign_37 (by decide) ?_
  have hP9 := hP.sub (ws' := [(h0, .inr (14, fs1_6))]) [0] rfl
  have hD9 := hD.sub (ws' := [(h0, .inr (14, fs1_6))]) [0] (by decide) rfl
  have hK9 := hK.sub (tys' := []) [] rfl
  exact W.iret (v := (-1)) hx hb hr (fun t ht hW => ⟨⟨(-1), (fs1_6), rfl, ⟨rfl, hF_9.sub [0] rfl, hE_10.mono (by decide)⟩, by rw [ht]; exact hP9, va_K.moved hW.alike hK9, hD9⟩, hS.F ht⟩) hS.2.2 dX14_sign_53
def pw_c_X14_strict : List Cond := .code yX14_strict cX14_strict 5 (some .int) :: ([.fieldLink RX14 329 "NeedHouseModel" "thrown" "I", .methodLink RX14 1084 yX14_isDefinition, .instanceMethod yX14_isDefinition, .selects RX14 yX14_isDefinition yX14_isDefinition, .initialized RX14, .code yX14_isDefinition cX14_isDefinition 2 (some .boolean), .fieldLink RX14 844 "NeedHouseModel" "isThere" "Z"] ++ (wsX140 ++ []))
set_option maxRecDepth 20000 in
theorem g_c_X14_strict_c_X14_isDefinition_7 : GoodIn pw_c_X14_strict (wsV RX14 1084 RX14 yX14_isDefinition pw_c_X14_isDefinition) := goodIn_r _ [2, 3, 4, 5, 6, 7, 8, 9, 10, 11, 12, 13, 14, 15, 16, 17, 18, 19, 20, 21, 22, 23, 24, 25, 26, 27, 28, 29, 30, 31, 32, 33, 34, 35, 36, 37, 38, 39, 40, 41, 42, 43, 44, 45, 46, 47, 48, 49, 50, 51, 52, 53, 54, 55, 56, 57, 58, 59, 60, 61, 62, 63, 64, 65, 66, 67, 68, 69, 70, 71, 72, 73, 74, 75, 76, 77, 78, 79, 80, 81, 82, 83, 84, 85, 86, 87, 88, 89, 90, 91, 92, 93, 94, 95, 96, 97, 98, 99, 100, 101, 102, 103, 104, 105, 106, 107, 108, 109, 110, 111, 112, 113, 114, 115, 116, 117, 118, 119, 120, 121, 122, 123, 124, 125, 126, 127, 128, 129, 130, 131, 132, 133, 134, 135, 136, 137, 138, 139, 140, 141, 142, 143] rfl (by decide +kernel)
set_option maxHeartbeats 4000000 in
set_option maxRecDepth 100000 in
theorem c_X14_strict (l : Launch) (dC : Nat → ClassId) (dI : Nat → Nat → Nat) (sz : Nat) (h0 : Nat) (fs : List Value) (th : Int32) (p0 : Int32) (p1 : Int32) (hF : hasF fs 136 [(1, .int th), (95, .int 0)]) : Met l yX14_strict pw_c_X14_strict ({ frames := 1, cells := 0, slots := 0, locals := 21 }) (va_Pc [.ref h0, .int p0, .int p1] (fun U => U.heap.size = sz ∧ va_P (dC, dI) vwCl [(h0, .inr (14, fs))] U.heap ∧ va_K (dC, dI) vwCl [] U ∧ va_D (fun _ => True) [(h0, .inr (14, fs))])) (va_Qi (fun (r : Int32) (u : (List Value)) => r = -1 ∧ hasF u 136 [(1, .int 0)] ∧ sameF fs u [1]) (fun (u : (List Value)) (t : State) => va_P (dC, dI) vwCl [(h0, .inr (14, u))] t.heap ∧ va_K (dC, dI) vwCl [] t ∧ va_D (va_A [(h0, .inr (14, fs))] sz) [(h0, .inr (14, u))]) (va_A [(h0, .inr (14, fs))] sz)) 0 0 (va_A [(h0, .inr (14, fs))] sz) := by
  refine Met.ofW (cc := cX14_strict) (maxL := 5) (ret := (some .int)) (by decide) rfl ?_
  intro p e s m args below meth c s₁ B hml hv
  obtain ⟨rfl, hsz, hP, hK, hD0⟩ := hv
  have hx := B.exec
  have hb := B.bytes
  have hr := B.returns
  have hts := atoms_spec (ws := pw_c_X14_strict) B.pre
  have hown : s.vm.findClass RX14 = some m.cls := findClass_of_methodNamed B.named
  have hlocks := B.notSynchronized
  have hin_X14 : ∀ w ∈ u_ws RX14 TX14 136, w ∈ pw_c_X14_strict := fun w h => List.mem_cons_of_mem _ (List.mem_append_right _ (List.mem_append_left _ h))
  subst hsz
  have hD := hD0.self (sz := s.heap.size)
  generalize hAe : va_A [(h0, .inr (14, fs))] s.heap.size = A at hD ⊢
  have hA : ∀ q : Nat, s.heap.size ≤ q → A q := fun q h => by rw [← hAe]; exact Or.inr h
  have hS : va_S A s.heap s.heap [] := va_S.rf
  have hP : va_P (dC, dI) vwCl [(h0, .inr (14, fs))] s.heap := hP
  have hl := lv_entry ([.ref h0, .int p0, .int p1]) (n := 5) (Nat.le_of_ble_eq_true rfl)
  rw [lg_entry_eq]
  generalize (lg_sl ([.ref h0, .int p0, .int p1]) ++ List.replicate (5 - (lg_sl ([.ref h0, .int p0, .int p1])).length) Slot.unset).toArray = ls at hl ⊢
  have hl : lv_has ls 5 [(0, .ref h0), (1, .int p0), (2, .int p1)] := hl
  refine lv_aload_n hx hb dX14_strict_0 rfl (lv_at hl 0 rfl) ?_
  refine lv_iconst (v := 0) hx hb dX14_strict_1 (by decide) ?_
  refine va_put (D := (dC, dI)) (ci := 14) (v := .int 0) (ty := .int) (C := RX14) (T := TX14) (N := 136) hx hb hts hin_X14 tyX14 tyX14_ok nmX14 hown hK hP hD hS 0 rfl rfl 1 (by decide) (hts (.fieldLink RX14 329 "NeedHouseModel" "thrown" "I") (List.mem_of_getElem? (i := 1) rfl)) (fun _ h9 => h9) rfl (by decide +kernel) rfl rfl (by rw [hF.1]; decide) dX14_strict_2 (fun H locs hP hD hS => ?_)
  have hP : va_P (dC, dI) vwCl [(h0, .inr (14, (fs.set 1 (.int 0))))] H := hP
  have hD : va_D A [(h0, .inr (14, (fs.set 1 (.int 0))))] := hD
  have hF_1 := hF.set 1 (.int 0) (l' := [(1, .int 0), (95, .int 0)]) (by decide) rfl
  have hE_2 := (sameF.rf (f := fs)).set 1 (.int 0)
  generalize fs.set 1 (.int 0) = fs_3 at hP hD hF_1 hE_2
  have hP : va_P (dC, dI) vwCl [(h0, .inr (14, fs_3))] H := hP
  have hD : va_D A [(h0, .inr (14, fs_3))] := hD
  refine lv_aload_n hx hb dX14_strict_5 rfl (lv_at hl 0 rfl) ?_
  refine lv_iload_n hx hb dX14_strict_6 rfl (lv_at hl 1 rfl) ?_
  have hPc := hP.sub (ws' := [(h0, .inr (14, fs_3))]) [0] rfl
  have hDc := hD.sub (ws' := [(h0, .inr (14, fs_3))]) [0] (by decide) rfl
  have hKc := hK.sub (tys' := []) [] rfl
  have hFc := va_free (wc := [(h0, .inr (14, fs_3))]) hD hS hA [0] rfl
  refine va_calli (va_runV (As := [.int p0]) (rest := []) ⟨hx, hb, hml, hown, hts⟩ (c_X14_isDefinition l dC dI H.size h0 fs_3 p0 (hF_1.sub [1] rfl)) (cwV 1 hts g_c_X14_strict_c_X14_isDefinition_7 rfl rfl rfl (by decide +kernel) ⟨Nat.le_of_ble_eq_true rfl, Nat.le_of_ble_eq_true rfl⟩) ⟨fun a U g mk q => by obtain ⟨q0, q1, qP, qK, qD⟩ := q; exact ⟨q0, q1, qP, va_K.moved (u := U) (U := U.calling g mk a) (Vm.Alike.refl U.vm) qK, qD⟩, va_recv hKc hPc (ci := 14) (q0 := 0) rfl rfl, fun U hU hW => ⟨rfl, by rw [hU], by rw [hU]; exact hPc, va_K.moved hW.alike hKc, hDc.weaken (fun _ _ _ _ => trivial)⟩⟩ rfl rfl hl.1 rfl (lv_room (Nat.le_of_ble_eq_true rfl)) dX14_strict_7 ⟨show 0 + 0 ≤ 0 by decide, show 0 + 0 ≤ 0 by decide⟩) hS (fun q _ h => hFc q h) hFc (fun r_4 u t H1 locs ht hvm hw hB hz1 hk1 hS => ?_)
  obtain ⟨fs1_6, rfl⟩ : ∃ z, z = u := ⟨_, rfl⟩
  obtain ⟨hP1, hK1, hD1⟩ := hB
  rw [ht] at hP1
  have hK1 := va_K.moved hvm.symm hK1
  try dsimp only at hw hP1 hK1 hD1
  obtain ⟨hr_7, hE_8⟩ := hw
  obtain ⟨hP, hD⟩ := va_join (wr := []) (w1 := [(h0, .inr (14, fs1_6))]) hP hD [0] [] rfl rfl (by decide) (by decide) hk1 hFc hP1 hD1
  generalize H1 = H at hP hS ⊢
  have hK := (hK.sub (tys' := []) [] rfl).app hK1
  have hK : va_K (dC, dI) vwCl [] s := hK
  have hP : va_P (dC, dI) vwCl [(h0, .inr (14, fs1_6))] H := hP
  have hD : va_D A [(h0, .inr (14, fs1_6))] := hD
  have hF_9 := hF_1.same hE_8 (l' := [(1, .int 0), (95, .int 0)]) rfl
  have hE_10 := hE_2.trans hE_8
  subst hr_7
  refine lv_if_eq (tgt := 17) hx hb dX14_strict_10 (by decide) (fun _ => ?_) (fun c_11 => absurd (by decide) c_11)
  refine lv_iconst (v := (-1)) hx hb dX14_strict_17 (by decide) ?_
  have hP9 := hP.sub (ws' := [(h0, .inr (14, fs1_6))]) [0] rfl
  have hD9 := hD.sub (ws' := [(h0, .inr (14, fs1_6))]) [0] (by decide) rfl
  have hK9 := hK.sub (tys' := []) [] rfl
  exact W.iret (v := (-1)) hx hb hr (fun t ht hW => ⟨⟨(-1), (fs1_6), rfl, ⟨rfl, hF_9.sub [0] rfl, hE_10.mono (by decide)⟩, by rw [ht]; exact hP9, va_K.moved hW.alike hK9, hD9⟩, hS.F ht⟩) hS.2.2 dX14_strict_18
def pw_c_X14_group : List Cond := .code yX14_group cX14_group 2 (some .int) :: ([.fieldLink RX14 329 "NeedHouseModel" "thrown" "I", .methodLink RX14 1084 yX14_isDefinition, .instanceMethod yX14_isDefinition, .selects RX14 yX14_isDefinition yX14_isDefinition, .initialized RX14, .code yX14_isDefinition cX14_isDefinition 2 (some .boolean), .fieldLink RX14 844 "NeedHouseModel" "isThere" "Z"] ++ (wsX140 ++ []))
set_option maxRecDepth 20000 in
theorem g_c_X14_group_c_X14_isDefinition_7 : GoodIn pw_c_X14_group (wsV RX14 1084 RX14 yX14_isDefinition pw_c_X14_isDefinition) := goodIn_r _ [2, 3, 4, 5, 6, 7, 8, 9, 10, 11, 12, 13, 14, 15, 16, 17, 18, 19, 20, 21, 22, 23, 24, 25, 26, 27, 28, 29, 30, 31, 32, 33, 34, 35, 36, 37, 38, 39, 40, 41, 42, 43, 44, 45, 46, 47, 48, 49, 50, 51, 52, 53, 54, 55, 56, 57, 58, 59, 60, 61, 62, 63, 64, 65, 66, 67, 68, 69, 70, 71, 72, 73, 74, 75, 76, 77, 78, 79, 80, 81, 82, 83, 84, 85, 86, 87, 88, 89, 90, 91, 92, 93, 94, 95, 96, 97, 98, 99, 100, 101, 102, 103, 104, 105, 106, 107, 108, 109, 110, 111, 112, 113, 114, 115, 116, 117, 118, 119, 120, 121, 122, 123, 124, 125, 126, 127, 128, 129, 130, 131, 132, 133, 134, 135, 136, 137, 138, 139, 140, 141, 142, 143] rfl (by decide +kernel)
set_option maxHeartbeats 4000000 in
set_option maxRecDepth 100000 in
theorem c_X14_group (l : Launch) (dC : Nat → ClassId) (dI : Nat → Nat → Nat) (sz : Nat) (h0 : Nat) (fs : List Value) (th : Int32) (p0 : Int32) (hF : hasF fs 136 [(1, .int th), (95, .int 0)]) : Met l yX14_group pw_c_X14_group ({ frames := 1, cells := 0, slots := 0, locals := 21 }) (va_Pc [.ref h0, .int p0] (fun U => U.heap.size = sz ∧ va_P (dC, dI) vwCl [(h0, .inr (14, fs))] U.heap ∧ va_K (dC, dI) vwCl [] U ∧ va_D (fun _ => True) [(h0, .inr (14, fs))])) (va_Qi (fun (r : Int32) (u : (List Value)) => r = -1 ∧ hasF u 136 [(1, .int 0)] ∧ sameF fs u [1]) (fun (u : (List Value)) (t : State) => va_P (dC, dI) vwCl [(h0, .inr (14, u))] t.heap ∧ va_K (dC, dI) vwCl [] t ∧ va_D (va_A [(h0, .inr (14, fs))] sz) [(h0, .inr (14, u))]) (va_A [(h0, .inr (14, fs))] sz)) 0 0 (va_A [(h0, .inr (14, fs))] sz) := by
  refine Met.ofW (cc := cX14_group) (maxL := 2) (ret := (some .int)) (by decide) rfl ?_
  intro p e s m args below meth c s₁ B hml hv
  obtain ⟨rfl, hsz, hP, hK, hD0⟩ := hv
  have hx := B.exec
  have hb := B.bytes
  have hr := B.returns
  have hts := atoms_spec (ws := pw_c_X14_group) B.pre
  have hown : s.vm.findClass RX14 = some m.cls := findClass_of_methodNamed B.named
  have hlocks := B.notSynchronized
  have hin_X14 : ∀ w ∈ u_ws RX14 TX14 136, w ∈ pw_c_X14_group := fun w h => List.mem_cons_of_mem _ (List.mem_append_right _ (List.mem_append_left _ h))
  subst hsz
  have hD := hD0.self (sz := s.heap.size)
  generalize hAe : va_A [(h0, .inr (14, fs))] s.heap.size = A at hD ⊢
  have hA : ∀ q : Nat, s.heap.size ≤ q → A q := fun q h => by rw [← hAe]; exact Or.inr h
  have hS : va_S A s.heap s.heap [] := va_S.rf
  have hP : va_P (dC, dI) vwCl [(h0, .inr (14, fs))] s.heap := hP
  have hl := lv_entry ([.ref h0, .int p0]) (n := 2) (Nat.le_of_ble_eq_true rfl)
  rw [lg_entry_eq]
  generalize (lg_sl ([.ref h0, .int p0]) ++ List.replicate (2 - (lg_sl ([.ref h0, .int p0])).length) Slot.unset).toArray = ls at hl ⊢
  have hl : lv_has ls 2 [(0, .ref h0), (1, .int p0)] := hl
  refine lv_aload_n hx hb dX14_group_0 rfl (lv_at hl 0 rfl) ?_
  refine lv_iconst (v := 0) hx hb dX14_group_1 (by decide) ?_
  refine va_put (D := (dC, dI)) (ci := 14) (v := .int 0) (ty := .int) (C := RX14) (T := TX14) (N := 136) hx hb hts hin_X14 tyX14 tyX14_ok nmX14 hown hK hP hD hS 0 rfl rfl 1 (by decide) (hts (.fieldLink RX14 329 "NeedHouseModel" "thrown" "I") (List.mem_of_getElem? (i := 1) rfl)) (fun _ h9 => h9) rfl (by decide +kernel) rfl rfl (by rw [hF.1]; decide) dX14_group_2 (fun H locs hP hD hS => ?_)
  have hP : va_P (dC, dI) vwCl [(h0, .inr (14, (fs.set 1 (.int 0))))] H := hP
  have hD : va_D A [(h0, .inr (14, (fs.set 1 (.int 0))))] := hD
  have hF_1 := hF.set 1 (.int 0) (l' := [(1, .int 0), (95, .int 0)]) (by decide) rfl
  have hE_2 := (sameF.rf (f := fs)).set 1 (.int 0)
  generalize fs.set 1 (.int 0) = fs_3 at hP hD hF_1 hE_2
  have hP : va_P (dC, dI) vwCl [(h0, .inr (14, fs_3))] H := hP
  have hD : va_D A [(h0, .inr (14, fs_3))] := hD
  refine lv_aload_n hx hb dX14_group_5 rfl (lv_at hl 0 rfl) ?_
  refine lv_iload_n hx hb dX14_group_6 rfl (lv_at hl 1 rfl) ?_
  have hPc := hP.sub (ws' := [(h0, .inr (14, fs_3))]) [0] rfl
  have hDc := hD.sub (ws' := [(h0, .inr (14, fs_3))]) [0] (by decide) rfl
  have hKc := hK.sub (tys' := []) [] rfl
  have hFc := va_free (wc := [(h0, .inr (14, fs_3))]) hD hS hA [0] rfl
  refine va_calli (va_runV (As := [.int p0]) (rest := []) ⟨hx, hb, hml, hown, hts⟩ (c_X14_isDefinition l dC dI H.size h0 fs_3 p0 (hF_1.sub [1] rfl)) (cwV 1 hts g_c_X14_group_c_X14_isDefinition_7 rfl rfl rfl (by decide +kernel) ⟨Nat.le_of_ble_eq_true rfl, Nat.le_of_ble_eq_true rfl⟩) ⟨fun a U g mk q => by obtain ⟨q0, q1, qP, qK, qD⟩ := q; exact ⟨q0, q1, qP, va_K.moved (u := U) (U := U.calling g mk a) (Vm.Alike.refl U.vm) qK, qD⟩, va_recv hKc hPc (ci := 14) (q0 := 0) rfl rfl, fun U hU hW => ⟨rfl, by rw [hU], by rw [hU]; exact hPc, va_K.moved hW.alike hKc, hDc.weaken (fun _ _ _ _ => trivial)⟩⟩ rfl rfl hl.1 rfl (lv_room (Nat.le_of_ble_eq_true rfl)) dX14_group_7 ⟨show 0 + 0 ≤ 0 by decide, show 0 + 0 ≤ 0 by decide⟩) hS (fun q _ h => hFc q h) hFc (fun r_4 u t H1 locs ht hvm hw hB hz1 hk1 hS => ?_)
  obtain ⟨fs1_6, rfl⟩ : ∃ z, z = u := ⟨_, rfl⟩
  obtain ⟨hP1, hK1, hD1⟩ := hB
  rw [ht] at hP1
  have hK1 := va_K.moved hvm.symm hK1
  try dsimp only at hw hP1 hK1 hD1
  obtain ⟨hr_7, hE_8⟩ := hw
  obtain ⟨hP, hD⟩ := va_join (wr := []) (w1 := [(h0, .inr (14, fs1_6))]) hP hD [0] [] rfl rfl (by decide) (by decide) hk1 hFc hP1 hD1
  generalize H1 = H at hP hS ⊢
  have hK := (hK.sub (tys' := []) [] rfl).app hK1
  have hK : va_K (dC, dI) vwCl [] s := hK
  have hP : va_P (dC, dI) vwCl [(h0, .inr (14, fs1_6))] H := hP
  have hD : va_D A [(h0, .inr (14, fs1_6))] := hD
  have hF_9 := hF_1.same hE_8 (l' := [(1, .int 0), (95, .int 0)]) rfl
  have hE_10 := hE_2.trans hE_8
  subst hr_7
  refine lv_if_eq (tgt := 27) hx hb dX14_group_10 (by decide) (fun _ => ?_) (fun c_11 => absurd (by decide) c_11)
  refine lv_iconst (v := (-1)) hx hb dX14_group_27 (by decide) ?_
  have hP9 := hP.sub (ws' := [(h0, .inr (14, fs1_6))]) [0] rfl
  have hD9 := hD.sub (ws' := [(h0, .inr (14, fs1_6))]) [0] (by decide) rfl
  have hK9 := hK.sub (tys' := []) [] rfl
  exact W.iret (v := (-1)) hx hb hr (fun t ht hW => ⟨⟨(-1), (fs1_6), rfl, ⟨rfl, hF_9.sub [0] rfl, hE_10.mono (by decide)⟩, by rw [ht]; exact hP9, va_K.moved hW.alike hK9, hD9⟩, hS.F ht⟩) hS.2.2 dX14_group_28
def pw_c_X14_global : List Cond := .code yX14_global cX14_global 7 (some .int) :: ([.fieldLink RX14 329 "NeedHouseModel" "thrown" "I", .methodLink RX14 1084 yX14_isDefinition, .instanceMethod yX14_isDefinition, .selects RX14 yX14_isDefinition yX14_isDefinition, .initialized RX14, .code yX14_isDefinition cX14_isDefinition 2 (some .boolean), .fieldLink RX14 844 "NeedHouseModel" "isThere" "Z"] ++ (wsX140 ++ []))
set_option maxRecDepth 20000 in
theorem g_c_X14_global_c_X14_isDefinition_7 : GoodIn pw_c_X14_global (wsV RX14 1084 RX14 yX14_isDefinition pw_c_X14_isDefinition) := goodIn_r _ [2, 3, 4, 5, 6, 7, 8, 9, 10, 11, 12, 13, 14, 15, 16, 17, 18, 19, 20, 21, 22, 23, 24, 25, 26, 27, 28, 29, 30, 31, 32, 33, 34, 35, 36, 37, 38, 39, 40, 41, 42, 43, 44, 45, 46, 47, 48, 49, 50, 51, 52, 53, 54, 55, 56, 57, 58, 59, 60, 61, 62, 63, 64, 65, 66, 67, 68, 69, 70, 71, 72, 73, 74, 75, 76, 77, 78, 79, 80, 81, 82, 83, 84, 85, 86, 87, 88, 89, 90, 91, 92, 93, 94, 95, 96, 97, 98, 99, 100, 101, 102, 103, 104, 105, 106, 107, 108, 109, 110, 111, 112, 113, 114, 115, 116, 117, 118, 119, 120, 121, 122, 123, 124, 125, 126, 127, 128, 129, 130, 131, 132, 133, 134, 135, 136, 137, 138, 139, 140, 141, 142, 143] rfl (by decide +kernel)
set_option maxHeartbeats 4000000 in
set_option maxRecDepth 100000 in
theorem c_X14_global (l : Launch) (dC : Nat → ClassId) (dI : Nat → Nat → Nat) (sz : Nat) (h0 : Nat) (fs : List Value) (th : Int32) (p0 : Int32) (p1 : Int32) (hF : hasF fs 136 [(1, .int th), (95, .int 0)]) : Met l yX14_global pw_c_X14_global ({ frames := 1, cells := 0, slots := 0, locals := 21 }) (va_Pc [.ref h0, .int p0, .int p1] (fun U => U.heap.size = sz ∧ va_P (dC, dI) vwCl [(h0, .inr (14, fs))] U.heap ∧ va_K (dC, dI) vwCl [] U ∧ va_D (fun _ => True) [(h0, .inr (14, fs))])) (va_Qi (fun (r : Int32) (u : (List Value)) => r = -1 ∧ hasF u 136 [(1, .int 0)] ∧ sameF fs u [1]) (fun (u : (List Value)) (t : State) => va_P (dC, dI) vwCl [(h0, .inr (14, u))] t.heap ∧ va_K (dC, dI) vwCl [] t ∧ va_D (va_A [(h0, .inr (14, fs))] sz) [(h0, .inr (14, u))]) (va_A [(h0, .inr (14, fs))] sz)) 0 0 (va_A [(h0, .inr (14, fs))] sz) := by
  refine Met.ofW (cc := cX14_global) (maxL := 7) (ret := (some .int)) (by decide) rfl ?_
  intro p e s m args below meth c s₁ B hml hv
  obtain ⟨rfl, hsz, hP, hK, hD0⟩ := hv
  have hx := B.exec
  have hb := B.bytes
  have hr := B.returns
  have hts := atoms_spec (ws := pw_c_X14_global) B.pre
  have hown : s.vm.findClass RX14 = some m.cls := findClass_of_methodNamed B.named
  have hlocks := B.notSynchronized
  have hin_X14 : ∀ w ∈ u_ws RX14 TX14 136, w ∈ pw_c_X14_global := fun w h => List.mem_cons_of_mem _ (List.mem_append_right _ (List.mem_append_left _ h))
  subst hsz
  have hD := hD0.self (sz := s.heap.size)
  generalize hAe : va_A [(h0, .inr (14, fs))] s.heap.size = A at hD ⊢
  have hA : ∀ q : Nat, s.heap.size ≤ q → A q := fun q h => by rw [← hAe]; exact Or.inr h
  have hS : va_S A s.heap s.heap [] := va_S.rf
  have hP : va_P (dC, dI) vwCl [(h0, .inr (14, fs))] s.heap := hP
  have hl := lv_entry ([.ref h0, .int p0, .int p1]) (n := 7) (Nat.le_of_ble_eq_true rfl)
  rw [lg_entry_eq]
  generalize (lg_sl ([.ref h0, .int p0, .int p1]) ++ List.replicate (7 - (lg_sl ([.ref h0, .int p0, .int p1])).length) Slot.unset).toArray = ls at hl ⊢
  have hl : lv_has ls 7 [(0, .ref h0), (1, .int p0), (2, .int p1)] := hl
  refine lv_aload_n hx hb dX14_global_0 rfl (lv_at hl 0 rfl) ?_
  refine lv_iconst (v := 0) hx hb dX14_global_1 (by decide) ?_
  refine va_put (D := (dC, dI)) (ci := 14) (v := .int 0) (ty := .int) (C := RX14) (T := TX14) (N := 136) hx hb hts hin_X14 tyX14 tyX14_ok nmX14 hown hK hP hD hS 0 rfl rfl 1 (by decide) (hts (.fieldLink RX14 329 "NeedHouseModel" "thrown" "I") (List.mem_of_getElem? (i := 1) rfl)) (fun _ h9 => h9) rfl (by decide +kernel) rfl rfl (by rw [hF.1]; decide) dX14_global_2 (fun H locs hP hD hS => ?_)
  have hP : va_P (dC, dI) vwCl [(h0, .inr (14, (fs.set 1 (.int 0))))] H := hP
  have hD : va_D A [(h0, .inr (14, (fs.set 1 (.int 0))))] := hD
  have hF_1 := hF.set 1 (.int 0) (l' := [(1, .int 0), (95, .int 0)]) (by decide) rfl
  have hE_2 := (sameF.rf (f := fs)).set 1 (.int 0)
  generalize fs.set 1 (.int 0) = fs_3 at hP hD hF_1 hE_2
  have hP : va_P (dC, dI) vwCl [(h0, .inr (14, fs_3))] H := hP
  have hD : va_D A [(h0, .inr (14, fs_3))] := hD
  refine lv_aload_n hx hb dX14_global_5 rfl (lv_at hl 0 rfl) ?_
  refine lv_iload_n hx hb dX14_global_6 rfl (lv_at hl 1 rfl) ?_
  have hPc := hP.sub (ws' := [(h0, .inr (14, fs_3))]) [0] rfl
  have hDc := hD.sub (ws' := [(h0, .inr (14, fs_3))]) [0] (by decide) rfl
  have hKc := hK.sub (tys' := []) [] rfl
  have hFc := va_free (wc := [(h0, .inr (14, fs_3))]) hD hS hA [0] rfl
  refine va_calli (va_runV (As := [.int p0]) (rest := []) ⟨hx, hb, hml, hown, hts⟩ (c_X14_isDefinition l dC dI H.size h0 fs_3 p0 (hF_1.sub [1] rfl)) (cwV 1 hts g_c_X14_global_c_X14_isDefinition_7 rfl rfl rfl (by decide +kernel) ⟨Nat.le_of_ble_eq_true rfl, Nat.le_of_ble_eq_true rfl⟩) ⟨fun a U g mk q => by obtain ⟨q0, q1, qP, qK, qD⟩ := q; exact ⟨q0, q1, qP, va_K.moved (u := U) (U := U.calling g mk a) (Vm.Alike.refl U.vm) qK, qD⟩, va_recv hKc hPc (ci := 14) (q0 := 0) rfl rfl, fun U hU hW => ⟨rfl, by rw [hU], by rw [hU]; exact hPc, va_K.moved hW.alike hKc, hDc.weaken (fun _ _ _ _ => trivial)⟩⟩ rfl rfl hl.1 rfl (lv_room (Nat.le_of_ble_eq_true rfl)) dX14_global_7 ⟨show 0 + 0 ≤ 0 by decide, show 0 + 0 ≤ 0 by decide⟩) hS (fun q _ h => hFc q h) hFc (fun r_4 u t H1 locs ht hvm hw hB hz1 hk1 hS => ?_)
  obtain ⟨fs1_6, rfl⟩ : ∃ z, z = u := ⟨_, rfl⟩
  obtain ⟨hP1, hK1, hD1⟩ := hB
  rw [ht] at hP1
  have hK1 := va_K.moved hvm.symm hK1
  try dsimp only at hw hP1 hK1 hD1
  obtain ⟨hr_7, hE_8⟩ := hw
  obtain ⟨hP, hD⟩ := va_join (wr := []) (w1 := [(h0, .inr (14, fs1_6))]) hP hD [0] [] rfl rfl (by decide) (by decide) hk1 hFc hP1 hD1
  generalize H1 = H at hP hS ⊢
  have hK := (hK.sub (tys' := []) [] rfl).app hK1
  have hK : va_K (dC, dI) vwCl [] s := hK
  have hP : va_P (dC, dI) vwCl [(h0, .inr (14, fs1_6))] H := hP
  have hD : va_D A [(h0, .inr (14, fs1_6))] := hD
  have hF_9 := hF_1.same hE_8 (l' := [(1, .int 0), (95, .int 0)]) rfl
  have hE_10 := hE_2.trans hE_8
  subst hr_7
  refine lv_if_eq (tgt := 29) hx hb dX14_global_10 (by decide) (fun _ => ?_) (fun c_11 => absurd (by decide) c_11)
  refine lv_iconst (v := (-1)) hx hb dX14_global_29 (by decide) ?_
  have hP9 := hP.sub (ws' := [(h0, .inr (14, fs1_6))]) [0] rfl
  have hD9 := hD.sub (ws' := [(h0, .inr (14, fs1_6))]) [0] (by decide) rfl
  have hK9 := hK.sub (tys' := []) [] rfl
  exact W.iret (v := (-1)) hx hb hr (fun t ht hW => ⟨⟨(-1), (fs1_6), rfl, ⟨rfl, hF_9.sub [0] rfl, hE_10.mono (by decide)⟩, by rw [ht]; exact hP9, va_K.moved hW.alike hK9, hD9⟩, hS.F ht⟩) hS.2.2 dX14_global_30
def pw_c_X14_shown : List Cond := .code yX14_shown cX14_shown 2 (some .int) :: ([.fieldLink RX14 329 "NeedHouseModel" "thrown" "I", .fieldLink RX14 847 "NeedHouseModel" "how" "I"] ++ (wsX140 ++ []))
set_option maxHeartbeats 4000000 in
set_option maxRecDepth 100000 in
theorem c_X14_shown (l : Launch) (dC : Nat → ClassId) (dI : Nat → Nat → Nat) (sz : Nat) (h0 : Nat) (fs : List Value) (th : Int32) (p0 : Int32) (hF : hasF fs 136 [(1, .int th), (112, .int 0)]) : Met l yX14_shown pw_c_X14_shown ({ frames := 0, cells := 0, slots := 0, locals := 0 }) (va_Pc [.ref h0, .int p0] (fun U => U.heap.size = sz ∧ va_P (dC, dI) vwCl [(h0, .inr (14, fs))] U.heap ∧ va_K (dC, dI) vwCl [] U ∧ va_D (fun _ => True) [(h0, .inr (14, fs))])) (va_Qi (fun (r : Int32) (u : (List Value)) => r = -1 ∧ hasF u 136 [(1, .int 0)] ∧ sameF fs u [1]) (fun (u : (List Value)) (t : State) => va_P (dC, dI) vwCl [(h0, .inr (14, u))] t.heap ∧ va_K (dC, dI) vwCl [] t ∧ va_D (va_A [(h0, .inr (14, fs))] sz) [(h0, .inr (14, u))]) (va_A [(h0, .inr (14, fs))] sz)) 0 0 (va_A [(h0, .inr (14, fs))] sz) := by
  refine Met.ofW (cc := cX14_shown) (maxL := 2) (ret := (some .int)) (by decide) rfl ?_
  intro p e s m args below meth c s₁ B hml hv
  obtain ⟨rfl, hsz, hP, hK, hD0⟩ := hv
  have hx := B.exec
  have hb := B.bytes
  have hr := B.returns
  have hts := atoms_spec (ws := pw_c_X14_shown) B.pre
  have hown : s.vm.findClass RX14 = some m.cls := findClass_of_methodNamed B.named
  have hlocks := B.notSynchronized
  have hin_X14 : ∀ w ∈ u_ws RX14 TX14 136, w ∈ pw_c_X14_shown := fun w h => List.mem_cons_of_mem _ (List.mem_append_right _ (List.mem_append_left _ h))
  subst hsz
  have hD := hD0.self (sz := s.heap.size)
  generalize hAe : va_A [(h0, .inr (14, fs))] s.heap.size = A at hD ⊢
  have hA : ∀ q : Nat, s.heap.size ≤ q → A q := fun q h => by rw [← hAe]; exact Or.inr h
  have hS : va_S A s.heap s.heap [] := va_S.rf
  have hP : va_P (dC, dI) vwCl [(h0, .inr (14, fs))] s.heap := hP
  have hl := lv_entry ([.ref h0, .int p0]) (n := 2) (Nat.le_of_ble_eq_true rfl)
  rw [lg_entry_eq]
  generalize (lg_sl ([.ref h0, .int p0]) ++ List.replicate (2 - (lg_sl ([.ref h0, .int p0])).length) Slot.unset).toArray = ls at hl ⊢
  have hl : lv_has ls 2 [(0, .ref h0), (1, .int p0)] := hl
  refine lv_aload_n hx hb dX14_shown_0 rfl (lv_at hl 0 rfl) ?_
  refine lv_iconst (v := 0) hx hb dX14_shown_1 (by decide) ?_
  refine va_put (D := (dC, dI)) (ci := 14) (v := .int 0) (ty := .int) (C := RX14) (T := TX14) (N := 136) hx hb hts hin_X14 tyX14 tyX14_ok nmX14 hown hK hP hD hS 0 rfl rfl 1 (by decide) (hts (.fieldLink RX14 329 "NeedHouseModel" "thrown" "I") (List.mem_of_getElem? (i := 1) rfl)) (fun _ h9 => h9) rfl (by decide +kernel) rfl rfl (by rw [hF.1]; decide) dX14_shown_2 (fun H locs hP hD hS => ?_)
  have hP : va_P (dC, dI) vwCl [(h0, .inr (14, (fs.set 1 (.int 0))))] H := hP
  have hD : va_D A [(h0, .inr (14, (fs.set 1 (.int 0))))] := hD
  have hF_1 := hF.set 1 (.int 0) (l' := [(1, .int 0), (112, .int 0)]) (by decide) rfl
  have hE_2 := (sameF.rf (f := fs)).set 1 (.int 0)
  generalize fs.set 1 (.int 0) = fs_3 at hP hD hF_1 hE_2
  have hP : va_P (dC, dI) vwCl [(h0, .inr (14, fs_3))] H := hP
  have hD : va_D A [(h0, .inr (14, fs_3))] := hD
  refine lv_aload_n hx hb dX14_shown_5 rfl (lv_at hl 0 rfl) ?_
  refine va_get (D := (dC, dI)) (ci := 14) (v := .int 0) (C := RX14) (T := TX14) (N := 136) hx hb hts hin_X14 hown hK hP 0 rfl rfl 112 (by decide) (hts (.fieldLink RX14 847 "NeedHouseModel" "how" "I") (List.mem_of_getElem? (i := 2) rfl)) (fun _ h9 => h9) (hF_1.at 1 rfl) dX14_shown_6 ?_
  refine lv_if_eq (tgt := 24) hx hb dX14_shown_9 (by decide) (fun _ => ?_) (fun c_4 => absurd (by decide) c_4)
  refine lv_iconst (v := (-1)) hx hb dX14_shown_24 (by decide) ?_
  refine lv_goto (tgt := 34) hx hb dX14_shown_25 (by decide) ?_
  have hP9 := hP.sub (ws' := [(h0, .inr (14, fs_3))]) [0] rfl
  have hD9 := hD.sub (ws' := [(h0, .inr (14, fs_3))]) [0] (by decide) rfl
  have hK9 := hK.sub (tys' := []) [] rfl
  exact W.iret (v := (-1)) hx hb hr (fun t ht hW => ⟨⟨(-1), (fs_3), rfl, ⟨rfl, hF_1.sub [0] rfl, hE_2.mono (by decide)⟩, by rw [ht]; exact hP9, va_K.moved hW.alike hK9, hD9⟩, hS.F ht⟩) hS.2.2 dX14_shown_34
def pw_c_X14_said : List Cond := .code yX14_said cX14_said 2 (some .int) :: ([.fieldLink RX14 329 "NeedHouseModel" "thrown" "I", .fieldLink RX14 847 "NeedHouseModel" "how" "I"] ++ (wsX140 ++ []))
set_option maxHeartbeats 4000000 in
set_option maxRecDepth 100000 in
theorem c_X14_said (l : Launch) (dC : Nat → ClassId) (dI : Nat → Nat → Nat) (sz : Nat) (h0 : Nat) (fs : List Value) (th : Int32) (p0 : Int32) (hF : hasF fs 136 [(1, .int th), (112, .int 0)]) : Met l yX14_said pw_c_X14_said ({ frames := 0, cells := 0, slots := 0, locals := 0 }) (va_Pc [.ref h0, .int p0] (fun U => U.heap.size = sz ∧ va_P (dC, dI) vwCl [(h0, .inr (14, fs))] U.heap ∧ va_K (dC, dI) vwCl [] U ∧ va_D (fun _ => True) [(h0, .inr (14, fs))])) (va_Qi (fun (r : Int32) (u : (List Value)) => r = 0 ∧ hasF u 136 [(1, .int 0)] ∧ sameF fs u [1]) (fun (u : (List Value)) (t : State) => va_P (dC, dI) vwCl [(h0, .inr (14, u))] t.heap ∧ va_K (dC, dI) vwCl [] t ∧ va_D (va_A [(h0, .inr (14, fs))] sz) [(h0, .inr (14, u))]) (va_A [(h0, .inr (14, fs))] sz)) 0 0 (va_A [(h0, .inr (14, fs))] sz) := by
  refine Met.ofW (cc := cX14_said) (maxL := 2) (ret := (some .int)) (by decide) rfl ?_
  intro p e s m args below meth c s₁ B hml hv
  obtain ⟨rfl, hsz, hP, hK, hD0⟩ := hv
  have hx := B.exec
  have hb := B.bytes
  have hr := B.returns
  have hts := atoms_spec (ws := pw_c_X14_said) B.pre
  have hown : s.vm.findClass RX14 = some m.cls := findClass_of_methodNamed B.named
  have hlocks := B.notSynchronized
  have hin_X14 : ∀ w ∈ u_ws RX14 TX14 136, w ∈ pw_c_X14_said := fun w h => List.mem_cons_of_mem _ (List.mem_append_right _ (List.mem_append_left _ h))
  subst hsz
  have hD := hD0.self (sz := s.heap.size)
  generalize hAe : va_A [(h0, .inr (14, fs))] s.heap.size = A at hD ⊢
  have hA : ∀ q : Nat, s.heap.size ≤ q → A q := fun q h => by rw [← hAe]; exact Or.inr h
  have hS : va_S A s.heap s.heap [] := va_S.rf
  have hP : va_P (dC, dI) vwCl [(h0, .inr (14, fs))] s.heap := hP
  have hl := lv_entry ([.ref h0, .int p0]) (n := 2) (Nat.le_of_ble_eq_true rfl)
  rw [lg_entry_eq]
  generalize (lg_sl ([.ref h0, .int p0]) ++ List.replicate (2 - (lg_sl ([.ref h0, .int p0])).length) Slot.unset).toArray = ls at hl ⊢
  have hl : lv_has ls 2 [(0, .ref h0), (1, .int p0)] := hl
  refine lv_aload_n hx hb dX14_said_0 rfl (lv_at hl 0 rfl) ?_
  refine lv_iconst (v := 0) hx hb dX14_said_1 (by decide) ?_
  refine va_put (D := (dC, dI)) (ci := 14) (v := .int 0) (ty := .int) (C := RX14) (T := TX14) (N := 136) hx hb hts hin_X14 tyX14 tyX14_ok nmX14 hown hK hP hD hS 0 rfl rfl 1 (by decide) (hts (.fieldLink RX14 329 "NeedHouseModel" "thrown" "I") (List.mem_of_getElem? (i := 1) rfl)) (fun _ h9 => h9) rfl (by decide +kernel) rfl rfl (by rw [hF.1]; decide) dX14_said_2 (fun H locs hP hD hS => ?_)
  have hP : va_P (dC, dI) vwCl [(h0, .inr (14, (fs.set 1 (.int 0))))] H := hP
  have hD : va_D A [(h0, .inr (14, (fs.set 1 (.int 0))))] := hD
  have hF_1 := hF.set 1 (.int 0) (l' := [(1, .int 0), (112, .int 0)]) (by decide) rfl
  have hE_2 := (sameF.rf (f := fs)).set 1 (.int 0)
  generalize fs.set 1 (.int 0) = fs_3 at hP hD hF_1 hE_2
  have hP : va_P (dC, dI) vwCl [(h0, .inr (14, fs_3))] H := hP
  have hD : va_D A [(h0, .inr (14, fs_3))] := hD
  refine lv_aload_n hx hb dX14_said_5 rfl (lv_at hl 0 rfl) ?_
  refine va_get (D := (dC, dI)) (ci := 14) (v := .int 0) (C := RX14) (T := TX14) (N := 136) hx hb hts hin_X14 hown hK hP 0 rfl rfl 112 (by decide) (hts (.fieldLink RX14 847 "NeedHouseModel" "how" "I") (List.mem_of_getElem? (i := 2) rfl)) (fun _ h9 => h9) (hF_1.at 1 rfl) dX14_said_6 ?_
  refine lv_if_eq (tgt := 24) hx hb dX14_said_9 (by decide) (fun _ => ?_) (fun c_4 => absurd (by decide) c_4)
  refine lv_iconst (v := 0) hx hb dX14_said_24 (by decide) ?_
  refine lv_goto (tgt := 34) hx hb dX14_said_25 (by decide) ?_
  have hP9 := hP.sub (ws' := [(h0, .inr (14, fs_3))]) [0] rfl
  have hD9 := hD.sub (ws' := [(h0, .inr (14, fs_3))]) [0] (by decide) rfl
  have hK9 := hK.sub (tys' := []) [] rfl
  exact W.iret (v := 0) hx hb hr (fun t ht hW => ⟨⟨0, (fs_3), rfl, ⟨rfl, hF_1.sub [0] rfl, hE_2.mono (by decide)⟩, by rw [ht]; exact hP9, va_K.moved hW.alike hK9, hD9⟩, hS.F ht⟩) hS.2.2 dX14_said_34
def pw_c_X14_begin : List Cond := .code yX14_begin cX14_begin 4 none :: ([.fieldLink RX14 844 "NeedHouseModel" "isThere" "Z", .fieldLink RX14 329 "NeedHouseModel" "thrown" "I"] ++ (wsX140 ++ []))
set_option maxHeartbeats 4000000 in
set_option maxRecDepth 100000 in
theorem c_X14_begin (l : Launch) (dC : Nat → ClassId) (dI : Nat → Nat → Nat) (sz : Nat) (h0 : Nat) (fs : List Value) (th : Int32) (hF : hasF fs 136 [(1, .int th), (95, .int 0)]) : Met l yX14_begin pw_c_X14_begin ({ frames := 0, cells := 0, slots := 0, locals := 0 }) (va_Pc [.ref h0] (fun U => U.heap.size = sz ∧ va_P (dC, dI) vwCl [(h0, .inr (14, fs))] U.heap ∧ va_K (dC, dI) vwCl [] U ∧ va_D (fun _ => True) [(h0, .inr (14, fs))])) (va_Qv (fun (u : (List Value)) => hasF u 136 [(1, .int 1)] ∧ sameF fs u [1]) (fun (u : (List Value)) (t : State) => va_P (dC, dI) vwCl [(h0, .inr (14, u))] t.heap ∧ va_K (dC, dI) vwCl [] t ∧ va_D (va_A [(h0, .inr (14, fs))] sz) [(h0, .inr (14, u))]) (va_A [(h0, .inr (14, fs))] sz)) 0 0 (va_A [(h0, .inr (14, fs))] sz) := by
  refine Met.ofW (cc := cX14_begin) (maxL := 4) (ret := none) (by decide) rfl ?_
  intro p e s m args below meth c s₁ B hml hv
  obtain ⟨rfl, hsz, hP, hK, hD0⟩ := hv
  have hx := B.exec
  have hb := B.bytes
  have hr := B.returns
  have hts := atoms_spec (ws := pw_c_X14_begin) B.pre
  have hown : s.vm.findClass RX14 = some m.cls := findClass_of_methodNamed B.named
  have hlocks := B.notSynchronized
  have hin_X14 : ∀ w ∈ u_ws RX14 TX14 136, w ∈ pw_c_X14_begin := fun w h => List.mem_cons_of_mem _ (List.mem_append_right _ (List.mem_append_left _ h))
  subst hsz
  have hD := hD0.self (sz := s.heap.size)
  generalize hAe : va_A [(h0, .inr (14, fs))] s.heap.size = A at hD ⊢
  have hA : ∀ q : Nat, s.heap.size ≤ q → A q := fun q h => by rw [← hAe]; exact Or.inr h
  have hS : va_S A s.heap s.heap [] := va_S.rf
  have hP : va_P (dC, dI) vwCl [(h0, .inr (14, fs))] s.heap := hP
  have hl := lv_entry ([.ref h0]) (n := 4) (Nat.le_of_ble_eq_true rfl)
  rw [lg_entry_eq]
  generalize (lg_sl ([.ref h0]) ++ List.replicate (4 - (lg_sl ([.ref h0])).length) Slot.unset).toArray = ls at hl ⊢
  have hl : lv_has ls 4 [(0, .ref h0)] := hl
  refine lv_aload_n hx hb dX14_begin_0 rfl (lv_at hl 0 rfl) ?_
  refine lv_aload_n hx hb dX14_begin_1 rfl (lv_at hl 0 rfl) ?_
  refine va_get (D := (dC, dI)) (ci := 14) (v := .int 0) (C := RX14) (T := TX14) (N := 136) hx hb hts hin_X14 hown hK hP 0 rfl rfl 95 (by decide) (hts (.fieldLink RX14 844 "NeedHouseModel" "isThere" "Z") (List.mem_of_getElem? (i := 1) rfl)) (fun _ h9 => h9) (hF.at 1 rfl) dX14_begin_2 ?_
  refine lv_if_eq (tgt := 12) hx hb dX14_begin_5 (by decide) (fun _ => ?_) (fun c_1 => absurd (by decide) c_1)
  refine lv_iconst (v := 1) hx hb dX14_begin_12 (by decide) ?_
  refine va_put (D := (dC, dI)) (ci := 14) (v := .int 1) (ty := .int) (C := RX14) (T := TX14) (N := 136) hx hb hts hin_X14 tyX14 tyX14_ok nmX14 hown hK hP hD hS 0 rfl rfl 1 (by decide) (hts (.fieldLink RX14 329 "NeedHouseModel" "thrown" "I") (List.mem_of_getElem? (i := 2) rfl)) (fun _ h9 => h9) rfl (by decide +kernel) rfl rfl (by rw [hF.1]; decide) dX14_begin_13 (fun H locs hP hD hS => ?_)
  have hP : va_P (dC, dI) vwCl [(h0, .inr (14, (fs.set 1 (.int 1))))] H := hP
  have hD : va_D A [(h0, .inr (14, (fs.set 1 (.int 1))))] := hD
  have hF_2 := hF.set 1 (.int 1) (l' := [(1, .int 1), (95, .int 0)]) (by decide) rfl
  have hE_3 := (sameF.rf (f := fs)).set 1 (.int 1)
  generalize fs.set 1 (.int 1) = fs_4 at hP hD hF_2 hE_3
  have hP : va_P (dC, dI) vwCl [(h0, .inr (14, fs_4))] H := hP
  have hD : va_D A [(h0, .inr (14, fs_4))] := hD
  refine lv_aload_n hx hb dX14_begin_16 rfl (lv_at hl 0 rfl) ?_
  refine va_get (D := (dC, dI)) (ci := 14) (v := .int 1) (C := RX14) (T := TX14) (N := 136) hx hb hts hin_X14 hown hK hP 0 rfl rfl 1 (by decide) (hts (.fieldLink RX14 329 "NeedHouseModel" "thrown" "I") (List.mem_of_getElem? (i := 2) rfl)) (fun _ h9 => h9) (hF_2.at 0 rfl) dX14_begin_17 ?_
  refine lv_iconst (v := 1) hx hb dX14_begin_20 (by decide) ?_
  refine lv_icmp_ne (tgt := 25) hx hb dX14_begin_21 (by decide) (fun c_5 => absurd c_5 (by decide)) (fun _ => ?_)
  have hP9 := hP.sub (ws' := [(h0, .inr (14, fs_4))]) [0] rfl
  have hD9 := hD.sub (ws' := [(h0, .inr (14, fs_4))]) [0] (by decide) rfl
  have hK9 := hK.sub (tys' := []) [] rfl
  exact W.vret hx hb hr (fun t ht hW => ⟨⟨(fs_4), rfl, ⟨hF_2.sub [0] rfl, hE_3.mono (by decide)⟩, by rw [ht]; exact hP9, va_K.moved hW.alike hK9, hD9⟩, hS.F ht⟩) hS.2.2 dX14_begin_24
end
section
theorem dX2_init_0 : decode cX2_init 0 = .ok (.aload_n 0, 1) := by decide +kernel
theorem dX2_init_1 : decode cX2_init 1 = .ok (.invokespecial 5, 3) := by decide +kernel
theorem dX2_init_4 : decode cX2_init 4 = .ok (.aload_n 0, 1) := by decide +kernel
theorem dX2_init_5 : decode cX2_init 5 = .ok (.sipush 4004, 3) := by decide +kernel
theorem dX2_init_8 : decode cX2_init 8 = .ok (.newarray .int, 2) := by decide +kernel
theorem dX2_init_10 : decode cX2_init 10 = .ok (.putfield 11, 3) := by decide +kernel
theorem dX2_init_13 : decode cX2_init 13 = .ok (.aload_n 0, 1) := by decide +kernel
theorem dX2_init_14 : decode cX2_init 14 = .ok (.sipush 4004, 3) := by decide +kernel
theorem dX2_init_17 : decode cX2_init 17 = .ok (.newarray .int, 2) := by decide +kernel
theorem dX2_init_19 : decode cX2_init 19 = .ok (.putfield 15, 3) := by decide +kernel
theorem dX2_init_22 : decode cX2_init 22 = .ok (.aload_n 0, 1) := by decide +kernel
theorem dX2_init_23 : decode cX2_init 23 = .ok (.sipush 4004, 3) := by decide +kernel
theorem dX2_init_26 : decode cX2_init 26 = .ok (.newarray .int, 2) := by decide +kernel
theorem dX2_init_28 : decode cX2_init 28 = .ok (.putfield 18, 3) := by decide +kernel
theorem dX2_init_31 : decode cX2_init 31 = .ok (.aload_n 0, 1) := by decide +kernel
theorem dX2_init_32 : decode cX2_init 32 = .ok (.sipush 4004, 3) := by decide +kernel
theorem dX2_init_35 : decode cX2_init 35 = .ok (.newarray .int, 2) := by decide +kernel
theorem dX2_init_37 : decode cX2_init 37 = .ok (.putfield 21, 3) := by decide +kernel
theorem dX2_init_40 : decode cX2_init 40 = .ok (.aload_n 0, 1) := by decide +kernel
theorem dX2_init_41 : decode cX2_init 41 = .ok (.sipush 2100, 3) := by decide +kernel
theorem dX2_init_44 : decode cX2_init 44 = .ok (.newarray .long, 2) := by decide +kernel
theorem dX2_init_46 : decode cX2_init 46 = .ok (.putfield 24, 3) := by decide +kernel
theorem dX2_init_49 : decode cX2_init 49 = .ok (.aload_n 0, 1) := by decide +kernel
theorem dX2_init_50 : decode cX2_init 50 = .ok (.sipush 2100, 3) := by decide +kernel
theorem dX2_init_53 : decode cX2_init 53 = .ok (.newarray .long, 2) := by decide +kernel
theorem dX2_init_55 : decode cX2_init 55 = .ok (.putfield 28, 3) := by decide +kernel
theorem dX2_init_58 : decode cX2_init 58 = .ok (.aload_n 0, 1) := by decide +kernel
theorem dX2_init_59 : decode cX2_init 59 = .ok (.sipush 8192, 3) := by decide +kernel
theorem dX2_init_62 : decode cX2_init 62 = .ok (.newarray .int, 2) := by decide +kernel
theorem dX2_init_64 : decode cX2_init 64 = .ok (.putfield 31, 3) := by decide +kernel
theorem dX2_init_67 : decode cX2_init 67 = .ok (.return_, 1) := by decide +kernel
theorem dX6_init_0 : decode cX6_init 0 = .ok (.aload_n 0, 1) := by decide +kernel
theorem dX6_init_1 : decode cX6_init 1 = .ok (.invokespecial 3, 3) := by decide +kernel
theorem dX6_init_4 : decode cX6_init 4 = .ok (.aload_n 0, 1) := by decide +kernel
theorem dX6_init_5 : decode cX6_init 5 = .ok (.aload_n 1, 1) := by decide +kernel
theorem dX6_init_6 : decode cX6_init 6 = .ok (.putfield 9, 3) := by decide +kernel
theorem dX6_init_9 : decode cX6_init 9 = .ok (.aload_n 0, 1) := by decide +kernel
theorem dX6_init_10 : decode cX6_init 10 = .ok (.iload_n 2, 1) := by decide +kernel
theorem dX6_init_11 : decode cX6_init 11 = .ok (.newarray .byte, 2) := by decide +kernel
theorem dX6_init_13 : decode cX6_init 13 = .ok (.putfield 15, 3) := by decide +kernel
theorem dX6_init_16 : decode cX6_init 16 = .ok (.aload_n 0, 1) := by decide +kernel
theorem dX6_init_17 : decode cX6_init 17 = .ok (.iconst 0, 1) := by decide +kernel
theorem dX6_init_18 : decode cX6_init 18 = .ok (.putfield 19, 3) := by decide +kernel
theorem dX6_init_21 : decode cX6_init 21 = .ok (.return_, 1) := by decide +kernel
theorem dX0_init_0 : decode cX0_init 0 = .ok (.aload_n 0, 1) := by decide +kernel
theorem dX0_init_1 : decode cX0_init 1 = .ok (.invokespecial 3, 3) := by decide +kernel
theorem dX0_init_4 : decode cX0_init 4 = .ok (.aload_n 0, 1) := by decide +kernel
theorem dX0_init_5 : decode cX0_init 5 = .ok (.sipush 600, 3) := by decide +kernel
theorem dX0_init_8 : decode cX0_init 8 = .ok (.newarray .int, 2) := by decide +kernel
theorem dX0_init_10 : decode cX0_init 10 = .ok (.putfield 11, 3) := by decide +kernel
theorem dX0_init_13 : decode cX0_init 13 = .ok (.aload_n 0, 1) := by decide +kernel
theorem dX0_init_14 : decode cX0_init 14 = .ok (.sipush 600, 3) := by decide +kernel
theorem dX0_init_17 : decode cX0_init 17 = .ok (.newarray .int, 2) := by decide +kernel
theorem dX0_init_19 : decode cX0_init 19 = .ok (.putfield 15, 3) := by decide +kernel
theorem dX0_init_22 : decode cX0_init 22 = .ok (.aload_n 0, 1) := by decide +kernel
theorem dX0_init_23 : decode cX0_init 23 = .ok (.sipush 600, 3) := by decide +kernel
theorem dX0_init_26 : decode cX0_init 26 = .ok (.newarray .int, 2) := by decide +kernel
theorem dX0_init_28 : decode cX0_init 28 = .ok (.putfield 18, 3) := by decide +kernel
theorem dX0_init_31 : decode cX0_init 31 = .ok (.aload_n 0, 1) := by decide +kernel
theorem dX0_init_32 : decode cX0_init 32 = .ok (.sipush 2100, 3) := by decide +kernel
theorem dX0_init_35 : decode cX0_init 35 = .ok (.newarray .int, 2) := by decide +kernel
theorem dX0_init_37 : decode cX0_init 37 = .ok (.putfield 21, 3) := by decide +kernel
theorem dX0_init_40 : decode cX0_init 40 = .ok (.aload_n 0, 1) := by decide +kernel
theorem dX0_init_41 : decode cX0_init 41 = .ok (.sipush 2100, 3) := by decide +kernel
theorem dX0_init_44 : decode cX0_init 44 = .ok (.newarray .int, 2) := by decide +kernel
theorem dX0_init_46 : decode cX0_init 46 = .ok (.putfield 24, 3) := by decide +kernel
theorem dX0_init_49 : decode cX0_init 49 = .ok (.aload_n 0, 1) := by decide +kernel
theorem dX0_init_50 : decode cX0_init 50 = .ok (.sipush 2100, 3) := by decide +kernel
theorem dX0_init_53 : decode cX0_init 53 = .ok (.newarray .int, 2) := by decide +kernel
theorem dX0_init_55 : decode cX0_init 55 = .ok (.putfield 27, 3) := by decide +kernel
theorem dX0_init_58 : decode cX0_init 58 = .ok (.aload_n 0, 1) := by decide +kernel
theorem dX0_init_59 : decode cX0_init 59 = .ok (.sipush 2100, 3) := by decide +kernel
theorem dX0_init_62 : decode cX0_init 62 = .ok (.newarray .int, 2) := by decide +kernel
theorem dX0_init_64 : decode cX0_init 64 = .ok (.putfield 30, 3) := by decide +kernel
theorem dX0_init_67 : decode cX0_init 67 = .ok (.aload_n 0, 1) := by decide +kernel
theorem dX0_init_68 : decode cX0_init 68 = .ok (.sipush 2100, 3) := by decide +kernel
theorem dX0_init_71 : decode cX0_init 71 = .ok (.newarray .int, 2) := by decide +kernel
theorem dX0_init_73 : decode cX0_init 73 = .ok (.putfield 33, 3) := by decide +kernel
theorem dX0_init_76 : decode cX0_init 76 = .ok (.aload_n 0, 1) := by decide +kernel
theorem dX0_init_77 : decode cX0_init 77 = .ok (.sipush 2100, 3) := by decide +kernel
theorem dX0_init_80 : decode cX0_init 80 = .ok (.newarray .int, 2) := by decide +kernel
theorem dX0_init_82 : decode cX0_init 82 = .ok (.putfield 36, 3) := by decide +kernel
theorem dX0_init_85 : decode cX0_init 85 = .ok (.aload_n 0, 1) := by decide +kernel
theorem dX0_init_86 : decode cX0_init 86 = .ok (.sipush 4100, 3) := by decide +kernel
theorem dX0_init_89 : decode cX0_init 89 = .ok (.newarray .int, 2) := by decide +kernel
theorem dX0_init_91 : decode cX0_init 91 = .ok (.putfield 39, 3) := by decide +kernel
theorem dX0_init_94 : decode cX0_init 94 = .ok (.aload_n 0, 1) := by decide +kernel
theorem dX0_init_95 : decode cX0_init 95 = .ok (.sipush 4100, 3) := by decide +kernel
theorem dX0_init_98 : decode cX0_init 98 = .ok (.newarray .int, 2) := by decide +kernel
theorem dX0_init_100 : decode cX0_init 100 = .ok (.putfield 42, 3) := by decide +kernel
theorem dX0_init_103 : decode cX0_init 103 = .ok (.aload_n 0, 1) := by decide +kernel
theorem dX0_init_104 : decode cX0_init 104 = .ok (.sipush 4100, 3) := by decide +kernel
theorem dX0_init_107 : decode cX0_init 107 = .ok (.newarray .int, 2) := by decide +kernel
theorem dX0_init_109 : decode cX0_init 109 = .ok (.putfield 45, 3) := by decide +kernel
theorem dX0_init_112 : decode cX0_init 112 = .ok (.aload_n 0, 1) := by decide +kernel
theorem dX0_init_113 : decode cX0_init 113 = .ok (.sipush 2100, 3) := by decide +kernel
theorem dX0_init_116 : decode cX0_init 116 = .ok (.newarray .int, 2) := by decide +kernel
theorem dX0_init_118 : decode cX0_init 118 = .ok (.putfield 50, 3) := by decide +kernel
theorem dX0_init_121 : decode cX0_init 121 = .ok (.aload_n 0, 1) := by decide +kernel
theorem dX0_init_122 : decode cX0_init 122 = .ok (.sipush 2100, 3) := by decide +kernel
theorem dX0_init_125 : decode cX0_init 125 = .ok (.newarray .int, 2) := by decide +kernel
theorem dX0_init_127 : decode cX0_init 127 = .ok (.putfield 53, 3) := by decide +kernel
theorem dX0_init_130 : decode cX0_init 130 = .ok (.aload_n 0, 1) := by decide +kernel
theorem dX0_init_131 : decode cX0_init 131 = .ok (.sipush 2100, 3) := by decide +kernel
theorem dX0_init_134 : decode cX0_init 134 = .ok (.newarray .int, 2) := by decide +kernel
theorem dX0_init_136 : decode cX0_init 136 = .ok (.putfield 56, 3) := by decide +kernel
theorem dX0_init_139 : decode cX0_init 139 = .ok (.aload_n 0, 1) := by decide +kernel
theorem dX0_init_140 : decode cX0_init 140 = .ok (.aload_n 1, 1) := by decide +kernel
theorem dX0_init_141 : decode cX0_init 141 = .ok (.putfield 59, 3) := by decide +kernel
theorem dX0_init_144 : decode cX0_init 144 = .ok (.aload_n 0, 1) := by decide +kernel
theorem dX0_init_145 : decode cX0_init 145 = .ok (.getfield 30, 3) := by decide +kernel
theorem dX0_init_148 : decode cX0_init 148 = .ok (.iconst 3, 1) := by decide +kernel
theorem dX0_init_149 : decode cX0_init 149 = .ok (.iconst 2, 1) := by decide +kernel
theorem dX0_init_150 : decode cX0_init 150 = .ok (.iastore, 1) := by decide +kernel
theorem dX0_init_151 : decode cX0_init 151 = .ok (.aload_n 0, 1) := by decide +kernel
theorem dX0_init_152 : decode cX0_init 152 = .ok (.getfield 30, 3) := by decide +kernel
theorem dX0_init_155 : decode cX0_init 155 = .ok (.iconst 4, 1) := by decide +kernel
theorem dX0_init_156 : decode cX0_init 156 = .ok (.iconst 2, 1) := by decide +kernel
theorem dX0_init_157 : decode cX0_init 157 = .ok (.iastore, 1) := by decide +kernel
theorem dX0_init_158 : decode cX0_init 158 = .ok (.aload_n 0, 1) := by decide +kernel
theorem dX0_init_159 : decode cX0_init 159 = .ok (.iconst 5, 1) := by decide +kernel
theorem dX0_init_160 : decode cX0_init 160 = .ok (.putfield 63, 3) := by decide +kernel
theorem dX0_init_163 : decode cX0_init 163 = .ok (.return_, 1) := by decide +kernel
theorem dX8_init_0 : decode cX8_init 0 = .ok (.aload_n 0, 1) := by decide +kernel
theorem dX8_init_1 : decode cX8_init 1 = .ok (.invokespecial 3, 3) := by decide +kernel
theorem dX8_init_4 : decode cX8_init 4 = .ok (.aload_n 0, 1) := by decide +kernel
theorem dX8_init_5 : decode cX8_init 5 = .ok (.sipush 2100, 3) := by decide +kernel
theorem dX8_init_8 : decode cX8_init 8 = .ok (.newarray .int, 2) := by decide +kernel
theorem dX8_init_10 : decode cX8_init 10 = .ok (.putfield 11, 3) := by decide +kernel
theorem dX8_init_13 : decode cX8_init 13 = .ok (.aload_n 0, 1) := by decide +kernel
theorem dX8_init_14 : decode cX8_init 14 = .ok (.sipush 2100, 3) := by decide +kernel
theorem dX8_init_17 : decode cX8_init 17 = .ok (.newarray .int, 2) := by decide +kernel
theorem dX8_init_19 : decode cX8_init 19 = .ok (.putfield 15, 3) := by decide +kernel
theorem dX8_init_22 : decode cX8_init 22 = .ok (.aload_n 0, 1) := by decide +kernel
theorem dX8_init_23 : decode cX8_init 23 = .ok (.sipush 2100, 3) := by decide +kernel
theorem dX8_init_26 : decode cX8_init 26 = .ok (.newarray .int, 2) := by decide +kernel
theorem dX8_init_28 : decode cX8_init 28 = .ok (.putfield 18, 3) := by decide +kernel
theorem dX8_init_31 : decode cX8_init 31 = .ok (.aload_n 0, 1) := by decide +kernel
theorem dX8_init_32 : decode cX8_init 32 = .ok (.sipush 2100, 3) := by decide +kernel
theorem dX8_init_35 : decode cX8_init 35 = .ok (.newarray .int, 2) := by decide +kernel
theorem dX8_init_37 : decode cX8_init 37 = .ok (.putfield 21, 3) := by decide +kernel
theorem dX8_init_40 : decode cX8_init 40 = .ok (.aload_n 0, 1) := by decide +kernel
theorem dX8_init_41 : decode cX8_init 41 = .ok (.sipush 2100, 3) := by decide +kernel
theorem dX8_init_44 : decode cX8_init 44 = .ok (.newarray .int, 2) := by decide +kernel
theorem dX8_init_46 : decode cX8_init 46 = .ok (.putfield 24, 3) := by decide +kernel
theorem dX8_init_49 : decode cX8_init 49 = .ok (.aload_n 0, 1) := by decide +kernel
theorem dX8_init_50 : decode cX8_init 50 = .ok (.sipush 2100, 3) := by decide +kernel
theorem dX8_init_53 : decode cX8_init 53 = .ok (.newarray .int, 2) := by decide +kernel
theorem dX8_init_55 : decode cX8_init 55 = .ok (.putfield 27, 3) := by decide +kernel
theorem dX8_init_58 : decode cX8_init 58 = .ok (.aload_n 0, 1) := by decide +kernel
theorem dX8_init_59 : decode cX8_init 59 = .ok (.sipush 2100, 3) := by decide +kernel
theorem dX8_init_62 : decode cX8_init 62 = .ok (.newarray .int, 2) := by decide +kernel
theorem dX8_init_64 : decode cX8_init 64 = .ok (.putfield 30, 3) := by decide +kernel
theorem dX8_init_67 : decode cX8_init 67 = .ok (.aload_n 0, 1) := by decide +kernel
theorem dX8_init_68 : decode cX8_init 68 = .ok (.sipush 2100, 3) := by decide +kernel
theorem dX8_init_71 : decode cX8_init 71 = .ok (.newarray .int, 2) := by decide +kernel
theorem dX8_init_73 : decode cX8_init 73 = .ok (.putfield 33, 3) := by decide +kernel
theorem dX8_init_76 : decode cX8_init 76 = .ok (.aload_n 0, 1) := by decide +kernel
theorem dX8_init_77 : decode cX8_init 77 = .ok (.sipush 2100, 3) := by decide +kernel
theorem dX8_init_80 : decode cX8_init 80 = .ok (.newarray .int, 2) := by decide +kernel
theorem dX8_init_82 : decode cX8_init 82 = .ok (.putfield 36, 3) := by decide +kernel
theorem dX8_init_85 : decode cX8_init 85 = .ok (.aload_n 0, 1) := by decide +kernel
theorem dX8_init_86 : decode cX8_init 86 = .ok (.sipush 2100, 3) := by decide +kernel
theorem dX8_init_89 : decode cX8_init 89 = .ok (.newarray .int, 2) := by decide +kernel
theorem dX8_init_91 : decode cX8_init 91 = .ok (.putfield 39, 3) := by decide +kernel
theorem dX8_init_94 : decode cX8_init 94 = .ok (.aload_n 0, 1) := by decide +kernel
theorem dX8_init_95 : decode cX8_init 95 = .ok (.sipush 2100, 3) := by decide +kernel
theorem dX8_init_98 : decode cX8_init 98 = .ok (.newarray .int, 2) := by decide +kernel
theorem dX8_init_100 : decode cX8_init 100 = .ok (.putfield 42, 3) := by decide +kernel
theorem dX8_init_103 : decode cX8_init 103 = .ok (.aload_n 0, 1) := by decide +kernel
theorem dX8_init_104 : decode cX8_init 104 = .ok (.sipush 2100, 3) := by decide +kernel
theorem dX8_init_107 : decode cX8_init 107 = .ok (.newarray .int, 2) := by decide +kernel
theorem dX8_init_109 : decode cX8_init 109 = .ok (.putfield 45, 3) := by decide +kernel
theorem dX8_init_112 : decode cX8_init 112 = .ok (.aload_n 0, 1) := by decide +kernel
theorem dX8_init_113 : decode cX8_init 113 = .ok (.sipush 2100, 3) := by decide +kernel
theorem dX8_init_116 : decode cX8_init 116 = .ok (.newarray .int, 2) := by decide +kernel
theorem dX8_init_118 : decode cX8_init 118 = .ok (.putfield 48, 3) := by decide +kernel
theorem dX8_init_121 : decode cX8_init 121 = .ok (.aload_n 0, 1) := by decide +kernel
theorem dX8_init_122 : decode cX8_init 122 = .ok (.bipush 60, 2) := by decide +kernel
theorem dX8_init_124 : decode cX8_init 124 = .ok (.newarray .int, 2) := by decide +kernel
theorem dX8_init_126 : decode cX8_init 126 = .ok (.putfield 51, 3) := by decide +kernel
theorem dX8_init_129 : decode cX8_init 129 = .ok (.aload_n 0, 1) := by decide +kernel
theorem dX8_init_130 : decode cX8_init 130 = .ok (.sipush 2100, 3) := by decide +kernel
theorem dX8_init_133 : decode cX8_init 133 = .ok (.newarray .int, 2) := by decide +kernel
theorem dX8_init_135 : decode cX8_init 135 = .ok (.putfield 56, 3) := by decide +kernel
theorem dX8_init_138 : decode cX8_init 138 = .ok (.aload_n 0, 1) := by decide +kernel
theorem dX8_init_139 : decode cX8_init 139 = .ok (.aload_n 1, 1) := by decide +kernel
theorem dX8_init_140 : decode cX8_init 140 = .ok (.putfield 59, 3) := by decide +kernel
theorem dX8_init_143 : decode cX8_init 143 = .ok (.return_, 1) := by decide +kernel
theorem dX9_init_0 : decode cX9_init 0 = .ok (.aload_n 0, 1) := by decide +kernel
theorem dX9_init_1 : decode cX9_init 1 = .ok (.invokespecial 5, 3) := by decide +kernel
theorem dX9_init_4 : decode cX9_init 4 = .ok (.aload_n 0, 1) := by decide +kernel
theorem dX9_init_5 : decode cX9_init 5 = .ok (.sipush 5600, 3) := by decide +kernel
theorem dX9_init_8 : decode cX9_init 8 = .ok (.newarray .int, 2) := by decide +kernel
theorem dX9_init_10 : decode cX9_init 10 = .ok (.putfield 13, 3) := by decide +kernel
theorem dX9_init_13 : decode cX9_init 13 = .ok (.aload_n 0, 1) := by decide +kernel
theorem dX9_init_14 : decode cX9_init 14 = .ok (.sipush 5600, 3) := by decide +kernel
theorem dX9_init_17 : decode cX9_init 17 = .ok (.newarray .int, 2) := by decide +kernel
theorem dX9_init_19 : decode cX9_init 19 = .ok (.putfield 17, 3) := by decide +kernel
theorem dX9_init_22 : decode cX9_init 22 = .ok (.aload_n 0, 1) := by decide +kernel
theorem dX9_init_23 : decode cX9_init 23 = .ok (.sipush 5600, 3) := by decide +kernel
theorem dX9_init_26 : decode cX9_init 26 = .ok (.newarray .int, 2) := by decide +kernel
theorem dX9_init_28 : decode cX9_init 28 = .ok (.putfield 20, 3) := by decide +kernel
theorem dX9_init_31 : decode cX9_init 31 = .ok (.aload_n 0, 1) := by decide +kernel
theorem dX9_init_32 : decode cX9_init 32 = .ok (.sipush 5600, 3) := by decide +kernel
theorem dX9_init_35 : decode cX9_init 35 = .ok (.newarray .int, 2) := by decide +kernel
theorem dX9_init_37 : decode cX9_init 37 = .ok (.putfield 23, 3) := by decide +kernel
theorem dX9_init_40 : decode cX9_init 40 = .ok (.aload_n 0, 1) := by decide +kernel
theorem dX9_init_41 : decode cX9_init 41 = .ok (.sipush 5600, 3) := by decide +kernel
theorem dX9_init_44 : decode cX9_init 44 = .ok (.newarray .int, 2) := by decide +kernel
theorem dX9_init_46 : decode cX9_init 46 = .ok (.putfield 26, 3) := by decide +kernel
theorem dX9_init_49 : decode cX9_init 49 = .ok (.aload_n 0, 1) := by decide +kernel
theorem dX9_init_50 : decode cX9_init 50 = .ok (.sipush 4004, 3) := by decide +kernel
theorem dX9_init_53 : decode cX9_init 53 = .ok (.newarray .int, 2) := by decide +kernel
theorem dX9_init_55 : decode cX9_init 55 = .ok (.putfield 29, 3) := by decide +kernel
theorem dX9_init_58 : decode cX9_init 58 = .ok (.aload_n 0, 1) := by decide +kernel
theorem dX9_init_59 : decode cX9_init 59 = .ok (.sipush 4004, 3) := by decide +kernel
theorem dX9_init_62 : decode cX9_init 62 = .ok (.newarray .int, 2) := by decide +kernel
theorem dX9_init_64 : decode cX9_init 64 = .ok (.putfield 32, 3) := by decide +kernel
theorem dX9_init_67 : decode cX9_init 67 = .ok (.aload_n 0, 1) := by decide +kernel
theorem dX9_init_68 : decode cX9_init 68 = .ok (.sipush 4004, 3) := by decide +kernel
theorem dX9_init_71 : decode cX9_init 71 = .ok (.newarray .int, 2) := by decide +kernel
theorem dX9_init_73 : decode cX9_init 73 = .ok (.putfield 35, 3) := by decide +kernel
theorem dX9_init_76 : decode cX9_init 76 = .ok (.aload_n 0, 1) := by decide +kernel
theorem dX9_init_77 : decode cX9_init 77 = .ok (.sipush 4004, 3) := by decide +kernel
theorem dX9_init_80 : decode cX9_init 80 = .ok (.newarray .int, 2) := by decide +kernel
theorem dX9_init_82 : decode cX9_init 82 = .ok (.putfield 38, 3) := by decide +kernel
theorem dX9_init_85 : decode cX9_init 85 = .ok (.aload_n 0, 1) := by decide +kernel
theorem dX9_init_86 : decode cX9_init 86 = .ok (.sipush 4004, 3) := by decide +kernel
theorem dX9_init_89 : decode cX9_init 89 = .ok (.newarray .int, 2) := by decide +kernel
theorem dX9_init_91 : decode cX9_init 91 = .ok (.putfield 41, 3) := by decide +kernel
theorem dX9_init_94 : decode cX9_init 94 = .ok (.aload_n 0, 1) := by decide +kernel
theorem dX9_init_95 : decode cX9_init 95 = .ok (.sipush 4004, 3) := by decide +kernel
theorem dX9_init_98 : decode cX9_init 98 = .ok (.newarray .int, 2) := by decide +kernel
theorem dX9_init_100 : decode cX9_init 100 = .ok (.putfield 44, 3) := by decide +kernel
theorem dX9_init_103 : decode cX9_init 103 = .ok (.aload_n 0, 1) := by decide +kernel
theorem dX9_init_104 : decode cX9_init 104 = .ok (.sipush 4004, 3) := by decide +kernel
theorem dX9_init_107 : decode cX9_init 107 = .ok (.newarray .int, 2) := by decide +kernel
theorem dX9_init_109 : decode cX9_init 109 = .ok (.putfield 47, 3) := by decide +kernel
theorem dX9_init_112 : decode cX9_init 112 = .ok (.aload_n 0, 1) := by decide +kernel
theorem dX9_init_113 : decode cX9_init 113 = .ok (.sipush 4004, 3) := by decide +kernel
theorem dX9_init_116 : decode cX9_init 116 = .ok (.newarray .int, 2) := by decide +kernel
theorem dX9_init_118 : decode cX9_init 118 = .ok (.putfield 50, 3) := by decide +kernel
theorem dX9_init_121 : decode cX9_init 121 = .ok (.aload_n 0, 1) := by decide +kernel
theorem dX9_init_122 : decode cX9_init 122 = .ok (.sipush 4004, 3) := by decide +kernel
theorem dX9_init_125 : decode cX9_init 125 = .ok (.newarray .int, 2) := by decide +kernel
theorem dX9_init_127 : decode cX9_init 127 = .ok (.putfield 53, 3) := by decide +kernel
theorem dX9_init_130 : decode cX9_init 130 = .ok (.aload_n 0, 1) := by decide +kernel
theorem dX9_init_131 : decode cX9_init 131 = .ok (.aload_n 1, 1) := by decide +kernel
theorem dX9_init_132 : decode cX9_init 132 = .ok (.putfield 56, 3) := by decide +kernel
theorem dX9_init_135 : decode cX9_init 135 = .ok (.aload_n 0, 1) := by decide +kernel
theorem dX9_init_136 : decode cX9_init 136 = .ok (.aload_n 2, 1) := by decide +kernel
theorem dX9_init_137 : decode cX9_init 137 = .ok (.putfield 60, 3) := by decide +kernel
theorem dX9_init_140 : decode cX9_init 140 = .ok (.aload_n 0, 1) := by decide +kernel
theorem dX9_init_141 : decode cX9_init 141 = .ok (.aload_n 3, 1) := by decide +kernel
theorem dX9_init_142 : decode cX9_init 142 = .ok (.putfield 64, 3) := by decide +kernel
theorem dX9_init_145 : decode cX9_init 145 = .ok (.return_, 1) := by decide +kernel
theorem dX1_init_0 : decode cX1_init 0 = .ok (.aload_n 0, 1) := by decide +kernel
theorem dX1_init_1 : decode cX1_init 1 = .ok (.invokespecial 5, 3) := by decide +kernel
theorem dX1_init_4 : decode cX1_init 4 = .ok (.aload_n 0, 1) := by decide +kernel
theorem dX1_init_5 : decode cX1_init 5 = .ok (.sipush 8008, 3) := by decide +kernel
theorem dX1_init_8 : decode cX1_init 8 = .ok (.newarray .int, 2) := by decide +kernel
theorem dX1_init_10 : decode cX1_init 10 = .ok (.putfield 13, 3) := by decide +kernel
theorem dX1_init_13 : decode cX1_init 13 = .ok (.aload_n 0, 1) := by decide +kernel
theorem dX1_init_14 : decode cX1_init 14 = .ok (.aload_n 1, 1) := by decide +kernel
theorem dX1_init_15 : decode cX1_init 15 = .ok (.putfield 17, 3) := by decide +kernel
theorem dX1_init_18 : decode cX1_init 18 = .ok (.return_, 1) := by decide +kernel
theorem dX11_init_0 : decode cX11_init 0 = .ok (.aload_n 0, 1) := by decide +kernel
theorem dX11_init_1 : decode cX11_init 1 = .ok (.invokespecial 9, 3) := by decide +kernel
theorem dX11_init_4 : decode cX11_init 4 = .ok (.aload_n 0, 1) := by decide +kernel
theorem dX11_init_5 : decode cX11_init 5 = .ok (.sipush 4096, 3) := by decide +kernel
theorem dX11_init_8 : decode cX11_init 8 = .ok (.newarray .byte, 2) := by decide +kernel
theorem dX11_init_10 : decode cX11_init 10 = .ok (.putfield 15, 3) := by decide +kernel
theorem dX11_init_13 : decode cX11_init 13 = .ok (.aload_n 0, 1) := by decide +kernel
theorem dX11_init_14 : decode cX11_init 14 = .ok (.sipush 4096, 3) := by decide +kernel
theorem dX11_init_17 : decode cX11_init 17 = .ok (.newarray .int, 2) := by decide +kernel
theorem dX11_init_19 : decode cX11_init 19 = .ok (.putfield 19, 3) := by decide +kernel
theorem dX11_init_22 : decode cX11_init 22 = .ok (.aload_n 0, 1) := by decide +kernel
theorem dX11_init_23 : decode cX11_init 23 = .ok (.sipush 4096, 3) := by decide +kernel
theorem dX11_init_26 : decode cX11_init 26 = .ok (.newarray .int, 2) := by decide +kernel
theorem dX11_init_28 : decode cX11_init 28 = .ok (.putfield 23, 3) := by decide +kernel
theorem dX11_init_31 : decode cX11_init 31 = .ok (.aload_n 0, 1) := by decide +kernel
theorem dX11_init_32 : decode cX11_init 32 = .ok (.sipush 4096, 3) := by decide +kernel
theorem dX11_init_35 : decode cX11_init 35 = .ok (.newarray .int, 2) := by decide +kernel
theorem dX11_init_37 : decode cX11_init 37 = .ok (.putfield 26, 3) := by decide +kernel
theorem dX11_init_40 : decode cX11_init 40 = .ok (.aload_n 0, 1) := by decide +kernel
theorem dX11_init_41 : decode cX11_init 41 = .ok (.sipush 1024, 3) := by decide +kernel
theorem dX11_init_44 : decode cX11_init 44 = .ok (.newarray .int, 2) := by decide +kernel
theorem dX11_init_46 : decode cX11_init 46 = .ok (.putfield 29, 3) := by decide +kernel
theorem dX11_init_49 : decode cX11_init 49 = .ok (.aload_n 0, 1) := by decide +kernel
theorem dX11_init_50 : decode cX11_init 50 = .ok (.sipush 1024, 3) := by decide +kernel
theorem dX11_init_53 : decode cX11_init 53 = .ok (.newarray .int, 2) := by decide +kernel
theorem dX11_init_55 : decode cX11_init 55 = .ok (.putfield 32, 3) := by decide +kernel
theorem dX11_init_58 : decode cX11_init 58 = .ok (.aload_n 0, 1) := by decide +kernel
theorem dX11_init_59 : decode cX11_init 59 = .ok (.sipush 23424, 3) := by decide +kernel
theorem dX11_init_62 : decode cX11_init 62 = .ok (.newarray .int, 2) := by decide +kernel
theorem dX11_init_64 : decode cX11_init 64 = .ok (.putfield 35, 3) := by decide +kernel
theorem dX11_init_67 : decode cX11_init 67 = .ok (.aload_n 0, 1) := by decide +kernel
theorem dX11_init_68 : decode cX11_init 68 = .ok (.sipush 366, 3) := by decide +kernel
theorem dX11_init_71 : decode cX11_init 71 = .ok (.newarray .int, 2) := by decide +kernel
theorem dX11_init_73 : decode cX11_init 73 = .ok (.putfield 38, 3) := by decide +kernel
theorem dX11_init_76 : decode cX11_init 76 = .ok (.aload_n 0, 1) := by decide +kernel
theorem dX11_init_77 : decode cX11_init 77 = .ok (.bipush 64, 2) := by decide +kernel
theorem dX11_init_79 : decode cX11_init 79 = .ok (.newarray .int, 2) := by decide +kernel
theorem dX11_init_81 : decode cX11_init 81 = .ok (.putfield 41, 3) := by decide +kernel
theorem dX11_init_84 : decode cX11_init 84 = .ok (.aload_n 0, 1) := by decide +kernel
theorem dX11_init_85 : decode cX11_init 85 = .ok (.sipush 304, 3) := by decide +kernel
theorem dX11_init_88 : decode cX11_init 88 = .ok (.newarray .int, 2) := by decide +kernel
theorem dX11_init_90 : decode cX11_init 90 = .ok (.putfield 44, 3) := by decide +kernel
theorem dX11_init_93 : decode cX11_init 93 = .ok (.aload_n 0, 1) := by decide +kernel
theorem dX11_init_94 : decode cX11_init 94 = .ok (.aload_n 1, 1) := by decide +kernel
theorem dX11_init_95 : decode cX11_init 95 = .ok (.putfield 47, 3) := by decide +kernel
theorem dX11_init_98 : decode cX11_init 98 = .ok (.return_, 1) := by decide +kernel
theorem dX10_init_0 : decode cX10_init 0 = .ok (.aload_n 0, 1) := by decide +kernel
theorem dX10_init_1 : decode cX10_init 1 = .ok (.invokespecial 3, 3) := by decide +kernel
theorem dX10_init_4 : decode cX10_init 4 = .ok (.aload_n 0, 1) := by decide +kernel
theorem dX10_init_5 : decode cX10_init 5 = .ok (.sipush 16384, 3) := by decide +kernel
theorem dX10_init_8 : decode cX10_init 8 = .ok (.newarray .int, 2) := by decide +kernel
theorem dX10_init_10 : decode cX10_init 10 = .ok (.putfield 11, 3) := by decide +kernel
theorem dX10_init_13 : decode cX10_init 13 = .ok (.aload_n 0, 1) := by decide +kernel
theorem dX10_init_14 : decode cX10_init 14 = .ok (.sipush 5600, 3) := by decide +kernel
theorem dX10_init_17 : decode cX10_init 17 = .ok (.newarray .int, 2) := by decide +kernel
theorem dX10_init_19 : decode cX10_init 19 = .ok (.putfield 17, 3) := by decide +kernel
theorem dX10_init_22 : decode cX10_init 22 = .ok (.aload_n 0, 1) := by decide +kernel
theorem dX10_init_23 : decode cX10_init 23 = .ok (.sipush 300, 3) := by decide +kernel
theorem dX10_init_26 : decode cX10_init 26 = .ok (.newarray .int, 2) := by decide +kernel
theorem dX10_init_28 : decode cX10_init 28 = .ok (.putfield 22, 3) := by decide +kernel
theorem dX10_init_31 : decode cX10_init 31 = .ok (.aload_n 0, 1) := by decide +kernel
theorem dX10_init_32 : decode cX10_init 32 = .ok (.sipush 300, 3) := by decide +kernel
theorem dX10_init_35 : decode cX10_init 35 = .ok (.newarray .int, 2) := by decide +kernel
theorem dX10_init_37 : decode cX10_init 37 = .ok (.putfield 25, 3) := by decide +kernel
theorem dX10_init_40 : decode cX10_init 40 = .ok (.aload_n 0, 1) := by decide +kernel
theorem dX10_init_41 : decode cX10_init 41 = .ok (.sipush 1500, 3) := by decide +kernel
theorem dX10_init_44 : decode cX10_init 44 = .ok (.newarray .long, 2) := by decide +kernel
theorem dX10_init_46 : decode cX10_init 46 = .ok (.putfield 28, 3) := by decide +kernel
theorem dX10_init_49 : decode cX10_init 49 = .ok (.aload_n 0, 1) := by decide +kernel
theorem dX10_init_50 : decode cX10_init 50 = .ok (.sipush 300, 3) := by decide +kernel
theorem dX10_init_53 : decode cX10_init 53 = .ok (.newarray .int, 2) := by decide +kernel
theorem dX10_init_55 : decode cX10_init 55 = .ok (.putfield 32, 3) := by decide +kernel
theorem dX10_init_58 : decode cX10_init 58 = .ok (.aload_n 0, 1) := by decide +kernel
theorem dX10_init_59 : decode cX10_init 59 = .ok (.sipush 2100, 3) := by decide +kernel
theorem dX10_init_62 : decode cX10_init 62 = .ok (.newarray .int, 2) := by decide +kernel
theorem dX10_init_64 : decode cX10_init 64 = .ok (.putfield 35, 3) := by decide +kernel
theorem dX10_init_67 : decode cX10_init 67 = .ok (.aload_n 0, 1) := by decide +kernel
theorem dX10_init_68 : decode cX10_init 68 = .ok (.sipush 2100, 3) := by decide +kernel
theorem dX10_init_71 : decode cX10_init 71 = .ok (.newarray .int, 2) := by decide +kernel
theorem dX10_init_73 : decode cX10_init 73 = .ok (.putfield 38, 3) := by decide +kernel
theorem dX10_init_76 : decode cX10_init 76 = .ok (.aload_n 0, 1) := by decide +kernel
theorem dX10_init_77 : decode cX10_init 77 = .ok (.sipush 301, 3) := by decide +kernel
theorem dX10_init_80 : decode cX10_init 80 = .ok (.newarray .int, 2) := by decide +kernel
theorem dX10_init_82 : decode cX10_init 82 = .ok (.putfield 41, 3) := by decide +kernel
theorem dX10_init_85 : decode cX10_init 85 = .ok (.aload_n 0, 1) := by decide +kernel
theorem dX10_init_86 : decode cX10_init 86 = .ok (.sipush 300, 3) := by decide +kernel
theorem dX10_init_89 : decode cX10_init 89 = .ok (.newarray .int, 2) := by decide +kernel
theorem dX10_init_91 : decode cX10_init 91 = .ok (.putfield 44, 3) := by decide +kernel
theorem dX10_init_94 : decode cX10_init 94 = .ok (.aload_n 0, 1) := by decide +kernel
theorem dX10_init_95 : decode cX10_init 95 = .ok (.aload_n 1, 1) := by decide +kernel
theorem dX10_init_96 : decode cX10_init 96 = .ok (.putfield 47, 3) := by decide +kernel
theorem dX10_init_99 : decode cX10_init 99 = .ok (.aload_n 0, 1) := by decide +kernel
theorem dX10_init_100 : decode cX10_init 100 = .ok (.aload_n 2, 1) := by decide +kernel
theorem dX10_init_101 : decode cX10_init 101 = .ok (.putfield 51, 3) := by decide +kernel
theorem dX10_init_104 : decode cX10_init 104 = .ok (.aload_n 0, 1) := by decide +kernel
theorem dX10_init_105 : decode cX10_init 105 = .ok (.aload_n 3, 1) := by decide +kernel
theorem dX10_init_106 : decode cX10_init 106 = .ok (.putfield 55, 3) := by decide +kernel
theorem dX10_init_109 : decode cX10_init 109 = .ok (.aload_n 0, 1) := by decide +kernel
theorem dX10_init_110 : decode cX10_init 110 = .ok (.aload 4, 2) := by decide +kernel
theorem dX10_init_112 : decode cX10_init 112 = .ok (.putfield 59, 3) := by decide +kernel
theorem dX10_init_115 : decode cX10_init 115 = .ok (.return_, 1) := by decide +kernel
theorem dX4_init_0 : decode cX4_init 0 = .ok (.aload_n 0, 1) := by decide +kernel
theorem dX4_init_1 : decode cX4_init 1 = .ok (.invokespecial 3, 3) := by decide +kernel
theorem dX4_init_4 : decode cX4_init 4 = .ok (.aload_n 0, 1) := by decide +kernel
theorem dX4_init_5 : decode cX4_init 5 = .ok (.sipush 28005, 3) := by decide +kernel
theorem dX4_init_8 : decode cX4_init 8 = .ok (.newarray .long, 2) := by decide +kernel
theorem dX4_init_10 : decode cX4_init 10 = .ok (.putfield 11, 3) := by decide +kernel
theorem dX4_init_13 : decode cX4_init 13 = .ok (.aload_n 0, 1) := by decide +kernel
theorem dX4_init_14 : decode cX4_init 14 = .ok (.sipush 28005, 3) := by decide +kernel
theorem dX4_init_17 : decode cX4_init 17 = .ok (.newarray .long, 2) := by decide +kernel
theorem dX4_init_19 : decode cX4_init 19 = .ok (.putfield 15, 3) := by decide +kernel
theorem dX4_init_22 : decode cX4_init 22 = .ok (.aload_n 0, 1) := by decide +kernel
theorem dX4_init_23 : decode cX4_init 23 = .ok (.iconst 5, 1) := by decide +kernel
theorem dX4_init_24 : decode cX4_init 24 = .ok (.newarray .long, 2) := by decide +kernel
theorem dX4_init_26 : decode cX4_init 26 = .ok (.putfield 18, 3) := by decide +kernel
theorem dX4_init_29 : decode cX4_init 29 = .ok (.aload_n 0, 1) := by decide +kernel
theorem dX4_init_30 : decode cX4_init 30 = .ok (.sipush 5600, 3) := by decide +kernel
theorem dX4_init_33 : decode cX4_init 33 = .ok (.newarray .int, 2) := by decide +kernel
theorem dX4_init_35 : decode cX4_init 35 = .ok (.putfield 21, 3) := by decide +kernel
theorem dX4_init_38 : decode cX4_init 38 = .ok (.aload_n 0, 1) := by decide +kernel
theorem dX4_init_39 : decode cX4_init 39 = .ok (.sipush 5600, 3) := by decide +kernel
theorem dX4_init_42 : decode cX4_init 42 = .ok (.newarray .int, 2) := by decide +kernel
theorem dX4_init_44 : decode cX4_init 44 = .ok (.putfield 25, 3) := by decide +kernel
theorem dX4_init_47 : decode cX4_init 47 = .ok (.aload_n 0, 1) := by decide +kernel
theorem dX4_init_48 : decode cX4_init 48 = .ok (.sipush 4096, 3) := by decide +kernel
theorem dX4_init_51 : decode cX4_init 51 = .ok (.newarray .int, 2) := by decide +kernel
theorem dX4_init_53 : decode cX4_init 53 = .ok (.putfield 28, 3) := by decide +kernel
theorem dX4_init_56 : decode cX4_init 56 = .ok (.aload_n 0, 1) := by decide +kernel
theorem dX4_init_57 : decode cX4_init 57 = .ok (.sipush 5600, 3) := by decide +kernel
theorem dX4_init_60 : decode cX4_init 60 = .ok (.newarray .int, 2) := by decide +kernel
theorem dX4_init_62 : decode cX4_init 62 = .ok (.putfield 31, 3) := by decide +kernel
theorem dX4_init_65 : decode cX4_init 65 = .ok (.aload_n 0, 1) := by decide +kernel
theorem dX4_init_66 : decode cX4_init 66 = .ok (.sipush 5600, 3) := by decide +kernel
theorem dX4_init_69 : decode cX4_init 69 = .ok (.newarray .int, 2) := by decide +kernel
theorem dX4_init_71 : decode cX4_init 71 = .ok (.putfield 34, 3) := by decide +kernel
theorem dX4_init_74 : decode cX4_init 74 = .ok (.aload_n 0, 1) := by decide +kernel
theorem dX4_init_75 : decode cX4_init 75 = .ok (.sipush 5600, 3) := by decide +kernel
theorem dX4_init_78 : decode cX4_init 78 = .ok (.newarray .int, 2) := by decide +kernel
theorem dX4_init_80 : decode cX4_init 80 = .ok (.putfield 37, 3) := by decide +kernel
theorem dX4_init_83 : decode cX4_init 83 = .ok (.aload_n 0, 1) := by decide +kernel
theorem dX4_init_84 : decode cX4_init 84 = .ok (.sipush 5600, 3) := by decide +kernel
theorem dX4_init_87 : decode cX4_init 87 = .ok (.newarray .int, 2) := by decide +kernel
theorem dX4_init_89 : decode cX4_init 89 = .ok (.putfield 40, 3) := by decide +kernel
theorem dX4_init_92 : decode cX4_init 92 = .ok (.aload_n 0, 1) := by decide +kernel
theorem dX4_init_93 : decode cX4_init 93 = .ok (.aload_n 1, 1) := by decide +kernel
theorem dX4_init_94 : decode cX4_init 94 = .ok (.putfield 43, 3) := by decide +kernel
theorem dX4_init_97 : decode cX4_init 97 = .ok (.aload_n 0, 1) := by decide +kernel
theorem dX4_init_98 : decode cX4_init 98 = .ok (.aload_n 2, 1) := by decide +kernel
theorem dX4_init_99 : decode cX4_init 99 = .ok (.putfield 47, 3) := by decide +kernel
theorem dX4_init_102 : decode cX4_init 102 = .ok (.return_, 1) := by decide +kernel
theorem dX7_init_0 : decode cX7_init 0 = .ok (.aload_n 0, 1) := by decide +kernel
theorem dX7_init_1 : decode cX7_init 1 = .ok (.invokespecial 3, 3) := by decide +kernel
theorem dX7_init_4 : decode cX7_init 4 = .ok (.aload_n 0, 1) := by decide +kernel
theorem dX7_init_5 : decode cX7_init 5 = .ok (.sipush 4000, 3) := by decide +kernel
theorem dX7_init_8 : decode cX7_init 8 = .ok (.newarray .long, 2) := by decide +kernel
theorem dX7_init_10 : decode cX7_init 10 = .ok (.putfield 11, 3) := by decide +kernel
theorem dX7_init_13 : decode cX7_init 13 = .ok (.aload_n 0, 1) := by decide +kernel
theorem dX7_init_14 : decode cX7_init 14 = .ok (.sipush 4000, 3) := by decide +kernel
theorem dX7_init_17 : decode cX7_init 17 = .ok (.newarray .long, 2) := by decide +kernel
theorem dX7_init_19 : decode cX7_init 19 = .ok (.putfield 15, 3) := by decide +kernel
theorem dX7_init_22 : decode cX7_init 22 = .ok (.aload_n 0, 1) := by decide +kernel
theorem dX7_init_23 : decode cX7_init 23 = .ok (.sipush 300, 3) := by decide +kernel
theorem dX7_init_26 : decode cX7_init 26 = .ok (.newarray .long, 2) := by decide +kernel
theorem dX7_init_28 : decode cX7_init 28 = .ok (.putfield 20, 3) := by decide +kernel
theorem dX7_init_31 : decode cX7_init 31 = .ok (.aload_n 0, 1) := by decide +kernel
theorem dX7_init_32 : decode cX7_init 32 = .ok (.bipush 16, 2) := by decide +kernel
theorem dX7_init_34 : decode cX7_init 34 = .ok (.newarray .long, 2) := by decide +kernel
theorem dX7_init_36 : decode cX7_init 36 = .ok (.putfield 23, 3) := by decide +kernel
theorem dX7_init_39 : decode cX7_init 39 = .ok (.aload_n 0, 1) := by decide +kernel
theorem dX7_init_40 : decode cX7_init 40 = .ok (.sipush 1000, 3) := by decide +kernel
theorem dX7_init_43 : decode cX7_init 43 = .ok (.newarray .int, 2) := by decide +kernel
theorem dX7_init_45 : decode cX7_init 45 = .ok (.putfield 26, 3) := by decide +kernel
theorem dX7_init_48 : decode cX7_init 48 = .ok (.aload_n 0, 1) := by decide +kernel
theorem dX7_init_49 : decode cX7_init 49 = .ok (.sipush 1000, 3) := by decide +kernel
theorem dX7_init_52 : decode cX7_init 52 = .ok (.newarray .int, 2) := by decide +kernel
theorem dX7_init_54 : decode cX7_init 54 = .ok (.putfield 30, 3) := by decide +kernel
theorem dX7_init_57 : decode cX7_init 57 = .ok (.aload_n 0, 1) := by decide +kernel
theorem dX7_init_58 : decode cX7_init 58 = .ok (.sipush 8192, 3) := by decide +kernel
theorem dX7_init_61 : decode cX7_init 61 = .ok (.newarray .long, 2) := by decide +kernel
theorem dX7_init_63 : decode cX7_init 63 = .ok (.putfield 33, 3) := by decide +kernel
theorem dX7_init_66 : decode cX7_init 66 = .ok (.aload_n 0, 1) := by decide +kernel
theorem dX7_init_67 : decode cX7_init 67 = .ok (.bipush 60, 2) := by decide +kernel
theorem dX7_init_69 : decode cX7_init 69 = .ok (.newarray .int, 2) := by decide +kernel
theorem dX7_init_71 : decode cX7_init 71 = .ok (.putfield 36, 3) := by decide +kernel
theorem dX7_init_74 : decode cX7_init 74 = .ok (.aload_n 0, 1) := by decide +kernel
theorem dX7_init_75 : decode cX7_init 75 = .ok (.bipush 60, 2) := by decide +kernel
theorem dX7_init_77 : decode cX7_init 77 = .ok (.newarray .long, 2) := by decide +kernel
theorem dX7_init_79 : decode cX7_init 79 = .ok (.putfield 39, 3) := by decide +kernel
theorem dX7_init_82 : decode cX7_init 82 = .ok (.aload_n 0, 1) := by decide +kernel
theorem dX7_init_83 : decode cX7_init 83 = .ok (.sipush 8000, 3) := by decide +kernel
theorem dX7_init_86 : decode cX7_init 86 = .ok (.newarray .int, 2) := by decide +kernel
theorem dX7_init_88 : decode cX7_init 88 = .ok (.putfield 42, 3) := by decide +kernel
theorem dX7_init_91 : decode cX7_init 91 = .ok (.aload_n 0, 1) := by decide +kernel
theorem dX7_init_92 : decode cX7_init 92 = .ok (.aload_n 1, 1) := by decide +kernel
theorem dX7_init_93 : decode cX7_init 93 = .ok (.putfield 45, 3) := by decide +kernel
theorem dX7_init_96 : decode cX7_init 96 = .ok (.aload_n 0, 1) := by decide +kernel
theorem dX7_init_97 : decode cX7_init 97 = .ok (.aload_n 2, 1) := by decide +kernel
theorem dX7_init_98 : decode cX7_init 98 = .ok (.putfield 49, 3) := by decide +kernel
theorem dX7_init_101 : decode cX7_init 101 = .ok (.aload_n 0, 1) := by decide +kernel
theorem dX7_init_102 : decode cX7_init 102 = .ok (.aload_n 3, 1) := by decide +kernel
theorem dX7_init_103 : decode cX7_init 103 = .ok (.putfield 53, 3) := by decide +kernel
theorem dX7_init_106 : decode cX7_init 106 = .ok (.aload_n 0, 1) := by decide +kernel
theorem dX7_init_107 : decode cX7_init 107 = .ok (.aload 4, 2) := by decide +kernel
theorem dX7_init_109 : decode cX7_init 109 = .ok (.putfield 57, 3) := by decide +kernel
theorem dX7_init_112 : decode cX7_init 112 = .ok (.return_, 1) := by decide +kernel
theorem dX5_init_0 : decode cX5_init 0 = .ok (.aload_n 0, 1) := by decide +kernel
theorem dX5_init_1 : decode cX5_init 1 = .ok (.invokespecial 3, 3) := by decide +kernel
theorem dX5_init_4 : decode cX5_init 4 = .ok (.aload_n 0, 1) := by decide +kernel
theorem dX5_init_5 : decode cX5_init 5 = .ok (.sipush 4004, 3) := by decide +kernel
theorem dX5_init_8 : decode cX5_init 8 = .ok (.newarray .int, 2) := by decide +kernel
theorem dX5_init_10 : decode cX5_init 10 = .ok (.putfield 11, 3) := by decide +kernel
theorem dX5_init_13 : decode cX5_init 13 = .ok (.aload_n 0, 1) := by decide +kernel
theorem dX5_init_14 : decode cX5_init 14 = .ok (.sipush 4004, 3) := by decide +kernel
theorem dX5_init_17 : decode cX5_init 17 = .ok (.newarray .int, 2) := by decide +kernel
theorem dX5_init_19 : decode cX5_init 19 = .ok (.putfield 17, 3) := by decide +kernel
theorem dX5_init_22 : decode cX5_init 22 = .ok (.aload_n 0, 1) := by decide +kernel
theorem dX5_init_23 : decode cX5_init 23 = .ok (.sipush 336, 3) := by decide +kernel
theorem dX5_init_26 : decode cX5_init 26 = .ok (.newarray .int, 2) := by decide +kernel
theorem dX5_init_28 : decode cX5_init 28 = .ok (.putfield 20, 3) := by decide +kernel
theorem dX5_init_31 : decode cX5_init 31 = .ok (.aload_n 0, 1) := by decide +kernel
theorem dX5_init_32 : decode cX5_init 32 = .ok (.aload_n 1, 1) := by decide +kernel
theorem dX5_init_33 : decode cX5_init 33 = .ok (.putfield 23, 3) := by decide +kernel
theorem dX5_init_36 : decode cX5_init 36 = .ok (.aload_n 0, 1) := by decide +kernel
theorem dX5_init_37 : decode cX5_init 37 = .ok (.aload_n 2, 1) := by decide +kernel
theorem dX5_init_38 : decode cX5_init 38 = .ok (.putfield 27, 3) := by decide +kernel
theorem dX5_init_41 : decode cX5_init 41 = .ok (.aload_n 0, 1) := by decide +kernel
theorem dX5_init_42 : decode cX5_init 42 = .ok (.aload_n 3, 1) := by decide +kernel
theorem dX5_init_43 : decode cX5_init 43 = .ok (.putfield 31, 3) := by decide +kernel
theorem dX5_init_46 : decode cX5_init 46 = .ok (.aload_n 0, 1) := by decide +kernel
theorem dX5_init_47 : decode cX5_init 47 = .ok (.aload 4, 2) := by decide +kernel
theorem dX5_init_49 : decode cX5_init 49 = .ok (.putfield 35, 3) := by decide +kernel
theorem dX5_init_52 : decode cX5_init 52 = .ok (.aload_n 0, 1) := by decide +kernel
theorem dX5_init_53 : decode cX5_init 53 = .ok (.new 39, 3) := by decide +kernel
theorem dX5_init_56 : decode cX5_init 56 = .ok (.dup, 1) := by decide +kernel
theorem dX5_init_57 : decode cX5_init 57 = .ok (.aload_n 1, 1) := by decide +kernel
theorem dX5_init_58 : decode cX5_init 58 = .ok (.invokespecial 41, 3) := by decide +kernel
theorem dX5_init_61 : decode cX5_init 61 = .ok (.putfield 44, 3) := by decide +kernel
theorem dX5_init_64 : decode cX5_init 64 = .ok (.return_, 1) := by decide +kernel
theorem dX3_init_0 : decode cX3_init 0 = .ok (.aload_n 0, 1) := by decide +kernel
theorem dX3_init_1 : decode cX3_init 1 = .ok (.invokespecial 3, 3) := by decide +kernel
theorem dX3_init_4 : decode cX3_init 4 = .ok (.aload_n 0, 1) := by decide +kernel
theorem dX3_init_5 : decode cX3_init 5 = .ok (.sipush 500, 3) := by decide +kernel
theorem dX3_init_8 : decode cX3_init 8 = .ok (.newarray .int, 2) := by decide +kernel
theorem dX3_init_10 : decode cX3_init 10 = .ok (.putfield 11, 3) := by decide +kernel
theorem dX3_init_13 : decode cX3_init 13 = .ok (.aload_n 0, 1) := by decide +kernel
theorem dX3_init_14 : decode cX3_init 14 = .ok (.aload_n 2, 1) := by decide +kernel
theorem dX3_init_15 : decode cX3_init 15 = .ok (.putfield 15, 3) := by decide +kernel
theorem dX3_init_18 : decode cX3_init 18 = .ok (.aload_n 0, 1) := by decide +kernel
theorem dX3_init_19 : decode cX3_init 19 = .ok (.aload_n 3, 1) := by decide +kernel
theorem dX3_init_20 : decode cX3_init 20 = .ok (.putfield 19, 3) := by decide +kernel
theorem dX3_init_23 : decode cX3_init 23 = .ok (.aload_n 0, 1) := by decide +kernel
theorem dX3_init_24 : decode cX3_init 24 = .ok (.aload 4, 2) := by decide +kernel
theorem dX3_init_26 : decode cX3_init 26 = .ok (.putfield 23, 3) := by decide +kernel
theorem dX3_init_29 : decode cX3_init 29 = .ok (.aload_n 0, 1) := by decide +kernel
theorem dX3_init_30 : decode cX3_init 30 = .ok (.aload 5, 2) := by decide +kernel
theorem dX3_init_32 : decode cX3_init 32 = .ok (.putfield 27, 3) := by decide +kernel
theorem dX3_init_35 : decode cX3_init 35 = .ok (.aload_n 0, 1) := by decide +kernel
theorem dX3_init_36 : decode cX3_init 36 = .ok (.new 31, 3) := by decide +kernel
theorem dX3_init_39 : decode cX3_init 39 = .ok (.dup, 1) := by decide +kernel
theorem dX3_init_40 : decode cX3_init 40 = .ok (.aload_n 2, 1) := by decide +kernel
theorem dX3_init_41 : decode cX3_init 41 = .ok (.aload_n 3, 1) := by decide +kernel
theorem dX3_init_42 : decode cX3_init 42 = .ok (.aload 4, 2) := by decide +kernel
theorem dX3_init_44 : decode cX3_init 44 = .ok (.aload 5, 2) := by decide +kernel
theorem dX3_init_46 : decode cX3_init 46 = .ok (.invokespecial 33, 3) := by decide +kernel
theorem dX3_init_49 : decode cX3_init 49 = .ok (.putfield 36, 3) := by decide +kernel
theorem dX3_init_52 : decode cX3_init 52 = .ok (.aload_n 0, 1) := by decide +kernel
theorem dX3_init_53 : decode cX3_init 53 = .ok (.new 40, 3) := by decide +kernel
theorem dX3_init_56 : decode cX3_init 56 = .ok (.dup, 1) := by decide +kernel
theorem dX3_init_57 : decode cX3_init 57 = .ok (.aload_n 1, 1) := by decide +kernel
theorem dX3_init_58 : decode cX3_init 58 = .ok (.sipush 1000, 3) := by decide +kernel
theorem dX3_init_61 : decode cX3_init 61 = .ok (.invokespecial 42, 3) := by decide +kernel
theorem dX3_init_64 : decode cX3_init 64 = .ok (.putfield 45, 3) := by decide +kernel
theorem dX3_init_67 : decode cX3_init 67 = .ok (.return_, 1) := by decide +kernel
def pw_c_X2_init : List Cond := .code yX2_init cX2_init 1 none :: ([.code objectInit ⟨#[0xb1]⟩ 1 none, .methodLink RX2 5 objectInit, .instanceMethod objectInit, .arrayClass .int, .fieldLink RX2 11 "NeedHouse$Lexemes" "kind" "[I", .fieldLink RX2 15 "NeedHouse$Lexemes" "line" "[I", .fieldLink RX2 18 "NeedHouse$Lexemes" "column" "[I", .fieldLink RX2 21 "NeedHouse$Lexemes" "value" "[I", .arrayClass .long, .fieldLink RX2 24 "NeedHouse$Lexemes" "head" "[J", .fieldLink RX2 28 "NeedHouse$Lexemes" "tail" "[J", .fieldLink RX2 31 "NeedHouse$Lexemes" "table" "[I"] ++ (wsX20 ++ []))
set_option maxHeartbeats 4000000 in
set_option maxRecDepth 100000 in
theorem c_X2_init (l : Launch) (dC : Nat → ClassId) (dI : Nat → Nat → Nat) (sz : Nat) (h0 : Nat) (fs : List Value) (cI : ClassId) (cL : ClassId) (hF : hasF fs 12 [(7, .int 0), (8, .int 0), (9, .int 0), (10, .int 0), (11, .int 0)]) : Met l yX2_init pw_c_X2_init ({ frames := 1, cells := 7, slots := 28408, locals := 12 }) (va_Pc [.ref h0] (fun U => U.heap.size = sz ∧ va_P (dC, dI) vwCl [(h0, .inr (2, fs))] U.heap ∧ va_K (dC, dI) vwCl [(cI, .int), (cL, .long)] U ∧ va_D (fun _ => True) [(h0, .inr (2, fs))])) (va_Qv (fun (u : (List Value) × (Nat) × (Nat) × (Nat) × (Nat) × (Nat) × (Nat) × (Nat)) => hasF u.1 12 [(0, .ref u.2.1), (1, .ref u.2.2.1), (2, .ref u.2.2.2.1), (3, .ref u.2.2.2.2.1), (4, .ref u.2.2.2.2.2.1), (5, .ref u.2.2.2.2.2.2.1), (6, .ref u.2.2.2.2.2.2.2), (7, .int 0), (8, .int 0), (9, .int 0), (10, .int 0), (11, .int 0)]) (fun (u : (List Value) × (Nat) × (Nat) × (Nat) × (Nat) × (Nat) × (Nat) × (Nat)) (t : State) => va_P (dC, dI) vwCl [(h0, .inr (2, u.1)), (u.2.1, .inl (cI, 4004, .inl (fun _ => 0))), (u.2.2.1, .inl (cI, 4004, .inl (fun _ => 0))), (u.2.2.2.1, .inl (cI, 4004, .inl (fun _ => 0))), (u.2.2.2.2.1, .inl (cI, 4004, .inl (fun _ => 0))), (u.2.2.2.2.2.1, .inl (cL, 2100, .inr (.inl (fun _ => 0)))), (u.2.2.2.2.2.2.1, .inl (cL, 2100, .inr (.inl (fun _ => 0)))), (u.2.2.2.2.2.2.2, .inl (cI, 8192, .inl (fun _ => 0)))] t.heap ∧ va_K (dC, dI) vwCl [(cI, .int), (cL, .long)] t ∧ va_D (va_A [(h0, .inr (2, fs))] sz) [(h0, .inr (2, u.1)), (u.2.1, .inl (cI, 4004, .inl (fun _ => 0))), (u.2.2.1, .inl (cI, 4004, .inl (fun _ => 0))), (u.2.2.2.1, .inl (cI, 4004, .inl (fun _ => 0))), (u.2.2.2.2.1, .inl (cI, 4004, .inl (fun _ => 0))), (u.2.2.2.2.2.1, .inl (cL, 2100, .inr (.inl (fun _ => 0)))), (u.2.2.2.2.2.2.1, .inl (cL, 2100, .inr (.inl (fun _ => 0)))), (u.2.2.2.2.2.2.2, .inl (cI, 8192, .inl (fun _ => 0)))]) (va_A [(h0, .inr (2, fs))] sz)) 7 28408 (va_A [(h0, .inr (2, fs))] sz) := by
  refine Met.ofW (cc := cX2_init) (maxL := 1) (ret := none) (by decide) rfl ?_
  intro p e s m args below meth c s₁ B hml hv
  obtain ⟨rfl, hsz, hP, hK, hD0⟩ := hv
  have hx := B.exec
  have hb := B.bytes
  have hr := B.returns
  have hts := atoms_spec (ws := pw_c_X2_init) B.pre
  have hown : s.vm.findClass RX2 = some m.cls := findClass_of_methodNamed B.named
  have hlocks := B.notSynchronized
  have hin : meth.name = "<init>" := (name_of_methodNamed B.named B.method).1
  have hin_X2 : ∀ w ∈ u_ws RX2 TX2 12, w ∈ pw_c_X2_init := fun w h => List.mem_cons_of_mem _ (List.mem_append_right _ (List.mem_append_left _ h))
  subst hsz
  have hD := hD0.self (sz := s.heap.size)
  generalize hAe : va_A [(h0, .inr (2, fs))] s.heap.size = A at hD ⊢
  have hA : ∀ q : Nat, s.heap.size ≤ q → A q := fun q h => by rw [← hAe]; exact Or.inr h
  have hS : va_S A s.heap s.heap [] := va_S.rf
  have hP : va_P (dC, dI) vwCl [(h0, .inr (2, fs))] s.heap := hP
  have hl := lv_entry ([.ref h0]) (n := 1) (Nat.le_of_ble_eq_true rfl)
  rw [lg_entry_eq]
  generalize (lg_sl ([.ref h0]) ++ List.replicate (1 - (lg_sl ([.ref h0])).length) Slot.unset).toArray = ls at hl ⊢
  have hl : lv_has ls 1 [(0, .ref h0)] := hl
  refine lv_aload_n hx hb dX2_init_0 rfl (lv_at hl 0 rfl) ?_
  refine W.objInit hx hb hown (hts (.methodLink RX2 5 objectInit) (List.mem_of_getElem? (i := 2) rfl)) (hts (.instanceMethod objectInit) (List.mem_of_getElem? (i := 3) rfl)) (hts _ (List.mem_of_getElem? (i := 1) rfl)) rfl (by rw [hml]; exact hl.1) rfl dX2_init_1 (Nat.le_of_ble_eq_true rfl) (Nat.le_of_ble_eq_true rfl) ?_
  refine W.eq (g2 := F0 m 4 ls []) rfl ?_
  refine lv_aload_n hx hb dX2_init_4 rfl (lv_at hl 0 rfl) ?_
  refine lv_sipush (v := 4004) hx hb dX2_init_5 (by decide) ?_
  refine va_newa (atype := .int) (a0 := (4004, .inl (fun _ => 0))) hx hb (hts (.arrayClass .int) (List.mem_of_getElem? (i := 4) rfl)) (ty := .int) rfl hK hP hD hS hA (na_int 4004) (by decide) (by decide +kernel) (show 4004 * 4 ≤ 536870912 by decide) (show 0 + 1 ≤ 7 by decide) (show 0 + 4004 ≤ 28408 by decide) dX2_init_8 (fun q_1 cA_2 H hK hP hD hS => ?_)
  have hK : va_K (dC, dI) vwCl [(cI, .int), (cL, .long), (cA_2, .int)] s := hK
  obtain rfl := kU_int hK 0 2 rfl rfl
  have hK := hK.sub (tys' := [(cI, .int), (cL, .long)]) [0, 1] rfl
  have hP : va_P (dC, dI) vwCl [(h0, .inr (2, fs)), (q_1, .inl (cI, 4004, .inl (fun _ => 0)))] H := hP
  have hD : va_D A [(h0, .inr (2, fs)), (q_1, .inl (cI, 4004, .inl (fun _ => 0)))] := hD
  refine W.widen (k := 1) (n := 4004) (by decide) (by decide) ?_
  refine va_putF (D := (dC, dI)) (ci := 2) (v := .ref q_1) (ty := (.array .int)) (C := RX2) (T := TX2) (N := 12) hx hb hts hin_X2 tyX2 tyX2_ok nmX2 hown hK hP hD hS 0 rfl rfl 0 (by decide) (hts (.fieldLink RX2 11 "NeedHouse$Lexemes" "kind" "[I") (List.mem_of_getElem? (i := 5) rfl)) (fun _ h9 => h9) rfl hin rfl (by decide +kernel) rfl rfl (by rw [hF.1]; decide) dX2_init_10 (fun H locs hP hD hS => ?_)
  have hP : va_P (dC, dI) vwCl [(h0, .inr (2, (fs.set 0 (.ref q_1)))), (q_1, .inl (cI, 4004, .inl (fun _ => 0)))] H := hP
  have hD : va_D A [(h0, .inr (2, (fs.set 0 (.ref q_1)))), (q_1, .inl (cI, 4004, .inl (fun _ => 0)))] := hD
  have hF_3 := hF.set 0 (.ref q_1) (l' := [(0, .ref q_1), (7, .int 0), (8, .int 0), (9, .int 0), (10, .int 0), (11, .int 0)]) (by decide) rfl
  generalize fs.set 0 (.ref q_1) = fs_4 at hP hD hF_3
  have hP : va_P (dC, dI) vwCl [(h0, .inr (2, fs_4)), (q_1, .inl (cI, 4004, .inl (fun _ => 0)))] H := hP
  have hD : va_D A [(h0, .inr (2, fs_4)), (q_1, .inl (cI, 4004, .inl (fun _ => 0)))] := hD
  refine lv_aload_n hx hb dX2_init_13 rfl (lv_at hl 0 rfl) ?_
  refine lv_sipush (v := 4004) hx hb dX2_init_14 (by decide) ?_
  refine va_newa (atype := .int) (a0 := (4004, .inl (fun _ => 0))) hx hb (hts (.arrayClass .int) (List.mem_of_getElem? (i := 4) rfl)) (ty := .int) rfl hK hP hD hS hA (na_int 4004) (by decide) (by decide +kernel) (show 4004 * 4 ≤ 536870912 by decide) (show 1 + 1 ≤ 7 by decide) (show 4004 + 4004 ≤ 28408 by decide) dX2_init_17 (fun q_5 cA_6 H hK hP hD hS => ?_)
  have hK : va_K (dC, dI) vwCl [(cI, .int), (cL, .long), (cA_6, .int)] s := hK
  obtain rfl := kU_int hK 0 2 rfl rfl
  have hK := hK.sub (tys' := [(cI, .int), (cL, .long)]) [0, 1] rfl
  have hP : va_P (dC, dI) vwCl [(h0, .inr (2, fs_4)), (q_1, .inl (cI, 4004, .inl (fun _ => 0))), (q_5, .inl (cI, 4004, .inl (fun _ => 0)))] H := hP
  have hD : va_D A [(h0, .inr (2, fs_4)), (q_1, .inl (cI, 4004, .inl (fun _ => 0))), (q_5, .inl (cI, 4004, .inl (fun _ => 0)))] := hD
  refine W.widen (k := 2) (n := 8008) (by decide) (by decide) ?_
  refine va_putF (D := (dC, dI)) (ci := 2) (v := .ref q_5) (ty := (.array .int)) (C := RX2) (T := TX2) (N := 12) hx hb hts hin_X2 tyX2 tyX2_ok nmX2 hown hK hP hD hS 0 rfl rfl 1 (by decide) (hts (.fieldLink RX2 15 "NeedHouse$Lexemes" "line" "[I") (List.mem_of_getElem? (i := 6) rfl)) (fun _ h9 => h9) rfl hin rfl (by decide +kernel) rfl rfl (by rw [hF_3.1]; decide) dX2_init_19 (fun H locs hP hD hS => ?_)
  have hP : va_P (dC, dI) vwCl [(h0, .inr (2, (fs_4.set 1 (.ref q_5)))), (q_1, .inl (cI, 4004, .inl (fun _ => 0))), (q_5, .inl (cI, 4004, .inl (fun _ => 0)))] H := hP
  have hD : va_D A [(h0, .inr (2, (fs_4.set 1 (.ref q_5)))), (q_1, .inl (cI, 4004, .inl (fun _ => 0))), (q_5, .inl (cI, 4004, .inl (fun _ => 0)))] := hD
  have hF_7 := hF_3.set 1 (.ref q_5) (l' := [(1, .ref q_5), (0, .ref q_1), (7, .int 0), (8, .int 0), (9, .int 0), (10, .int 0), (11, .int 0)]) (by decide) rfl
  generalize fs_4.set 1 (.ref q_5) = fs_8 at hP hD hF_7
  have hP : va_P (dC, dI) vwCl [(h0, .inr (2, fs_8)), (q_1, .inl (cI, 4004, .inl (fun _ => 0))), (q_5, .inl (cI, 4004, .inl (fun _ => 0)))] H := hP
  have hD : va_D A [(h0, .inr (2, fs_8)), (q_1, .inl (cI, 4004, .inl (fun _ => 0))), (q_5, .inl (cI, 4004, .inl (fun _ => 0)))] := hD
  refine lv_aload_n hx hb dX2_init_22 rfl (lv_at hl 0 rfl) ?_
  refine lv_sipush (v := 4004) hx hb dX2_init_23 (by decide) ?_
  refine va_newa (atype := .int) (a0 := (4004, .inl (fun _ => 0))) hx hb (hts (.arrayClass .int) (List.mem_of_getElem? (i := 4) rfl)) (ty := .int) rfl hK hP hD hS hA (na_int 4004) (by decide) (by decide +kernel) (show 4004 * 4 ≤ 536870912 by decide) (show 2 + 1 ≤ 7 by decide) (show 8008 + 4004 ≤ 28408 by decide) dX2_init_26 (fun q_9 cA_10 H hK hP hD hS => ?_)
  have hK : va_K (dC, dI) vwCl [(cI, .int), (cL, .long), (cA_10, .int)] s := hK
  obtain rfl := kU_int hK 0 2 rfl rfl
  have hK := hK.sub (tys' := [(cI, .int), (cL, .long)]) [0, 1] rfl
  have hP : va_P (dC, dI) vwCl [(h0, .inr (2, fs_8)), (q_1, .inl (cI, 4004, .inl (fun _ => 0))), (q_5, .inl (cI, 4004, .inl (fun _ => 0))), (q_9, .inl (cI, 4004, .inl (fun _ => 0)))] H := hP
  have hD : va_D A [(h0, .inr (2, fs_8)), (q_1, .inl (cI, 4004, .inl (fun _ => 0))), (q_5, .inl (cI, 4004, .inl (fun _ => 0))), (q_9, .inl (cI, 4004, .inl (fun _ => 0)))] := hD
  refine W.widen (k := 3) (n := 12012) (by decide) (by decide) ?_
  refine va_putF (D := (dC, dI)) (ci := 2) (v := .ref q_9) (ty := (.array .int)) (C := RX2) (T := TX2) (N := 12) hx hb hts hin_X2 tyX2 tyX2_ok nmX2 hown hK hP hD hS 0 rfl rfl 2 (by decide) (hts (.fieldLink RX2 18 "NeedHouse$Lexemes" "column" "[I") (List.mem_of_getElem? (i := 7) rfl)) (fun _ h9 => h9) rfl hin rfl (by decide +kernel) rfl rfl (by rw [hF_7.1]; decide) dX2_init_28 (fun H locs hP hD hS => ?_)
  have hP : va_P (dC, dI) vwCl [(h0, .inr (2, (fs_8.set 2 (.ref q_9)))), (q_1, .inl (cI, 4004, .inl (fun _ => 0))), (q_5, .inl (cI, 4004, .inl (fun _ => 0))), (q_9, .inl (cI, 4004, .inl (fun _ => 0)))] H := hP
  have hD : va_D A [(h0, .inr (2, (fs_8.set 2 (.ref q_9)))), (q_1, .inl (cI, 4004, .inl (fun _ => 0))), (q_5, .inl (cI, 4004, .inl (fun _ => 0))), (q_9, .inl (cI, 4004, .inl (fun _ => 0)))] := hD
  have hF_11 := hF_7.set 2 (.ref q_9) (l' := [(2, .ref q_9), (1, .ref q_5), (0, .ref q_1), (7, .int 0), (8, .int 0), (9, .int 0), (10, .int 0), (11, .int 0)]) (by decide) rfl
  generalize fs_8.set 2 (.ref q_9) = fs_12 at hP hD hF_11
  have hP : va_P (dC, dI) vwCl [(h0, .inr (2, fs_12)), (q_1, .inl (cI, 4004, .inl (fun _ => 0))), (q_5, .inl (cI, 4004, .inl (fun _ => 0))), (q_9, .inl (cI, 4004, .inl (fun _ => 0)))] H := hP
  have hD : va_D A [(h0, .inr (2, fs_12)), (q_1, .inl (cI, 4004, .inl (fun _ => 0))), (q_5, .inl (cI, 4004, .inl (fun _ => 0))), (q_9, .inl (cI, 4004, .inl (fun _ => 0)))] := hD
  refine lv_aload_n hx hb dX2_init_31 rfl (lv_at hl 0 rfl) ?_
  refine lv_sipush (v := 4004) hx hb dX2_init_32 (by decide) ?_
  refine va_newa (atype := .int) (a0 := (4004, .inl (fun _ => 0))) hx hb (hts (.arrayClass .int) (List.mem_of_getElem? (i := 4) rfl)) (ty := .int) rfl hK hP hD hS hA (na_int 4004) (by decide) (by decide +kernel) (show 4004 * 4 ≤ 536870912 by decide) (show 3 + 1 ≤ 7 by decide) (show 12012 + 4004 ≤ 28408 by decide) dX2_init_35 (fun q_13 cA_14 H hK hP hD hS => ?_)
  have hK : va_K (dC, dI) vwCl [(cI, .int), (cL, .long), (cA_14, .int)] s := hK
  obtain rfl := kU_int hK 0 2 rfl rfl
  have hK := hK.sub (tys' := [(cI, .int), (cL, .long)]) [0, 1] rfl
  have hP : va_P (dC, dI) vwCl [(h0, .inr (2, fs_12)), (q_1, .inl (cI, 4004, .inl (fun _ => 0))), (q_5, .inl (cI, 4004, .inl (fun _ => 0))), (q_9, .inl (cI, 4004, .inl (fun _ => 0))), (q_13, .inl (cI, 4004, .inl (fun _ => 0)))] H := hP
  have hD : va_D A [(h0, .inr (2, fs_12)), (q_1, .inl (cI, 4004, .inl (fun _ => 0))), (q_5, .inl (cI, 4004, .inl (fun _ => 0))), (q_9, .inl (cI, 4004, .inl (fun _ => 0))), (q_13, .inl (cI, 4004, .inl (fun _ => 0)))] := hD
  refine W.widen (k := 4) (n := 16016) (by decide) (by decide) ?_
  refine va_putF (D := (dC, dI)) (ci := 2) (v := .ref q_13) (ty := (.array .int)) (C := RX2) (T := TX2) (N := 12) hx hb hts hin_X2 tyX2 tyX2_ok nmX2 hown hK hP hD hS 0 rfl rfl 3 (by decide) (hts (.fieldLink RX2 21 "NeedHouse$Lexemes" "value" "[I") (List.mem_of_getElem? (i := 8) rfl)) (fun _ h9 => h9) rfl hin rfl (by decide +kernel) rfl rfl (by rw [hF_11.1]; decide) dX2_init_37 (fun H locs hP hD hS => ?_)
  have hP : va_P (dC, dI) vwCl [(h0, .inr (2, (fs_12.set 3 (.ref q_13)))), (q_1, .inl (cI, 4004, .inl (fun _ => 0))), (q_5, .inl (cI, 4004, .inl (fun _ => 0))), (q_9, .inl (cI, 4004, .inl (fun _ => 0))), (q_13, .inl (cI, 4004, .inl (fun _ => 0)))] H := hP
  have hD : va_D A [(h0, .inr (2, (fs_12.set 3 (.ref q_13)))), (q_1, .inl (cI, 4004, .inl (fun _ => 0))), (q_5, .inl (cI, 4004, .inl (fun _ => 0))), (q_9, .inl (cI, 4004, .inl (fun _ => 0))), (q_13, .inl (cI, 4004, .inl (fun _ => 0)))] := hD
  have hF_15 := hF_11.set 3 (.ref q_13) (l' := [(3, .ref q_13), (2, .ref q_9), (1, .ref q_5), (0, .ref q_1), (7, .int 0), (8, .int 0), (9, .int 0), (10, .int 0), (11, .int 0)]) (by decide) rfl
  generalize fs_12.set 3 (.ref q_13) = fs_16 at hP hD hF_15
  have hP : va_P (dC, dI) vwCl [(h0, .inr (2, fs_16)), (q_1, .inl (cI, 4004, .inl (fun _ => 0))), (q_5, .inl (cI, 4004, .inl (fun _ => 0))), (q_9, .inl (cI, 4004, .inl (fun _ => 0))), (q_13, .inl (cI, 4004, .inl (fun _ => 0)))] H := hP
  have hD : va_D A [(h0, .inr (2, fs_16)), (q_1, .inl (cI, 4004, .inl (fun _ => 0))), (q_5, .inl (cI, 4004, .inl (fun _ => 0))), (q_9, .inl (cI, 4004, .inl (fun _ => 0))), (q_13, .inl (cI, 4004, .inl (fun _ => 0)))] := hD
  refine lv_aload_n hx hb dX2_init_40 rfl (lv_at hl 0 rfl) ?_
  refine lv_sipush (v := 2100) hx hb dX2_init_41 (by decide) ?_
  refine va_newa (atype := .long) (a0 := (2100, .inr (.inl (fun _ => 0)))) hx hb (hts (.arrayClass .long) (List.mem_of_getElem? (i := 9) rfl)) (ty := .long) rfl hK hP hD hS hA (na_long 2100) (by decide) (by decide +kernel) (show 2100 * 8 ≤ 536870912 by decide) (show 4 + 1 ≤ 7 by decide) (show 16016 + 2100 ≤ 28408 by decide) dX2_init_44 (fun q_17 cA_18 H hK hP hD hS => ?_)
  have hK : va_K (dC, dI) vwCl [(cI, .int), (cL, .long), (cA_18, .long)] s := hK
  obtain rfl := kU_long hK 1 2 rfl rfl
  have hK := hK.sub (tys' := [(cI, .int), (cL, .long)]) [0, 1] rfl
  have hP : va_P (dC, dI) vwCl [(h0, .inr (2, fs_16)), (q_1, .inl (cI, 4004, .inl (fun _ => 0))), (q_5, .inl (cI, 4004, .inl (fun _ => 0))), (q_9, .inl (cI, 4004, .inl (fun _ => 0))), (q_13, .inl (cI, 4004, .inl (fun _ => 0))), (q_17, .inl (cL, 2100, .inr (.inl (fun _ => 0))))] H := hP
  have hD : va_D A [(h0, .inr (2, fs_16)), (q_1, .inl (cI, 4004, .inl (fun _ => 0))), (q_5, .inl (cI, 4004, .inl (fun _ => 0))), (q_9, .inl (cI, 4004, .inl (fun _ => 0))), (q_13, .inl (cI, 4004, .inl (fun _ => 0))), (q_17, .inl (cL, 2100, .inr (.inl (fun _ => 0))))] := hD
  refine W.widen (k := 5) (n := 18116) (by decide) (by decide) ?_
  refine va_putF (D := (dC, dI)) (ci := 2) (v := .ref q_17) (ty := (.array .long)) (C := RX2) (T := TX2) (N := 12) hx hb hts hin_X2 tyX2 tyX2_ok nmX2 hown hK hP hD hS 0 rfl rfl 4 (by decide) (hts (.fieldLink RX2 24 "NeedHouse$Lexemes" "head" "[J") (List.mem_of_getElem? (i := 10) rfl)) (fun _ h9 => h9) rfl hin rfl (by decide +kernel) rfl rfl (by rw [hF_15.1]; decide) dX2_init_46 (fun H locs hP hD hS => ?_)
  have hP : va_P (dC, dI) vwCl [(h0, .inr (2, (fs_16.set 4 (.ref q_17)))), (q_1, .inl (cI, 4004, .inl (fun _ => 0))), (q_5, .inl (cI, 4004, .inl (fun _ => 0))), (q_9, .inl (cI, 4004, .inl (fun _ => 0))), (q_13, .inl (cI, 4004, .inl (fun _ => 0))), (q_17, .inl (cL, 2100, .inr (.inl (fun _ => 0))))] H := hP
  have hD : va_D A [(h0, .inr (2, (fs_16.set 4 (.ref q_17)))), (q_1, .inl (cI, 4004, .inl (fun _ => 0))), (q_5, .inl (cI, 4004, .inl (fun _ => 0))), (q_9, .inl (cI, 4004, .inl (fun _ => 0))), (q_13, .inl (cI, 4004, .inl (fun _ => 0))), (q_17, .inl (cL, 2100, .inr (.inl (fun _ => 0))))] := hD
  have hF_19 := hF_15.set 4 (.ref q_17) (l' := [(4, .ref q_17), (3, .ref q_13), (2, .ref q_9), (1, .ref q_5), (0, .ref q_1), (7, .int 0), (8, .int 0), (9, .int 0), (10, .int 0), (11, .int 0)]) (by decide) rfl
  generalize fs_16.set 4 (.ref q_17) = fs_20 at hP hD hF_19
  have hP : va_P (dC, dI) vwCl [(h0, .inr (2, fs_20)), (q_1, .inl (cI, 4004, .inl (fun _ => 0))), (q_5, .inl (cI, 4004, .inl (fun _ => 0))), (q_9, .inl (cI, 4004, .inl (fun _ => 0))), (q_13, .inl (cI, 4004, .inl (fun _ => 0))), (q_17, .inl (cL, 2100, .inr (.inl (fun _ => 0))))] H := hP
  have hD : va_D A [(h0, .inr (2, fs_20)), (q_1, .inl (cI, 4004, .inl (fun _ => 0))), (q_5, .inl (cI, 4004, .inl (fun _ => 0))), (q_9, .inl (cI, 4004, .inl (fun _ => 0))), (q_13, .inl (cI, 4004, .inl (fun _ => 0))), (q_17, .inl (cL, 2100, .inr (.inl (fun _ => 0))))] := hD
  refine lv_aload_n hx hb dX2_init_49 rfl (lv_at hl 0 rfl) ?_
  refine lv_sipush (v := 2100) hx hb dX2_init_50 (by decide) ?_
  refine va_newa (atype := .long) (a0 := (2100, .inr (.inl (fun _ => 0)))) hx hb (hts (.arrayClass .long) (List.mem_of_getElem? (i := 9) rfl)) (ty := .long) rfl hK hP hD hS hA (na_long 2100) (by decide) (by decide +kernel) (show 2100 * 8 ≤ 536870912 by decide) (show 5 + 1 ≤ 7 by decide) (show 18116 + 2100 ≤ 28408 by decide) dX2_init_53 (fun q_21 cA_22 H hK hP hD hS => ?_)
  have hK : va_K (dC, dI) vwCl [(cI, .int), (cL, .long), (cA_22, .long)] s := hK
  obtain rfl := kU_long hK 1 2 rfl rfl
  have hK := hK.sub (tys' := [(cI, .int), (cL, .long)]) [0, 1] rfl
  have hP : va_P (dC, dI) vwCl [(h0, .inr (2, fs_20)), (q_1, .inl (cI, 4004, .inl (fun _ => 0))), (q_5, .inl (cI, 4004, .inl (fun _ => 0))), (q_9, .inl (cI, 4004, .inl (fun _ => 0))), (q_13, .inl (cI, 4004, .inl (fun _ => 0))), (q_17, .inl (cL, 2100, .inr (.inl (fun _ => 0)))), (q_21, .inl (cL, 2100, .inr (.inl (fun _ => 0))))] H := hP
  have hD : va_D A [(h0, .inr (2, fs_20)), (q_1, .inl (cI, 4004, .inl (fun _ => 0))), (q_5, .inl (cI, 4004, .inl (fun _ => 0))), (q_9, .inl (cI, 4004, .inl (fun _ => 0))), (q_13, .inl (cI, 4004, .inl (fun _ => 0))), (q_17, .inl (cL, 2100, .inr (.inl (fun _ => 0)))), (q_21, .inl (cL, 2100, .inr (.inl (fun _ => 0))))] := hD
  refine W.widen (k := 6) (n := 20216) (by decide) (by decide) ?_
  refine va_putF (D := (dC, dI)) (ci := 2) (v := .ref q_21) (ty := (.array .long)) (C := RX2) (T := TX2) (N := 12) hx hb hts hin_X2 tyX2 tyX2_ok nmX2 hown hK hP hD hS 0 rfl rfl 5 (by decide) (hts (.fieldLink RX2 28 "NeedHouse$Lexemes" "tail" "[J") (List.mem_of_getElem? (i := 11) rfl)) (fun _ h9 => h9) rfl hin rfl (by decide +kernel) rfl rfl (by rw [hF_19.1]; decide) dX2_init_55 (fun H locs hP hD hS => ?_)
  have hP : va_P (dC, dI) vwCl [(h0, .inr (2, (fs_20.set 5 (.ref q_21)))), (q_1, .inl (cI, 4004, .inl (fun _ => 0))), (q_5, .inl (cI, 4004, .inl (fun _ => 0))), (q_9, .inl (cI, 4004, .inl (fun _ => 0))), (q_13, .inl (cI, 4004, .inl (fun _ => 0))), (q_17, .inl (cL, 2100, .inr (.inl (fun _ => 0)))), (q_21, .inl (cL, 2100, .inr (.inl (fun _ => 0))))] H := hP
  have hD : va_D A [(h0, .inr (2, (fs_20.set 5 (.ref q_21)))), (q_1, .inl (cI, 4004, .inl (fun _ => 0))), (q_5, .inl (cI, 4004, .inl (fun _ => 0))), (q_9, .inl (cI, 4004, .inl (fun _ => 0))), (q_13, .inl (cI, 4004, .inl (fun _ => 0))), (q_17, .inl (cL, 2100, .inr (.inl (fun _ => 0)))), (q_21, .inl (cL, 2100, .inr (.inl (fun _ => 0))))] := hD
  have hF_23 := hF_19.set 5 (.ref q_21) (l' := [(5, .ref q_21), (4, .ref q_17), (3, .ref q_13), (2, .ref q_9), (1, .ref q_5), (0, .ref q_1), (7, .int 0), (8, .int 0), (9, .int 0), (10, .int 0), (11, .int 0)]) (by decide) rfl
  generalize fs_20.set 5 (.ref q_21) = fs_24 at hP hD hF_23
  have hP : va_P (dC, dI) vwCl [(h0, .inr (2, fs_24)), (q_1, .inl (cI, 4004, .inl (fun _ => 0))), (q_5, .inl (cI, 4004, .inl (fun _ => 0))), (q_9, .inl (cI, 4004, .inl (fun _ => 0))), (q_13, .inl (cI, 4004, .inl (fun _ => 0))), (q_17, .inl (cL, 2100, .inr (.inl (fun _ => 0)))), (q_21, .inl (cL, 2100, .inr (.inl (fun _ => 0))))] H := hP
  have hD : va_D A [(h0, .inr (2, fs_24)), (q_1, .inl (cI, 4004, .inl (fun _ => 0))), (q_5, .inl (cI, 4004, .inl (fun _ => 0))), (q_9, .inl (cI, 4004, .inl (fun _ => 0))), (q_13, .inl (cI, 4004, .inl (fun _ => 0))), (q_17, .inl (cL, 2100, .inr (.inl (fun _ => 0)))), (q_21, .inl (cL, 2100, .inr (.inl (fun _ => 0))))] := hD
  refine lv_aload_n hx hb dX2_init_58 rfl (lv_at hl 0 rfl) ?_
  refine lv_sipush (v := 8192) hx hb dX2_init_59 (by decide) ?_
  refine va_newa (atype := .int) (a0 := (8192, .inl (fun _ => 0))) hx hb (hts (.arrayClass .int) (List.mem_of_getElem? (i := 4) rfl)) (ty := .int) rfl hK hP hD hS hA (na_int 8192) (by decide) (by decide +kernel) (show 8192 * 4 ≤ 536870912 by decide) (show 6 + 1 ≤ 7 by decide) (show 20216 + 8192 ≤ 28408 by decide) dX2_init_62 (fun q_25 cA_26 H hK hP hD hS => ?_)
  have hK : va_K (dC, dI) vwCl [(cI, .int), (cL, .long), (cA_26, .int)] s := hK
  obtain rfl := kU_int hK 0 2 rfl rfl
  have hK := hK.sub (tys' := [(cI, .int), (cL, .long)]) [0, 1] rfl
  have hP : va_P (dC, dI) vwCl [(h0, .inr (2, fs_24)), (q_1, .inl (cI, 4004, .inl (fun _ => 0))), (q_5, .inl (cI, 4004, .inl (fun _ => 0))), (q_9, .inl (cI, 4004, .inl (fun _ => 0))), (q_13, .inl (cI, 4004, .inl (fun _ => 0))), (q_17, .inl (cL, 2100, .inr (.inl (fun _ => 0)))), (q_21, .inl (cL, 2100, .inr (.inl (fun _ => 0)))), (q_25, .inl (cI, 8192, .inl (fun _ => 0)))] H := hP
  have hD : va_D A [(h0, .inr (2, fs_24)), (q_1, .inl (cI, 4004, .inl (fun _ => 0))), (q_5, .inl (cI, 4004, .inl (fun _ => 0))), (q_9, .inl (cI, 4004, .inl (fun _ => 0))), (q_13, .inl (cI, 4004, .inl (fun _ => 0))), (q_17, .inl (cL, 2100, .inr (.inl (fun _ => 0)))), (q_21, .inl (cL, 2100, .inr (.inl (fun _ => 0)))), (q_25, .inl (cI, 8192, .inl (fun _ => 0)))] := hD
  refine W.widen (k := 7) (n := 28408) (by decide) (by decide) ?_
  refine va_putF (D := (dC, dI)) (ci := 2) (v := .ref q_25) (ty := (.array .int)) (C := RX2) (T := TX2) (N := 12) hx hb hts hin_X2 tyX2 tyX2_ok nmX2 hown hK hP hD hS 0 rfl rfl 6 (by decide) (hts (.fieldLink RX2 31 "NeedHouse$Lexemes" "table" "[I") (List.mem_of_getElem? (i := 12) rfl)) (fun _ h9 => h9) rfl hin rfl (by decide +kernel) rfl rfl (by rw [hF_23.1]; decide) dX2_init_64 (fun H locs hP hD hS => ?_)
  have hP : va_P (dC, dI) vwCl [(h0, .inr (2, (fs_24.set 6 (.ref q_25)))), (q_1, .inl (cI, 4004, .inl (fun _ => 0))), (q_5, .inl (cI, 4004, .inl (fun _ => 0))), (q_9, .inl (cI, 4004, .inl (fun _ => 0))), (q_13, .inl (cI, 4004, .inl (fun _ => 0))), (q_17, .inl (cL, 2100, .inr (.inl (fun _ => 0)))), (q_21, .inl (cL, 2100, .inr (.inl (fun _ => 0)))), (q_25, .inl (cI, 8192, .inl (fun _ => 0)))] H := hP
  have hD : va_D A [(h0, .inr (2, (fs_24.set 6 (.ref q_25)))), (q_1, .inl (cI, 4004, .inl (fun _ => 0))), (q_5, .inl (cI, 4004, .inl (fun _ => 0))), (q_9, .inl (cI, 4004, .inl (fun _ => 0))), (q_13, .inl (cI, 4004, .inl (fun _ => 0))), (q_17, .inl (cL, 2100, .inr (.inl (fun _ => 0)))), (q_21, .inl (cL, 2100, .inr (.inl (fun _ => 0)))), (q_25, .inl (cI, 8192, .inl (fun _ => 0)))] := hD
  have hF_27 := hF_23.set 6 (.ref q_25) (l' := [(6, .ref q_25), (5, .ref q_21), (4, .ref q_17), (3, .ref q_13), (2, .ref q_9), (1, .ref q_5), (0, .ref q_1), (7, .int 0), (8, .int 0), (9, .int 0), (10, .int 0), (11, .int 0)]) (by decide) rfl
  generalize fs_24.set 6 (.ref q_25) = fs_28 at hP hD hF_27
  have hP : va_P (dC, dI) vwCl [(h0, .inr (2, fs_28)), (q_1, .inl (cI, 4004, .inl (fun _ => 0))), (q_5, .inl (cI, 4004, .inl (fun _ => 0))), (q_9, .inl (cI, 4004, .inl (fun _ => 0))), (q_13, .inl (cI, 4004, .inl (fun _ => 0))), (q_17, .inl (cL, 2100, .inr (.inl (fun _ => 0)))), (q_21, .inl (cL, 2100, .inr (.inl (fun _ => 0)))), (q_25, .inl (cI, 8192, .inl (fun _ => 0)))] H := hP
  have hD : va_D A [(h0, .inr (2, fs_28)), (q_1, .inl (cI, 4004, .inl (fun _ => 0))), (q_5, .inl (cI, 4004, .inl (fun _ => 0))), (q_9, .inl (cI, 4004, .inl (fun _ => 0))), (q_13, .inl (cI, 4004, .inl (fun _ => 0))), (q_17, .inl (cL, 2100, .inr (.inl (fun _ => 0)))), (q_21, .inl (cL, 2100, .inr (.inl (fun _ => 0)))), (q_25, .inl (cI, 8192, .inl (fun _ => 0)))] := hD
  have hP9 := hP.sub (ws' := [(h0, .inr (2, fs_28)), (q_1, .inl (cI, 4004, .inl (fun _ => 0))), (q_5, .inl (cI, 4004, .inl (fun _ => 0))), (q_9, .inl (cI, 4004, .inl (fun _ => 0))), (q_13, .inl (cI, 4004, .inl (fun _ => 0))), (q_17, .inl (cL, 2100, .inr (.inl (fun _ => 0)))), (q_21, .inl (cL, 2100, .inr (.inl (fun _ => 0)))), (q_25, .inl (cI, 8192, .inl (fun _ => 0)))]) [0, 1, 2, 3, 4, 5, 6, 7] rfl
  have hD9 := hD.sub (ws' := [(h0, .inr (2, fs_28)), (q_1, .inl (cI, 4004, .inl (fun _ => 0))), (q_5, .inl (cI, 4004, .inl (fun _ => 0))), (q_9, .inl (cI, 4004, .inl (fun _ => 0))), (q_13, .inl (cI, 4004, .inl (fun _ => 0))), (q_17, .inl (cL, 2100, .inr (.inl (fun _ => 0)))), (q_21, .inl (cL, 2100, .inr (.inl (fun _ => 0)))), (q_25, .inl (cI, 8192, .inl (fun _ => 0)))]) [0, 1, 2, 3, 4, 5, 6, 7] (by decide) rfl
  have hK9 := hK.sub (tys' := [(cI, .int), (cL, .long)]) [0, 1] rfl
  exact W.vret hx hb hr (fun t ht hW => ⟨⟨((fs_28, q_1, q_5, q_9, q_13, q_17, q_21, q_25)), rfl, hF_27.sub [6, 5, 4, 3, 2, 1, 0, 7, 8, 9, 10, 11] rfl, by rw [ht]; exact hP9, va_K.moved hW.alike hK9, hD9⟩, hS.F ht⟩) hS.2.2 dX2_init_67
def pw_c_X6_init_1000 : List Cond := .code yX6_init cX6_init 3 none :: ([.code objectInit ⟨#[0xb1]⟩ 1 none, .methodLink RX6 3 objectInit, .instanceMethod objectInit, .fieldLink RX6 9 "NeedHouse$Sheet" "lexemes" "LNeedHouse$Lexemes;", .arrayClass .byte, .fieldLink RX6 15 "NeedHouse$Sheet" "row" "[B", .fieldLink RX6 19 "NeedHouse$Sheet" "size" "I"] ++ (wsX60 ++ []))
set_option maxHeartbeats 4000000 in
set_option maxRecDepth 100000 in
theorem c_X6_init_1000 (l : Launch) (dC : Nat → ClassId) (dI : Nat → Nat → Nat) (sz : Nat) (h0 : Nat) (fs : List Value) (cB : ClassId) (p0 : Nat) (hF : hasF fs 3 [(2, .int 0)]) : Met l yX6_init pw_c_X6_init_1000 ({ frames := 1, cells := 1, slots := 1000, locals := 12 }) (va_Pc [.ref h0, .ref p0, .int 1000] (fun U => U.heap.size = sz ∧ va_P (dC, dI) vwCl [(h0, .inr (6, fs))] U.heap ∧ va_K (dC, dI) vwCl [(cB, .byte)] U ∧ va_D (fun _ => True) [(h0, .inr (6, fs))])) (va_Qv (fun (u : (List Value)) => hasF u 3 [(0, .ref p0), (2, .int 0)]) (fun (u : (List Value)) (t : State) => va_P (dC, dI) vwCl [(h0, .inr (6, u))] t.heap ∧ va_K (dC, dI) vwCl [(cB, .byte)] t ∧ va_D (va_A [(h0, .inr (6, fs))] sz) [(h0, .inr (6, u))]) (va_A [(h0, .inr (6, fs))] sz)) 1 1000 (va_A [(h0, .inr (6, fs))] sz) := by
  refine Met.ofW (cc := cX6_init) (maxL := 3) (ret := none) (by decide) rfl ?_
  intro p e s m args below meth c s₁ B hml hv
  obtain ⟨rfl, hsz, hP, hK, hD0⟩ := hv
  have hx := B.exec
  have hb := B.bytes
  have hr := B.returns
  have hts := atoms_spec (ws := pw_c_X6_init_1000) B.pre
  have hown : s.vm.findClass RX6 = some m.cls := findClass_of_methodNamed B.named
  have hlocks := B.notSynchronized
  have hin : meth.name = "<init>" := (name_of_methodNamed B.named B.method).1
  have hin_X6 : ∀ w ∈ u_ws RX6 TX6 3, w ∈ pw_c_X6_init_1000 := fun w h => List.mem_cons_of_mem _ (List.mem_append_right _ (List.mem_append_left _ h))
  subst hsz
  have hD := hD0.self (sz := s.heap.size)
  generalize hAe : va_A [(h0, .inr (6, fs))] s.heap.size = A at hD ⊢
  have hA : ∀ q : Nat, s.heap.size ≤ q → A q := fun q h => by rw [← hAe]; exact Or.inr h
  have hS : va_S A s.heap s.heap [] := va_S.rf
  have hP : va_P (dC, dI) vwCl [(h0, .inr (6, fs))] s.heap := hP
  have hl := lv_entry ([.ref h0, .ref p0, .int 1000]) (n := 3) (Nat.le_of_ble_eq_true rfl)
  rw [lg_entry_eq]
  generalize (lg_sl ([.ref h0, .ref p0, .int 1000]) ++ List.replicate (3 - (lg_sl ([.ref h0, .ref p0, .int 1000])).length) Slot.unset).toArray = ls at hl ⊢
  have hl : lv_has ls 3 [(0, .ref h0), (1, .ref p0), (2, .int 1000)] := hl
  refine lv_aload_n hx hb dX6_init_0 rfl (lv_at hl 0 rfl) ?_
  refine W.objInit hx hb hown (hts (.methodLink RX6 3 objectInit) (List.mem_of_getElem? (i := 2) rfl)) (hts (.instanceMethod objectInit) (List.mem_of_getElem? (i := 3) rfl)) (hts _ (List.mem_of_getElem? (i := 1) rfl)) rfl (by rw [hml]; exact hl.1) rfl dX6_init_1 (Nat.le_of_ble_eq_true rfl) (Nat.le_of_ble_eq_true rfl) ?_
  refine W.eq (g2 := F0 m 4 ls []) rfl ?_
  refine lv_aload_n hx hb dX6_init_4 rfl (lv_at hl 0 rfl) ?_
  refine lv_aload_n hx hb dX6_init_5 rfl (lv_at hl 1 rfl) ?_
  refine va_putF (D := (dC, dI)) (ci := 6) (v := .ref p0) (ty := (.object "NeedHouse$Lexemes")) (C := RX6) (T := TX6) (N := 3) hx hb hts hin_X6 tyX6 tyX6_ok nmX6 hown hK hP hD hS 0 rfl rfl 0 (by decide) (hts (.fieldLink RX6 9 "NeedHouse$Sheet" "lexemes" "LNeedHouse$Lexemes;") (List.mem_of_getElem? (i := 4) rfl)) (fun _ h9 => h9) rfl hin rfl (by decide +kernel) rfl rfl (by rw [hF.1]; decide) dX6_init_6 (fun H locs hP hD hS => ?_)
  have hP : va_P (dC, dI) vwCl [(h0, .inr (6, (fs.set 0 (.ref p0))))] H := hP
  have hD : va_D A [(h0, .inr (6, (fs.set 0 (.ref p0))))] := hD
  have hF_1 := hF.set 0 (.ref p0) (l' := [(0, .ref p0), (2, .int 0)]) (by decide) rfl
  generalize fs.set 0 (.ref p0) = fs_2 at hP hD hF_1
  have hP : va_P (dC, dI) vwCl [(h0, .inr (6, fs_2))] H := hP
  have hD : va_D A [(h0, .inr (6, fs_2))] := hD
  refine lv_aload_n hx hb dX6_init_9 rfl (lv_at hl 0 rfl) ?_
  refine lv_iload_n hx hb dX6_init_10 rfl (lv_at hl 2 rfl) ?_
  refine va_newa (atype := .byte) (a0 := (1000, .inl (fun _ => 0))) hx hb (hts (.arrayClass .byte) (List.mem_of_getElem? (i := 5) rfl)) (ty := .byte) rfl hK hP hD hS hA (na_byte 1000) (by decide) (by decide +kernel) (show 1000 * 1 ≤ 536870912 by decide) (show 0 + 1 ≤ 1 by decide) (show 0 + 1000 ≤ 1000 by decide) dX6_init_11 (fun q_3 cA_4 H hK hP hD hS => ?_)
  have hK : va_K (dC, dI) vwCl [(cB, .byte), (cA_4, .byte)] s := hK
  obtain rfl := kU_byte hK 0 1 rfl rfl
  have hK := hK.sub (tys' := [(cB, .byte)]) [0] rfl
  have hP : va_P (dC, dI) vwCl [(h0, .inr (6, fs_2)), (q_3, .inl (cB, 1000, .inl (fun _ => 0)))] H := hP
  have hD : va_D A [(h0, .inr (6, fs_2)), (q_3, .inl (cB, 1000, .inl (fun _ => 0)))] := hD
  refine W.widen (k := 1) (n := 1000) (by decide) (by decide) ?_
  refine va_putF (D := (dC, dI)) (ci := 6) (v := .ref q_3) (ty := (.array .byte)) (C := RX6) (T := TX6) (N := 3) hx hb hts hin_X6 tyX6 tyX6_ok nmX6 hown hK hP hD hS 0 rfl rfl 1 (by decide) (hts (.fieldLink RX6 15 "NeedHouse$Sheet" "row" "[B") (List.mem_of_getElem? (i := 6) rfl)) (fun _ h9 => h9) rfl hin rfl (by decide +kernel) rfl rfl (by rw [hF_1.1]; decide) dX6_init_13 (fun H locs hP hD hS => ?_)
  have hP : va_P (dC, dI) vwCl [(h0, .inr (6, (fs_2.set 1 (.ref q_3)))), (q_3, .inl (cB, 1000, .inl (fun _ => 0)))] H := hP
  have hD : va_D A [(h0, .inr (6, (fs_2.set 1 (.ref q_3)))), (q_3, .inl (cB, 1000, .inl (fun _ => 0)))] := hD
  have hF_5 := hF_1.set 1 (.ref q_3) (l' := [(1, .ref q_3), (0, .ref p0), (2, .int 0)]) (by decide) rfl
  generalize fs_2.set 1 (.ref q_3) = fs_6 at hP hD hF_5
  have hP : va_P (dC, dI) vwCl [(h0, .inr (6, fs_6)), (q_3, .inl (cB, 1000, .inl (fun _ => 0)))] H := hP
  have hD : va_D A [(h0, .inr (6, fs_6)), (q_3, .inl (cB, 1000, .inl (fun _ => 0)))] := hD
  have hP := hP.sub (ws' := [(h0, .inr (6, fs_6))]) [0] rfl
  have hD := hD.sub (ws' := [(h0, .inr (6, fs_6))]) [0] (by decide) rfl
  refine lv_aload_n hx hb dX6_init_16 rfl (lv_at hl 0 rfl) ?_
  refine lv_iconst (v := 0) hx hb dX6_init_17 (by decide) ?_
  refine va_put (D := (dC, dI)) (ci := 6) (v := .int 0) (ty := .int) (C := RX6) (T := TX6) (N := 3) hx hb hts hin_X6 tyX6 tyX6_ok nmX6 hown hK hP hD hS 0 rfl rfl 2 (by decide) (hts (.fieldLink RX6 19 "NeedHouse$Sheet" "size" "I") (List.mem_of_getElem? (i := 7) rfl)) (fun _ h9 => h9) rfl (by decide +kernel) rfl rfl (by rw [hF_5.1]; decide) dX6_init_18 (fun H locs hP hD hS => ?_)
  have hP : va_P (dC, dI) vwCl [(h0, .inr (6, (fs_6.set 2 (.int 0))))] H := hP
  have hD : va_D A [(h0, .inr (6, (fs_6.set 2 (.int 0))))] := hD
  have hF_7 := hF_5.set 2 (.int 0) (l' := [(2, .int 0), (1, .ref q_3), (0, .ref p0)]) (by decide) rfl
  generalize fs_6.set 2 (.int 0) = fs_8 at hP hD hF_7
  have hP : va_P (dC, dI) vwCl [(h0, .inr (6, fs_8))] H := hP
  have hD : va_D A [(h0, .inr (6, fs_8))] := hD
  have hP9 := hP.sub (ws' := [(h0, .inr (6, fs_8))]) [0] rfl
  have hD9 := hD.sub (ws' := [(h0, .inr (6, fs_8))]) [0] (by decide) rfl
  have hK9 := hK.sub (tys' := [(cB, .byte)]) [0] rfl
  exact W.vret hx hb hr (fun t ht hW => ⟨⟨(fs_8), rfl, hF_7.sub [2, 0] rfl, by rw [ht]; exact hP9, va_K.moved hW.alike hK9, hD9⟩, hS.F ht⟩) hS.2.2 dX6_init_21
def pw_c_X6_init_1200 : List Cond := .code yX6_init cX6_init 3 none :: ([.code objectInit ⟨#[0xb1]⟩ 1 none, .methodLink RX6 3 objectInit, .instanceMethod objectInit, .fieldLink RX6 9 "NeedHouse$Sheet" "lexemes" "LNeedHouse$Lexemes;", .arrayClass .byte, .fieldLink RX6 15 "NeedHouse$Sheet" "row" "[B", .fieldLink RX6 19 "NeedHouse$Sheet" "size" "I"] ++ (wsX60 ++ []))
set_option maxHeartbeats 4000000 in
set_option maxRecDepth 100000 in
theorem c_X6_init_1200 (l : Launch) (dC : Nat → ClassId) (dI : Nat → Nat → Nat) (sz : Nat) (h0 : Nat) (fs : List Value) (cB : ClassId) (p0 : Nat) (hF : hasF fs 3 [(2, .int 0)]) : Met l yX6_init pw_c_X6_init_1200 ({ frames := 1, cells := 1, slots := 1200, locals := 12 }) (va_Pc [.ref h0, .ref p0, .int 1200] (fun U => U.heap.size = sz ∧ va_P (dC, dI) vwCl [(h0, .inr (6, fs))] U.heap ∧ va_K (dC, dI) vwCl [(cB, .byte)] U ∧ va_D (fun _ => True) [(h0, .inr (6, fs))])) (va_Qv (fun (u : (List Value)) => hasF u 3 [(0, .ref p0), (2, .int 0)]) (fun (u : (List Value)) (t : State) => va_P (dC, dI) vwCl [(h0, .inr (6, u))] t.heap ∧ va_K (dC, dI) vwCl [(cB, .byte)] t ∧ va_D (va_A [(h0, .inr (6, fs))] sz) [(h0, .inr (6, u))]) (va_A [(h0, .inr (6, fs))] sz)) 1 1200 (va_A [(h0, .inr (6, fs))] sz) := by
  refine Met.ofW (cc := cX6_init) (maxL := 3) (ret := none) (by decide) rfl ?_
  intro p e s m args below meth c s₁ B hml hv
  obtain ⟨rfl, hsz, hP, hK, hD0⟩ := hv
  have hx := B.exec
  have hb := B.bytes
  have hr := B.returns
  have hts := atoms_spec (ws := pw_c_X6_init_1200) B.pre
  have hown : s.vm.findClass RX6 = some m.cls := findClass_of_methodNamed B.named
  have hlocks := B.notSynchronized
  have hin : meth.name = "<init>" := (name_of_methodNamed B.named B.method).1
  have hin_X6 : ∀ w ∈ u_ws RX6 TX6 3, w ∈ pw_c_X6_init_1200 := fun w h => List.mem_cons_of_mem _ (List.mem_append_right _ (List.mem_append_left _ h))
  subst hsz
  have hD := hD0.self (sz := s.heap.size)
  generalize hAe : va_A [(h0, .inr (6, fs))] s.heap.size = A at hD ⊢
  have hA : ∀ q : Nat, s.heap.size ≤ q → A q := fun q h => by rw [← hAe]; exact Or.inr h
  have hS : va_S A s.heap s.heap [] := va_S.rf
  have hP : va_P (dC, dI) vwCl [(h0, .inr (6, fs))] s.heap := hP
  have hl := lv_entry ([.ref h0, .ref p0, .int 1200]) (n := 3) (Nat.le_of_ble_eq_true rfl)
  rw [lg_entry_eq]
  generalize (lg_sl ([.ref h0, .ref p0, .int 1200]) ++ List.replicate (3 - (lg_sl ([.ref h0, .ref p0, .int 1200])).length) Slot.unset).toArray = ls at hl ⊢
  have hl : lv_has ls 3 [(0, .ref h0), (1, .ref p0), (2, .int 1200)] := hl
  refine lv_aload_n hx hb dX6_init_0 rfl (lv_at hl 0 rfl) ?_
  refine W.objInit hx hb hown (hts (.methodLink RX6 3 objectInit) (List.mem_of_getElem? (i := 2) rfl)) (hts (.instanceMethod objectInit) (List.mem_of_getElem? (i := 3) rfl)) (hts _ (List.mem_of_getElem? (i := 1) rfl)) rfl (by rw [hml]; exact hl.1) rfl dX6_init_1 (Nat.le_of_ble_eq_true rfl) (Nat.le_of_ble_eq_true rfl) ?_
  refine W.eq (g2 := F0 m 4 ls []) rfl ?_
  refine lv_aload_n hx hb dX6_init_4 rfl (lv_at hl 0 rfl) ?_
  refine lv_aload_n hx hb dX6_init_5 rfl (lv_at hl 1 rfl) ?_
  refine va_putF (D := (dC, dI)) (ci := 6) (v := .ref p0) (ty := (.object "NeedHouse$Lexemes")) (C := RX6) (T := TX6) (N := 3) hx hb hts hin_X6 tyX6 tyX6_ok nmX6 hown hK hP hD hS 0 rfl rfl 0 (by decide) (hts (.fieldLink RX6 9 "NeedHouse$Sheet" "lexemes" "LNeedHouse$Lexemes;") (List.mem_of_getElem? (i := 4) rfl)) (fun _ h9 => h9) rfl hin rfl (by decide +kernel) rfl rfl (by rw [hF.1]; decide) dX6_init_6 (fun H locs hP hD hS => ?_)
  have hP : va_P (dC, dI) vwCl [(h0, .inr (6, (fs.set 0 (.ref p0))))] H := hP
  have hD : va_D A [(h0, .inr (6, (fs.set 0 (.ref p0))))] := hD
  have hF_1 := hF.set 0 (.ref p0) (l' := [(0, .ref p0), (2, .int 0)]) (by decide) rfl
  generalize fs.set 0 (.ref p0) = fs_2 at hP hD hF_1
  have hP : va_P (dC, dI) vwCl [(h0, .inr (6, fs_2))] H := hP
  have hD : va_D A [(h0, .inr (6, fs_2))] := hD
  refine lv_aload_n hx hb dX6_init_9 rfl (lv_at hl 0 rfl) ?_
  refine lv_iload_n hx hb dX6_init_10 rfl (lv_at hl 2 rfl) ?_
  refine va_newa (atype := .byte) (a0 := (1200, .inl (fun _ => 0))) hx hb (hts (.arrayClass .byte) (List.mem_of_getElem? (i := 5) rfl)) (ty := .byte) rfl hK hP hD hS hA (na_byte 1200) (by decide) (by decide +kernel) (show 1200 * 1 ≤ 536870912 by decide) (show 0 + 1 ≤ 1 by decide) (show 0 + 1200 ≤ 1200 by decide) dX6_init_11 (fun q_3 cA_4 H hK hP hD hS => ?_)
  have hK : va_K (dC, dI) vwCl [(cB, .byte), (cA_4, .byte)] s := hK
  obtain rfl := kU_byte hK 0 1 rfl rfl
  have hK := hK.sub (tys' := [(cB, .byte)]) [0] rfl
  have hP : va_P (dC, dI) vwCl [(h0, .inr (6, fs_2)), (q_3, .inl (cB, 1200, .inl (fun _ => 0)))] H := hP
  have hD : va_D A [(h0, .inr (6, fs_2)), (q_3, .inl (cB, 1200, .inl (fun _ => 0)))] := hD
  refine W.widen (k := 1) (n := 1200) (by decide) (by decide) ?_
  refine va_putF (D := (dC, dI)) (ci := 6) (v := .ref q_3) (ty := (.array .byte)) (C := RX6) (T := TX6) (N := 3) hx hb hts hin_X6 tyX6 tyX6_ok nmX6 hown hK hP hD hS 0 rfl rfl 1 (by decide) (hts (.fieldLink RX6 15 "NeedHouse$Sheet" "row" "[B") (List.mem_of_getElem? (i := 6) rfl)) (fun _ h9 => h9) rfl hin rfl (by decide +kernel) rfl rfl (by rw [hF_1.1]; decide) dX6_init_13 (fun H locs hP hD hS => ?_)
  have hP : va_P (dC, dI) vwCl [(h0, .inr (6, (fs_2.set 1 (.ref q_3)))), (q_3, .inl (cB, 1200, .inl (fun _ => 0)))] H := hP
  have hD : va_D A [(h0, .inr (6, (fs_2.set 1 (.ref q_3)))), (q_3, .inl (cB, 1200, .inl (fun _ => 0)))] := hD
  have hF_5 := hF_1.set 1 (.ref q_3) (l' := [(1, .ref q_3), (0, .ref p0), (2, .int 0)]) (by decide) rfl
  generalize fs_2.set 1 (.ref q_3) = fs_6 at hP hD hF_5
  have hP : va_P (dC, dI) vwCl [(h0, .inr (6, fs_6)), (q_3, .inl (cB, 1200, .inl (fun _ => 0)))] H := hP
  have hD : va_D A [(h0, .inr (6, fs_6)), (q_3, .inl (cB, 1200, .inl (fun _ => 0)))] := hD
  have hP := hP.sub (ws' := [(h0, .inr (6, fs_6))]) [0] rfl
  have hD := hD.sub (ws' := [(h0, .inr (6, fs_6))]) [0] (by decide) rfl
  refine lv_aload_n hx hb dX6_init_16 rfl (lv_at hl 0 rfl) ?_
  refine lv_iconst (v := 0) hx hb dX6_init_17 (by decide) ?_
  refine va_put (D := (dC, dI)) (ci := 6) (v := .int 0) (ty := .int) (C := RX6) (T := TX6) (N := 3) hx hb hts hin_X6 tyX6 tyX6_ok nmX6 hown hK hP hD hS 0 rfl rfl 2 (by decide) (hts (.fieldLink RX6 19 "NeedHouse$Sheet" "size" "I") (List.mem_of_getElem? (i := 7) rfl)) (fun _ h9 => h9) rfl (by decide +kernel) rfl rfl (by rw [hF_5.1]; decide) dX6_init_18 (fun H locs hP hD hS => ?_)
  have hP : va_P (dC, dI) vwCl [(h0, .inr (6, (fs_6.set 2 (.int 0))))] H := hP
  have hD : va_D A [(h0, .inr (6, (fs_6.set 2 (.int 0))))] := hD
  have hF_7 := hF_5.set 2 (.int 0) (l' := [(2, .int 0), (1, .ref q_3), (0, .ref p0)]) (by decide) rfl
  generalize fs_6.set 2 (.int 0) = fs_8 at hP hD hF_7
  have hP : va_P (dC, dI) vwCl [(h0, .inr (6, fs_8))] H := hP
  have hD : va_D A [(h0, .inr (6, fs_8))] := hD
  have hP9 := hP.sub (ws' := [(h0, .inr (6, fs_8))]) [0] rfl
  have hD9 := hD.sub (ws' := [(h0, .inr (6, fs_8))]) [0] (by decide) rfl
  have hK9 := hK.sub (tys' := [(cB, .byte)]) [0] rfl
  exact W.vret hx hb hr (fun t ht hW => ⟨⟨(fs_8), rfl, hF_7.sub [2, 0] rfl, by rw [ht]; exact hP9, va_K.moved hW.alike hK9, hD9⟩, hS.F ht⟩) hS.2.2 dX6_init_21
def pw_c_X0_init : List Cond := .code yX0_init cX0_init 2 none :: ([.code objectInit ⟨#[0xb1]⟩ 1 none, .methodLink RX0 3 objectInit, .instanceMethod objectInit, .arrayClass .int, .fieldLink RX0 11 "NeedHouse$Datas" "dataToken" "[I", .fieldLink RX0 15 "NeedHouse$Datas" "firstName" "[I", .fieldLink RX0 18 "NeedHouse$Datas" "nameCount" "[I", .fieldLink RX0 21 "NeedHouse$Datas" "nameToken" "[I", .fieldLink RX0 24 "NeedHouse$Datas" "conToken" "[I", .fieldLink RX0 27 "NeedHouse$Datas" "conData" "[I", .fieldLink RX0 30 "NeedHouse$Datas" "conFields" "[I", .fieldLink RX0 33 "NeedHouse$Datas" "conCode" "[I", .fieldLink RX0 36 "NeedHouse$Datas" "conCodes" "[I", .fieldLink RX0 39 "NeedHouse$Datas" "code" "[I", .fieldLink RX0 42 "NeedHouse$Datas" "codeToken" "[I", .fieldLink RX0 45 "NeedHouse$Datas" "codeParts" "[I", .fieldLink RX0 50 "NeedHouse$Datas" "typeOf" "[I", .fieldLink RX0 53 "NeedHouse$Datas" "conOf" "[I", .fieldLink RX0 56 "NeedHouse$Datas" "mark" "[I", .fieldLink RX0 59 "NeedHouse$Datas" "lexemes" "LNeedHouse$Lexemes;", .fieldLink RX0 63 "NeedHouse$Datas" "cons" "I"] ++ (wsX00 ++ []))
set_option maxHeartbeats 4000000 in
set_option maxRecDepth 100000 in
theorem c_X0_init (l : Launch) (dC : Nat → ClassId) (dI : Nat → Nat → Nat) (sz : Nat) (h0 : Nat) (fs : List Value) (cI : ClassId) (p0 : Nat) (hF : hasF fs 20 [(16, .int 0), (17, .int 0), (18, .int 0), (19, .int 0)]) : Met l yX0_init pw_c_X0_init ({ frames := 1, cells := 15, slots := 33000, locals := 12 }) (va_Pc [.ref h0, .ref p0] (fun U => U.heap.size = sz ∧ va_P (dC, dI) vwCl [(h0, .inr (0, fs))] U.heap ∧ va_K (dC, dI) vwCl [(cI, .int)] U ∧ va_D (fun _ => True) [(h0, .inr (0, fs))])) (va_Qv (fun (u : (List Value) × (Nat) × (Nat) × (Nat)) => hasF u.1 20 [(0, .ref p0), (13, .ref u.2.1), (14, .ref u.2.2.1), (15, .ref u.2.2.2), (16, .int 0), (17, .int 5), (18, .int 0), (19, .int 0)]) (fun (u : (List Value) × (Nat) × (Nat) × (Nat)) (t : State) => va_P (dC, dI) vwCl [(h0, .inr (0, u.1)), (u.2.1, .inl (cI, 2100, .inl (fun _ => 0))), (u.2.2.1, .inl (cI, 2100, .inl (fun _ => 0))), (u.2.2.2, .inl (cI, 2100, .inl (fun _ => 0)))] t.heap ∧ va_K (dC, dI) vwCl [(cI, .int)] t ∧ va_D (va_A [(h0, .inr (0, fs))] sz) [(h0, .inr (0, u.1)), (u.2.1, .inl (cI, 2100, .inl (fun _ => 0))), (u.2.2.1, .inl (cI, 2100, .inl (fun _ => 0))), (u.2.2.2, .inl (cI, 2100, .inl (fun _ => 0)))]) (va_A [(h0, .inr (0, fs))] sz)) 15 33000 (va_A [(h0, .inr (0, fs))] sz) := by
  refine Met.ofW (cc := cX0_init) (maxL := 2) (ret := none) (by decide) rfl ?_
  intro p e s m args below meth c s₁ B hml hv
  obtain ⟨rfl, hsz, hP, hK, hD0⟩ := hv
  have hx := B.exec
  have hb := B.bytes
  have hr := B.returns
  have hts := atoms_spec (ws := pw_c_X0_init) B.pre
  have hown : s.vm.findClass RX0 = some m.cls := findClass_of_methodNamed B.named
  have hlocks := B.notSynchronized
  have hin : meth.name = "<init>" := (name_of_methodNamed B.named B.method).1
  have hin_X0 : ∀ w ∈ u_ws RX0 TX0 20, w ∈ pw_c_X0_init := fun w h => List.mem_cons_of_mem _ (List.mem_append_right _ (List.mem_append_left _ h))
  subst hsz
  have hD := hD0.self (sz := s.heap.size)
  generalize hAe : va_A [(h0, .inr (0, fs))] s.heap.size = A at hD ⊢
  have hA : ∀ q : Nat, s.heap.size ≤ q → A q := fun q h => by rw [← hAe]; exact Or.inr h
  have hS : va_S A s.heap s.heap [] := va_S.rf
  have hP : va_P (dC, dI) vwCl [(h0, .inr (0, fs))] s.heap := hP
  have hl := lv_entry ([.ref h0, .ref p0]) (n := 2) (Nat.le_of_ble_eq_true rfl)
  rw [lg_entry_eq]
  generalize (lg_sl ([.ref h0, .ref p0]) ++ List.replicate (2 - (lg_sl ([.ref h0, .ref p0])).length) Slot.unset).toArray = ls at hl ⊢
  have hl : lv_has ls 2 [(0, .ref h0), (1, .ref p0)] := hl
  refine lv_aload_n hx hb dX0_init_0 rfl (lv_at hl 0 rfl) ?_
  refine W.objInit hx hb hown (hts (.methodLink RX0 3 objectInit) (List.mem_of_getElem? (i := 2) rfl)) (hts (.instanceMethod objectInit) (List.mem_of_getElem? (i := 3) rfl)) (hts _ (List.mem_of_getElem? (i := 1) rfl)) rfl (by rw [hml]; exact hl.1) rfl dX0_init_1 (Nat.le_of_ble_eq_true rfl) (Nat.le_of_ble_eq_true rfl) ?_
  refine W.eq (g2 := F0 m 4 ls []) rfl ?_
  refine lv_aload_n hx hb dX0_init_4 rfl (lv_at hl 0 rfl) ?_
  refine lv_sipush (v := 600) hx hb dX0_init_5 (by decide) ?_
  refine va_newa (atype := .int) (a0 := (600, .inl (fun _ => 0))) hx hb (hts (.arrayClass .int) (List.mem_of_getElem? (i := 4) rfl)) (ty := .int) rfl hK hP hD hS hA (na_int 600) (by decide) (by decide +kernel) (show 600 * 4 ≤ 536870912 by decide) (show 0 + 1 ≤ 15 by decide) (show 0 + 600 ≤ 33000 by decide) dX0_init_8 (fun q_1 cA_2 H hK hP hD hS => ?_)
  have hK : va_K (dC, dI) vwCl [(cI, .int), (cA_2, .int)] s := hK
  obtain rfl := kU_int hK 0 1 rfl rfl
  have hK := hK.sub (tys' := [(cI, .int)]) [0] rfl
  have hP : va_P (dC, dI) vwCl [(h0, .inr (0, fs)), (q_1, .inl (cI, 600, .inl (fun _ => 0)))] H := hP
  have hD : va_D A [(h0, .inr (0, fs)), (q_1, .inl (cI, 600, .inl (fun _ => 0)))] := hD
  refine W.widen (k := 1) (n := 600) (by decide) (by decide) ?_
  refine va_putF (D := (dC, dI)) (ci := 0) (v := .ref q_1) (ty := (.array .int)) (C := RX0) (T := TX0) (N := 20) hx hb hts hin_X0 tyX0 tyX0_ok nmX0 hown hK hP hD hS 0 rfl rfl 1 (by decide) (hts (.fieldLink RX0 11 "NeedHouse$Datas" "dataToken" "[I") (List.mem_of_getElem? (i := 5) rfl)) (fun _ h9 => h9) rfl hin rfl (by decide +kernel) rfl rfl (by rw [hF.1]; decide) dX0_init_10 (fun H locs hP hD hS => ?_)
  have hP : va_P (dC, dI) vwCl [(h0, .inr (0, (fs.set 1 (.ref q_1)))), (q_1, .inl (cI, 600, .inl (fun _ => 0)))] H := hP
  have hD : va_D A [(h0, .inr (0, (fs.set 1 (.ref q_1)))), (q_1, .inl (cI, 600, .inl (fun _ => 0)))] := hD
  have hF_3 := hF.set 1 (.ref q_1) (l' := [(1, .ref q_1), (16, .int 0), (17, .int 0), (18, .int 0), (19, .int 0)]) (by decide) rfl
  generalize fs.set 1 (.ref q_1) = fs_4 at hP hD hF_3
  have hP : va_P (dC, dI) vwCl [(h0, .inr (0, fs_4)), (q_1, .inl (cI, 600, .inl (fun _ => 0)))] H := hP
  have hD : va_D A [(h0, .inr (0, fs_4)), (q_1, .inl (cI, 600, .inl (fun _ => 0)))] := hD
  have hP := hP.sub (ws' := [(h0, .inr (0, fs_4))]) [0] rfl
  have hD := hD.sub (ws' := [(h0, .inr (0, fs_4))]) [0] (by decide) rfl
  refine lv_aload_n hx hb dX0_init_13 rfl (lv_at hl 0 rfl) ?_
  refine lv_sipush (v := 600) hx hb dX0_init_14 (by decide) ?_
  refine va_newa (atype := .int) (a0 := (600, .inl (fun _ => 0))) hx hb (hts (.arrayClass .int) (List.mem_of_getElem? (i := 4) rfl)) (ty := .int) rfl hK hP hD hS hA (na_int 600) (by decide) (by decide +kernel) (show 600 * 4 ≤ 536870912 by decide) (show 1 + 1 ≤ 15 by decide) (show 600 + 600 ≤ 33000 by decide) dX0_init_17 (fun q_5 cA_6 H hK hP hD hS => ?_)
  have hK : va_K (dC, dI) vwCl [(cI, .int), (cA_6, .int)] s := hK
  obtain rfl := kU_int hK 0 1 rfl rfl
  have hK := hK.sub (tys' := [(cI, .int)]) [0] rfl
  have hP : va_P (dC, dI) vwCl [(h0, .inr (0, fs_4)), (q_5, .inl (cI, 600, .inl (fun _ => 0)))] H := hP
  have hD : va_D A [(h0, .inr (0, fs_4)), (q_5, .inl (cI, 600, .inl (fun _ => 0)))] := hD
  refine W.widen (k := 2) (n := 1200) (by decide) (by decide) ?_
  refine va_putF (D := (dC, dI)) (ci := 0) (v := .ref q_5) (ty := (.array .int)) (C := RX0) (T := TX0) (N := 20) hx hb hts hin_X0 tyX0 tyX0_ok nmX0 hown hK hP hD hS 0 rfl rfl 2 (by decide) (hts (.fieldLink RX0 15 "NeedHouse$Datas" "firstName" "[I") (List.mem_of_getElem? (i := 6) rfl)) (fun _ h9 => h9) rfl hin rfl (by decide +kernel) rfl rfl (by rw [hF_3.1]; decide) dX0_init_19 (fun H locs hP hD hS => ?_)
  have hP : va_P (dC, dI) vwCl [(h0, .inr (0, (fs_4.set 2 (.ref q_5)))), (q_5, .inl (cI, 600, .inl (fun _ => 0)))] H := hP
  have hD : va_D A [(h0, .inr (0, (fs_4.set 2 (.ref q_5)))), (q_5, .inl (cI, 600, .inl (fun _ => 0)))] := hD
  have hF_7 := hF_3.set 2 (.ref q_5) (l' := [(2, .ref q_5), (1, .ref q_1), (16, .int 0), (17, .int 0), (18, .int 0), (19, .int 0)]) (by decide) rfl
  generalize fs_4.set 2 (.ref q_5) = fs_8 at hP hD hF_7
  have hP : va_P (dC, dI) vwCl [(h0, .inr (0, fs_8)), (q_5, .inl (cI, 600, .inl (fun _ => 0)))] H := hP
  have hD : va_D A [(h0, .inr (0, fs_8)), (q_5, .inl (cI, 600, .inl (fun _ => 0)))] := hD
  have hP := hP.sub (ws' := [(h0, .inr (0, fs_8))]) [0] rfl
  have hD := hD.sub (ws' := [(h0, .inr (0, fs_8))]) [0] (by decide) rfl
  refine lv_aload_n hx hb dX0_init_22 rfl (lv_at hl 0 rfl) ?_
  refine lv_sipush (v := 600) hx hb dX0_init_23 (by decide) ?_
  refine va_newa (atype := .int) (a0 := (600, .inl (fun _ => 0))) hx hb (hts (.arrayClass .int) (List.mem_of_getElem? (i := 4) rfl)) (ty := .int) rfl hK hP hD hS hA (na_int 600) (by decide) (by decide +kernel) (show 600 * 4 ≤ 536870912 by decide) (show 2 + 1 ≤ 15 by decide) (show 1200 + 600 ≤ 33000 by decide) dX0_init_26 (fun q_9 cA_10 H hK hP hD hS => ?_)
  have hK : va_K (dC, dI) vwCl [(cI, .int), (cA_10, .int)] s := hK
  obtain rfl := kU_int hK 0 1 rfl rfl
  have hK := hK.sub (tys' := [(cI, .int)]) [0] rfl
  have hP : va_P (dC, dI) vwCl [(h0, .inr (0, fs_8)), (q_9, .inl (cI, 600, .inl (fun _ => 0)))] H := hP
  have hD : va_D A [(h0, .inr (0, fs_8)), (q_9, .inl (cI, 600, .inl (fun _ => 0)))] := hD
  refine W.widen (k := 3) (n := 1800) (by decide) (by decide) ?_
  refine va_putF (D := (dC, dI)) (ci := 0) (v := .ref q_9) (ty := (.array .int)) (C := RX0) (T := TX0) (N := 20) hx hb hts hin_X0 tyX0 tyX0_ok nmX0 hown hK hP hD hS 0 rfl rfl 3 (by decide) (hts (.fieldLink RX0 18 "NeedHouse$Datas" "nameCount" "[I") (List.mem_of_getElem? (i := 7) rfl)) (fun _ h9 => h9) rfl hin rfl (by decide +kernel) rfl rfl (by rw [hF_7.1]; decide) dX0_init_28 (fun H locs hP hD hS => ?_)
  have hP : va_P (dC, dI) vwCl [(h0, .inr (0, (fs_8.set 3 (.ref q_9)))), (q_9, .inl (cI, 600, .inl (fun _ => 0)))] H := hP
  have hD : va_D A [(h0, .inr (0, (fs_8.set 3 (.ref q_9)))), (q_9, .inl (cI, 600, .inl (fun _ => 0)))] := hD
  have hF_11 := hF_7.set 3 (.ref q_9) (l' := [(3, .ref q_9), (2, .ref q_5), (1, .ref q_1), (16, .int 0), (17, .int 0), (18, .int 0), (19, .int 0)]) (by decide) rfl
  generalize fs_8.set 3 (.ref q_9) = fs_12 at hP hD hF_11
  have hP : va_P (dC, dI) vwCl [(h0, .inr (0, fs_12)), (q_9, .inl (cI, 600, .inl (fun _ => 0)))] H := hP
  have hD : va_D A [(h0, .inr (0, fs_12)), (q_9, .inl (cI, 600, .inl (fun _ => 0)))] := hD
  have hP := hP.sub (ws' := [(h0, .inr (0, fs_12))]) [0] rfl
  have hD := hD.sub (ws' := [(h0, .inr (0, fs_12))]) [0] (by decide) rfl
  refine lv_aload_n hx hb dX0_init_31 rfl (lv_at hl 0 rfl) ?_
  refine lv_sipush (v := 2100) hx hb dX0_init_32 (by decide) ?_
  refine va_newa (atype := .int) (a0 := (2100, .inl (fun _ => 0))) hx hb (hts (.arrayClass .int) (List.mem_of_getElem? (i := 4) rfl)) (ty := .int) rfl hK hP hD hS hA (na_int 2100) (by decide) (by decide +kernel) (show 2100 * 4 ≤ 536870912 by decide) (show 3 + 1 ≤ 15 by decide) (show 1800 + 2100 ≤ 33000 by decide) dX0_init_35 (fun q_13 cA_14 H hK hP hD hS => ?_)
  have hK : va_K (dC, dI) vwCl [(cI, .int), (cA_14, .int)] s := hK
  obtain rfl := kU_int hK 0 1 rfl rfl
  have hK := hK.sub (tys' := [(cI, .int)]) [0] rfl
  have hP : va_P (dC, dI) vwCl [(h0, .inr (0, fs_12)), (q_13, .inl (cI, 2100, .inl (fun _ => 0)))] H := hP
  have hD : va_D A [(h0, .inr (0, fs_12)), (q_13, .inl (cI, 2100, .inl (fun _ => 0)))] := hD
  refine W.widen (k := 4) (n := 3900) (by decide) (by decide) ?_
  refine va_putF (D := (dC, dI)) (ci := 0) (v := .ref q_13) (ty := (.array .int)) (C := RX0) (T := TX0) (N := 20) hx hb hts hin_X0 tyX0 tyX0_ok nmX0 hown hK hP hD hS 0 rfl rfl 4 (by decide) (hts (.fieldLink RX0 21 "NeedHouse$Datas" "nameToken" "[I") (List.mem_of_getElem? (i := 8) rfl)) (fun _ h9 => h9) rfl hin rfl (by decide +kernel) rfl rfl (by rw [hF_11.1]; decide) dX0_init_37 (fun H locs hP hD hS => ?_)
  have hP : va_P (dC, dI) vwCl [(h0, .inr (0, (fs_12.set 4 (.ref q_13)))), (q_13, .inl (cI, 2100, .inl (fun _ => 0)))] H := hP
  have hD : va_D A [(h0, .inr (0, (fs_12.set 4 (.ref q_13)))), (q_13, .inl (cI, 2100, .inl (fun _ => 0)))] := hD
  have hF_15 := hF_11.set 4 (.ref q_13) (l' := [(4, .ref q_13), (3, .ref q_9), (2, .ref q_5), (1, .ref q_1), (16, .int 0), (17, .int 0), (18, .int 0), (19, .int 0)]) (by decide) rfl
  generalize fs_12.set 4 (.ref q_13) = fs_16 at hP hD hF_15
  have hP : va_P (dC, dI) vwCl [(h0, .inr (0, fs_16)), (q_13, .inl (cI, 2100, .inl (fun _ => 0)))] H := hP
  have hD : va_D A [(h0, .inr (0, fs_16)), (q_13, .inl (cI, 2100, .inl (fun _ => 0)))] := hD
  have hP := hP.sub (ws' := [(h0, .inr (0, fs_16))]) [0] rfl
  have hD := hD.sub (ws' := [(h0, .inr (0, fs_16))]) [0] (by decide) rfl
  refine lv_aload_n hx hb dX0_init_40 rfl (lv_at hl 0 rfl) ?_
  refine lv_sipush (v := 2100) hx hb dX0_init_41 (by decide) ?_
  refine va_newa (atype := .int) (a0 := (2100, .inl (fun _ => 0))) hx hb (hts (.arrayClass .int) (List.mem_of_getElem? (i := 4) rfl)) (ty := .int) rfl hK hP hD hS hA (na_int 2100) (by decide) (by decide +kernel) (show 2100 * 4 ≤ 536870912 by decide) (show 4 + 1 ≤ 15 by decide) (show 3900 + 2100 ≤ 33000 by decide) dX0_init_44 (fun q_17 cA_18 H hK hP hD hS => ?_)
  have hK : va_K (dC, dI) vwCl [(cI, .int), (cA_18, .int)] s := hK
  obtain rfl := kU_int hK 0 1 rfl rfl
  have hK := hK.sub (tys' := [(cI, .int)]) [0] rfl
  have hP : va_P (dC, dI) vwCl [(h0, .inr (0, fs_16)), (q_17, .inl (cI, 2100, .inl (fun _ => 0)))] H := hP
  have hD : va_D A [(h0, .inr (0, fs_16)), (q_17, .inl (cI, 2100, .inl (fun _ => 0)))] := hD
  refine W.widen (k := 5) (n := 6000) (by decide) (by decide) ?_
  refine va_putF (D := (dC, dI)) (ci := 0) (v := .ref q_17) (ty := (.array .int)) (C := RX0) (T := TX0) (N := 20) hx hb hts hin_X0 tyX0 tyX0_ok nmX0 hown hK hP hD hS 0 rfl rfl 5 (by decide) (hts (.fieldLink RX0 24 "NeedHouse$Datas" "conToken" "[I") (List.mem_of_getElem? (i := 9) rfl)) (fun _ h9 => h9) rfl hin rfl (by decide +kernel) rfl rfl (by rw [hF_15.1]; decide) dX0_init_46 (fun H locs hP hD hS => ?_)
  have hP : va_P (dC, dI) vwCl [(h0, .inr (0, (fs_16.set 5 (.ref q_17)))), (q_17, .inl (cI, 2100, .inl (fun _ => 0)))] H := hP
  have hD : va_D A [(h0, .inr (0, (fs_16.set 5 (.ref q_17)))), (q_17, .inl (cI, 2100, .inl (fun _ => 0)))] := hD
  have hF_19 := hF_15.set 5 (.ref q_17) (l' := [(5, .ref q_17), (4, .ref q_13), (3, .ref q_9), (2, .ref q_5), (1, .ref q_1), (16, .int 0), (17, .int 0), (18, .int 0), (19, .int 0)]) (by decide) rfl
  generalize fs_16.set 5 (.ref q_17) = fs_20 at hP hD hF_19
  have hP : va_P (dC, dI) vwCl [(h0, .inr (0, fs_20)), (q_17, .inl (cI, 2100, .inl (fun _ => 0)))] H := hP
  have hD : va_D A [(h0, .inr (0, fs_20)), (q_17, .inl (cI, 2100, .inl (fun _ => 0)))] := hD
  have hP := hP.sub (ws' := [(h0, .inr (0, fs_20))]) [0] rfl
  have hD := hD.sub (ws' := [(h0, .inr (0, fs_20))]) [0] (by decide) rfl
  refine lv_aload_n hx hb dX0_init_49 rfl (lv_at hl 0 rfl) ?_
  refine lv_sipush (v := 2100) hx hb dX0_init_50 (by decide) ?_
  refine va_newa (atype := .int) (a0 := (2100, .inl (fun _ => 0))) hx hb (hts (.arrayClass .int) (List.mem_of_getElem? (i := 4) rfl)) (ty := .int) rfl hK hP hD hS hA (na_int 2100) (by decide) (by decide +kernel) (show 2100 * 4 ≤ 536870912 by decide) (show 5 + 1 ≤ 15 by decide) (show 6000 + 2100 ≤ 33000 by decide) dX0_init_53 (fun q_21 cA_22 H hK hP hD hS => ?_)
  have hK : va_K (dC, dI) vwCl [(cI, .int), (cA_22, .int)] s := hK
  obtain rfl := kU_int hK 0 1 rfl rfl
  have hK := hK.sub (tys' := [(cI, .int)]) [0] rfl
  have hP : va_P (dC, dI) vwCl [(h0, .inr (0, fs_20)), (q_21, .inl (cI, 2100, .inl (fun _ => 0)))] H := hP
  have hD : va_D A [(h0, .inr (0, fs_20)), (q_21, .inl (cI, 2100, .inl (fun _ => 0)))] := hD
  refine W.widen (k := 6) (n := 8100) (by decide) (by decide) ?_
  refine va_putF (D := (dC, dI)) (ci := 0) (v := .ref q_21) (ty := (.array .int)) (C := RX0) (T := TX0) (N := 20) hx hb hts hin_X0 tyX0 tyX0_ok nmX0 hown hK hP hD hS 0 rfl rfl 6 (by decide) (hts (.fieldLink RX0 27 "NeedHouse$Datas" "conData" "[I") (List.mem_of_getElem? (i := 10) rfl)) (fun _ h9 => h9) rfl hin rfl (by decide +kernel) rfl rfl (by rw [hF_19.1]; decide) dX0_init_55 (fun H locs hP hD hS => ?_)
  have hP : va_P (dC, dI) vwCl [(h0, .inr (0, (fs_20.set 6 (.ref q_21)))), (q_21, .inl (cI, 2100, .inl (fun _ => 0)))] H := hP
  have hD : va_D A [(h0, .inr (0, (fs_20.set 6 (.ref q_21)))), (q_21, .inl (cI, 2100, .inl (fun _ => 0)))] := hD
  have hF_23 := hF_19.set 6 (.ref q_21) (l' := [(6, .ref q_21), (5, .ref q_17), (4, .ref q_13), (3, .ref q_9), (2, .ref q_5), (1, .ref q_1), (16, .int 0), (17, .int 0), (18, .int 0), (19, .int 0)]) (by decide) rfl
  generalize fs_20.set 6 (.ref q_21) = fs_24 at hP hD hF_23
  have hP : va_P (dC, dI) vwCl [(h0, .inr (0, fs_24)), (q_21, .inl (cI, 2100, .inl (fun _ => 0)))] H := hP
  have hD : va_D A [(h0, .inr (0, fs_24)), (q_21, .inl (cI, 2100, .inl (fun _ => 0)))] := hD
  have hP := hP.sub (ws' := [(h0, .inr (0, fs_24))]) [0] rfl
  have hD := hD.sub (ws' := [(h0, .inr (0, fs_24))]) [0] (by decide) rfl
  refine lv_aload_n hx hb dX0_init_58 rfl (lv_at hl 0 rfl) ?_
  refine lv_sipush (v := 2100) hx hb dX0_init_59 (by decide) ?_
  refine va_newa (atype := .int) (a0 := (2100, .inl (fun _ => 0))) hx hb (hts (.arrayClass .int) (List.mem_of_getElem? (i := 4) rfl)) (ty := .int) rfl hK hP hD hS hA (na_int 2100) (by decide) (by decide +kernel) (show 2100 * 4 ≤ 536870912 by decide) (show 6 + 1 ≤ 15 by decide) (show 8100 + 2100 ≤ 33000 by decide) dX0_init_62 (fun q_25 cA_26 H hK hP hD hS => ?_)
  have hK : va_K (dC, dI) vwCl [(cI, .int), (cA_26, .int)] s := hK
  obtain rfl := kU_int hK 0 1 rfl rfl
  have hK := hK.sub (tys' := [(cI, .int)]) [0] rfl
  have hP : va_P (dC, dI) vwCl [(h0, .inr (0, fs_24)), (q_25, .inl (cI, 2100, .inl (fun _ => 0)))] H := hP
  have hD : va_D A [(h0, .inr (0, fs_24)), (q_25, .inl (cI, 2100, .inl (fun _ => 0)))] := hD
  refine W.widen (k := 7) (n := 10200) (by decide) (by decide) ?_
  refine va_putF (D := (dC, dI)) (ci := 0) (v := .ref q_25) (ty := (.array .int)) (C := RX0) (T := TX0) (N := 20) hx hb hts hin_X0 tyX0 tyX0_ok nmX0 hown hK hP hD hS 0 rfl rfl 7 (by decide) (hts (.fieldLink RX0 30 "NeedHouse$Datas" "conFields" "[I") (List.mem_of_getElem? (i := 11) rfl)) (fun _ h9 => h9) rfl hin rfl (by decide +kernel) rfl rfl (by rw [hF_23.1]; decide) dX0_init_64 (fun H locs hP hD hS => ?_)
  have hP : va_P (dC, dI) vwCl [(h0, .inr (0, (fs_24.set 7 (.ref q_25)))), (q_25, .inl (cI, 2100, .inl (fun _ => 0)))] H := hP
  have hD : va_D A [(h0, .inr (0, (fs_24.set 7 (.ref q_25)))), (q_25, .inl (cI, 2100, .inl (fun _ => 0)))] := hD
  have hF_27 := hF_23.set 7 (.ref q_25) (l' := [(7, .ref q_25), (6, .ref q_21), (5, .ref q_17), (4, .ref q_13), (3, .ref q_9), (2, .ref q_5), (1, .ref q_1), (16, .int 0), (17, .int 0), (18, .int 0), (19, .int 0)]) (by decide) rfl
  generalize fs_24.set 7 (.ref q_25) = fs_28 at hP hD hF_27
  have hP : va_P (dC, dI) vwCl [(h0, .inr (0, fs_28)), (q_25, .inl (cI, 2100, .inl (fun _ => 0)))] H := hP
  have hD : va_D A [(h0, .inr (0, fs_28)), (q_25, .inl (cI, 2100, .inl (fun _ => 0)))] := hD
  refine lv_aload_n hx hb dX0_init_67 rfl (lv_at hl 0 rfl) ?_
  refine lv_sipush (v := 2100) hx hb dX0_init_68 (by decide) ?_
  refine va_newa (atype := .int) (a0 := (2100, .inl (fun _ => 0))) hx hb (hts (.arrayClass .int) (List.mem_of_getElem? (i := 4) rfl)) (ty := .int) rfl hK hP hD hS hA (na_int 2100) (by decide) (by decide +kernel) (show 2100 * 4 ≤ 536870912 by decide) (show 7 + 1 ≤ 15 by decide) (show 10200 + 2100 ≤ 33000 by decide) dX0_init_71 (fun q_29 cA_30 H hK hP hD hS => ?_)
  have hK : va_K (dC, dI) vwCl [(cI, .int), (cA_30, .int)] s := hK
  obtain rfl := kU_int hK 0 1 rfl rfl
  have hK := hK.sub (tys' := [(cI, .int)]) [0] rfl
  have hP : va_P (dC, dI) vwCl [(h0, .inr (0, fs_28)), (q_25, .inl (cI, 2100, .inl (fun _ => 0))), (q_29, .inl (cI, 2100, .inl (fun _ => 0)))] H := hP
  have hD : va_D A [(h0, .inr (0, fs_28)), (q_25, .inl (cI, 2100, .inl (fun _ => 0))), (q_29, .inl (cI, 2100, .inl (fun _ => 0)))] := hD
  refine W.widen (k := 8) (n := 12300) (by decide) (by decide) ?_
  refine va_putF (D := (dC, dI)) (ci := 0) (v := .ref q_29) (ty := (.array .int)) (C := RX0) (T := TX0) (N := 20) hx hb hts hin_X0 tyX0 tyX0_ok nmX0 hown hK hP hD hS 0 rfl rfl 8 (by decide) (hts (.fieldLink RX0 33 "NeedHouse$Datas" "conCode" "[I") (List.mem_of_getElem? (i := 12) rfl)) (fun _ h9 => h9) rfl hin rfl (by decide +kernel) rfl rfl (by rw [hF_27.1]; decide) dX0_init_73 (fun H locs hP hD hS => ?_)
  have hP : va_P (dC, dI) vwCl [(h0, .inr (0, (fs_28.set 8 (.ref q_29)))), (q_25, .inl (cI, 2100, .inl (fun _ => 0))), (q_29, .inl (cI, 2100, .inl (fun _ => 0)))] H := hP
  have hD : va_D A [(h0, .inr (0, (fs_28.set 8 (.ref q_29)))), (q_25, .inl (cI, 2100, .inl (fun _ => 0))), (q_29, .inl (cI, 2100, .inl (fun _ => 0)))] := hD
  have hF_31 := hF_27.set 8 (.ref q_29) (l' := [(8, .ref q_29), (7, .ref q_25), (6, .ref q_21), (5, .ref q_17), (4, .ref q_13), (3, .ref q_9), (2, .ref q_5), (1, .ref q_1), (16, .int 0), (17, .int 0), (18, .int 0), (19, .int 0)]) (by decide) rfl
  generalize fs_28.set 8 (.ref q_29) = fs_32 at hP hD hF_31
  have hP : va_P (dC, dI) vwCl [(h0, .inr (0, fs_32)), (q_25, .inl (cI, 2100, .inl (fun _ => 0))), (q_29, .inl (cI, 2100, .inl (fun _ => 0)))] H := hP
  have hD : va_D A [(h0, .inr (0, fs_32)), (q_25, .inl (cI, 2100, .inl (fun _ => 0))), (q_29, .inl (cI, 2100, .inl (fun _ => 0)))] := hD
  have hP := hP.sub (ws' := [(h0, .inr (0, fs_32)), (q_25, .inl (cI, 2100, .inl (fun _ => 0)))]) [0, 1] rfl
  have hD := hD.sub (ws' := [(h0, .inr (0, fs_32)), (q_25, .inl (cI, 2100, .inl (fun _ => 0)))]) [0, 1] (by decide) rfl
  refine lv_aload_n hx hb dX0_init_76 rfl (lv_at hl 0 rfl) ?_
  refine lv_sipush (v := 2100) hx hb dX0_init_77 (by decide) ?_
  refine va_newa (atype := .int) (a0 := (2100, .inl (fun _ => 0))) hx hb (hts (.arrayClass .int) (List.mem_of_getElem? (i := 4) rfl)) (ty := .int) rfl hK hP hD hS hA (na_int 2100) (by decide) (by decide +kernel) (show 2100 * 4 ≤ 536870912 by decide) (show 8 + 1 ≤ 15 by decide) (show 12300 + 2100 ≤ 33000 by decide) dX0_init_80 (fun q_33 cA_34 H hK hP hD hS => ?_)
  have hK : va_K (dC, dI) vwCl [(cI, .int), (cA_34, .int)] s := hK
  obtain rfl := kU_int hK 0 1 rfl rfl
  have hK := hK.sub (tys' := [(cI, .int)]) [0] rfl
  have hP : va_P (dC, dI) vwCl [(h0, .inr (0, fs_32)), (q_25, .inl (cI, 2100, .inl (fun _ => 0))), (q_33, .inl (cI, 2100, .inl (fun _ => 0)))] H := hP
  have hD : va_D A [(h0, .inr (0, fs_32)), (q_25, .inl (cI, 2100, .inl (fun _ => 0))), (q_33, .inl (cI, 2100, .inl (fun _ => 0)))] := hD
  refine W.widen (k := 9) (n := 14400) (by decide) (by decide) ?_
  refine va_putF (D := (dC, dI)) (ci := 0) (v := .ref q_33) (ty := (.array .int)) (C := RX0) (T := TX0) (N := 20) hx hb hts hin_X0 tyX0 tyX0_ok nmX0 hown hK hP hD hS 0 rfl rfl 9 (by decide) (hts (.fieldLink RX0 36 "NeedHouse$Datas" "conCodes" "[I") (List.mem_of_getElem? (i := 13) rfl)) (fun _ h9 => h9) rfl hin rfl (by decide +kernel) rfl rfl (by rw [hF_31.1]; decide) dX0_init_82 (fun H locs hP hD hS => ?_)
  have hP : va_P (dC, dI) vwCl [(h0, .inr (0, (fs_32.set 9 (.ref q_33)))), (q_25, .inl (cI, 2100, .inl (fun _ => 0))), (q_33, .inl (cI, 2100, .inl (fun _ => 0)))] H := hP
  have hD : va_D A [(h0, .inr (0, (fs_32.set 9 (.ref q_33)))), (q_25, .inl (cI, 2100, .inl (fun _ => 0))), (q_33, .inl (cI, 2100, .inl (fun _ => 0)))] := hD
  have hF_35 := hF_31.set 9 (.ref q_33) (l' := [(9, .ref q_33), (8, .ref q_29), (7, .ref q_25), (6, .ref q_21), (5, .ref q_17), (4, .ref q_13), (3, .ref q_9), (2, .ref q_5), (1, .ref q_1), (16, .int 0), (17, .int 0), (18, .int 0), (19, .int 0)]) (by decide) rfl
  generalize fs_32.set 9 (.ref q_33) = fs_36 at hP hD hF_35
  have hP : va_P (dC, dI) vwCl [(h0, .inr (0, fs_36)), (q_25, .inl (cI, 2100, .inl (fun _ => 0))), (q_33, .inl (cI, 2100, .inl (fun _ => 0)))] H := hP
  have hD : va_D A [(h0, .inr (0, fs_36)), (q_25, .inl (cI, 2100, .inl (fun _ => 0))), (q_33, .inl (cI, 2100, .inl (fun _ => 0)))] := hD
  have hP := hP.sub (ws' := [(h0, .inr (0, fs_36)), (q_25, .inl (cI, 2100, .inl (fun _ => 0)))]) [0, 1] rfl
  have hD := hD.sub (ws' := [(h0, .inr (0, fs_36)), (q_25, .inl (cI, 2100, .inl (fun _ => 0)))]) [0, 1] (by decide) rfl
  refine lv_aload_n hx hb dX0_init_85 rfl (lv_at hl 0 rfl) ?_
  refine lv_sipush (v := 4100) hx hb dX0_init_86 (by decide) ?_
  refine va_newa (atype := .int) (a0 := (4100, .inl (fun _ => 0))) hx hb (hts (.arrayClass .int) (List.mem_of_getElem? (i := 4) rfl)) (ty := .int) rfl hK hP hD hS hA (na_int 4100) (by decide) (by decide +kernel) (show 4100 * 4 ≤ 536870912 by decide) (show 9 + 1 ≤ 15 by decide) (show 14400 + 4100 ≤ 33000 by decide) dX0_init_89 (fun q_37 cA_38 H hK hP hD hS => ?_)
  have hK : va_K (dC, dI) vwCl [(cI, .int), (cA_38, .int)] s := hK
  obtain rfl := kU_int hK 0 1 rfl rfl
  have hK := hK.sub (tys' := [(cI, .int)]) [0] rfl
  have hP : va_P (dC, dI) vwCl [(h0, .inr (0, fs_36)), (q_25, .inl (cI, 2100, .inl (fun _ => 0))), (q_37, .inl (cI, 4100, .inl (fun _ => 0)))] H := hP
  have hD : va_D A [(h0, .inr (0, fs_36)), (q_25, .inl (cI, 2100, .inl (fun _ => 0))), (q_37, .inl (cI, 4100, .inl (fun _ => 0)))] := hD
  refine W.widen (k := 10) (n := 18500) (by decide) (by decide) ?_
  refine va_putF (D := (dC, dI)) (ci := 0) (v := .ref q_37) (ty := (.array .int)) (C := RX0) (T := TX0) (N := 20) hx hb hts hin_X0 tyX0 tyX0_ok nmX0 hown hK hP hD hS 0 rfl rfl 10 (by decide) (hts (.fieldLink RX0 39 "NeedHouse$Datas" "code" "[I") (List.mem_of_getElem? (i := 14) rfl)) (fun _ h9 => h9) rfl hin rfl (by decide +kernel) rfl rfl (by rw [hF_35.1]; decide) dX0_init_91 (fun H locs hP hD hS => ?_)
  have hP : va_P (dC, dI) vwCl [(h0, .inr (0, (fs_36.set 10 (.ref q_37)))), (q_25, .inl (cI, 2100, .inl (fun _ => 0))), (q_37, .inl (cI, 4100, .inl (fun _ => 0)))] H := hP
  have hD : va_D A [(h0, .inr (0, (fs_36.set 10 (.ref q_37)))), (q_25, .inl (cI, 2100, .inl (fun _ => 0))), (q_37, .inl (cI, 4100, .inl (fun _ => 0)))] := hD
  have hF_39 := hF_35.set 10 (.ref q_37) (l' := [(10, .ref q_37), (9, .ref q_33), (8, .ref q_29), (7, .ref q_25), (6, .ref q_21), (5, .ref q_17), (4, .ref q_13), (3, .ref q_9), (2, .ref q_5), (1, .ref q_1), (16, .int 0), (17, .int 0), (18, .int 0), (19, .int 0)]) (by decide) rfl
  generalize fs_36.set 10 (.ref q_37) = fs_40 at hP hD hF_39
  have hP : va_P (dC, dI) vwCl [(h0, .inr (0, fs_40)), (q_25, .inl (cI, 2100, .inl (fun _ => 0))), (q_37, .inl (cI, 4100, .inl (fun _ => 0)))] H := hP
  have hD : va_D A [(h0, .inr (0, fs_40)), (q_25, .inl (cI, 2100, .inl (fun _ => 0))), (q_37, .inl (cI, 4100, .inl (fun _ => 0)))] := hD
  have hP := hP.sub (ws' := [(h0, .inr (0, fs_40)), (q_25, .inl (cI, 2100, .inl (fun _ => 0)))]) [0, 1] rfl
  have hD := hD.sub (ws' := [(h0, .inr (0, fs_40)), (q_25, .inl (cI, 2100, .inl (fun _ => 0)))]) [0, 1] (by decide) rfl
  refine lv_aload_n hx hb dX0_init_94 rfl (lv_at hl 0 rfl) ?_
  refine lv_sipush (v := 4100) hx hb dX0_init_95 (by decide) ?_
  refine va_newa (atype := .int) (a0 := (4100, .inl (fun _ => 0))) hx hb (hts (.arrayClass .int) (List.mem_of_getElem? (i := 4) rfl)) (ty := .int) rfl hK hP hD hS hA (na_int 4100) (by decide) (by decide +kernel) (show 4100 * 4 ≤ 536870912 by decide) (show 10 + 1 ≤ 15 by decide) (show 18500 + 4100 ≤ 33000 by decide) dX0_init_98 (fun q_41 cA_42 H hK hP hD hS => ?_)
  have hK : va_K (dC, dI) vwCl [(cI, .int), (cA_42, .int)] s := hK
  obtain rfl := kU_int hK 0 1 rfl rfl
  have hK := hK.sub (tys' := [(cI, .int)]) [0] rfl
  have hP : va_P (dC, dI) vwCl [(h0, .inr (0, fs_40)), (q_25, .inl (cI, 2100, .inl (fun _ => 0))), (q_41, .inl (cI, 4100, .inl (fun _ => 0)))] H := hP
  have hD : va_D A [(h0, .inr (0, fs_40)), (q_25, .inl (cI, 2100, .inl (fun _ => 0))), (q_41, .inl (cI, 4100, .inl (fun _ => 0)))] := hD
  refine W.widen (k := 11) (n := 22600) (by decide) (by decide) ?_
  refine va_putF (D := (dC, dI)) (ci := 0) (v := .ref q_41) (ty := (.array .int)) (C := RX0) (T := TX0) (N := 20) hx hb hts hin_X0 tyX0 tyX0_ok nmX0 hown hK hP hD hS 0 rfl rfl 11 (by decide) (hts (.fieldLink RX0 42 "NeedHouse$Datas" "codeToken" "[I") (List.mem_of_getElem? (i := 15) rfl)) (fun _ h9 => h9) rfl hin rfl (by decide +kernel) rfl rfl (by rw [hF_39.1]; decide) dX0_init_100 (fun H locs hP hD hS => ?_)
  have hP : va_P (dC, dI) vwCl [(h0, .inr (0, (fs_40.set 11 (.ref q_41)))), (q_25, .inl (cI, 2100, .inl (fun _ => 0))), (q_41, .inl (cI, 4100, .inl (fun _ => 0)))] H := hP
  have hD : va_D A [(h0, .inr (0, (fs_40.set 11 (.ref q_41)))), (q_25, .inl (cI, 2100, .inl (fun _ => 0))), (q_41, .inl (cI, 4100, .inl (fun _ => 0)))] := hD
  have hF_43 := hF_39.set 11 (.ref q_41) (l' := [(11, .ref q_41), (10, .ref q_37), (9, .ref q_33), (8, .ref q_29), (7, .ref q_25), (6, .ref q_21), (5, .ref q_17), (4, .ref q_13), (3, .ref q_9), (2, .ref q_5), (1, .ref q_1), (16, .int 0), (17, .int 0), (18, .int 0), (19, .int 0)]) (by decide) rfl
  generalize fs_40.set 11 (.ref q_41) = fs_44 at hP hD hF_43
  have hP : va_P (dC, dI) vwCl [(h0, .inr (0, fs_44)), (q_25, .inl (cI, 2100, .inl (fun _ => 0))), (q_41, .inl (cI, 4100, .inl (fun _ => 0)))] H := hP
  have hD : va_D A [(h0, .inr (0, fs_44)), (q_25, .inl (cI, 2100, .inl (fun _ => 0))), (q_41, .inl (cI, 4100, .inl (fun _ => 0)))] := hD
  have hP := hP.sub (ws' := [(h0, .inr (0, fs_44)), (q_25, .inl (cI, 2100, .inl (fun _ => 0)))]) [0, 1] rfl
  have hD := hD.sub (ws' := [(h0, .inr (0, fs_44)), (q_25, .inl (cI, 2100, .inl (fun _ => 0)))]) [0, 1] (by decide) rfl
  refine lv_aload_n hx hb dX0_init_103 rfl (lv_at hl 0 rfl) ?_
  refine lv_sipush (v := 4100) hx hb dX0_init_104 (by decide) ?_
  refine va_newa (atype := .int) (a0 := (4100, .inl (fun _ => 0))) hx hb (hts (.arrayClass .int) (List.mem_of_getElem? (i := 4) rfl)) (ty := .int) rfl hK hP hD hS hA (na_int 4100) (by decide) (by decide +kernel) (show 4100 * 4 ≤ 536870912 by decide) (show 11 + 1 ≤ 15 by decide) (show 22600 + 4100 ≤ 33000 by decide) dX0_init_107 (fun q_45 cA_46 H hK hP hD hS => ?_)
  have hK : va_K (dC, dI) vwCl [(cI, .int), (cA_46, .int)] s := hK
  obtain rfl := kU_int hK 0 1 rfl rfl
  have hK := hK.sub (tys' := [(cI, .int)]) [0] rfl
  have hP : va_P (dC, dI) vwCl [(h0, .inr (0, fs_44)), (q_25, .inl (cI, 2100, .inl (fun _ => 0))), (q_45, .inl (cI, 4100, .inl (fun _ => 0)))] H := hP
  have hD : va_D A [(h0, .inr (0, fs_44)), (q_25, .inl (cI, 2100, .inl (fun _ => 0))), (q_45, .inl (cI, 4100, .inl (fun _ => 0)))] := hD
  refine W.widen (k := 12) (n := 26700) (by decide) (by decide) ?_
  refine va_putF (D := (dC, dI)) (ci := 0) (v := .ref q_45) (ty := (.array .int)) (C := RX0) (T := TX0) (N := 20) hx hb hts hin_X0 tyX0 tyX0_ok nmX0 hown hK hP hD hS 0 rfl rfl 12 (by decide) (hts (.fieldLink RX0 45 "NeedHouse$Datas" "codeParts" "[I") (List.mem_of_getElem? (i := 16) rfl)) (fun _ h9 => h9) rfl hin rfl (by decide +kernel) rfl rfl (by rw [hF_43.1]; decide) dX0_init_109 (fun H locs hP hD hS => ?_)
  have hP : va_P (dC, dI) vwCl [(h0, .inr (0, (fs_44.set 12 (.ref q_45)))), (q_25, .inl (cI, 2100, .inl (fun _ => 0))), (q_45, .inl (cI, 4100, .inl (fun _ => 0)))] H := hP
  have hD : va_D A [(h0, .inr (0, (fs_44.set 12 (.ref q_45)))), (q_25, .inl (cI, 2100, .inl (fun _ => 0))), (q_45, .inl (cI, 4100, .inl (fun _ => 0)))] := hD
  have hF_47 := hF_43.set 12 (.ref q_45) (l' := [(12, .ref q_45), (11, .ref q_41), (10, .ref q_37), (9, .ref q_33), (8, .ref q_29), (7, .ref q_25), (6, .ref q_21), (5, .ref q_17), (4, .ref q_13), (3, .ref q_9), (2, .ref q_5), (1, .ref q_1), (16, .int 0), (17, .int 0), (18, .int 0), (19, .int 0)]) (by decide) rfl
  generalize fs_44.set 12 (.ref q_45) = fs_48 at hP hD hF_47
  have hP : va_P (dC, dI) vwCl [(h0, .inr (0, fs_48)), (q_25, .inl (cI, 2100, .inl (fun _ => 0))), (q_45, .inl (cI, 4100, .inl (fun _ => 0)))] H := hP
  have hD : va_D A [(h0, .inr (0, fs_48)), (q_25, .inl (cI, 2100, .inl (fun _ => 0))), (q_45, .inl (cI, 4100, .inl (fun _ => 0)))] := hD
  have hP := hP.sub (ws' := [(h0, .inr (0, fs_48)), (q_25, .inl (cI, 2100, .inl (fun _ => 0)))]) [0, 1] rfl
  have hD := hD.sub (ws' := [(h0, .inr (0, fs_48)), (q_25, .inl (cI, 2100, .inl (fun _ => 0)))]) [0, 1] (by decide) rfl
  refine lv_aload_n hx hb dX0_init_112 rfl (lv_at hl 0 rfl) ?_
  refine lv_sipush (v := 2100) hx hb dX0_init_113 (by decide) ?_
  refine va_newa (atype := .int) (a0 := (2100, .inl (fun _ => 0))) hx hb (hts (.arrayClass .int) (List.mem_of_getElem? (i := 4) rfl)) (ty := .int) rfl hK hP hD hS hA (na_int 2100) (by decide) (by decide +kernel) (show 2100 * 4 ≤ 536870912 by decide) (show 12 + 1 ≤ 15 by decide) (show 26700 + 2100 ≤ 33000 by decide) dX0_init_116 (fun q_49 cA_50 H hK hP hD hS => ?_)
  have hK : va_K (dC, dI) vwCl [(cI, .int), (cA_50, .int)] s := hK
  obtain rfl := kU_int hK 0 1 rfl rfl
  have hK := hK.sub (tys' := [(cI, .int)]) [0] rfl
  have hP : va_P (dC, dI) vwCl [(h0, .inr (0, fs_48)), (q_25, .inl (cI, 2100, .inl (fun _ => 0))), (q_49, .inl (cI, 2100, .inl (fun _ => 0)))] H := hP
  have hD : va_D A [(h0, .inr (0, fs_48)), (q_25, .inl (cI, 2100, .inl (fun _ => 0))), (q_49, .inl (cI, 2100, .inl (fun _ => 0)))] := hD
  refine W.widen (k := 13) (n := 28800) (by decide) (by decide) ?_
  refine va_putF (D := (dC, dI)) (ci := 0) (v := .ref q_49) (ty := (.array .int)) (C := RX0) (T := TX0) (N := 20) hx hb hts hin_X0 tyX0 tyX0_ok nmX0 hown hK hP hD hS 0 rfl rfl 13 (by decide) (hts (.fieldLink RX0 50 "NeedHouse$Datas" "typeOf" "[I") (List.mem_of_getElem? (i := 17) rfl)) (fun _ h9 => h9) rfl hin rfl (by decide +kernel) rfl rfl (by rw [hF_47.1]; decide) dX0_init_118 (fun H locs hP hD hS => ?_)
  have hP : va_P (dC, dI) vwCl [(h0, .inr (0, (fs_48.set 13 (.ref q_49)))), (q_25, .inl (cI, 2100, .inl (fun _ => 0))), (q_49, .inl (cI, 2100, .inl (fun _ => 0)))] H := hP
  have hD : va_D A [(h0, .inr (0, (fs_48.set 13 (.ref q_49)))), (q_25, .inl (cI, 2100, .inl (fun _ => 0))), (q_49, .inl (cI, 2100, .inl (fun _ => 0)))] := hD
  have hF_51 := hF_47.set 13 (.ref q_49) (l' := [(13, .ref q_49), (12, .ref q_45), (11, .ref q_41), (10, .ref q_37), (9, .ref q_33), (8, .ref q_29), (7, .ref q_25), (6, .ref q_21), (5, .ref q_17), (4, .ref q_13), (3, .ref q_9), (2, .ref q_5), (1, .ref q_1), (16, .int 0), (17, .int 0), (18, .int 0), (19, .int 0)]) (by decide) rfl
  generalize fs_48.set 13 (.ref q_49) = fs_52 at hP hD hF_51
  have hP : va_P (dC, dI) vwCl [(h0, .inr (0, fs_52)), (q_25, .inl (cI, 2100, .inl (fun _ => 0))), (q_49, .inl (cI, 2100, .inl (fun _ => 0)))] H := hP
  have hD : va_D A [(h0, .inr (0, fs_52)), (q_25, .inl (cI, 2100, .inl (fun _ => 0))), (q_49, .inl (cI, 2100, .inl (fun _ => 0)))] := hD
  refine lv_aload_n hx hb dX0_init_121 rfl (lv_at hl 0 rfl) ?_
  refine lv_sipush (v := 2100) hx hb dX0_init_122 (by decide) ?_
  refine va_newa (atype := .int) (a0 := (2100, .inl (fun _ => 0))) hx hb (hts (.arrayClass .int) (List.mem_of_getElem? (i := 4) rfl)) (ty := .int) rfl hK hP hD hS hA (na_int 2100) (by decide) (by decide +kernel) (show 2100 * 4 ≤ 536870912 by decide) (show 13 + 1 ≤ 15 by decide) (show 28800 + 2100 ≤ 33000 by decide) dX0_init_125 (fun q_53 cA_54 H hK hP hD hS => ?_)
  have hK : va_K (dC, dI) vwCl [(cI, .int), (cA_54, .int)] s := hK
  obtain rfl := kU_int hK 0 1 rfl rfl
  have hK := hK.sub (tys' := [(cI, .int)]) [0] rfl
  have hP : va_P (dC, dI) vwCl [(h0, .inr (0, fs_52)), (q_25, .inl (cI, 2100, .inl (fun _ => 0))), (q_49, .inl (cI, 2100, .inl (fun _ => 0))), (q_53, .inl (cI, 2100, .inl (fun _ => 0)))] H := hP
  have hD : va_D A [(h0, .inr (0, fs_52)), (q_25, .inl (cI, 2100, .inl (fun _ => 0))), (q_49, .inl (cI, 2100, .inl (fun _ => 0))), (q_53, .inl (cI, 2100, .inl (fun _ => 0)))] := hD
  refine W.widen (k := 14) (n := 30900) (by decide) (by decide) ?_
  refine va_putF (D := (dC, dI)) (ci := 0) (v := .ref q_53) (ty := (.array .int)) (C := RX0) (T := TX0) (N := 20) hx hb hts hin_X0 tyX0 tyX0_ok nmX0 hown hK hP hD hS 0 rfl rfl 14 (by decide) (hts (.fieldLink RX0 53 "NeedHouse$Datas" "conOf" "[I") (List.mem_of_getElem? (i := 18) rfl)) (fun _ h9 => h9) rfl hin rfl (by decide +kernel) rfl rfl (by rw [hF_51.1]; decide) dX0_init_127 (fun H locs hP hD hS => ?_)
  have hP : va_P (dC, dI) vwCl [(h0, .inr (0, (fs_52.set 14 (.ref q_53)))), (q_25, .inl (cI, 2100, .inl (fun _ => 0))), (q_49, .inl (cI, 2100, .inl (fun _ => 0))), (q_53, .inl (cI, 2100, .inl (fun _ => 0)))] H := hP
  have hD : va_D A [(h0, .inr (0, (fs_52.set 14 (.ref q_53)))), (q_25, .inl (cI, 2100, .inl (fun _ => 0))), (q_49, .inl (cI, 2100, .inl (fun _ => 0))), (q_53, .inl (cI, 2100, .inl (fun _ => 0)))] := hD
  have hF_55 := hF_51.set 14 (.ref q_53) (l' := [(14, .ref q_53), (13, .ref q_49), (12, .ref q_45), (11, .ref q_41), (10, .ref q_37), (9, .ref q_33), (8, .ref q_29), (7, .ref q_25), (6, .ref q_21), (5, .ref q_17), (4, .ref q_13), (3, .ref q_9), (2, .ref q_5), (1, .ref q_1), (16, .int 0), (17, .int 0), (18, .int 0), (19, .int 0)]) (by decide) rfl
  generalize fs_52.set 14 (.ref q_53) = fs_56 at hP hD hF_55
  have hP : va_P (dC, dI) vwCl [(h0, .inr (0, fs_56)), (q_25, .inl (cI, 2100, .inl (fun _ => 0))), (q_49, .inl (cI, 2100, .inl (fun _ => 0))), (q_53, .inl (cI, 2100, .inl (fun _ => 0)))] H := hP
  have hD : va_D A [(h0, .inr (0, fs_56)), (q_25, .inl (cI, 2100, .inl (fun _ => 0))), (q_49, .inl (cI, 2100, .inl (fun _ => 0))), (q_53, .inl (cI, 2100, .inl (fun _ => 0)))] := hD
  refine lv_aload_n hx hb dX0_init_130 rfl (lv_at hl 0 rfl) ?_
  refine lv_sipush (v := 2100) hx hb dX0_init_131 (by decide) ?_
  refine va_newa (atype := .int) (a0 := (2100, .inl (fun _ => 0))) hx hb (hts (.arrayClass .int) (List.mem_of_getElem? (i := 4) rfl)) (ty := .int) rfl hK hP hD hS hA (na_int 2100) (by decide) (by decide +kernel) (show 2100 * 4 ≤ 536870912 by decide) (show 14 + 1 ≤ 15 by decide) (show 30900 + 2100 ≤ 33000 by decide) dX0_init_134 (fun q_57 cA_58 H hK hP hD hS => ?_)
  have hK : va_K (dC, dI) vwCl [(cI, .int), (cA_58, .int)] s := hK
  obtain rfl := kU_int hK 0 1 rfl rfl
  have hK := hK.sub (tys' := [(cI, .int)]) [0] rfl
  have hP : va_P (dC, dI) vwCl [(h0, .inr (0, fs_56)), (q_25, .inl (cI, 2100, .inl (fun _ => 0))), (q_49, .inl (cI, 2100, .inl (fun _ => 0))), (q_53, .inl (cI, 2100, .inl (fun _ => 0))), (q_57, .inl (cI, 2100, .inl (fun _ => 0)))] H := hP
  have hD : va_D A [(h0, .inr (0, fs_56)), (q_25, .inl (cI, 2100, .inl (fun _ => 0))), (q_49, .inl (cI, 2100, .inl (fun _ => 0))), (q_53, .inl (cI, 2100, .inl (fun _ => 0))), (q_57, .inl (cI, 2100, .inl (fun _ => 0)))] := hD
  refine W.widen (k := 15) (n := 33000) (by decide) (by decide) ?_
  refine va_putF (D := (dC, dI)) (ci := 0) (v := .ref q_57) (ty := (.array .int)) (C := RX0) (T := TX0) (N := 20) hx hb hts hin_X0 tyX0 tyX0_ok nmX0 hown hK hP hD hS 0 rfl rfl 15 (by decide) (hts (.fieldLink RX0 56 "NeedHouse$Datas" "mark" "[I") (List.mem_of_getElem? (i := 19) rfl)) (fun _ h9 => h9) rfl hin rfl (by decide +kernel) rfl rfl (by rw [hF_55.1]; decide) dX0_init_136 (fun H locs hP hD hS => ?_)
  have hP : va_P (dC, dI) vwCl [(h0, .inr (0, (fs_56.set 15 (.ref q_57)))), (q_25, .inl (cI, 2100, .inl (fun _ => 0))), (q_49, .inl (cI, 2100, .inl (fun _ => 0))), (q_53, .inl (cI, 2100, .inl (fun _ => 0))), (q_57, .inl (cI, 2100, .inl (fun _ => 0)))] H := hP
  have hD : va_D A [(h0, .inr (0, (fs_56.set 15 (.ref q_57)))), (q_25, .inl (cI, 2100, .inl (fun _ => 0))), (q_49, .inl (cI, 2100, .inl (fun _ => 0))), (q_53, .inl (cI, 2100, .inl (fun _ => 0))), (q_57, .inl (cI, 2100, .inl (fun _ => 0)))] := hD
  have hF_59 := hF_55.set 15 (.ref q_57) (l' := [(15, .ref q_57), (14, .ref q_53), (13, .ref q_49), (12, .ref q_45), (11, .ref q_41), (10, .ref q_37), (9, .ref q_33), (8, .ref q_29), (7, .ref q_25), (6, .ref q_21), (5, .ref q_17), (4, .ref q_13), (3, .ref q_9), (2, .ref q_5), (1, .ref q_1), (16, .int 0), (17, .int 0), (18, .int 0), (19, .int 0)]) (by decide) rfl
  generalize fs_56.set 15 (.ref q_57) = fs_60 at hP hD hF_59
  have hP : va_P (dC, dI) vwCl [(h0, .inr (0, fs_60)), (q_25, .inl (cI, 2100, .inl (fun _ => 0))), (q_49, .inl (cI, 2100, .inl (fun _ => 0))), (q_53, .inl (cI, 2100, .inl (fun _ => 0))), (q_57, .inl (cI, 2100, .inl (fun _ => 0)))] H := hP
  have hD : va_D A [(h0, .inr (0, fs_60)), (q_25, .inl (cI, 2100, .inl (fun _ => 0))), (q_49, .inl (cI, 2100, .inl (fun _ => 0))), (q_53, .inl (cI, 2100, .inl (fun _ => 0))), (q_57, .inl (cI, 2100, .inl (fun _ => 0)))] := hD
  refine lv_aload_n hx hb dX0_init_139 rfl (lv_at hl 0 rfl) ?_
  refine lv_aload_n hx hb dX0_init_140 rfl (lv_at hl 1 rfl) ?_
  refine va_putF (D := (dC, dI)) (ci := 0) (v := .ref p0) (ty := (.object "NeedHouse$Lexemes")) (C := RX0) (T := TX0) (N := 20) hx hb hts hin_X0 tyX0 tyX0_ok nmX0 hown hK hP hD hS 0 rfl rfl 0 (by decide) (hts (.fieldLink RX0 59 "NeedHouse$Datas" "lexemes" "LNeedHouse$Lexemes;") (List.mem_of_getElem? (i := 20) rfl)) (fun _ h9 => h9) rfl hin rfl (by decide +kernel) rfl rfl (by rw [hF_59.1]; decide) dX0_init_141 (fun H locs hP hD hS => ?_)
  have hP : va_P (dC, dI) vwCl [(h0, .inr (0, (fs_60.set 0 (.ref p0)))), (q_25, .inl (cI, 2100, .inl (fun _ => 0))), (q_49, .inl (cI, 2100, .inl (fun _ => 0))), (q_53, .inl (cI, 2100, .inl (fun _ => 0))), (q_57, .inl (cI, 2100, .inl (fun _ => 0)))] H := hP
  have hD : va_D A [(h0, .inr (0, (fs_60.set 0 (.ref p0)))), (q_25, .inl (cI, 2100, .inl (fun _ => 0))), (q_49, .inl (cI, 2100, .inl (fun _ => 0))), (q_53, .inl (cI, 2100, .inl (fun _ => 0))), (q_57, .inl (cI, 2100, .inl (fun _ => 0)))] := hD
  have hF_61 := hF_59.set 0 (.ref p0) (l' := [(0, .ref p0), (15, .ref q_57), (14, .ref q_53), (13, .ref q_49), (12, .ref q_45), (11, .ref q_41), (10, .ref q_37), (9, .ref q_33), (8, .ref q_29), (7, .ref q_25), (6, .ref q_21), (5, .ref q_17), (4, .ref q_13), (3, .ref q_9), (2, .ref q_5), (1, .ref q_1), (16, .int 0), (17, .int 0), (18, .int 0), (19, .int 0)]) (by decide) rfl
  generalize fs_60.set 0 (.ref p0) = fs_62 at hP hD hF_61
  have hP : va_P (dC, dI) vwCl [(h0, .inr (0, fs_62)), (q_25, .inl (cI, 2100, .inl (fun _ => 0))), (q_49, .inl (cI, 2100, .inl (fun _ => 0))), (q_53, .inl (cI, 2100, .inl (fun _ => 0))), (q_57, .inl (cI, 2100, .inl (fun _ => 0)))] H := hP
  have hD : va_D A [(h0, .inr (0, fs_62)), (q_25, .inl (cI, 2100, .inl (fun _ => 0))), (q_49, .inl (cI, 2100, .inl (fun _ => 0))), (q_53, .inl (cI, 2100, .inl (fun _ => 0))), (q_57, .inl (cI, 2100, .inl (fun _ => 0)))] := hD
  refine lv_aload_n hx hb dX0_init_144 rfl (lv_at hl 0 rfl) ?_
  refine va_get (D := (dC, dI)) (ci := 0) (v := .ref q_25) (C := RX0) (T := TX0) (N := 20) hx hb hts hin_X0 hown hK hP 0 rfl rfl 7 (by decide) (hts (.fieldLink RX0 30 "NeedHouse$Datas" "conFields" "[I") (List.mem_of_getElem? (i := 11) rfl)) (fun _ h9 => h9) (hF_61.at 9 rfl) dX0_init_145 ?_
  refine lv_iconst (v := 3) hx hb dX0_init_148 (by decide) ?_
  refine lv_iconst (v := 2) hx hb dX0_init_149 (by decide) ?_
  refine va_iast hx hb hK hP hD hS 1 0 rfl rfl (show vp_in (nI 3) 2100 from vp_in_nI (by decide) (by decide)) dX0_init_150 (fun H locs hP hD hS => ?_)
  have hP : va_P (dC, dI) vwCl [(h0, .inr (0, fs_62)), (q_25, .inl (cI, 2100, .inl (upd (fun _ => 0) (3 : Int32).toNatClampNeg 2))), (q_49, .inl (cI, 2100, .inl (fun _ => 0))), (q_53, .inl (cI, 2100, .inl (fun _ => 0))), (q_57, .inl (cI, 2100, .inl (fun _ => 0)))] H := hP
  have hD : va_D A [(h0, .inr (0, fs_62)), (q_25, .inl (cI, 2100, .inl (upd (fun _ => 0) (3 : Int32).toNatClampNeg 2))), (q_49, .inl (cI, 2100, .inl (fun _ => 0))), (q_53, .inl (cI, 2100, .inl (fun _ => 0))), (q_57, .inl (cI, 2100, .inl (fun _ => 0)))] := hD
  generalize upd (fun _ => 0) (3 : Int32).toNatClampNeg 2 = f_63 at hP hD
  have hP : va_P (dC, dI) vwCl [(h0, .inr (0, fs_62)), (q_25, .inl (cI, 2100, .inl f_63)), (q_49, .inl (cI, 2100, .inl (fun _ => 0))), (q_53, .inl (cI, 2100, .inl (fun _ => 0))), (q_57, .inl (cI, 2100, .inl (fun _ => 0)))] H := hP
  have hD : va_D A [(h0, .inr (0, fs_62)), (q_25, .inl (cI, 2100, .inl f_63)), (q_49, .inl (cI, 2100, .inl (fun _ => 0))), (q_53, .inl (cI, 2100, .inl (fun _ => 0))), (q_57, .inl (cI, 2100, .inl (fun _ => 0)))] := hD
  refine lv_aload_n hx hb dX0_init_151 rfl (lv_at hl 0 rfl) ?_
  refine va_get (D := (dC, dI)) (ci := 0) (v := .ref q_25) (C := RX0) (T := TX0) (N := 20) hx hb hts hin_X0 hown hK hP 0 rfl rfl 7 (by decide) (hts (.fieldLink RX0 30 "NeedHouse$Datas" "conFields" "[I") (List.mem_of_getElem? (i := 11) rfl)) (fun _ h9 => h9) (hF_61.at 9 rfl) dX0_init_152 ?_
  refine lv_iconst (v := 4) hx hb dX0_init_155 (by decide) ?_
  refine lv_iconst (v := 2) hx hb dX0_init_156 (by decide) ?_
  refine va_iast hx hb hK hP hD hS 1 0 rfl rfl (show vp_in (nI 4) 2100 from vp_in_nI (by decide) (by decide)) dX0_init_157 (fun H locs hP hD hS => ?_)
  have hP : va_P (dC, dI) vwCl [(h0, .inr (0, fs_62)), (q_25, .inl (cI, 2100, .inl (upd f_63 (4 : Int32).toNatClampNeg 2))), (q_49, .inl (cI, 2100, .inl (fun _ => 0))), (q_53, .inl (cI, 2100, .inl (fun _ => 0))), (q_57, .inl (cI, 2100, .inl (fun _ => 0)))] H := hP
  have hD : va_D A [(h0, .inr (0, fs_62)), (q_25, .inl (cI, 2100, .inl (upd f_63 (4 : Int32).toNatClampNeg 2))), (q_49, .inl (cI, 2100, .inl (fun _ => 0))), (q_53, .inl (cI, 2100, .inl (fun _ => 0))), (q_57, .inl (cI, 2100, .inl (fun _ => 0)))] := hD
  generalize upd f_63 (4 : Int32).toNatClampNeg 2 = f_64 at hP hD
  have hP : va_P (dC, dI) vwCl [(h0, .inr (0, fs_62)), (q_25, .inl (cI, 2100, .inl f_64)), (q_49, .inl (cI, 2100, .inl (fun _ => 0))), (q_53, .inl (cI, 2100, .inl (fun _ => 0))), (q_57, .inl (cI, 2100, .inl (fun _ => 0)))] H := hP
  have hD : va_D A [(h0, .inr (0, fs_62)), (q_25, .inl (cI, 2100, .inl f_64)), (q_49, .inl (cI, 2100, .inl (fun _ => 0))), (q_53, .inl (cI, 2100, .inl (fun _ => 0))), (q_57, .inl (cI, 2100, .inl (fun _ => 0)))] := hD
  refine lv_aload_n hx hb dX0_init_158 rfl (lv_at hl 0 rfl) ?_
  refine lv_iconst (v := 5) hx hb dX0_init_159 (by decide) ?_
  refine va_put (D := (dC, dI)) (ci := 0) (v := .int 5) (ty := .int) (C := RX0) (T := TX0) (N := 20) hx hb hts hin_X0 tyX0 tyX0_ok nmX0 hown hK hP hD hS 0 rfl rfl 17 (by decide) (hts (.fieldLink RX0 63 "NeedHouse$Datas" "cons" "I") (List.mem_of_getElem? (i := 21) rfl)) (fun _ h9 => h9) rfl (by decide +kernel) rfl rfl (by rw [hF_61.1]; decide) dX0_init_160 (fun H locs hP hD hS => ?_)
  have hP : va_P (dC, dI) vwCl [(h0, .inr (0, (fs_62.set 17 (.int 5)))), (q_25, .inl (cI, 2100, .inl f_64)), (q_49, .inl (cI, 2100, .inl (fun _ => 0))), (q_53, .inl (cI, 2100, .inl (fun _ => 0))), (q_57, .inl (cI, 2100, .inl (fun _ => 0)))] H := hP
  have hD : va_D A [(h0, .inr (0, (fs_62.set 17 (.int 5)))), (q_25, .inl (cI, 2100, .inl f_64)), (q_49, .inl (cI, 2100, .inl (fun _ => 0))), (q_53, .inl (cI, 2100, .inl (fun _ => 0))), (q_57, .inl (cI, 2100, .inl (fun _ => 0)))] := hD
  have hF_65 := hF_61.set 17 (.int 5) (l' := [(17, .int 5), (0, .ref p0), (15, .ref q_57), (14, .ref q_53), (13, .ref q_49), (12, .ref q_45), (11, .ref q_41), (10, .ref q_37), (9, .ref q_33), (8, .ref q_29), (7, .ref q_25), (6, .ref q_21), (5, .ref q_17), (4, .ref q_13), (3, .ref q_9), (2, .ref q_5), (1, .ref q_1), (16, .int 0), (18, .int 0), (19, .int 0)]) (by decide) rfl
  generalize fs_62.set 17 (.int 5) = fs_66 at hP hD hF_65
  have hP : va_P (dC, dI) vwCl [(h0, .inr (0, fs_66)), (q_25, .inl (cI, 2100, .inl f_64)), (q_49, .inl (cI, 2100, .inl (fun _ => 0))), (q_53, .inl (cI, 2100, .inl (fun _ => 0))), (q_57, .inl (cI, 2100, .inl (fun _ => 0)))] H := hP
  have hD : va_D A [(h0, .inr (0, fs_66)), (q_25, .inl (cI, 2100, .inl f_64)), (q_49, .inl (cI, 2100, .inl (fun _ => 0))), (q_53, .inl (cI, 2100, .inl (fun _ => 0))), (q_57, .inl (cI, 2100, .inl (fun _ => 0)))] := hD
  have hP9 := hP.sub (ws' := [(h0, .inr (0, fs_66)), (q_49, .inl (cI, 2100, .inl (fun _ => 0))), (q_53, .inl (cI, 2100, .inl (fun _ => 0))), (q_57, .inl (cI, 2100, .inl (fun _ => 0)))]) [0, 2, 3, 4] rfl
  have hD9 := hD.sub (ws' := [(h0, .inr (0, fs_66)), (q_49, .inl (cI, 2100, .inl (fun _ => 0))), (q_53, .inl (cI, 2100, .inl (fun _ => 0))), (q_57, .inl (cI, 2100, .inl (fun _ => 0)))]) [0, 2, 3, 4] (by decide) rfl
  have hK9 := hK.sub (tys' := [(cI, .int)]) [0] rfl
  exact W.vret hx hb hr (fun t ht hW => ⟨⟨((fs_66, q_49, q_53, q_57)), rfl, hF_65.sub [1, 4, 3, 2, 17, 0, 18, 19] rfl, by rw [ht]; exact hP9, va_K.moved hW.alike hK9, hD9⟩, hS.F ht⟩) hS.2.2 dX0_init_163
def pw_c_X8_init : List Cond := .code yX8_init cX8_init 2 none :: ([.code objectInit ⟨#[0xb1]⟩ 1 none, .methodLink RX8 3 objectInit, .instanceMethod objectInit, .arrayClass .int, .fieldLink RX8 11 "NeedHouse$Told" "symbol" "[I", .fieldLink RX8 15 "NeedHouse$Told" "token" "[I", .fieldLink RX8 18 "NeedHouse$Told" "scope" "[I", .fieldLink RX8 21 "NeedHouse$Told" "place" "[I", .fieldLink RX8 24 "NeedHouse$Told" "next" "[I", .fieldLink RX8 27 "NeedHouse$Told" "row" "[I", .fieldLink RX8 30 "NeedHouse$Told" "body" "[I", .fieldLink RX8 33 "NeedHouse$Told" "maker" "[I", .fieldLink RX8 36 "NeedHouse$Told" "parent" "[I", .fieldLink RX8 39 "NeedHouse$Told" "owner" "[I", .fieldLink RX8 42 "NeedHouse$Told" "first" "[I", .fieldLink RX8 45 "NeedHouse$Told" "last" "[I", .fieldLink RX8 48 "NeedHouse$Told" "width" "[I", .fieldLink RX8 51 "NeedHouse$Told" "globals" "[I", .fieldLink RX8 56 "NeedHouse$Told" "mark" "[I", .fieldLink RX8 59 "NeedHouse$Told" "lexemes" "LNeedHouse$Lexemes;"] ++ (wsX80 ++ []))
set_option maxHeartbeats 4000000 in
set_option maxRecDepth 100000 in
theorem c_X8_init (l : Launch) (dC : Nat → ClassId) (dI : Nat → Nat → Nat) (sz : Nat) (h0 : Nat) (fs : List Value) (cI : ClassId) (p0 : Nat) (hF : hasF fs 18 [(16, .int 0), (17, .int 0)]) : Met l yX8_init pw_c_X8_init ({ frames := 1, cells := 15, slots := 29460, locals := 12 }) (va_Pc [.ref h0, .ref p0] (fun U => U.heap.size = sz ∧ va_P (dC, dI) vwCl [(h0, .inr (8, fs))] U.heap ∧ va_K (dC, dI) vwCl [(cI, .int)] U ∧ va_D (fun _ => True) [(h0, .inr (8, fs))])) (va_Qv (fun (u : (List Value) × (Nat) × (Nat) × (Nat) × (Nat) × (Nat) × (Nat)) => hasF u.1 18 [(0, .ref p0), (9, .ref u.2.1), (10, .ref u.2.2.1), (11, .ref u.2.2.2.1), (12, .ref u.2.2.2.2.1), (13, .ref u.2.2.2.2.2.1), (15, .ref u.2.2.2.2.2.2), (16, .int 0), (17, .int 0)]) (fun (u : (List Value) × (Nat) × (Nat) × (Nat) × (Nat) × (Nat) × (Nat)) (t : State) => va_P (dC, dI) vwCl [(h0, .inr (8, u.1)), (u.2.1, .inl (cI, 2100, .inl (fun _ => 0))), (u.2.2.1, .inl (cI, 2100, .inl (fun _ => 0))), (u.2.2.2.1, .inl (cI, 2100, .inl (fun _ => 0))), (u.2.2.2.2.1, .inl (cI, 2100, .inl (fun _ => 0))), (u.2.2.2.2.2.1, .inl (cI, 2100, .inl (fun _ => 0))), (u.2.2.2.2.2.2, .inl (cI, 2100, .inl (fun _ => 0)))] t.heap ∧ va_K (dC, dI) vwCl [(cI, .int)] t ∧ va_D (va_A [(h0, .inr (8, fs))] sz) [(h0, .inr (8, u.1)), (u.2.1, .inl (cI, 2100, .inl (fun _ => 0))), (u.2.2.1, .inl (cI, 2100, .inl (fun _ => 0))), (u.2.2.2.1, .inl (cI, 2100, .inl (fun _ => 0))), (u.2.2.2.2.1, .inl (cI, 2100, .inl (fun _ => 0))), (u.2.2.2.2.2.1, .inl (cI, 2100, .inl (fun _ => 0))), (u.2.2.2.2.2.2, .inl (cI, 2100, .inl (fun _ => 0)))]) (va_A [(h0, .inr (8, fs))] sz)) 15 29460 (va_A [(h0, .inr (8, fs))] sz) := by
  refine Met.ofW (cc := cX8_init) (maxL := 2) (ret := none) (by decide) rfl ?_
  intro p e s m args below meth c s₁ B hml hv
  obtain ⟨rfl, hsz, hP, hK, hD0⟩ := hv
  have hx := B.exec
  have hb := B.bytes
  have hr := B.returns
  have hts := atoms_spec (ws := pw_c_X8_init) B.pre
  have hown : s.vm.findClass RX8 = some m.cls := findClass_of_methodNamed B.named
  have hlocks := B.notSynchronized
  have hin : meth.name = "<init>" := (name_of_methodNamed B.named B.method).1
  have hin_X8 : ∀ w ∈ u_ws RX8 TX8 18, w ∈ pw_c_X8_init := fun w h => List.mem_cons_of_mem _ (List.mem_append_right _ (List.mem_append_left _ h))
  subst hsz
  have hD := hD0.self (sz := s.heap.size)
  generalize hAe : va_A [(h0, .inr (8, fs))] s.heap.size = A at hD ⊢
  have hA : ∀ q : Nat, s.heap.size ≤ q → A q := fun q h => by rw [← hAe]; exact Or.inr h
  have hS : va_S A s.heap s.heap [] := va_S.rf
  have hP : va_P (dC, dI) vwCl [(h0, .inr (8, fs))] s.heap := hP
  have hl := lv_entry ([.ref h0, .ref p0]) (n := 2) (Nat.le_of_ble_eq_true rfl)
  rw [lg_entry_eq]
  generalize (lg_sl ([.ref h0, .ref p0]) ++ List.replicate (2 - (lg_sl ([.ref h0, .ref p0])).length) Slot.unset).toArray = ls at hl ⊢
  have hl : lv_has ls 2 [(0, .ref h0), (1, .ref p0)] := hl
  refine lv_aload_n hx hb dX8_init_0 rfl (lv_at hl 0 rfl) ?_
  refine W.objInit hx hb hown (hts (.methodLink RX8 3 objectInit) (List.mem_of_getElem? (i := 2) rfl)) (hts (.instanceMethod objectInit) (List.mem_of_getElem? (i := 3) rfl)) (hts _ (List.mem_of_getElem? (i := 1) rfl)) rfl (by rw [hml]; exact hl.1) rfl dX8_init_1 (Nat.le_of_ble_eq_true rfl) (Nat.le_of_ble_eq_true rfl) ?_
  refine W.eq (g2 := F0 m 4 ls []) rfl ?_
  refine lv_aload_n hx hb dX8_init_4 rfl (lv_at hl 0 rfl) ?_
  refine lv_sipush (v := 2100) hx hb dX8_init_5 (by decide) ?_
  refine va_newa (atype := .int) (a0 := (2100, .inl (fun _ => 0))) hx hb (hts (.arrayClass .int) (List.mem_of_getElem? (i := 4) rfl)) (ty := .int) rfl hK hP hD hS hA (na_int 2100) (by decide) (by decide +kernel) (show 2100 * 4 ≤ 536870912 by decide) (show 0 + 1 ≤ 15 by decide) (show 0 + 2100 ≤ 29460 by decide) dX8_init_8 (fun q_1 cA_2 H hK hP hD hS => ?_)
  have hK : va_K (dC, dI) vwCl [(cI, .int), (cA_2, .int)] s := hK
  obtain rfl := kU_int hK 0 1 rfl rfl
  have hK := hK.sub (tys' := [(cI, .int)]) [0] rfl
  have hP : va_P (dC, dI) vwCl [(h0, .inr (8, fs)), (q_1, .inl (cI, 2100, .inl (fun _ => 0)))] H := hP
  have hD : va_D A [(h0, .inr (8, fs)), (q_1, .inl (cI, 2100, .inl (fun _ => 0)))] := hD
  refine W.widen (k := 1) (n := 2100) (by decide) (by decide) ?_
  refine va_putF (D := (dC, dI)) (ci := 8) (v := .ref q_1) (ty := (.array .int)) (C := RX8) (T := TX8) (N := 18) hx hb hts hin_X8 tyX8 tyX8_ok nmX8 hown hK hP hD hS 0 rfl rfl 1 (by decide) (hts (.fieldLink RX8 11 "NeedHouse$Told" "symbol" "[I") (List.mem_of_getElem? (i := 5) rfl)) (fun _ h9 => h9) rfl hin rfl (by decide +kernel) rfl rfl (by rw [hF.1]; decide) dX8_init_10 (fun H locs hP hD hS => ?_)
  have hP : va_P (dC, dI) vwCl [(h0, .inr (8, (fs.set 1 (.ref q_1)))), (q_1, .inl (cI, 2100, .inl (fun _ => 0)))] H := hP
  have hD : va_D A [(h0, .inr (8, (fs.set 1 (.ref q_1)))), (q_1, .inl (cI, 2100, .inl (fun _ => 0)))] := hD
  have hF_3 := hF.set 1 (.ref q_1) (l' := [(1, .ref q_1), (16, .int 0), (17, .int 0)]) (by decide) rfl
  generalize fs.set 1 (.ref q_1) = fs_4 at hP hD hF_3
  have hP : va_P (dC, dI) vwCl [(h0, .inr (8, fs_4)), (q_1, .inl (cI, 2100, .inl (fun _ => 0)))] H := hP
  have hD : va_D A [(h0, .inr (8, fs_4)), (q_1, .inl (cI, 2100, .inl (fun _ => 0)))] := hD
  have hP := hP.sub (ws' := [(h0, .inr (8, fs_4))]) [0] rfl
  have hD := hD.sub (ws' := [(h0, .inr (8, fs_4))]) [0] (by decide) rfl
  refine lv_aload_n hx hb dX8_init_13 rfl (lv_at hl 0 rfl) ?_
  refine lv_sipush (v := 2100) hx hb dX8_init_14 (by decide) ?_
  refine va_newa (atype := .int) (a0 := (2100, .inl (fun _ => 0))) hx hb (hts (.arrayClass .int) (List.mem_of_getElem? (i := 4) rfl)) (ty := .int) rfl hK hP hD hS hA (na_int 2100) (by decide) (by decide +kernel) (show 2100 * 4 ≤ 536870912 by decide) (show 1 + 1 ≤ 15 by decide) (show 2100 + 2100 ≤ 29460 by decide) dX8_init_17 (fun q_5 cA_6 H hK hP hD hS => ?_)
  have hK : va_K (dC, dI) vwCl [(cI, .int), (cA_6, .int)] s := hK
  obtain rfl := kU_int hK 0 1 rfl rfl
  have hK := hK.sub (tys' := [(cI, .int)]) [0] rfl
  have hP : va_P (dC, dI) vwCl [(h0, .inr (8, fs_4)), (q_5, .inl (cI, 2100, .inl (fun _ => 0)))] H := hP
  have hD : va_D A [(h0, .inr (8, fs_4)), (q_5, .inl (cI, 2100, .inl (fun _ => 0)))] := hD
  refine W.widen (k := 2) (n := 4200) (by decide) (by decide) ?_
  refine va_putF (D := (dC, dI)) (ci := 8) (v := .ref q_5) (ty := (.array .int)) (C := RX8) (T := TX8) (N := 18) hx hb hts hin_X8 tyX8 tyX8_ok nmX8 hown hK hP hD hS 0 rfl rfl 2 (by decide) (hts (.fieldLink RX8 15 "NeedHouse$Told" "token" "[I") (List.mem_of_getElem? (i := 6) rfl)) (fun _ h9 => h9) rfl hin rfl (by decide +kernel) rfl rfl (by rw [hF_3.1]; decide) dX8_init_19 (fun H locs hP hD hS => ?_)
  have hP : va_P (dC, dI) vwCl [(h0, .inr (8, (fs_4.set 2 (.ref q_5)))), (q_5, .inl (cI, 2100, .inl (fun _ => 0)))] H := hP
  have hD : va_D A [(h0, .inr (8, (fs_4.set 2 (.ref q_5)))), (q_5, .inl (cI, 2100, .inl (fun _ => 0)))] := hD
  have hF_7 := hF_3.set 2 (.ref q_5) (l' := [(2, .ref q_5), (1, .ref q_1), (16, .int 0), (17, .int 0)]) (by decide) rfl
  generalize fs_4.set 2 (.ref q_5) = fs_8 at hP hD hF_7
  have hP : va_P (dC, dI) vwCl [(h0, .inr (8, fs_8)), (q_5, .inl (cI, 2100, .inl (fun _ => 0)))] H := hP
  have hD : va_D A [(h0, .inr (8, fs_8)), (q_5, .inl (cI, 2100, .inl (fun _ => 0)))] := hD
  have hP := hP.sub (ws' := [(h0, .inr (8, fs_8))]) [0] rfl
  have hD := hD.sub (ws' := [(h0, .inr (8, fs_8))]) [0] (by decide) rfl
  refine lv_aload_n hx hb dX8_init_22 rfl (lv_at hl 0 rfl) ?_
  refine lv_sipush (v := 2100) hx hb dX8_init_23 (by decide) ?_
  refine va_newa (atype := .int) (a0 := (2100, .inl (fun _ => 0))) hx hb (hts (.arrayClass .int) (List.mem_of_getElem? (i := 4) rfl)) (ty := .int) rfl hK hP hD hS hA (na_int 2100) (by decide) (by decide +kernel) (show 2100 * 4 ≤ 536870912 by decide) (show 2 + 1 ≤ 15 by decide) (show 4200 + 2100 ≤ 29460 by decide) dX8_init_26 (fun q_9 cA_10 H hK hP hD hS => ?_)
  have hK : va_K (dC, dI) vwCl [(cI, .int), (cA_10, .int)] s := hK
  obtain rfl := kU_int hK 0 1 rfl rfl
  have hK := hK.sub (tys' := [(cI, .int)]) [0] rfl
  have hP : va_P (dC, dI) vwCl [(h0, .inr (8, fs_8)), (q_9, .inl (cI, 2100, .inl (fun _ => 0)))] H := hP
  have hD : va_D A [(h0, .inr (8, fs_8)), (q_9, .inl (cI, 2100, .inl (fun _ => 0)))] := hD
  refine W.widen (k := 3) (n := 6300) (by decide) (by decide) ?_
  refine va_putF (D := (dC, dI)) (ci := 8) (v := .ref q_9) (ty := (.array .int)) (C := RX8) (T := TX8) (N := 18) hx hb hts hin_X8 tyX8 tyX8_ok nmX8 hown hK hP hD hS 0 rfl rfl 3 (by decide) (hts (.fieldLink RX8 18 "NeedHouse$Told" "scope" "[I") (List.mem_of_getElem? (i := 7) rfl)) (fun _ h9 => h9) rfl hin rfl (by decide +kernel) rfl rfl (by rw [hF_7.1]; decide) dX8_init_28 (fun H locs hP hD hS => ?_)
  have hP : va_P (dC, dI) vwCl [(h0, .inr (8, (fs_8.set 3 (.ref q_9)))), (q_9, .inl (cI, 2100, .inl (fun _ => 0)))] H := hP
  have hD : va_D A [(h0, .inr (8, (fs_8.set 3 (.ref q_9)))), (q_9, .inl (cI, 2100, .inl (fun _ => 0)))] := hD
  have hF_11 := hF_7.set 3 (.ref q_9) (l' := [(3, .ref q_9), (2, .ref q_5), (1, .ref q_1), (16, .int 0), (17, .int 0)]) (by decide) rfl
  generalize fs_8.set 3 (.ref q_9) = fs_12 at hP hD hF_11
  have hP : va_P (dC, dI) vwCl [(h0, .inr (8, fs_12)), (q_9, .inl (cI, 2100, .inl (fun _ => 0)))] H := hP
  have hD : va_D A [(h0, .inr (8, fs_12)), (q_9, .inl (cI, 2100, .inl (fun _ => 0)))] := hD
  have hP := hP.sub (ws' := [(h0, .inr (8, fs_12))]) [0] rfl
  have hD := hD.sub (ws' := [(h0, .inr (8, fs_12))]) [0] (by decide) rfl
  refine lv_aload_n hx hb dX8_init_31 rfl (lv_at hl 0 rfl) ?_
  refine lv_sipush (v := 2100) hx hb dX8_init_32 (by decide) ?_
  refine va_newa (atype := .int) (a0 := (2100, .inl (fun _ => 0))) hx hb (hts (.arrayClass .int) (List.mem_of_getElem? (i := 4) rfl)) (ty := .int) rfl hK hP hD hS hA (na_int 2100) (by decide) (by decide +kernel) (show 2100 * 4 ≤ 536870912 by decide) (show 3 + 1 ≤ 15 by decide) (show 6300 + 2100 ≤ 29460 by decide) dX8_init_35 (fun q_13 cA_14 H hK hP hD hS => ?_)
  have hK : va_K (dC, dI) vwCl [(cI, .int), (cA_14, .int)] s := hK
  obtain rfl := kU_int hK 0 1 rfl rfl
  have hK := hK.sub (tys' := [(cI, .int)]) [0] rfl
  have hP : va_P (dC, dI) vwCl [(h0, .inr (8, fs_12)), (q_13, .inl (cI, 2100, .inl (fun _ => 0)))] H := hP
  have hD : va_D A [(h0, .inr (8, fs_12)), (q_13, .inl (cI, 2100, .inl (fun _ => 0)))] := hD
  refine W.widen (k := 4) (n := 8400) (by decide) (by decide) ?_
  refine va_putF (D := (dC, dI)) (ci := 8) (v := .ref q_13) (ty := (.array .int)) (C := RX8) (T := TX8) (N := 18) hx hb hts hin_X8 tyX8 tyX8_ok nmX8 hown hK hP hD hS 0 rfl rfl 4 (by decide) (hts (.fieldLink RX8 21 "NeedHouse$Told" "place" "[I") (List.mem_of_getElem? (i := 8) rfl)) (fun _ h9 => h9) rfl hin rfl (by decide +kernel) rfl rfl (by rw [hF_11.1]; decide) dX8_init_37 (fun H locs hP hD hS => ?_)
  have hP : va_P (dC, dI) vwCl [(h0, .inr (8, (fs_12.set 4 (.ref q_13)))), (q_13, .inl (cI, 2100, .inl (fun _ => 0)))] H := hP
  have hD : va_D A [(h0, .inr (8, (fs_12.set 4 (.ref q_13)))), (q_13, .inl (cI, 2100, .inl (fun _ => 0)))] := hD
  have hF_15 := hF_11.set 4 (.ref q_13) (l' := [(4, .ref q_13), (3, .ref q_9), (2, .ref q_5), (1, .ref q_1), (16, .int 0), (17, .int 0)]) (by decide) rfl
  generalize fs_12.set 4 (.ref q_13) = fs_16 at hP hD hF_15
  have hP : va_P (dC, dI) vwCl [(h0, .inr (8, fs_16)), (q_13, .inl (cI, 2100, .inl (fun _ => 0)))] H := hP
  have hD : va_D A [(h0, .inr (8, fs_16)), (q_13, .inl (cI, 2100, .inl (fun _ => 0)))] := hD
  have hP := hP.sub (ws' := [(h0, .inr (8, fs_16))]) [0] rfl
  have hD := hD.sub (ws' := [(h0, .inr (8, fs_16))]) [0] (by decide) rfl
  refine lv_aload_n hx hb dX8_init_40 rfl (lv_at hl 0 rfl) ?_
  refine lv_sipush (v := 2100) hx hb dX8_init_41 (by decide) ?_
  refine va_newa (atype := .int) (a0 := (2100, .inl (fun _ => 0))) hx hb (hts (.arrayClass .int) (List.mem_of_getElem? (i := 4) rfl)) (ty := .int) rfl hK hP hD hS hA (na_int 2100) (by decide) (by decide +kernel) (show 2100 * 4 ≤ 536870912 by decide) (show 4 + 1 ≤ 15 by decide) (show 8400 + 2100 ≤ 29460 by decide) dX8_init_44 (fun q_17 cA_18 H hK hP hD hS => ?_)
  have hK : va_K (dC, dI) vwCl [(cI, .int), (cA_18, .int)] s := hK
  obtain rfl := kU_int hK 0 1 rfl rfl
  have hK := hK.sub (tys' := [(cI, .int)]) [0] rfl
  have hP : va_P (dC, dI) vwCl [(h0, .inr (8, fs_16)), (q_17, .inl (cI, 2100, .inl (fun _ => 0)))] H := hP
  have hD : va_D A [(h0, .inr (8, fs_16)), (q_17, .inl (cI, 2100, .inl (fun _ => 0)))] := hD
  refine W.widen (k := 5) (n := 10500) (by decide) (by decide) ?_
  refine va_putF (D := (dC, dI)) (ci := 8) (v := .ref q_17) (ty := (.array .int)) (C := RX8) (T := TX8) (N := 18) hx hb hts hin_X8 tyX8 tyX8_ok nmX8 hown hK hP hD hS 0 rfl rfl 5 (by decide) (hts (.fieldLink RX8 24 "NeedHouse$Told" "next" "[I") (List.mem_of_getElem? (i := 9) rfl)) (fun _ h9 => h9) rfl hin rfl (by decide +kernel) rfl rfl (by rw [hF_15.1]; decide) dX8_init_46 (fun H locs hP hD hS => ?_)
  have hP : va_P (dC, dI) vwCl [(h0, .inr (8, (fs_16.set 5 (.ref q_17)))), (q_17, .inl (cI, 2100, .inl (fun _ => 0)))] H := hP
  have hD : va_D A [(h0, .inr (8, (fs_16.set 5 (.ref q_17)))), (q_17, .inl (cI, 2100, .inl (fun _ => 0)))] := hD
  have hF_19 := hF_15.set 5 (.ref q_17) (l' := [(5, .ref q_17), (4, .ref q_13), (3, .ref q_9), (2, .ref q_5), (1, .ref q_1), (16, .int 0), (17, .int 0)]) (by decide) rfl
  generalize fs_16.set 5 (.ref q_17) = fs_20 at hP hD hF_19
  have hP : va_P (dC, dI) vwCl [(h0, .inr (8, fs_20)), (q_17, .inl (cI, 2100, .inl (fun _ => 0)))] H := hP
  have hD : va_D A [(h0, .inr (8, fs_20)), (q_17, .inl (cI, 2100, .inl (fun _ => 0)))] := hD
  have hP := hP.sub (ws' := [(h0, .inr (8, fs_20))]) [0] rfl
  have hD := hD.sub (ws' := [(h0, .inr (8, fs_20))]) [0] (by decide) rfl
  refine lv_aload_n hx hb dX8_init_49 rfl (lv_at hl 0 rfl) ?_
  refine lv_sipush (v := 2100) hx hb dX8_init_50 (by decide) ?_
  refine va_newa (atype := .int) (a0 := (2100, .inl (fun _ => 0))) hx hb (hts (.arrayClass .int) (List.mem_of_getElem? (i := 4) rfl)) (ty := .int) rfl hK hP hD hS hA (na_int 2100) (by decide) (by decide +kernel) (show 2100 * 4 ≤ 536870912 by decide) (show 5 + 1 ≤ 15 by decide) (show 10500 + 2100 ≤ 29460 by decide) dX8_init_53 (fun q_21 cA_22 H hK hP hD hS => ?_)
  have hK : va_K (dC, dI) vwCl [(cI, .int), (cA_22, .int)] s := hK
  obtain rfl := kU_int hK 0 1 rfl rfl
  have hK := hK.sub (tys' := [(cI, .int)]) [0] rfl
  have hP : va_P (dC, dI) vwCl [(h0, .inr (8, fs_20)), (q_21, .inl (cI, 2100, .inl (fun _ => 0)))] H := hP
  have hD : va_D A [(h0, .inr (8, fs_20)), (q_21, .inl (cI, 2100, .inl (fun _ => 0)))] := hD
  refine W.widen (k := 6) (n := 12600) (by decide) (by decide) ?_
  refine va_putF (D := (dC, dI)) (ci := 8) (v := .ref q_21) (ty := (.array .int)) (C := RX8) (T := TX8) (N := 18) hx hb hts hin_X8 tyX8 tyX8_ok nmX8 hown hK hP hD hS 0 rfl rfl 6 (by decide) (hts (.fieldLink RX8 27 "NeedHouse$Told" "row" "[I") (List.mem_of_getElem? (i := 10) rfl)) (fun _ h9 => h9) rfl hin rfl (by decide +kernel) rfl rfl (by rw [hF_19.1]; decide) dX8_init_55 (fun H locs hP hD hS => ?_)
  have hP : va_P (dC, dI) vwCl [(h0, .inr (8, (fs_20.set 6 (.ref q_21)))), (q_21, .inl (cI, 2100, .inl (fun _ => 0)))] H := hP
  have hD : va_D A [(h0, .inr (8, (fs_20.set 6 (.ref q_21)))), (q_21, .inl (cI, 2100, .inl (fun _ => 0)))] := hD
  have hF_23 := hF_19.set 6 (.ref q_21) (l' := [(6, .ref q_21), (5, .ref q_17), (4, .ref q_13), (3, .ref q_9), (2, .ref q_5), (1, .ref q_1), (16, .int 0), (17, .int 0)]) (by decide) rfl
  generalize fs_20.set 6 (.ref q_21) = fs_24 at hP hD hF_23
  have hP : va_P (dC, dI) vwCl [(h0, .inr (8, fs_24)), (q_21, .inl (cI, 2100, .inl (fun _ => 0)))] H := hP
  have hD : va_D A [(h0, .inr (8, fs_24)), (q_21, .inl (cI, 2100, .inl (fun _ => 0)))] := hD
  have hP := hP.sub (ws' := [(h0, .inr (8, fs_24))]) [0] rfl
  have hD := hD.sub (ws' := [(h0, .inr (8, fs_24))]) [0] (by decide) rfl
  refine lv_aload_n hx hb dX8_init_58 rfl (lv_at hl 0 rfl) ?_
  refine lv_sipush (v := 2100) hx hb dX8_init_59 (by decide) ?_
  refine va_newa (atype := .int) (a0 := (2100, .inl (fun _ => 0))) hx hb (hts (.arrayClass .int) (List.mem_of_getElem? (i := 4) rfl)) (ty := .int) rfl hK hP hD hS hA (na_int 2100) (by decide) (by decide +kernel) (show 2100 * 4 ≤ 536870912 by decide) (show 6 + 1 ≤ 15 by decide) (show 12600 + 2100 ≤ 29460 by decide) dX8_init_62 (fun q_25 cA_26 H hK hP hD hS => ?_)
  have hK : va_K (dC, dI) vwCl [(cI, .int), (cA_26, .int)] s := hK
  obtain rfl := kU_int hK 0 1 rfl rfl
  have hK := hK.sub (tys' := [(cI, .int)]) [0] rfl
  have hP : va_P (dC, dI) vwCl [(h0, .inr (8, fs_24)), (q_25, .inl (cI, 2100, .inl (fun _ => 0)))] H := hP
  have hD : va_D A [(h0, .inr (8, fs_24)), (q_25, .inl (cI, 2100, .inl (fun _ => 0)))] := hD
  refine W.widen (k := 7) (n := 14700) (by decide) (by decide) ?_
  refine va_putF (D := (dC, dI)) (ci := 8) (v := .ref q_25) (ty := (.array .int)) (C := RX8) (T := TX8) (N := 18) hx hb hts hin_X8 tyX8 tyX8_ok nmX8 hown hK hP hD hS 0 rfl rfl 7 (by decide) (hts (.fieldLink RX8 30 "NeedHouse$Told" "body" "[I") (List.mem_of_getElem? (i := 11) rfl)) (fun _ h9 => h9) rfl hin rfl (by decide +kernel) rfl rfl (by rw [hF_23.1]; decide) dX8_init_64 (fun H locs hP hD hS => ?_)
  have hP : va_P (dC, dI) vwCl [(h0, .inr (8, (fs_24.set 7 (.ref q_25)))), (q_25, .inl (cI, 2100, .inl (fun _ => 0)))] H := hP
  have hD : va_D A [(h0, .inr (8, (fs_24.set 7 (.ref q_25)))), (q_25, .inl (cI, 2100, .inl (fun _ => 0)))] := hD
  have hF_27 := hF_23.set 7 (.ref q_25) (l' := [(7, .ref q_25), (6, .ref q_21), (5, .ref q_17), (4, .ref q_13), (3, .ref q_9), (2, .ref q_5), (1, .ref q_1), (16, .int 0), (17, .int 0)]) (by decide) rfl
  generalize fs_24.set 7 (.ref q_25) = fs_28 at hP hD hF_27
  have hP : va_P (dC, dI) vwCl [(h0, .inr (8, fs_28)), (q_25, .inl (cI, 2100, .inl (fun _ => 0)))] H := hP
  have hD : va_D A [(h0, .inr (8, fs_28)), (q_25, .inl (cI, 2100, .inl (fun _ => 0)))] := hD
  have hP := hP.sub (ws' := [(h0, .inr (8, fs_28))]) [0] rfl
  have hD := hD.sub (ws' := [(h0, .inr (8, fs_28))]) [0] (by decide) rfl
  refine lv_aload_n hx hb dX8_init_67 rfl (lv_at hl 0 rfl) ?_
  refine lv_sipush (v := 2100) hx hb dX8_init_68 (by decide) ?_
  refine va_newa (atype := .int) (a0 := (2100, .inl (fun _ => 0))) hx hb (hts (.arrayClass .int) (List.mem_of_getElem? (i := 4) rfl)) (ty := .int) rfl hK hP hD hS hA (na_int 2100) (by decide) (by decide +kernel) (show 2100 * 4 ≤ 536870912 by decide) (show 7 + 1 ≤ 15 by decide) (show 14700 + 2100 ≤ 29460 by decide) dX8_init_71 (fun q_29 cA_30 H hK hP hD hS => ?_)
  have hK : va_K (dC, dI) vwCl [(cI, .int), (cA_30, .int)] s := hK
  obtain rfl := kU_int hK 0 1 rfl rfl
  have hK := hK.sub (tys' := [(cI, .int)]) [0] rfl
  have hP : va_P (dC, dI) vwCl [(h0, .inr (8, fs_28)), (q_29, .inl (cI, 2100, .inl (fun _ => 0)))] H := hP
  have hD : va_D A [(h0, .inr (8, fs_28)), (q_29, .inl (cI, 2100, .inl (fun _ => 0)))] := hD
  refine W.widen (k := 8) (n := 16800) (by decide) (by decide) ?_
  refine va_putF (D := (dC, dI)) (ci := 8) (v := .ref q_29) (ty := (.array .int)) (C := RX8) (T := TX8) (N := 18) hx hb hts hin_X8 tyX8 tyX8_ok nmX8 hown hK hP hD hS 0 rfl rfl 8 (by decide) (hts (.fieldLink RX8 33 "NeedHouse$Told" "maker" "[I") (List.mem_of_getElem? (i := 12) rfl)) (fun _ h9 => h9) rfl hin rfl (by decide +kernel) rfl rfl (by rw [hF_27.1]; decide) dX8_init_73 (fun H locs hP hD hS => ?_)
  have hP : va_P (dC, dI) vwCl [(h0, .inr (8, (fs_28.set 8 (.ref q_29)))), (q_29, .inl (cI, 2100, .inl (fun _ => 0)))] H := hP
  have hD : va_D A [(h0, .inr (8, (fs_28.set 8 (.ref q_29)))), (q_29, .inl (cI, 2100, .inl (fun _ => 0)))] := hD
  have hF_31 := hF_27.set 8 (.ref q_29) (l' := [(8, .ref q_29), (7, .ref q_25), (6, .ref q_21), (5, .ref q_17), (4, .ref q_13), (3, .ref q_9), (2, .ref q_5), (1, .ref q_1), (16, .int 0), (17, .int 0)]) (by decide) rfl
  generalize fs_28.set 8 (.ref q_29) = fs_32 at hP hD hF_31
  have hP : va_P (dC, dI) vwCl [(h0, .inr (8, fs_32)), (q_29, .inl (cI, 2100, .inl (fun _ => 0)))] H := hP
  have hD : va_D A [(h0, .inr (8, fs_32)), (q_29, .inl (cI, 2100, .inl (fun _ => 0)))] := hD
  have hP := hP.sub (ws' := [(h0, .inr (8, fs_32))]) [0] rfl
  have hD := hD.sub (ws' := [(h0, .inr (8, fs_32))]) [0] (by decide) rfl
  refine lv_aload_n hx hb dX8_init_76 rfl (lv_at hl 0 rfl) ?_
  refine lv_sipush (v := 2100) hx hb dX8_init_77 (by decide) ?_
  refine va_newa (atype := .int) (a0 := (2100, .inl (fun _ => 0))) hx hb (hts (.arrayClass .int) (List.mem_of_getElem? (i := 4) rfl)) (ty := .int) rfl hK hP hD hS hA (na_int 2100) (by decide) (by decide +kernel) (show 2100 * 4 ≤ 536870912 by decide) (show 8 + 1 ≤ 15 by decide) (show 16800 + 2100 ≤ 29460 by decide) dX8_init_80 (fun q_33 cA_34 H hK hP hD hS => ?_)
  have hK : va_K (dC, dI) vwCl [(cI, .int), (cA_34, .int)] s := hK
  obtain rfl := kU_int hK 0 1 rfl rfl
  have hK := hK.sub (tys' := [(cI, .int)]) [0] rfl
  have hP : va_P (dC, dI) vwCl [(h0, .inr (8, fs_32)), (q_33, .inl (cI, 2100, .inl (fun _ => 0)))] H := hP
  have hD : va_D A [(h0, .inr (8, fs_32)), (q_33, .inl (cI, 2100, .inl (fun _ => 0)))] := hD
  refine W.widen (k := 9) (n := 18900) (by decide) (by decide) ?_
  refine va_putF (D := (dC, dI)) (ci := 8) (v := .ref q_33) (ty := (.array .int)) (C := RX8) (T := TX8) (N := 18) hx hb hts hin_X8 tyX8 tyX8_ok nmX8 hown hK hP hD hS 0 rfl rfl 9 (by decide) (hts (.fieldLink RX8 36 "NeedHouse$Told" "parent" "[I") (List.mem_of_getElem? (i := 13) rfl)) (fun _ h9 => h9) rfl hin rfl (by decide +kernel) rfl rfl (by rw [hF_31.1]; decide) dX8_init_82 (fun H locs hP hD hS => ?_)
  have hP : va_P (dC, dI) vwCl [(h0, .inr (8, (fs_32.set 9 (.ref q_33)))), (q_33, .inl (cI, 2100, .inl (fun _ => 0)))] H := hP
  have hD : va_D A [(h0, .inr (8, (fs_32.set 9 (.ref q_33)))), (q_33, .inl (cI, 2100, .inl (fun _ => 0)))] := hD
  have hF_35 := hF_31.set 9 (.ref q_33) (l' := [(9, .ref q_33), (8, .ref q_29), (7, .ref q_25), (6, .ref q_21), (5, .ref q_17), (4, .ref q_13), (3, .ref q_9), (2, .ref q_5), (1, .ref q_1), (16, .int 0), (17, .int 0)]) (by decide) rfl
  generalize fs_32.set 9 (.ref q_33) = fs_36 at hP hD hF_35
  have hP : va_P (dC, dI) vwCl [(h0, .inr (8, fs_36)), (q_33, .inl (cI, 2100, .inl (fun _ => 0)))] H := hP
  have hD : va_D A [(h0, .inr (8, fs_36)), (q_33, .inl (cI, 2100, .inl (fun _ => 0)))] := hD
  refine lv_aload_n hx hb dX8_init_85 rfl (lv_at hl 0 rfl) ?_
  refine lv_sipush (v := 2100) hx hb dX8_init_86 (by decide) ?_
  refine va_newa (atype := .int) (a0 := (2100, .inl (fun _ => 0))) hx hb (hts (.arrayClass .int) (List.mem_of_getElem? (i := 4) rfl)) (ty := .int) rfl hK hP hD hS hA (na_int 2100) (by decide) (by decide +kernel) (show 2100 * 4 ≤ 536870912 by decide) (show 9 + 1 ≤ 15 by decide) (show 18900 + 2100 ≤ 29460 by decide) dX8_init_89 (fun q_37 cA_38 H hK hP hD hS => ?_)
  have hK : va_K (dC, dI) vwCl [(cI, .int), (cA_38, .int)] s := hK
  obtain rfl := kU_int hK 0 1 rfl rfl
  have hK := hK.sub (tys' := [(cI, .int)]) [0] rfl
  have hP : va_P (dC, dI) vwCl [(h0, .inr (8, fs_36)), (q_33, .inl (cI, 2100, .inl (fun _ => 0))), (q_37, .inl (cI, 2100, .inl (fun _ => 0)))] H := hP
  have hD : va_D A [(h0, .inr (8, fs_36)), (q_33, .inl (cI, 2100, .inl (fun _ => 0))), (q_37, .inl (cI, 2100, .inl (fun _ => 0)))] := hD
  refine W.widen (k := 10) (n := 21000) (by decide) (by decide) ?_
  refine va_putF (D := (dC, dI)) (ci := 8) (v := .ref q_37) (ty := (.array .int)) (C := RX8) (T := TX8) (N := 18) hx hb hts hin_X8 tyX8 tyX8_ok nmX8 hown hK hP hD hS 0 rfl rfl 10 (by decide) (hts (.fieldLink RX8 39 "NeedHouse$Told" "owner" "[I") (List.mem_of_getElem? (i := 14) rfl)) (fun _ h9 => h9) rfl hin rfl (by decide +kernel) rfl rfl (by rw [hF_35.1]; decide) dX8_init_91 (fun H locs hP hD hS => ?_)
  have hP : va_P (dC, dI) vwCl [(h0, .inr (8, (fs_36.set 10 (.ref q_37)))), (q_33, .inl (cI, 2100, .inl (fun _ => 0))), (q_37, .inl (cI, 2100, .inl (fun _ => 0)))] H := hP
  have hD : va_D A [(h0, .inr (8, (fs_36.set 10 (.ref q_37)))), (q_33, .inl (cI, 2100, .inl (fun _ => 0))), (q_37, .inl (cI, 2100, .inl (fun _ => 0)))] := hD
  have hF_39 := hF_35.set 10 (.ref q_37) (l' := [(10, .ref q_37), (9, .ref q_33), (8, .ref q_29), (7, .ref q_25), (6, .ref q_21), (5, .ref q_17), (4, .ref q_13), (3, .ref q_9), (2, .ref q_5), (1, .ref q_1), (16, .int 0), (17, .int 0)]) (by decide) rfl
  generalize fs_36.set 10 (.ref q_37) = fs_40 at hP hD hF_39
  have hP : va_P (dC, dI) vwCl [(h0, .inr (8, fs_40)), (q_33, .inl (cI, 2100, .inl (fun _ => 0))), (q_37, .inl (cI, 2100, .inl (fun _ => 0)))] H := hP
  have hD : va_D A [(h0, .inr (8, fs_40)), (q_33, .inl (cI, 2100, .inl (fun _ => 0))), (q_37, .inl (cI, 2100, .inl (fun _ => 0)))] := hD
  refine lv_aload_n hx hb dX8_init_94 rfl (lv_at hl 0 rfl) ?_
  refine lv_sipush (v := 2100) hx hb dX8_init_95 (by decide) ?_
  refine va_newa (atype := .int) (a0 := (2100, .inl (fun _ => 0))) hx hb (hts (.arrayClass .int) (List.mem_of_getElem? (i := 4) rfl)) (ty := .int) rfl hK hP hD hS hA (na_int 2100) (by decide) (by decide +kernel) (show 2100 * 4 ≤ 536870912 by decide) (show 10 + 1 ≤ 15 by decide) (show 21000 + 2100 ≤ 29460 by decide) dX8_init_98 (fun q_41 cA_42 H hK hP hD hS => ?_)
  have hK : va_K (dC, dI) vwCl [(cI, .int), (cA_42, .int)] s := hK
  obtain rfl := kU_int hK 0 1 rfl rfl
  have hK := hK.sub (tys' := [(cI, .int)]) [0] rfl
  have hP : va_P (dC, dI) vwCl [(h0, .inr (8, fs_40)), (q_33, .inl (cI, 2100, .inl (fun _ => 0))), (q_37, .inl (cI, 2100, .inl (fun _ => 0))), (q_41, .inl (cI, 2100, .inl (fun _ => 0)))] H := hP
  have hD : va_D A [(h0, .inr (8, fs_40)), (q_33, .inl (cI, 2100, .inl (fun _ => 0))), (q_37, .inl (cI, 2100, .inl (fun _ => 0))), (q_41, .inl (cI, 2100, .inl (fun _ => 0)))] := hD
  refine W.widen (k := 11) (n := 23100) (by decide) (by decide) ?_
  refine va_putF (D := (dC, dI)) (ci := 8) (v := .ref q_41) (ty := (.array .int)) (C := RX8) (T := TX8) (N := 18) hx hb hts hin_X8 tyX8 tyX8_ok nmX8 hown hK hP hD hS 0 rfl rfl 11 (by decide) (hts (.fieldLink RX8 42 "NeedHouse$Told" "first" "[I") (List.mem_of_getElem? (i := 15) rfl)) (fun _ h9 => h9) rfl hin rfl (by decide +kernel) rfl rfl (by rw [hF_39.1]; decide) dX8_init_100 (fun H locs hP hD hS => ?_)
  have hP : va_P (dC, dI) vwCl [(h0, .inr (8, (fs_40.set 11 (.ref q_41)))), (q_33, .inl (cI, 2100, .inl (fun _ => 0))), (q_37, .inl (cI, 2100, .inl (fun _ => 0))), (q_41, .inl (cI, 2100, .inl (fun _ => 0)))] H := hP
  have hD : va_D A [(h0, .inr (8, (fs_40.set 11 (.ref q_41)))), (q_33, .inl (cI, 2100, .inl (fun _ => 0))), (q_37, .inl (cI, 2100, .inl (fun _ => 0))), (q_41, .inl (cI, 2100, .inl (fun _ => 0)))] := hD
  have hF_43 := hF_39.set 11 (.ref q_41) (l' := [(11, .ref q_41), (10, .ref q_37), (9, .ref q_33), (8, .ref q_29), (7, .ref q_25), (6, .ref q_21), (5, .ref q_17), (4, .ref q_13), (3, .ref q_9), (2, .ref q_5), (1, .ref q_1), (16, .int 0), (17, .int 0)]) (by decide) rfl
  generalize fs_40.set 11 (.ref q_41) = fs_44 at hP hD hF_43
  have hP : va_P (dC, dI) vwCl [(h0, .inr (8, fs_44)), (q_33, .inl (cI, 2100, .inl (fun _ => 0))), (q_37, .inl (cI, 2100, .inl (fun _ => 0))), (q_41, .inl (cI, 2100, .inl (fun _ => 0)))] H := hP
  have hD : va_D A [(h0, .inr (8, fs_44)), (q_33, .inl (cI, 2100, .inl (fun _ => 0))), (q_37, .inl (cI, 2100, .inl (fun _ => 0))), (q_41, .inl (cI, 2100, .inl (fun _ => 0)))] := hD
  refine lv_aload_n hx hb dX8_init_103 rfl (lv_at hl 0 rfl) ?_
  refine lv_sipush (v := 2100) hx hb dX8_init_104 (by decide) ?_
  refine va_newa (atype := .int) (a0 := (2100, .inl (fun _ => 0))) hx hb (hts (.arrayClass .int) (List.mem_of_getElem? (i := 4) rfl)) (ty := .int) rfl hK hP hD hS hA (na_int 2100) (by decide) (by decide +kernel) (show 2100 * 4 ≤ 536870912 by decide) (show 11 + 1 ≤ 15 by decide) (show 23100 + 2100 ≤ 29460 by decide) dX8_init_107 (fun q_45 cA_46 H hK hP hD hS => ?_)
  have hK : va_K (dC, dI) vwCl [(cI, .int), (cA_46, .int)] s := hK
  obtain rfl := kU_int hK 0 1 rfl rfl
  have hK := hK.sub (tys' := [(cI, .int)]) [0] rfl
  have hP : va_P (dC, dI) vwCl [(h0, .inr (8, fs_44)), (q_33, .inl (cI, 2100, .inl (fun _ => 0))), (q_37, .inl (cI, 2100, .inl (fun _ => 0))), (q_41, .inl (cI, 2100, .inl (fun _ => 0))), (q_45, .inl (cI, 2100, .inl (fun _ => 0)))] H := hP
  have hD : va_D A [(h0, .inr (8, fs_44)), (q_33, .inl (cI, 2100, .inl (fun _ => 0))), (q_37, .inl (cI, 2100, .inl (fun _ => 0))), (q_41, .inl (cI, 2100, .inl (fun _ => 0))), (q_45, .inl (cI, 2100, .inl (fun _ => 0)))] := hD
  refine W.widen (k := 12) (n := 25200) (by decide) (by decide) ?_
  refine va_putF (D := (dC, dI)) (ci := 8) (v := .ref q_45) (ty := (.array .int)) (C := RX8) (T := TX8) (N := 18) hx hb hts hin_X8 tyX8 tyX8_ok nmX8 hown hK hP hD hS 0 rfl rfl 12 (by decide) (hts (.fieldLink RX8 45 "NeedHouse$Told" "last" "[I") (List.mem_of_getElem? (i := 16) rfl)) (fun _ h9 => h9) rfl hin rfl (by decide +kernel) rfl rfl (by rw [hF_43.1]; decide) dX8_init_109 (fun H locs hP hD hS => ?_)
  have hP : va_P (dC, dI) vwCl [(h0, .inr (8, (fs_44.set 12 (.ref q_45)))), (q_33, .inl (cI, 2100, .inl (fun _ => 0))), (q_37, .inl (cI, 2100, .inl (fun _ => 0))), (q_41, .inl (cI, 2100, .inl (fun _ => 0))), (q_45, .inl (cI, 2100, .inl (fun _ => 0)))] H := hP
  have hD : va_D A [(h0, .inr (8, (fs_44.set 12 (.ref q_45)))), (q_33, .inl (cI, 2100, .inl (fun _ => 0))), (q_37, .inl (cI, 2100, .inl (fun _ => 0))), (q_41, .inl (cI, 2100, .inl (fun _ => 0))), (q_45, .inl (cI, 2100, .inl (fun _ => 0)))] := hD
  have hF_47 := hF_43.set 12 (.ref q_45) (l' := [(12, .ref q_45), (11, .ref q_41), (10, .ref q_37), (9, .ref q_33), (8, .ref q_29), (7, .ref q_25), (6, .ref q_21), (5, .ref q_17), (4, .ref q_13), (3, .ref q_9), (2, .ref q_5), (1, .ref q_1), (16, .int 0), (17, .int 0)]) (by decide) rfl
  generalize fs_44.set 12 (.ref q_45) = fs_48 at hP hD hF_47
  have hP : va_P (dC, dI) vwCl [(h0, .inr (8, fs_48)), (q_33, .inl (cI, 2100, .inl (fun _ => 0))), (q_37, .inl (cI, 2100, .inl (fun _ => 0))), (q_41, .inl (cI, 2100, .inl (fun _ => 0))), (q_45, .inl (cI, 2100, .inl (fun _ => 0)))] H := hP
  have hD : va_D A [(h0, .inr (8, fs_48)), (q_33, .inl (cI, 2100, .inl (fun _ => 0))), (q_37, .inl (cI, 2100, .inl (fun _ => 0))), (q_41, .inl (cI, 2100, .inl (fun _ => 0))), (q_45, .inl (cI, 2100, .inl (fun _ => 0)))] := hD
  refine lv_aload_n hx hb dX8_init_112 rfl (lv_at hl 0 rfl) ?_
  refine lv_sipush (v := 2100) hx hb dX8_init_113 (by decide) ?_
  refine va_newa (atype := .int) (a0 := (2100, .inl (fun _ => 0))) hx hb (hts (.arrayClass .int) (List.mem_of_getElem? (i := 4) rfl)) (ty := .int) rfl hK hP hD hS hA (na_int 2100) (by decide) (by decide +kernel) (show 2100 * 4 ≤ 536870912 by decide) (show 12 + 1 ≤ 15 by decide) (show 25200 + 2100 ≤ 29460 by decide) dX8_init_116 (fun q_49 cA_50 H hK hP hD hS => ?_)
  have hK : va_K (dC, dI) vwCl [(cI, .int), (cA_50, .int)] s := hK
  obtain rfl := kU_int hK 0 1 rfl rfl
  have hK := hK.sub (tys' := [(cI, .int)]) [0] rfl
  have hP : va_P (dC, dI) vwCl [(h0, .inr (8, fs_48)), (q_33, .inl (cI, 2100, .inl (fun _ => 0))), (q_37, .inl (cI, 2100, .inl (fun _ => 0))), (q_41, .inl (cI, 2100, .inl (fun _ => 0))), (q_45, .inl (cI, 2100, .inl (fun _ => 0))), (q_49, .inl (cI, 2100, .inl (fun _ => 0)))] H := hP
  have hD : va_D A [(h0, .inr (8, fs_48)), (q_33, .inl (cI, 2100, .inl (fun _ => 0))), (q_37, .inl (cI, 2100, .inl (fun _ => 0))), (q_41, .inl (cI, 2100, .inl (fun _ => 0))), (q_45, .inl (cI, 2100, .inl (fun _ => 0))), (q_49, .inl (cI, 2100, .inl (fun _ => 0)))] := hD
  refine W.widen (k := 13) (n := 27300) (by decide) (by decide) ?_
  refine va_putF (D := (dC, dI)) (ci := 8) (v := .ref q_49) (ty := (.array .int)) (C := RX8) (T := TX8) (N := 18) hx hb hts hin_X8 tyX8 tyX8_ok nmX8 hown hK hP hD hS 0 rfl rfl 13 (by decide) (hts (.fieldLink RX8 48 "NeedHouse$Told" "width" "[I") (List.mem_of_getElem? (i := 17) rfl)) (fun _ h9 => h9) rfl hin rfl (by decide +kernel) rfl rfl (by rw [hF_47.1]; decide) dX8_init_118 (fun H locs hP hD hS => ?_)
  have hP : va_P (dC, dI) vwCl [(h0, .inr (8, (fs_48.set 13 (.ref q_49)))), (q_33, .inl (cI, 2100, .inl (fun _ => 0))), (q_37, .inl (cI, 2100, .inl (fun _ => 0))), (q_41, .inl (cI, 2100, .inl (fun _ => 0))), (q_45, .inl (cI, 2100, .inl (fun _ => 0))), (q_49, .inl (cI, 2100, .inl (fun _ => 0)))] H := hP
  have hD : va_D A [(h0, .inr (8, (fs_48.set 13 (.ref q_49)))), (q_33, .inl (cI, 2100, .inl (fun _ => 0))), (q_37, .inl (cI, 2100, .inl (fun _ => 0))), (q_41, .inl (cI, 2100, .inl (fun _ => 0))), (q_45, .inl (cI, 2100, .inl (fun _ => 0))), (q_49, .inl (cI, 2100, .inl (fun _ => 0)))] := hD
  have hF_51 := hF_47.set 13 (.ref q_49) (l' := [(13, .ref q_49), (12, .ref q_45), (11, .ref q_41), (10, .ref q_37), (9, .ref q_33), (8, .ref q_29), (7, .ref q_25), (6, .ref q_21), (5, .ref q_17), (4, .ref q_13), (3, .ref q_9), (2, .ref q_5), (1, .ref q_1), (16, .int 0), (17, .int 0)]) (by decide) rfl
  generalize fs_48.set 13 (.ref q_49) = fs_52 at hP hD hF_51
  have hP : va_P (dC, dI) vwCl [(h0, .inr (8, fs_52)), (q_33, .inl (cI, 2100, .inl (fun _ => 0))), (q_37, .inl (cI, 2100, .inl (fun _ => 0))), (q_41, .inl (cI, 2100, .inl (fun _ => 0))), (q_45, .inl (cI, 2100, .inl (fun _ => 0))), (q_49, .inl (cI, 2100, .inl (fun _ => 0)))] H := hP
  have hD : va_D A [(h0, .inr (8, fs_52)), (q_33, .inl (cI, 2100, .inl (fun _ => 0))), (q_37, .inl (cI, 2100, .inl (fun _ => 0))), (q_41, .inl (cI, 2100, .inl (fun _ => 0))), (q_45, .inl (cI, 2100, .inl (fun _ => 0))), (q_49, .inl (cI, 2100, .inl (fun _ => 0)))] := hD
  refine lv_aload_n hx hb dX8_init_121 rfl (lv_at hl 0 rfl) ?_
  refine lv_bipush (v := 60) hx hb dX8_init_122 (by decide) ?_
  refine va_newa (atype := .int) (a0 := (60, .inl (fun _ => 0))) hx hb (hts (.arrayClass .int) (List.mem_of_getElem? (i := 4) rfl)) (ty := .int) rfl hK hP hD hS hA (na_int 60) (by decide) (by decide +kernel) (show 60 * 4 ≤ 536870912 by decide) (show 13 + 1 ≤ 15 by decide) (show 27300 + 60 ≤ 29460 by decide) dX8_init_124 (fun q_53 cA_54 H hK hP hD hS => ?_)
  have hK : va_K (dC, dI) vwCl [(cI, .int), (cA_54, .int)] s := hK
  obtain rfl := kU_int hK 0 1 rfl rfl
  have hK := hK.sub (tys' := [(cI, .int)]) [0] rfl
  have hP : va_P (dC, dI) vwCl [(h0, .inr (8, fs_52)), (q_33, .inl (cI, 2100, .inl (fun _ => 0))), (q_37, .inl (cI, 2100, .inl (fun _ => 0))), (q_41, .inl (cI, 2100, .inl (fun _ => 0))), (q_45, .inl (cI, 2100, .inl (fun _ => 0))), (q_49, .inl (cI, 2100, .inl (fun _ => 0))), (q_53, .inl (cI, 60, .inl (fun _ => 0)))] H := hP
  have hD : va_D A [(h0, .inr (8, fs_52)), (q_33, .inl (cI, 2100, .inl (fun _ => 0))), (q_37, .inl (cI, 2100, .inl (fun _ => 0))), (q_41, .inl (cI, 2100, .inl (fun _ => 0))), (q_45, .inl (cI, 2100, .inl (fun _ => 0))), (q_49, .inl (cI, 2100, .inl (fun _ => 0))), (q_53, .inl (cI, 60, .inl (fun _ => 0)))] := hD
  refine W.widen (k := 14) (n := 27360) (by decide) (by decide) ?_
  refine va_putF (D := (dC, dI)) (ci := 8) (v := .ref q_53) (ty := (.array .int)) (C := RX8) (T := TX8) (N := 18) hx hb hts hin_X8 tyX8 tyX8_ok nmX8 hown hK hP hD hS 0 rfl rfl 14 (by decide) (hts (.fieldLink RX8 51 "NeedHouse$Told" "globals" "[I") (List.mem_of_getElem? (i := 18) rfl)) (fun _ h9 => h9) rfl hin rfl (by decide +kernel) rfl rfl (by rw [hF_51.1]; decide) dX8_init_126 (fun H locs hP hD hS => ?_)
  have hP : va_P (dC, dI) vwCl [(h0, .inr (8, (fs_52.set 14 (.ref q_53)))), (q_33, .inl (cI, 2100, .inl (fun _ => 0))), (q_37, .inl (cI, 2100, .inl (fun _ => 0))), (q_41, .inl (cI, 2100, .inl (fun _ => 0))), (q_45, .inl (cI, 2100, .inl (fun _ => 0))), (q_49, .inl (cI, 2100, .inl (fun _ => 0))), (q_53, .inl (cI, 60, .inl (fun _ => 0)))] H := hP
  have hD : va_D A [(h0, .inr (8, (fs_52.set 14 (.ref q_53)))), (q_33, .inl (cI, 2100, .inl (fun _ => 0))), (q_37, .inl (cI, 2100, .inl (fun _ => 0))), (q_41, .inl (cI, 2100, .inl (fun _ => 0))), (q_45, .inl (cI, 2100, .inl (fun _ => 0))), (q_49, .inl (cI, 2100, .inl (fun _ => 0))), (q_53, .inl (cI, 60, .inl (fun _ => 0)))] := hD
  have hF_55 := hF_51.set 14 (.ref q_53) (l' := [(14, .ref q_53), (13, .ref q_49), (12, .ref q_45), (11, .ref q_41), (10, .ref q_37), (9, .ref q_33), (8, .ref q_29), (7, .ref q_25), (6, .ref q_21), (5, .ref q_17), (4, .ref q_13), (3, .ref q_9), (2, .ref q_5), (1, .ref q_1), (16, .int 0), (17, .int 0)]) (by decide) rfl
  generalize fs_52.set 14 (.ref q_53) = fs_56 at hP hD hF_55
  have hP : va_P (dC, dI) vwCl [(h0, .inr (8, fs_56)), (q_33, .inl (cI, 2100, .inl (fun _ => 0))), (q_37, .inl (cI, 2100, .inl (fun _ => 0))), (q_41, .inl (cI, 2100, .inl (fun _ => 0))), (q_45, .inl (cI, 2100, .inl (fun _ => 0))), (q_49, .inl (cI, 2100, .inl (fun _ => 0))), (q_53, .inl (cI, 60, .inl (fun _ => 0)))] H := hP
  have hD : va_D A [(h0, .inr (8, fs_56)), (q_33, .inl (cI, 2100, .inl (fun _ => 0))), (q_37, .inl (cI, 2100, .inl (fun _ => 0))), (q_41, .inl (cI, 2100, .inl (fun _ => 0))), (q_45, .inl (cI, 2100, .inl (fun _ => 0))), (q_49, .inl (cI, 2100, .inl (fun _ => 0))), (q_53, .inl (cI, 60, .inl (fun _ => 0)))] := hD
  have hP := hP.sub (ws' := [(h0, .inr (8, fs_56)), (q_33, .inl (cI, 2100, .inl (fun _ => 0))), (q_37, .inl (cI, 2100, .inl (fun _ => 0))), (q_41, .inl (cI, 2100, .inl (fun _ => 0))), (q_45, .inl (cI, 2100, .inl (fun _ => 0))), (q_49, .inl (cI, 2100, .inl (fun _ => 0)))]) [0, 1, 2, 3, 4, 5] rfl
  have hD := hD.sub (ws' := [(h0, .inr (8, fs_56)), (q_33, .inl (cI, 2100, .inl (fun _ => 0))), (q_37, .inl (cI, 2100, .inl (fun _ => 0))), (q_41, .inl (cI, 2100, .inl (fun _ => 0))), (q_45, .inl (cI, 2100, .inl (fun _ => 0))), (q_49, .inl (cI, 2100, .inl (fun _ => 0)))]) [0, 1, 2, 3, 4, 5] (by decide) rfl
  refine lv_aload_n hx hb dX8_init_129 rfl (lv_at hl 0 rfl) ?_
  refine lv_sipush (v := 2100) hx hb dX8_init_130 (by decide) ?_
  refine va_newa (atype := .int) (a0 := (2100, .inl (fun _ => 0))) hx hb (hts (.arrayClass .int) (List.mem_of_getElem? (i := 4) rfl)) (ty := .int) rfl hK hP hD hS hA (na_int 2100) (by decide) (by decide +kernel) (show 2100 * 4 ≤ 536870912 by decide) (show 14 + 1 ≤ 15 by decide) (show 27360 + 2100 ≤ 29460 by decide) dX8_init_133 (fun q_57 cA_58 H hK hP hD hS => ?_)
  have hK : va_K (dC, dI) vwCl [(cI, .int), (cA_58, .int)] s := hK
  obtain rfl := kU_int hK 0 1 rfl rfl
  have hK := hK.sub (tys' := [(cI, .int)]) [0] rfl
  have hP : va_P (dC, dI) vwCl [(h0, .inr (8, fs_56)), (q_33, .inl (cI, 2100, .inl (fun _ => 0))), (q_37, .inl (cI, 2100, .inl (fun _ => 0))), (q_41, .inl (cI, 2100, .inl (fun _ => 0))), (q_45, .inl (cI, 2100, .inl (fun _ => 0))), (q_49, .inl (cI, 2100, .inl (fun _ => 0))), (q_57, .inl (cI, 2100, .inl (fun _ => 0)))] H := hP
  have hD : va_D A [(h0, .inr (8, fs_56)), (q_33, .inl (cI, 2100, .inl (fun _ => 0))), (q_37, .inl (cI, 2100, .inl (fun _ => 0))), (q_41, .inl (cI, 2100, .inl (fun _ => 0))), (q_45, .inl (cI, 2100, .inl (fun _ => 0))), (q_49, .inl (cI, 2100, .inl (fun _ => 0))), (q_57, .inl (cI, 2100, .inl (fun _ => 0)))] := hD
  refine W.widen (k := 15) (n := 29460) (by decide) (by decide) ?_
  refine va_putF (D := (dC, dI)) (ci := 8) (v := .ref q_57) (ty := (.array .int)) (C := RX8) (T := TX8) (N := 18) hx hb hts hin_X8 tyX8 tyX8_ok nmX8 hown hK hP hD hS 0 rfl rfl 15 (by decide) (hts (.fieldLink RX8 56 "NeedHouse$Told" "mark" "[I") (List.mem_of_getElem? (i := 19) rfl)) (fun _ h9 => h9) rfl hin rfl (by decide +kernel) rfl rfl (by rw [hF_55.1]; decide) dX8_init_135 (fun H locs hP hD hS => ?_)
  have hP : va_P (dC, dI) vwCl [(h0, .inr (8, (fs_56.set 15 (.ref q_57)))), (q_33, .inl (cI, 2100, .inl (fun _ => 0))), (q_37, .inl (cI, 2100, .inl (fun _ => 0))), (q_41, .inl (cI, 2100, .inl (fun _ => 0))), (q_45, .inl (cI, 2100, .inl (fun _ => 0))), (q_49, .inl (cI, 2100, .inl (fun _ => 0))), (q_57, .inl (cI, 2100, .inl (fun _ => 0)))] H := hP
  have hD : va_D A [(h0, .inr (8, (fs_56.set 15 (.ref q_57)))), (q_33, .inl (cI, 2100, .inl (fun _ => 0))), (q_37, .inl (cI, 2100, .inl (fun _ => 0))), (q_41, .inl (cI, 2100, .inl (fun _ => 0))), (q_45, .inl (cI, 2100, .inl (fun _ => 0))), (q_49, .inl (cI, 2100, .inl (fun _ => 0))), (q_57, .inl (cI, 2100, .inl (fun _ => 0)))] := hD
  have hF_59 := hF_55.set 15 (.ref q_57) (l' := [(15, .ref q_57), (14, .ref q_53), (13, .ref q_49), (12, .ref q_45), (11, .ref q_41), (10, .ref q_37), (9, .ref q_33), (8, .ref q_29), (7, .ref q_25), (6, .ref q_21), (5, .ref q_17), (4, .ref q_13), (3, .ref q_9), (2, .ref q_5), (1, .ref q_1), (16, .int 0), (17, .int 0)]) (by decide) rfl
  generalize fs_56.set 15 (.ref q_57) = fs_60 at hP hD hF_59
  have hP : va_P (dC, dI) vwCl [(h0, .inr (8, fs_60)), (q_33, .inl (cI, 2100, .inl (fun _ => 0))), (q_37, .inl (cI, 2100, .inl (fun _ => 0))), (q_41, .inl (cI, 2100, .inl (fun _ => 0))), (q_45, .inl (cI, 2100, .inl (fun _ => 0))), (q_49, .inl (cI, 2100, .inl (fun _ => 0))), (q_57, .inl (cI, 2100, .inl (fun _ => 0)))] H := hP
  have hD : va_D A [(h0, .inr (8, fs_60)), (q_33, .inl (cI, 2100, .inl (fun _ => 0))), (q_37, .inl (cI, 2100, .inl (fun _ => 0))), (q_41, .inl (cI, 2100, .inl (fun _ => 0))), (q_45, .inl (cI, 2100, .inl (fun _ => 0))), (q_49, .inl (cI, 2100, .inl (fun _ => 0))), (q_57, .inl (cI, 2100, .inl (fun _ => 0)))] := hD
  refine lv_aload_n hx hb dX8_init_138 rfl (lv_at hl 0 rfl) ?_
  refine lv_aload_n hx hb dX8_init_139 rfl (lv_at hl 1 rfl) ?_
  refine va_putF (D := (dC, dI)) (ci := 8) (v := .ref p0) (ty := (.object "NeedHouse$Lexemes")) (C := RX8) (T := TX8) (N := 18) hx hb hts hin_X8 tyX8 tyX8_ok nmX8 hown hK hP hD hS 0 rfl rfl 0 (by decide) (hts (.fieldLink RX8 59 "NeedHouse$Told" "lexemes" "LNeedHouse$Lexemes;") (List.mem_of_getElem? (i := 20) rfl)) (fun _ h9 => h9) rfl hin rfl (by decide +kernel) rfl rfl (by rw [hF_59.1]; decide) dX8_init_140 (fun H locs hP hD hS => ?_)
  have hP : va_P (dC, dI) vwCl [(h0, .inr (8, (fs_60.set 0 (.ref p0)))), (q_33, .inl (cI, 2100, .inl (fun _ => 0))), (q_37, .inl (cI, 2100, .inl (fun _ => 0))), (q_41, .inl (cI, 2100, .inl (fun _ => 0))), (q_45, .inl (cI, 2100, .inl (fun _ => 0))), (q_49, .inl (cI, 2100, .inl (fun _ => 0))), (q_57, .inl (cI, 2100, .inl (fun _ => 0)))] H := hP
  have hD : va_D A [(h0, .inr (8, (fs_60.set 0 (.ref p0)))), (q_33, .inl (cI, 2100, .inl (fun _ => 0))), (q_37, .inl (cI, 2100, .inl (fun _ => 0))), (q_41, .inl (cI, 2100, .inl (fun _ => 0))), (q_45, .inl (cI, 2100, .inl (fun _ => 0))), (q_49, .inl (cI, 2100, .inl (fun _ => 0))), (q_57, .inl (cI, 2100, .inl (fun _ => 0)))] := hD
  have hF_61 := hF_59.set 0 (.ref p0) (l' := [(0, .ref p0), (15, .ref q_57), (14, .ref q_53), (13, .ref q_49), (12, .ref q_45), (11, .ref q_41), (10, .ref q_37), (9, .ref q_33), (8, .ref q_29), (7, .ref q_25), (6, .ref q_21), (5, .ref q_17), (4, .ref q_13), (3, .ref q_9), (2, .ref q_5), (1, .ref q_1), (16, .int 0), (17, .int 0)]) (by decide) rfl
  generalize fs_60.set 0 (.ref p0) = fs_62 at hP hD hF_61
  have hP : va_P (dC, dI) vwCl [(h0, .inr (8, fs_62)), (q_33, .inl (cI, 2100, .inl (fun _ => 0))), (q_37, .inl (cI, 2100, .inl (fun _ => 0))), (q_41, .inl (cI, 2100, .inl (fun _ => 0))), (q_45, .inl (cI, 2100, .inl (fun _ => 0))), (q_49, .inl (cI, 2100, .inl (fun _ => 0))), (q_57, .inl (cI, 2100, .inl (fun _ => 0)))] H := hP
  have hD : va_D A [(h0, .inr (8, fs_62)), (q_33, .inl (cI, 2100, .inl (fun _ => 0))), (q_37, .inl (cI, 2100, .inl (fun _ => 0))), (q_41, .inl (cI, 2100, .inl (fun _ => 0))), (q_45, .inl (cI, 2100, .inl (fun _ => 0))), (q_49, .inl (cI, 2100, .inl (fun _ => 0))), (q_57, .inl (cI, 2100, .inl (fun _ => 0)))] := hD
  have hP9 := hP.sub (ws' := [(h0, .inr (8, fs_62)), (q_33, .inl (cI, 2100, .inl (fun _ => 0))), (q_37, .inl (cI, 2100, .inl (fun _ => 0))), (q_41, .inl (cI, 2100, .inl (fun _ => 0))), (q_45, .inl (cI, 2100, .inl (fun _ => 0))), (q_49, .inl (cI, 2100, .inl (fun _ => 0))), (q_57, .inl (cI, 2100, .inl (fun _ => 0)))]) [0, 1, 2, 3, 4, 5, 6] rfl
  have hD9 := hD.sub (ws' := [(h0, .inr (8, fs_62)), (q_33, .inl (cI, 2100, .inl (fun _ => 0))), (q_37, .inl (cI, 2100, .inl (fun _ => 0))), (q_41, .inl (cI, 2100, .inl (fun _ => 0))), (q_45, .inl (cI, 2100, .inl (fun _ => 0))), (q_49, .inl (cI, 2100, .inl (fun _ => 0))), (q_57, .inl (cI, 2100, .inl (fun _ => 0)))]) [0, 1, 2, 3, 4, 5, 6] (by decide) rfl
  have hK9 := hK.sub (tys' := [(cI, .int)]) [0] rfl
  exact W.vret hx hb hr (fun t ht hW => ⟨⟨((fs_62, q_33, q_37, q_41, q_45, q_49, q_57)), rfl, hF_61.sub [0, 7, 6, 5, 4, 3, 1, 16, 17] rfl, by rw [ht]; exact hP9, va_K.moved hW.alike hK9, hD9⟩, hS.F ht⟩) hS.2.2 dX8_init_143
def pw_c_X9_init : List Cond := .code yX9_init cX9_init 4 none :: ([.code objectInit ⟨#[0xb1]⟩ 1 none, .methodLink RX9 5 objectInit, .instanceMethod objectInit, .arrayClass .int, .fieldLink RX9 13 "NeedHouse$Tree" "kind" "[I", .fieldLink RX9 17 "NeedHouse$Tree" "first" "[I", .fieldLink RX9 20 "NeedHouse$Tree" "a" "[I", .fieldLink RX9 23 "NeedHouse$Tree" "b" "[I", .fieldLink RX9 26 "NeedHouse$Tree" "c" "[I", .fieldLink RX9 29 "NeedHouse$Tree" "part" "[I", .fieldLink RX9 32 "NeedHouse$Tree" "partOwner" "[I", .fieldLink RX9 35 "NeedHouse$Tree" "itemKind" "[I", .fieldLink RX9 38 "NeedHouse$Tree" "itemToken" "[I", .fieldLink RX9 41 "NeedHouse$Tree" "itemWant" "[I", .fieldLink RX9 44 "NeedHouse$Tree" "itemRow" "[I", .fieldLink RX9 47 "NeedHouse$Tree" "itemBody" "[I", .fieldLink RX9 50 "NeedHouse$Tree" "itemNext" "[I", .fieldLink RX9 53 "NeedHouse$Tree" "itemOwner" "[I", .fieldLink RX9 56 "NeedHouse$Tree" "lexemes" "LNeedHouse$Lexemes;", .fieldLink RX9 60 "NeedHouse$Tree" "told" "LNeedHouse$Told;", .fieldLink RX9 64 "NeedHouse$Tree" "datas" "LNeedHouse$Datas;"] ++ (wsX90 ++ []))
set_option maxHeartbeats 4000000 in
set_option maxRecDepth 100000 in
theorem c_X9_init (l : Launch) (dC : Nat → ClassId) (dI : Nat → Nat → Nat) (sz : Nat) (h0 : Nat) (fs : List Value) (cI : ClassId) (p0 : Nat) (p1 : Nat) (p2 : Nat) (hF : hasF fs 20 [(17, .int 0), (18, .int 0), (19, .int 0)]) : Met l yX9_init pw_c_X9_init ({ frames := 1, cells := 14, slots := 64036, locals := 12 }) (va_Pc [.ref h0, .ref p0, .ref p1, .ref p2] (fun U => U.heap.size = sz ∧ va_P (dC, dI) vwCl [(h0, .inr (9, fs))] U.heap ∧ va_K (dC, dI) vwCl [(cI, .int)] U ∧ va_D (fun _ => True) [(h0, .inr (9, fs))])) (va_Qv (fun (u : (List Value)) => hasF u 20 [(0, .ref p0), (1, .ref p1), (2, .ref p2), (17, .int 0), (18, .int 0), (19, .int 0)]) (fun (u : (List Value)) (t : State) => va_P (dC, dI) vwCl [(h0, .inr (9, u))] t.heap ∧ va_K (dC, dI) vwCl [(cI, .int)] t ∧ va_D (va_A [(h0, .inr (9, fs))] sz) [(h0, .inr (9, u))]) (va_A [(h0, .inr (9, fs))] sz)) 14 64036 (va_A [(h0, .inr (9, fs))] sz) := by
  refine Met.ofW (cc := cX9_init) (maxL := 4) (ret := none) (by decide) rfl ?_
  intro p e s m args below meth c s₁ B hml hv
  obtain ⟨rfl, hsz, hP, hK, hD0⟩ := hv
  have hx := B.exec
  have hb := B.bytes
  have hr := B.returns
  have hts := atoms_spec (ws := pw_c_X9_init) B.pre
  have hown : s.vm.findClass RX9 = some m.cls := findClass_of_methodNamed B.named
  have hlocks := B.notSynchronized
  have hin : meth.name = "<init>" := (name_of_methodNamed B.named B.method).1
  have hin_X9 : ∀ w ∈ u_ws RX9 TX9 20, w ∈ pw_c_X9_init := fun w h => List.mem_cons_of_mem _ (List.mem_append_right _ (List.mem_append_left _ h))
  subst hsz
  have hD := hD0.self (sz := s.heap.size)
  generalize hAe : va_A [(h0, .inr (9, fs))] s.heap.size = A at hD ⊢
  have hA : ∀ q : Nat, s.heap.size ≤ q → A q := fun q h => by rw [← hAe]; exact Or.inr h
  have hS : va_S A s.heap s.heap [] := va_S.rf
  have hP : va_P (dC, dI) vwCl [(h0, .inr (9, fs))] s.heap := hP
  have hl := lv_entry ([.ref h0, .ref p0, .ref p1, .ref p2]) (n := 4) (Nat.le_of_ble_eq_true rfl)
  rw [lg_entry_eq]
  generalize (lg_sl ([.ref h0, .ref p0, .ref p1, .ref p2]) ++ List.replicate (4 - (lg_sl ([.ref h0, .ref p0, .ref p1, .ref p2])).length) Slot.unset).toArray = ls at hl ⊢
  have hl : lv_has ls 4 [(0, .ref h0), (1, .ref p0), (2, .ref p1), (3, .ref p2)] := hl
  refine lv_aload_n hx hb dX9_init_0 rfl (lv_at hl 0 rfl) ?_
  refine W.objInit hx hb hown (hts (.methodLink RX9 5 objectInit) (List.mem_of_getElem? (i := 2) rfl)) (hts (.instanceMethod objectInit) (List.mem_of_getElem? (i := 3) rfl)) (hts _ (List.mem_of_getElem? (i := 1) rfl)) rfl (by rw [hml]; exact hl.1) rfl dX9_init_1 (Nat.le_of_ble_eq_true rfl) (Nat.le_of_ble_eq_true rfl) ?_
  refine W.eq (g2 := F0 m 4 ls []) rfl ?_
  refine lv_aload_n hx hb dX9_init_4 rfl (lv_at hl 0 rfl) ?_
  refine lv_sipush (v := 5600) hx hb dX9_init_5 (by decide) ?_
  refine va_newa (atype := .int) (a0 := (5600, .inl (fun _ => 0))) hx hb (hts (.arrayClass .int) (List.mem_of_getElem? (i := 4) rfl)) (ty := .int) rfl hK hP hD hS hA (na_int 5600) (by decide) (by decide +kernel) (show 5600 * 4 ≤ 536870912 by decide) (show 0 + 1 ≤ 14 by decide) (show 0 + 5600 ≤ 64036 by decide) dX9_init_8 (fun q_1 cA_2 H hK hP hD hS => ?_)
  have hK : va_K (dC, dI) vwCl [(cI, .int), (cA_2, .int)] s := hK
  obtain rfl := kU_int hK 0 1 rfl rfl
  have hK := hK.sub (tys' := [(cI, .int)]) [0] rfl
  have hP : va_P (dC, dI) vwCl [(h0, .inr (9, fs)), (q_1, .inl (cI, 5600, .inl (fun _ => 0)))] H := hP
  have hD : va_D A [(h0, .inr (9, fs)), (q_1, .inl (cI, 5600, .inl (fun _ => 0)))] := hD
  refine W.widen (k := 1) (n := 5600) (by decide) (by decide) ?_
  refine va_putF (D := (dC, dI)) (ci := 9) (v := .ref q_1) (ty := (.array .int)) (C := RX9) (T := TX9) (N := 20) hx hb hts hin_X9 tyX9 tyX9_ok nmX9 hown hK hP hD hS 0 rfl rfl 3 (by decide) (hts (.fieldLink RX9 13 "NeedHouse$Tree" "kind" "[I") (List.mem_of_getElem? (i := 5) rfl)) (fun _ h9 => h9) rfl hin rfl (by decide +kernel) rfl rfl (by rw [hF.1]; decide) dX9_init_10 (fun H locs hP hD hS => ?_)
  have hP : va_P (dC, dI) vwCl [(h0, .inr (9, (fs.set 3 (.ref q_1)))), (q_1, .inl (cI, 5600, .inl (fun _ => 0)))] H := hP
  have hD : va_D A [(h0, .inr (9, (fs.set 3 (.ref q_1)))), (q_1, .inl (cI, 5600, .inl (fun _ => 0)))] := hD
  have hF_3 := hF.set 3 (.ref q_1) (l' := [(3, .ref q_1), (17, .int 0), (18, .int 0), (19, .int 0)]) (by decide) rfl
  generalize fs.set 3 (.ref q_1) = fs_4 at hP hD hF_3
  have hP : va_P (dC, dI) vwCl [(h0, .inr (9, fs_4)), (q_1, .inl (cI, 5600, .inl (fun _ => 0)))] H := hP
  have hD : va_D A [(h0, .inr (9, fs_4)), (q_1, .inl (cI, 5600, .inl (fun _ => 0)))] := hD
  have hP := hP.sub (ws' := [(h0, .inr (9, fs_4))]) [0] rfl
  have hD := hD.sub (ws' := [(h0, .inr (9, fs_4))]) [0] (by decide) rfl
  refine lv_aload_n hx hb dX9_init_13 rfl (lv_at hl 0 rfl) ?_
  refine lv_sipush (v := 5600) hx hb dX9_init_14 (by decide) ?_
  refine va_newa (atype := .int) (a0 := (5600, .inl (fun _ => 0))) hx hb (hts (.arrayClass .int) (List.mem_of_getElem? (i := 4) rfl)) (ty := .int) rfl hK hP hD hS hA (na_int 5600) (by decide) (by decide +kernel) (show 5600 * 4 ≤ 536870912 by decide) (show 1 + 1 ≤ 14 by decide) (show 5600 + 5600 ≤ 64036 by decide) dX9_init_17 (fun q_5 cA_6 H hK hP hD hS => ?_)
  have hK : va_K (dC, dI) vwCl [(cI, .int), (cA_6, .int)] s := hK
  obtain rfl := kU_int hK 0 1 rfl rfl
  have hK := hK.sub (tys' := [(cI, .int)]) [0] rfl
  have hP : va_P (dC, dI) vwCl [(h0, .inr (9, fs_4)), (q_5, .inl (cI, 5600, .inl (fun _ => 0)))] H := hP
  have hD : va_D A [(h0, .inr (9, fs_4)), (q_5, .inl (cI, 5600, .inl (fun _ => 0)))] := hD
  refine W.widen (k := 2) (n := 11200) (by decide) (by decide) ?_
  refine va_putF (D := (dC, dI)) (ci := 9) (v := .ref q_5) (ty := (.array .int)) (C := RX9) (T := TX9) (N := 20) hx hb hts hin_X9 tyX9 tyX9_ok nmX9 hown hK hP hD hS 0 rfl rfl 4 (by decide) (hts (.fieldLink RX9 17 "NeedHouse$Tree" "first" "[I") (List.mem_of_getElem? (i := 6) rfl)) (fun _ h9 => h9) rfl hin rfl (by decide +kernel) rfl rfl (by rw [hF_3.1]; decide) dX9_init_19 (fun H locs hP hD hS => ?_)
  have hP : va_P (dC, dI) vwCl [(h0, .inr (9, (fs_4.set 4 (.ref q_5)))), (q_5, .inl (cI, 5600, .inl (fun _ => 0)))] H := hP
  have hD : va_D A [(h0, .inr (9, (fs_4.set 4 (.ref q_5)))), (q_5, .inl (cI, 5600, .inl (fun _ => 0)))] := hD
  have hF_7 := hF_3.set 4 (.ref q_5) (l' := [(4, .ref q_5), (3, .ref q_1), (17, .int 0), (18, .int 0), (19, .int 0)]) (by decide) rfl
  generalize fs_4.set 4 (.ref q_5) = fs_8 at hP hD hF_7
  have hP : va_P (dC, dI) vwCl [(h0, .inr (9, fs_8)), (q_5, .inl (cI, 5600, .inl (fun _ => 0)))] H := hP
  have hD : va_D A [(h0, .inr (9, fs_8)), (q_5, .inl (cI, 5600, .inl (fun _ => 0)))] := hD
  have hP := hP.sub (ws' := [(h0, .inr (9, fs_8))]) [0] rfl
  have hD := hD.sub (ws' := [(h0, .inr (9, fs_8))]) [0] (by decide) rfl
  refine lv_aload_n hx hb dX9_init_22 rfl (lv_at hl 0 rfl) ?_
  refine lv_sipush (v := 5600) hx hb dX9_init_23 (by decide) ?_
  refine va_newa (atype := .int) (a0 := (5600, .inl (fun _ => 0))) hx hb (hts (.arrayClass .int) (List.mem_of_getElem? (i := 4) rfl)) (ty := .int) rfl hK hP hD hS hA (na_int 5600) (by decide) (by decide +kernel) (show 5600 * 4 ≤ 536870912 by decide) (show 2 + 1 ≤ 14 by decide) (show 11200 + 5600 ≤ 64036 by decide) dX9_init_26 (fun q_9 cA_10 H hK hP hD hS => ?_)
  have hK : va_K (dC, dI) vwCl [(cI, .int), (cA_10, .int)] s := hK
  obtain rfl := kU_int hK 0 1 rfl rfl
  have hK := hK.sub (tys' := [(cI, .int)]) [0] rfl
  have hP : va_P (dC, dI) vwCl [(h0, .inr (9, fs_8)), (q_9, .inl (cI, 5600, .inl (fun _ => 0)))] H := hP
  have hD : va_D A [(h0, .inr (9, fs_8)), (q_9, .inl (cI, 5600, .inl (fun _ => 0)))] := hD
  refine W.widen (k := 3) (n := 16800) (by decide) (by decide) ?_
  refine va_putF (D := (dC, dI)) (ci := 9) (v := .ref q_9) (ty := (.array .int)) (C := RX9) (T := TX9) (N := 20) hx hb hts hin_X9 tyX9 tyX9_ok nmX9 hown hK hP hD hS 0 rfl rfl 5 (by decide) (hts (.fieldLink RX9 20 "NeedHouse$Tree" "a" "[I") (List.mem_of_getElem? (i := 7) rfl)) (fun _ h9 => h9) rfl hin rfl (by decide +kernel) rfl rfl (by rw [hF_7.1]; decide) dX9_init_28 (fun H locs hP hD hS => ?_)
  have hP : va_P (dC, dI) vwCl [(h0, .inr (9, (fs_8.set 5 (.ref q_9)))), (q_9, .inl (cI, 5600, .inl (fun _ => 0)))] H := hP
  have hD : va_D A [(h0, .inr (9, (fs_8.set 5 (.ref q_9)))), (q_9, .inl (cI, 5600, .inl (fun _ => 0)))] := hD
  have hF_11 := hF_7.set 5 (.ref q_9) (l' := [(5, .ref q_9), (4, .ref q_5), (3, .ref q_1), (17, .int 0), (18, .int 0), (19, .int 0)]) (by decide) rfl
  generalize fs_8.set 5 (.ref q_9) = fs_12 at hP hD hF_11
  have hP : va_P (dC, dI) vwCl [(h0, .inr (9, fs_12)), (q_9, .inl (cI, 5600, .inl (fun _ => 0)))] H := hP
  have hD : va_D A [(h0, .inr (9, fs_12)), (q_9, .inl (cI, 5600, .inl (fun _ => 0)))] := hD
  have hP := hP.sub (ws' := [(h0, .inr (9, fs_12))]) [0] rfl
  have hD := hD.sub (ws' := [(h0, .inr (9, fs_12))]) [0] (by decide) rfl
  refine lv_aload_n hx hb dX9_init_31 rfl (lv_at hl 0 rfl) ?_
  refine lv_sipush (v := 5600) hx hb dX9_init_32 (by decide) ?_
  refine va_newa (atype := .int) (a0 := (5600, .inl (fun _ => 0))) hx hb (hts (.arrayClass .int) (List.mem_of_getElem? (i := 4) rfl)) (ty := .int) rfl hK hP hD hS hA (na_int 5600) (by decide) (by decide +kernel) (show 5600 * 4 ≤ 536870912 by decide) (show 3 + 1 ≤ 14 by decide) (show 16800 + 5600 ≤ 64036 by decide) dX9_init_35 (fun q_13 cA_14 H hK hP hD hS => ?_)
  have hK : va_K (dC, dI) vwCl [(cI, .int), (cA_14, .int)] s := hK
  obtain rfl := kU_int hK 0 1 rfl rfl
  have hK := hK.sub (tys' := [(cI, .int)]) [0] rfl
  have hP : va_P (dC, dI) vwCl [(h0, .inr (9, fs_12)), (q_13, .inl (cI, 5600, .inl (fun _ => 0)))] H := hP
  have hD : va_D A [(h0, .inr (9, fs_12)), (q_13, .inl (cI, 5600, .inl (fun _ => 0)))] := hD
  refine W.widen (k := 4) (n := 22400) (by decide) (by decide) ?_
  refine va_putF (D := (dC, dI)) (ci := 9) (v := .ref q_13) (ty := (.array .int)) (C := RX9) (T := TX9) (N := 20) hx hb hts hin_X9 tyX9 tyX9_ok nmX9 hown hK hP hD hS 0 rfl rfl 6 (by decide) (hts (.fieldLink RX9 23 "NeedHouse$Tree" "b" "[I") (List.mem_of_getElem? (i := 8) rfl)) (fun _ h9 => h9) rfl hin rfl (by decide +kernel) rfl rfl (by rw [hF_11.1]; decide) dX9_init_37 (fun H locs hP hD hS => ?_)
  have hP : va_P (dC, dI) vwCl [(h0, .inr (9, (fs_12.set 6 (.ref q_13)))), (q_13, .inl (cI, 5600, .inl (fun _ => 0)))] H := hP
  have hD : va_D A [(h0, .inr (9, (fs_12.set 6 (.ref q_13)))), (q_13, .inl (cI, 5600, .inl (fun _ => 0)))] := hD
  have hF_15 := hF_11.set 6 (.ref q_13) (l' := [(6, .ref q_13), (5, .ref q_9), (4, .ref q_5), (3, .ref q_1), (17, .int 0), (18, .int 0), (19, .int 0)]) (by decide) rfl
  generalize fs_12.set 6 (.ref q_13) = fs_16 at hP hD hF_15
  have hP : va_P (dC, dI) vwCl [(h0, .inr (9, fs_16)), (q_13, .inl (cI, 5600, .inl (fun _ => 0)))] H := hP
  have hD : va_D A [(h0, .inr (9, fs_16)), (q_13, .inl (cI, 5600, .inl (fun _ => 0)))] := hD
  have hP := hP.sub (ws' := [(h0, .inr (9, fs_16))]) [0] rfl
  have hD := hD.sub (ws' := [(h0, .inr (9, fs_16))]) [0] (by decide) rfl
  refine lv_aload_n hx hb dX9_init_40 rfl (lv_at hl 0 rfl) ?_
  refine lv_sipush (v := 5600) hx hb dX9_init_41 (by decide) ?_
  refine va_newa (atype := .int) (a0 := (5600, .inl (fun _ => 0))) hx hb (hts (.arrayClass .int) (List.mem_of_getElem? (i := 4) rfl)) (ty := .int) rfl hK hP hD hS hA (na_int 5600) (by decide) (by decide +kernel) (show 5600 * 4 ≤ 536870912 by decide) (show 4 + 1 ≤ 14 by decide) (show 22400 + 5600 ≤ 64036 by decide) dX9_init_44 (fun q_17 cA_18 H hK hP hD hS => ?_)
  have hK : va_K (dC, dI) vwCl [(cI, .int), (cA_18, .int)] s := hK
  obtain rfl := kU_int hK 0 1 rfl rfl
  have hK := hK.sub (tys' := [(cI, .int)]) [0] rfl
  have hP : va_P (dC, dI) vwCl [(h0, .inr (9, fs_16)), (q_17, .inl (cI, 5600, .inl (fun _ => 0)))] H := hP
  have hD : va_D A [(h0, .inr (9, fs_16)), (q_17, .inl (cI, 5600, .inl (fun _ => 0)))] := hD
  refine W.widen (k := 5) (n := 28000) (by decide) (by decide) ?_
  refine va_putF (D := (dC, dI)) (ci := 9) (v := .ref q_17) (ty := (.array .int)) (C := RX9) (T := TX9) (N := 20) hx hb hts hin_X9 tyX9 tyX9_ok nmX9 hown hK hP hD hS 0 rfl rfl 7 (by decide) (hts (.fieldLink RX9 26 "NeedHouse$Tree" "c" "[I") (List.mem_of_getElem? (i := 9) rfl)) (fun _ h9 => h9) rfl hin rfl (by decide +kernel) rfl rfl (by rw [hF_15.1]; decide) dX9_init_46 (fun H locs hP hD hS => ?_)
  have hP : va_P (dC, dI) vwCl [(h0, .inr (9, (fs_16.set 7 (.ref q_17)))), (q_17, .inl (cI, 5600, .inl (fun _ => 0)))] H := hP
  have hD : va_D A [(h0, .inr (9, (fs_16.set 7 (.ref q_17)))), (q_17, .inl (cI, 5600, .inl (fun _ => 0)))] := hD
  have hF_19 := hF_15.set 7 (.ref q_17) (l' := [(7, .ref q_17), (6, .ref q_13), (5, .ref q_9), (4, .ref q_5), (3, .ref q_1), (17, .int 0), (18, .int 0), (19, .int 0)]) (by decide) rfl
  generalize fs_16.set 7 (.ref q_17) = fs_20 at hP hD hF_19
  have hP : va_P (dC, dI) vwCl [(h0, .inr (9, fs_20)), (q_17, .inl (cI, 5600, .inl (fun _ => 0)))] H := hP
  have hD : va_D A [(h0, .inr (9, fs_20)), (q_17, .inl (cI, 5600, .inl (fun _ => 0)))] := hD
  have hP := hP.sub (ws' := [(h0, .inr (9, fs_20))]) [0] rfl
  have hD := hD.sub (ws' := [(h0, .inr (9, fs_20))]) [0] (by decide) rfl
  refine lv_aload_n hx hb dX9_init_49 rfl (lv_at hl 0 rfl) ?_
  refine lv_sipush (v := 4004) hx hb dX9_init_50 (by decide) ?_
  refine va_newa (atype := .int) (a0 := (4004, .inl (fun _ => 0))) hx hb (hts (.arrayClass .int) (List.mem_of_getElem? (i := 4) rfl)) (ty := .int) rfl hK hP hD hS hA (na_int 4004) (by decide) (by decide +kernel) (show 4004 * 4 ≤ 536870912 by decide) (show 5 + 1 ≤ 14 by decide) (show 28000 + 4004 ≤ 64036 by decide) dX9_init_53 (fun q_21 cA_22 H hK hP hD hS => ?_)
  have hK : va_K (dC, dI) vwCl [(cI, .int), (cA_22, .int)] s := hK
  obtain rfl := kU_int hK 0 1 rfl rfl
  have hK := hK.sub (tys' := [(cI, .int)]) [0] rfl
  have hP : va_P (dC, dI) vwCl [(h0, .inr (9, fs_20)), (q_21, .inl (cI, 4004, .inl (fun _ => 0)))] H := hP
  have hD : va_D A [(h0, .inr (9, fs_20)), (q_21, .inl (cI, 4004, .inl (fun _ => 0)))] := hD
  refine W.widen (k := 6) (n := 32004) (by decide) (by decide) ?_
  refine va_putF (D := (dC, dI)) (ci := 9) (v := .ref q_21) (ty := (.array .int)) (C := RX9) (T := TX9) (N := 20) hx hb hts hin_X9 tyX9 tyX9_ok nmX9 hown hK hP hD hS 0 rfl rfl 8 (by decide) (hts (.fieldLink RX9 29 "NeedHouse$Tree" "part" "[I") (List.mem_of_getElem? (i := 10) rfl)) (fun _ h9 => h9) rfl hin rfl (by decide +kernel) rfl rfl (by rw [hF_19.1]; decide) dX9_init_55 (fun H locs hP hD hS => ?_)
  have hP : va_P (dC, dI) vwCl [(h0, .inr (9, (fs_20.set 8 (.ref q_21)))), (q_21, .inl (cI, 4004, .inl (fun _ => 0)))] H := hP
  have hD : va_D A [(h0, .inr (9, (fs_20.set 8 (.ref q_21)))), (q_21, .inl (cI, 4004, .inl (fun _ => 0)))] := hD
  have hF_23 := hF_19.set 8 (.ref q_21) (l' := [(8, .ref q_21), (7, .ref q_17), (6, .ref q_13), (5, .ref q_9), (4, .ref q_5), (3, .ref q_1), (17, .int 0), (18, .int 0), (19, .int 0)]) (by decide) rfl
  generalize fs_20.set 8 (.ref q_21) = fs_24 at hP hD hF_23
  have hP : va_P (dC, dI) vwCl [(h0, .inr (9, fs_24)), (q_21, .inl (cI, 4004, .inl (fun _ => 0)))] H := hP
  have hD : va_D A [(h0, .inr (9, fs_24)), (q_21, .inl (cI, 4004, .inl (fun _ => 0)))] := hD
  have hP := hP.sub (ws' := [(h0, .inr (9, fs_24))]) [0] rfl
  have hD := hD.sub (ws' := [(h0, .inr (9, fs_24))]) [0] (by decide) rfl
  refine lv_aload_n hx hb dX9_init_58 rfl (lv_at hl 0 rfl) ?_
  refine lv_sipush (v := 4004) hx hb dX9_init_59 (by decide) ?_
  refine va_newa (atype := .int) (a0 := (4004, .inl (fun _ => 0))) hx hb (hts (.arrayClass .int) (List.mem_of_getElem? (i := 4) rfl)) (ty := .int) rfl hK hP hD hS hA (na_int 4004) (by decide) (by decide +kernel) (show 4004 * 4 ≤ 536870912 by decide) (show 6 + 1 ≤ 14 by decide) (show 32004 + 4004 ≤ 64036 by decide) dX9_init_62 (fun q_25 cA_26 H hK hP hD hS => ?_)
  have hK : va_K (dC, dI) vwCl [(cI, .int), (cA_26, .int)] s := hK
  obtain rfl := kU_int hK 0 1 rfl rfl
  have hK := hK.sub (tys' := [(cI, .int)]) [0] rfl
  have hP : va_P (dC, dI) vwCl [(h0, .inr (9, fs_24)), (q_25, .inl (cI, 4004, .inl (fun _ => 0)))] H := hP
  have hD : va_D A [(h0, .inr (9, fs_24)), (q_25, .inl (cI, 4004, .inl (fun _ => 0)))] := hD
  refine W.widen (k := 7) (n := 36008) (by decide) (by decide) ?_
  refine va_putF (D := (dC, dI)) (ci := 9) (v := .ref q_25) (ty := (.array .int)) (C := RX9) (T := TX9) (N := 20) hx hb hts hin_X9 tyX9 tyX9_ok nmX9 hown hK hP hD hS 0 rfl rfl 9 (by decide) (hts (.fieldLink RX9 32 "NeedHouse$Tree" "partOwner" "[I") (List.mem_of_getElem? (i := 11) rfl)) (fun _ h9 => h9) rfl hin rfl (by decide +kernel) rfl rfl (by rw [hF_23.1]; decide) dX9_init_64 (fun H locs hP hD hS => ?_)
  have hP : va_P (dC, dI) vwCl [(h0, .inr (9, (fs_24.set 9 (.ref q_25)))), (q_25, .inl (cI, 4004, .inl (fun _ => 0)))] H := hP
  have hD : va_D A [(h0, .inr (9, (fs_24.set 9 (.ref q_25)))), (q_25, .inl (cI, 4004, .inl (fun _ => 0)))] := hD
  have hF_27 := hF_23.set 9 (.ref q_25) (l' := [(9, .ref q_25), (8, .ref q_21), (7, .ref q_17), (6, .ref q_13), (5, .ref q_9), (4, .ref q_5), (3, .ref q_1), (17, .int 0), (18, .int 0), (19, .int 0)]) (by decide) rfl
  generalize fs_24.set 9 (.ref q_25) = fs_28 at hP hD hF_27
  have hP : va_P (dC, dI) vwCl [(h0, .inr (9, fs_28)), (q_25, .inl (cI, 4004, .inl (fun _ => 0)))] H := hP
  have hD : va_D A [(h0, .inr (9, fs_28)), (q_25, .inl (cI, 4004, .inl (fun _ => 0)))] := hD
  have hP := hP.sub (ws' := [(h0, .inr (9, fs_28))]) [0] rfl
  have hD := hD.sub (ws' := [(h0, .inr (9, fs_28))]) [0] (by decide) rfl
  refine lv_aload_n hx hb dX9_init_67 rfl (lv_at hl 0 rfl) ?_
  refine lv_sipush (v := 4004) hx hb dX9_init_68 (by decide) ?_
  refine va_newa (atype := .int) (a0 := (4004, .inl (fun _ => 0))) hx hb (hts (.arrayClass .int) (List.mem_of_getElem? (i := 4) rfl)) (ty := .int) rfl hK hP hD hS hA (na_int 4004) (by decide) (by decide +kernel) (show 4004 * 4 ≤ 536870912 by decide) (show 7 + 1 ≤ 14 by decide) (show 36008 + 4004 ≤ 64036 by decide) dX9_init_71 (fun q_29 cA_30 H hK hP hD hS => ?_)
  have hK : va_K (dC, dI) vwCl [(cI, .int), (cA_30, .int)] s := hK
  obtain rfl := kU_int hK 0 1 rfl rfl
  have hK := hK.sub (tys' := [(cI, .int)]) [0] rfl
  have hP : va_P (dC, dI) vwCl [(h0, .inr (9, fs_28)), (q_29, .inl (cI, 4004, .inl (fun _ => 0)))] H := hP
  have hD : va_D A [(h0, .inr (9, fs_28)), (q_29, .inl (cI, 4004, .inl (fun _ => 0)))] := hD
  refine W.widen (k := 8) (n := 40012) (by decide) (by decide) ?_
  refine va_putF (D := (dC, dI)) (ci := 9) (v := .ref q_29) (ty := (.array .int)) (C := RX9) (T := TX9) (N := 20) hx hb hts hin_X9 tyX9 tyX9_ok nmX9 hown hK hP hD hS 0 rfl rfl 10 (by decide) (hts (.fieldLink RX9 35 "NeedHouse$Tree" "itemKind" "[I") (List.mem_of_getElem? (i := 12) rfl)) (fun _ h9 => h9) rfl hin rfl (by decide +kernel) rfl rfl (by rw [hF_27.1]; decide) dX9_init_73 (fun H locs hP hD hS => ?_)
  have hP : va_P (dC, dI) vwCl [(h0, .inr (9, (fs_28.set 10 (.ref q_29)))), (q_29, .inl (cI, 4004, .inl (fun _ => 0)))] H := hP
  have hD : va_D A [(h0, .inr (9, (fs_28.set 10 (.ref q_29)))), (q_29, .inl (cI, 4004, .inl (fun _ => 0)))] := hD
  have hF_31 := hF_27.set 10 (.ref q_29) (l' := [(10, .ref q_29), (9, .ref q_25), (8, .ref q_21), (7, .ref q_17), (6, .ref q_13), (5, .ref q_9), (4, .ref q_5), (3, .ref q_1), (17, .int 0), (18, .int 0), (19, .int 0)]) (by decide) rfl
  generalize fs_28.set 10 (.ref q_29) = fs_32 at hP hD hF_31
  have hP : va_P (dC, dI) vwCl [(h0, .inr (9, fs_32)), (q_29, .inl (cI, 4004, .inl (fun _ => 0)))] H := hP
  have hD : va_D A [(h0, .inr (9, fs_32)), (q_29, .inl (cI, 4004, .inl (fun _ => 0)))] := hD
  have hP := hP.sub (ws' := [(h0, .inr (9, fs_32))]) [0] rfl
  have hD := hD.sub (ws' := [(h0, .inr (9, fs_32))]) [0] (by decide) rfl
  refine lv_aload_n hx hb dX9_init_76 rfl (lv_at hl 0 rfl) ?_
  refine lv_sipush (v := 4004) hx hb dX9_init_77 (by decide) ?_
  refine va_newa (atype := .int) (a0 := (4004, .inl (fun _ => 0))) hx hb (hts (.arrayClass .int) (List.mem_of_getElem? (i := 4) rfl)) (ty := .int) rfl hK hP hD hS hA (na_int 4004) (by decide) (by decide +kernel) (show 4004 * 4 ≤ 536870912 by decide) (show 8 + 1 ≤ 14 by decide) (show 40012 + 4004 ≤ 64036 by decide) dX9_init_80 (fun q_33 cA_34 H hK hP hD hS => ?_)
  have hK : va_K (dC, dI) vwCl [(cI, .int), (cA_34, .int)] s := hK
  obtain rfl := kU_int hK 0 1 rfl rfl
  have hK := hK.sub (tys' := [(cI, .int)]) [0] rfl
  have hP : va_P (dC, dI) vwCl [(h0, .inr (9, fs_32)), (q_33, .inl (cI, 4004, .inl (fun _ => 0)))] H := hP
  have hD : va_D A [(h0, .inr (9, fs_32)), (q_33, .inl (cI, 4004, .inl (fun _ => 0)))] := hD
  refine W.widen (k := 9) (n := 44016) (by decide) (by decide) ?_
  refine va_putF (D := (dC, dI)) (ci := 9) (v := .ref q_33) (ty := (.array .int)) (C := RX9) (T := TX9) (N := 20) hx hb hts hin_X9 tyX9 tyX9_ok nmX9 hown hK hP hD hS 0 rfl rfl 11 (by decide) (hts (.fieldLink RX9 38 "NeedHouse$Tree" "itemToken" "[I") (List.mem_of_getElem? (i := 13) rfl)) (fun _ h9 => h9) rfl hin rfl (by decide +kernel) rfl rfl (by rw [hF_31.1]; decide) dX9_init_82 (fun H locs hP hD hS => ?_)
  have hP : va_P (dC, dI) vwCl [(h0, .inr (9, (fs_32.set 11 (.ref q_33)))), (q_33, .inl (cI, 4004, .inl (fun _ => 0)))] H := hP
  have hD : va_D A [(h0, .inr (9, (fs_32.set 11 (.ref q_33)))), (q_33, .inl (cI, 4004, .inl (fun _ => 0)))] := hD
  have hF_35 := hF_31.set 11 (.ref q_33) (l' := [(11, .ref q_33), (10, .ref q_29), (9, .ref q_25), (8, .ref q_21), (7, .ref q_17), (6, .ref q_13), (5, .ref q_9), (4, .ref q_5), (3, .ref q_1), (17, .int 0), (18, .int 0), (19, .int 0)]) (by decide) rfl
  generalize fs_32.set 11 (.ref q_33) = fs_36 at hP hD hF_35
  have hP : va_P (dC, dI) vwCl [(h0, .inr (9, fs_36)), (q_33, .inl (cI, 4004, .inl (fun _ => 0)))] H := hP
  have hD : va_D A [(h0, .inr (9, fs_36)), (q_33, .inl (cI, 4004, .inl (fun _ => 0)))] := hD
  have hP := hP.sub (ws' := [(h0, .inr (9, fs_36))]) [0] rfl
  have hD := hD.sub (ws' := [(h0, .inr (9, fs_36))]) [0] (by decide) rfl
  refine lv_aload_n hx hb dX9_init_85 rfl (lv_at hl 0 rfl) ?_
  refine lv_sipush (v := 4004) hx hb dX9_init_86 (by decide) ?_
  refine va_newa (atype := .int) (a0 := (4004, .inl (fun _ => 0))) hx hb (hts (.arrayClass .int) (List.mem_of_getElem? (i := 4) rfl)) (ty := .int) rfl hK hP hD hS hA (na_int 4004) (by decide) (by decide +kernel) (show 4004 * 4 ≤ 536870912 by decide) (show 9 + 1 ≤ 14 by decide) (show 44016 + 4004 ≤ 64036 by decide) dX9_init_89 (fun q_37 cA_38 H hK hP hD hS => ?_)
  have hK : va_K (dC, dI) vwCl [(cI, .int), (cA_38, .int)] s := hK
  obtain rfl := kU_int hK 0 1 rfl rfl
  have hK := hK.sub (tys' := [(cI, .int)]) [0] rfl
  have hP : va_P (dC, dI) vwCl [(h0, .inr (9, fs_36)), (q_37, .inl (cI, 4004, .inl (fun _ => 0)))] H := hP
  have hD : va_D A [(h0, .inr (9, fs_36)), (q_37, .inl (cI, 4004, .inl (fun _ => 0)))] := hD
  refine W.widen (k := 10) (n := 48020) (by decide) (by decide) ?_
  refine va_putF (D := (dC, dI)) (ci := 9) (v := .ref q_37) (ty := (.array .int)) (C := RX9) (T := TX9) (N := 20) hx hb hts hin_X9 tyX9 tyX9_ok nmX9 hown hK hP hD hS 0 rfl rfl 12 (by decide) (hts (.fieldLink RX9 41 "NeedHouse$Tree" "itemWant" "[I") (List.mem_of_getElem? (i := 14) rfl)) (fun _ h9 => h9) rfl hin rfl (by decide +kernel) rfl rfl (by rw [hF_35.1]; decide) dX9_init_91 (fun H locs hP hD hS => ?_)
  have hP : va_P (dC, dI) vwCl [(h0, .inr (9, (fs_36.set 12 (.ref q_37)))), (q_37, .inl (cI, 4004, .inl (fun _ => 0)))] H := hP
  have hD : va_D A [(h0, .inr (9, (fs_36.set 12 (.ref q_37)))), (q_37, .inl (cI, 4004, .inl (fun _ => 0)))] := hD
  have hF_39 := hF_35.set 12 (.ref q_37) (l' := [(12, .ref q_37), (11, .ref q_33), (10, .ref q_29), (9, .ref q_25), (8, .ref q_21), (7, .ref q_17), (6, .ref q_13), (5, .ref q_9), (4, .ref q_5), (3, .ref q_1), (17, .int 0), (18, .int 0), (19, .int 0)]) (by decide) rfl
  generalize fs_36.set 12 (.ref q_37) = fs_40 at hP hD hF_39
  have hP : va_P (dC, dI) vwCl [(h0, .inr (9, fs_40)), (q_37, .inl (cI, 4004, .inl (fun _ => 0)))] H := hP
  have hD : va_D A [(h0, .inr (9, fs_40)), (q_37, .inl (cI, 4004, .inl (fun _ => 0)))] := hD
  have hP := hP.sub (ws' := [(h0, .inr (9, fs_40))]) [0] rfl
  have hD := hD.sub (ws' := [(h0, .inr (9, fs_40))]) [0] (by decide) rfl
  refine lv_aload_n hx hb dX9_init_94 rfl (lv_at hl 0 rfl) ?_
  refine lv_sipush (v := 4004) hx hb dX9_init_95 (by decide) ?_
  refine va_newa (atype := .int) (a0 := (4004, .inl (fun _ => 0))) hx hb (hts (.arrayClass .int) (List.mem_of_getElem? (i := 4) rfl)) (ty := .int) rfl hK hP hD hS hA (na_int 4004) (by decide) (by decide +kernel) (show 4004 * 4 ≤ 536870912 by decide) (show 10 + 1 ≤ 14 by decide) (show 48020 + 4004 ≤ 64036 by decide) dX9_init_98 (fun q_41 cA_42 H hK hP hD hS => ?_)
  have hK : va_K (dC, dI) vwCl [(cI, .int), (cA_42, .int)] s := hK
  obtain rfl := kU_int hK 0 1 rfl rfl
  have hK := hK.sub (tys' := [(cI, .int)]) [0] rfl
  have hP : va_P (dC, dI) vwCl [(h0, .inr (9, fs_40)), (q_41, .inl (cI, 4004, .inl (fun _ => 0)))] H := hP
  have hD : va_D A [(h0, .inr (9, fs_40)), (q_41, .inl (cI, 4004, .inl (fun _ => 0)))] := hD
  refine W.widen (k := 11) (n := 52024) (by decide) (by decide) ?_
  refine va_putF (D := (dC, dI)) (ci := 9) (v := .ref q_41) (ty := (.array .int)) (C := RX9) (T := TX9) (N := 20) hx hb hts hin_X9 tyX9 tyX9_ok nmX9 hown hK hP hD hS 0 rfl rfl 13 (by decide) (hts (.fieldLink RX9 44 "NeedHouse$Tree" "itemRow" "[I") (List.mem_of_getElem? (i := 15) rfl)) (fun _ h9 => h9) rfl hin rfl (by decide +kernel) rfl rfl (by rw [hF_39.1]; decide) dX9_init_100 (fun H locs hP hD hS => ?_)
  have hP : va_P (dC, dI) vwCl [(h0, .inr (9, (fs_40.set 13 (.ref q_41)))), (q_41, .inl (cI, 4004, .inl (fun _ => 0)))] H := hP
  have hD : va_D A [(h0, .inr (9, (fs_40.set 13 (.ref q_41)))), (q_41, .inl (cI, 4004, .inl (fun _ => 0)))] := hD
  have hF_43 := hF_39.set 13 (.ref q_41) (l' := [(13, .ref q_41), (12, .ref q_37), (11, .ref q_33), (10, .ref q_29), (9, .ref q_25), (8, .ref q_21), (7, .ref q_17), (6, .ref q_13), (5, .ref q_9), (4, .ref q_5), (3, .ref q_1), (17, .int 0), (18, .int 0), (19, .int 0)]) (by decide) rfl
  generalize fs_40.set 13 (.ref q_41) = fs_44 at hP hD hF_43
  have hP : va_P (dC, dI) vwCl [(h0, .inr (9, fs_44)), (q_41, .inl (cI, 4004, .inl (fun _ => 0)))] H := hP
  have hD : va_D A [(h0, .inr (9, fs_44)), (q_41, .inl (cI, 4004, .inl (fun _ => 0)))] := hD
  have hP := hP.sub (ws' := [(h0, .inr (9, fs_44))]) [0] rfl
  have hD := hD.sub (ws' := [(h0, .inr (9, fs_44))]) [0] (by decide) rfl
  refine lv_aload_n hx hb dX9_init_103 rfl (lv_at hl 0 rfl) ?_
  refine lv_sipush (v := 4004) hx hb dX9_init_104 (by decide) ?_
  refine va_newa (atype := .int) (a0 := (4004, .inl (fun _ => 0))) hx hb (hts (.arrayClass .int) (List.mem_of_getElem? (i := 4) rfl)) (ty := .int) rfl hK hP hD hS hA (na_int 4004) (by decide) (by decide +kernel) (show 4004 * 4 ≤ 536870912 by decide) (show 11 + 1 ≤ 14 by decide) (show 52024 + 4004 ≤ 64036 by decide) dX9_init_107 (fun q_45 cA_46 H hK hP hD hS => ?_)
  have hK : va_K (dC, dI) vwCl [(cI, .int), (cA_46, .int)] s := hK
  obtain rfl := kU_int hK 0 1 rfl rfl
  have hK := hK.sub (tys' := [(cI, .int)]) [0] rfl
  have hP : va_P (dC, dI) vwCl [(h0, .inr (9, fs_44)), (q_45, .inl (cI, 4004, .inl (fun _ => 0)))] H := hP
  have hD : va_D A [(h0, .inr (9, fs_44)), (q_45, .inl (cI, 4004, .inl (fun _ => 0)))] := hD
  refine W.widen (k := 12) (n := 56028) (by decide) (by decide) ?_
  refine va_putF (D := (dC, dI)) (ci := 9) (v := .ref q_45) (ty := (.array .int)) (C := RX9) (T := TX9) (N := 20) hx hb hts hin_X9 tyX9 tyX9_ok nmX9 hown hK hP hD hS 0 rfl rfl 14 (by decide) (hts (.fieldLink RX9 47 "NeedHouse$Tree" "itemBody" "[I") (List.mem_of_getElem? (i := 16) rfl)) (fun _ h9 => h9) rfl hin rfl (by decide +kernel) rfl rfl (by rw [hF_43.1]; decide) dX9_init_109 (fun H locs hP hD hS => ?_)
  have hP : va_P (dC, dI) vwCl [(h0, .inr (9, (fs_44.set 14 (.ref q_45)))), (q_45, .inl (cI, 4004, .inl (fun _ => 0)))] H := hP
  have hD : va_D A [(h0, .inr (9, (fs_44.set 14 (.ref q_45)))), (q_45, .inl (cI, 4004, .inl (fun _ => 0)))] := hD
  have hF_47 := hF_43.set 14 (.ref q_45) (l' := [(14, .ref q_45), (13, .ref q_41), (12, .ref q_37), (11, .ref q_33), (10, .ref q_29), (9, .ref q_25), (8, .ref q_21), (7, .ref q_17), (6, .ref q_13), (5, .ref q_9), (4, .ref q_5), (3, .ref q_1), (17, .int 0), (18, .int 0), (19, .int 0)]) (by decide) rfl
  generalize fs_44.set 14 (.ref q_45) = fs_48 at hP hD hF_47
  have hP : va_P (dC, dI) vwCl [(h0, .inr (9, fs_48)), (q_45, .inl (cI, 4004, .inl (fun _ => 0)))] H := hP
  have hD : va_D A [(h0, .inr (9, fs_48)), (q_45, .inl (cI, 4004, .inl (fun _ => 0)))] := hD
  have hP := hP.sub (ws' := [(h0, .inr (9, fs_48))]) [0] rfl
  have hD := hD.sub (ws' := [(h0, .inr (9, fs_48))]) [0] (by decide) rfl
  refine lv_aload_n hx hb dX9_init_112 rfl (lv_at hl 0 rfl) ?_
  refine lv_sipush (v := 4004) hx hb dX9_init_113 (by decide) ?_
  refine va_newa (atype := .int) (a0 := (4004, .inl (fun _ => 0))) hx hb (hts (.arrayClass .int) (List.mem_of_getElem? (i := 4) rfl)) (ty := .int) rfl hK hP hD hS hA (na_int 4004) (by decide) (by decide +kernel) (show 4004 * 4 ≤ 536870912 by decide) (show 12 + 1 ≤ 14 by decide) (show 56028 + 4004 ≤ 64036 by decide) dX9_init_116 (fun q_49 cA_50 H hK hP hD hS => ?_)
  have hK : va_K (dC, dI) vwCl [(cI, .int), (cA_50, .int)] s := hK
  obtain rfl := kU_int hK 0 1 rfl rfl
  have hK := hK.sub (tys' := [(cI, .int)]) [0] rfl
  have hP : va_P (dC, dI) vwCl [(h0, .inr (9, fs_48)), (q_49, .inl (cI, 4004, .inl (fun _ => 0)))] H := hP
  have hD : va_D A [(h0, .inr (9, fs_48)), (q_49, .inl (cI, 4004, .inl (fun _ => 0)))] := hD
  refine W.widen (k := 13) (n := 60032) (by decide) (by decide) ?_
  refine va_putF (D := (dC, dI)) (ci := 9) (v := .ref q_49) (ty := (.array .int)) (C := RX9) (T := TX9) (N := 20) hx hb hts hin_X9 tyX9 tyX9_ok nmX9 hown hK hP hD hS 0 rfl rfl 15 (by decide) (hts (.fieldLink RX9 50 "NeedHouse$Tree" "itemNext" "[I") (List.mem_of_getElem? (i := 17) rfl)) (fun _ h9 => h9) rfl hin rfl (by decide +kernel) rfl rfl (by rw [hF_47.1]; decide) dX9_init_118 (fun H locs hP hD hS => ?_)
  have hP : va_P (dC, dI) vwCl [(h0, .inr (9, (fs_48.set 15 (.ref q_49)))), (q_49, .inl (cI, 4004, .inl (fun _ => 0)))] H := hP
  have hD : va_D A [(h0, .inr (9, (fs_48.set 15 (.ref q_49)))), (q_49, .inl (cI, 4004, .inl (fun _ => 0)))] := hD
  have hF_51 := hF_47.set 15 (.ref q_49) (l' := [(15, .ref q_49), (14, .ref q_45), (13, .ref q_41), (12, .ref q_37), (11, .ref q_33), (10, .ref q_29), (9, .ref q_25), (8, .ref q_21), (7, .ref q_17), (6, .ref q_13), (5, .ref q_9), (4, .ref q_5), (3, .ref q_1), (17, .int 0), (18, .int 0), (19, .int 0)]) (by decide) rfl
  generalize fs_48.set 15 (.ref q_49) = fs_52 at hP hD hF_51
  have hP : va_P (dC, dI) vwCl [(h0, .inr (9, fs_52)), (q_49, .inl (cI, 4004, .inl (fun _ => 0)))] H := hP
  have hD : va_D A [(h0, .inr (9, fs_52)), (q_49, .inl (cI, 4004, .inl (fun _ => 0)))] := hD
  have hP := hP.sub (ws' := [(h0, .inr (9, fs_52))]) [0] rfl
  have hD := hD.sub (ws' := [(h0, .inr (9, fs_52))]) [0] (by decide) rfl
  refine lv_aload_n hx hb dX9_init_121 rfl (lv_at hl 0 rfl) ?_
  refine lv_sipush (v := 4004) hx hb dX9_init_122 (by decide) ?_
  refine va_newa (atype := .int) (a0 := (4004, .inl (fun _ => 0))) hx hb (hts (.arrayClass .int) (List.mem_of_getElem? (i := 4) rfl)) (ty := .int) rfl hK hP hD hS hA (na_int 4004) (by decide) (by decide +kernel) (show 4004 * 4 ≤ 536870912 by decide) (show 13 + 1 ≤ 14 by decide) (show 60032 + 4004 ≤ 64036 by decide) dX9_init_125 (fun q_53 cA_54 H hK hP hD hS => ?_)
  have hK : va_K (dC, dI) vwCl [(cI, .int), (cA_54, .int)] s := hK
  obtain rfl := kU_int hK 0 1 rfl rfl
  have hK := hK.sub (tys' := [(cI, .int)]) [0] rfl
  have hP : va_P (dC, dI) vwCl [(h0, .inr (9, fs_52)), (q_53, .inl (cI, 4004, .inl (fun _ => 0)))] H := hP
  have hD : va_D A [(h0, .inr (9, fs_52)), (q_53, .inl (cI, 4004, .inl (fun _ => 0)))] := hD
  refine W.widen (k := 14) (n := 64036) (by decide) (by decide) ?_
  refine va_putF (D := (dC, dI)) (ci := 9) (v := .ref q_53) (ty := (.array .int)) (C := RX9) (T := TX9) (N := 20) hx hb hts hin_X9 tyX9 tyX9_ok nmX9 hown hK hP hD hS 0 rfl rfl 16 (by decide) (hts (.fieldLink RX9 53 "NeedHouse$Tree" "itemOwner" "[I") (List.mem_of_getElem? (i := 18) rfl)) (fun _ h9 => h9) rfl hin rfl (by decide +kernel) rfl rfl (by rw [hF_51.1]; decide) dX9_init_127 (fun H locs hP hD hS => ?_)
  have hP : va_P (dC, dI) vwCl [(h0, .inr (9, (fs_52.set 16 (.ref q_53)))), (q_53, .inl (cI, 4004, .inl (fun _ => 0)))] H := hP
  have hD : va_D A [(h0, .inr (9, (fs_52.set 16 (.ref q_53)))), (q_53, .inl (cI, 4004, .inl (fun _ => 0)))] := hD
  have hF_55 := hF_51.set 16 (.ref q_53) (l' := [(16, .ref q_53), (15, .ref q_49), (14, .ref q_45), (13, .ref q_41), (12, .ref q_37), (11, .ref q_33), (10, .ref q_29), (9, .ref q_25), (8, .ref q_21), (7, .ref q_17), (6, .ref q_13), (5, .ref q_9), (4, .ref q_5), (3, .ref q_1), (17, .int 0), (18, .int 0), (19, .int 0)]) (by decide) rfl
  generalize fs_52.set 16 (.ref q_53) = fs_56 at hP hD hF_55
  have hP : va_P (dC, dI) vwCl [(h0, .inr (9, fs_56)), (q_53, .inl (cI, 4004, .inl (fun _ => 0)))] H := hP
  have hD : va_D A [(h0, .inr (9, fs_56)), (q_53, .inl (cI, 4004, .inl (fun _ => 0)))] := hD
  have hP := hP.sub (ws' := [(h0, .inr (9, fs_56))]) [0] rfl
  have hD := hD.sub (ws' := [(h0, .inr (9, fs_56))]) [0] (by decide) rfl
  refine lv_aload_n hx hb dX9_init_130 rfl (lv_at hl 0 rfl) ?_
  refine lv_aload_n hx hb dX9_init_131 rfl (lv_at hl 1 rfl) ?_
  refine va_putF (D := (dC, dI)) (ci := 9) (v := .ref p0) (ty := (.object "NeedHouse$Lexemes")) (C := RX9) (T := TX9) (N := 20) hx hb hts hin_X9 tyX9 tyX9_ok nmX9 hown hK hP hD hS 0 rfl rfl 0 (by decide) (hts (.fieldLink RX9 56 "NeedHouse$Tree" "lexemes" "LNeedHouse$Lexemes;") (List.mem_of_getElem? (i := 19) rfl)) (fun _ h9 => h9) rfl hin rfl (by decide +kernel) rfl rfl (by rw [hF_55.1]; decide) dX9_init_132 (fun H locs hP hD hS => ?_)
  have hP : va_P (dC, dI) vwCl [(h0, .inr (9, (fs_56.set 0 (.ref p0))))] H := hP
  have hD : va_D A [(h0, .inr (9, (fs_56.set 0 (.ref p0))))] := hD
  have hF_57 := hF_55.set 0 (.ref p0) (l' := [(0, .ref p0), (16, .ref q_53), (15, .ref q_49), (14, .ref q_45), (13, .ref q_41), (12, .ref q_37), (11, .ref q_33), (10, .ref q_29), (9, .ref q_25), (8, .ref q_21), (7, .ref q_17), (6, .ref q_13), (5, .ref q_9), (4, .ref q_5), (3, .ref q_1), (17, .int 0), (18, .int 0), (19, .int 0)]) (by decide) rfl
  generalize fs_56.set 0 (.ref p0) = fs_58 at hP hD hF_57
  have hP : va_P (dC, dI) vwCl [(h0, .inr (9, fs_58))] H := hP
  have hD : va_D A [(h0, .inr (9, fs_58))] := hD
  refine lv_aload_n hx hb dX9_init_135 rfl (lv_at hl 0 rfl) ?_
  refine lv_aload_n hx hb dX9_init_136 rfl (lv_at hl 2 rfl) ?_
  refine va_putF (D := (dC, dI)) (ci := 9) (v := .ref p1) (ty := (.object "NeedHouse$Told")) (C := RX9) (T := TX9) (N := 20) hx hb hts hin_X9 tyX9 tyX9_ok nmX9 hown hK hP hD hS 0 rfl rfl 1 (by decide) (hts (.fieldLink RX9 60 "NeedHouse$Tree" "told" "LNeedHouse$Told;") (List.mem_of_getElem? (i := 20) rfl)) (fun _ h9 => h9) rfl hin rfl (by decide +kernel) rfl rfl (by rw [hF_57.1]; decide) dX9_init_137 (fun H locs hP hD hS => ?_)
  have hP : va_P (dC, dI) vwCl [(h0, .inr (9, (fs_58.set 1 (.ref p1))))] H := hP
  have hD : va_D A [(h0, .inr (9, (fs_58.set 1 (.ref p1))))] := hD
  have hF_59 := hF_57.set 1 (.ref p1) (l' := [(1, .ref p1), (0, .ref p0), (16, .ref q_53), (15, .ref q_49), (14, .ref q_45), (13, .ref q_41), (12, .ref q_37), (11, .ref q_33), (10, .ref q_29), (9, .ref q_25), (8, .ref q_21), (7, .ref q_17), (6, .ref q_13), (5, .ref q_9), (4, .ref q_5), (3, .ref q_1), (17, .int 0), (18, .int 0), (19, .int 0)]) (by decide) rfl
  generalize fs_58.set 1 (.ref p1) = fs_60 at hP hD hF_59
  have hP : va_P (dC, dI) vwCl [(h0, .inr (9, fs_60))] H := hP
  have hD : va_D A [(h0, .inr (9, fs_60))] := hD
  refine lv_aload_n hx hb dX9_init_140 rfl (lv_at hl 0 rfl) ?_
  refine lv_aload_n hx hb dX9_init_141 rfl (lv_at hl 3 rfl) ?_
  refine va_putF (D := (dC, dI)) (ci := 9) (v := .ref p2) (ty := (.object "NeedHouse$Datas")) (C := RX9) (T := TX9) (N := 20) hx hb hts hin_X9 tyX9 tyX9_ok nmX9 hown hK hP hD hS 0 rfl rfl 2 (by decide) (hts (.fieldLink RX9 64 "NeedHouse$Tree" "datas" "LNeedHouse$Datas;") (List.mem_of_getElem? (i := 21) rfl)) (fun _ h9 => h9) rfl hin rfl (by decide +kernel) rfl rfl (by rw [hF_59.1]; decide) dX9_init_142 (fun H locs hP hD hS => ?_)
  have hP : va_P (dC, dI) vwCl [(h0, .inr (9, (fs_60.set 2 (.ref p2))))] H := hP
  have hD : va_D A [(h0, .inr (9, (fs_60.set 2 (.ref p2))))] := hD
  have hF_61 := hF_59.set 2 (.ref p2) (l' := [(2, .ref p2), (1, .ref p1), (0, .ref p0), (16, .ref q_53), (15, .ref q_49), (14, .ref q_45), (13, .ref q_41), (12, .ref q_37), (11, .ref q_33), (10, .ref q_29), (9, .ref q_25), (8, .ref q_21), (7, .ref q_17), (6, .ref q_13), (5, .ref q_9), (4, .ref q_5), (3, .ref q_1), (17, .int 0), (18, .int 0), (19, .int 0)]) (by decide) rfl
  generalize fs_60.set 2 (.ref p2) = fs_62 at hP hD hF_61
  have hP : va_P (dC, dI) vwCl [(h0, .inr (9, fs_62))] H := hP
  have hD : va_D A [(h0, .inr (9, fs_62))] := hD
  have hP9 := hP.sub (ws' := [(h0, .inr (9, fs_62))]) [0] rfl
  have hD9 := hD.sub (ws' := [(h0, .inr (9, fs_62))]) [0] (by decide) rfl
  have hK9 := hK.sub (tys' := [(cI, .int)]) [0] rfl
  exact W.vret hx hb hr (fun t ht hW => ⟨⟨(fs_62), rfl, hF_61.sub [2, 1, 0, 17, 18, 19] rfl, by rw [ht]; exact hP9, va_K.moved hW.alike hK9, hD9⟩, hS.F ht⟩) hS.2.2 dX9_init_145
def pw_c_X1_init : List Cond := .code yX1_init cX1_init 2 none :: ([.code objectInit ⟨#[0xb1]⟩ 1 none, .methodLink RX1 5 objectInit, .instanceMethod objectInit, .arrayClass .int, .fieldLink RX1 13 "NeedHouse$Layout" "stack" "[I", .fieldLink RX1 17 "NeedHouse$Layout" "lexemes" "LNeedHouse$Lexemes;"] ++ (wsX10 ++ []))
set_option maxHeartbeats 4000000 in
set_option maxRecDepth 100000 in
theorem c_X1_init (l : Launch) (dC : Nat → ClassId) (dI : Nat → Nat → Nat) (sz : Nat) (h0 : Nat) (fs : List Value) (cI : ClassId) (p0 : Nat) (hF : hasF fs 9 [(2, .int 0), (3, .int 0), (4, .int 0), (5, .int 0), (6, .int 0), (7, .int 0), (8, .int 0)]) : Met l yX1_init pw_c_X1_init ({ frames := 1, cells := 1, slots := 8008, locals := 12 }) (va_Pc [.ref h0, .ref p0] (fun U => U.heap.size = sz ∧ va_P (dC, dI) vwCl [(h0, .inr (1, fs))] U.heap ∧ va_K (dC, dI) vwCl [(cI, .int)] U ∧ va_D (fun _ => True) [(h0, .inr (1, fs))])) (va_Qv (fun (u : (List Value) × (Nat)) => hasF u.1 9 [(0, .ref p0), (1, .ref u.2), (2, .int 0), (3, .int 0), (4, .int 0), (5, .int 0), (6, .int 0), (7, .int 0), (8, .int 0)]) (fun (u : (List Value) × (Nat)) (t : State) => va_P (dC, dI) vwCl [(h0, .inr (1, u.1)), (u.2, .inl (cI, 8008, .inl (fun _ => 0)))] t.heap ∧ va_K (dC, dI) vwCl [(cI, .int)] t ∧ va_D (va_A [(h0, .inr (1, fs))] sz) [(h0, .inr (1, u.1)), (u.2, .inl (cI, 8008, .inl (fun _ => 0)))]) (va_A [(h0, .inr (1, fs))] sz)) 1 8008 (va_A [(h0, .inr (1, fs))] sz) := by
  refine Met.ofW (cc := cX1_init) (maxL := 2) (ret := none) (by decide) rfl ?_
  intro p e s m args below meth c s₁ B hml hv
  obtain ⟨rfl, hsz, hP, hK, hD0⟩ := hv
  have hx := B.exec
  have hb := B.bytes
  have hr := B.returns
  have hts := atoms_spec (ws := pw_c_X1_init) B.pre
  have hown : s.vm.findClass RX1 = some m.cls := findClass_of_methodNamed B.named
  have hlocks := B.notSynchronized
  have hin : meth.name = "<init>" := (name_of_methodNamed B.named B.method).1
  have hin_X1 : ∀ w ∈ u_ws RX1 TX1 9, w ∈ pw_c_X1_init := fun w h => List.mem_cons_of_mem _ (List.mem_append_right _ (List.mem_append_left _ h))
  subst hsz
  have hD := hD0.self (sz := s.heap.size)
  generalize hAe : va_A [(h0, .inr (1, fs))] s.heap.size = A at hD ⊢
  have hA : ∀ q : Nat, s.heap.size ≤ q → A q := fun q h => by rw [← hAe]; exact Or.inr h
  have hS : va_S A s.heap s.heap [] := va_S.rf
  have hP : va_P (dC, dI) vwCl [(h0, .inr (1, fs))] s.heap := hP
  have hl := lv_entry ([.ref h0, .ref p0]) (n := 2) (Nat.le_of_ble_eq_true rfl)
  rw [lg_entry_eq]
  generalize (lg_sl ([.ref h0, .ref p0]) ++ List.replicate (2 - (lg_sl ([.ref h0, .ref p0])).length) Slot.unset).toArray = ls at hl ⊢
  have hl : lv_has ls 2 [(0, .ref h0), (1, .ref p0)] := hl
  refine lv_aload_n hx hb dX1_init_0 rfl (lv_at hl 0 rfl) ?_
  refine W.objInit hx hb hown (hts (.methodLink RX1 5 objectInit) (List.mem_of_getElem? (i := 2) rfl)) (hts (.instanceMethod objectInit) (List.mem_of_getElem? (i := 3) rfl)) (hts _ (List.mem_of_getElem? (i := 1) rfl)) rfl (by rw [hml]; exact hl.1) rfl dX1_init_1 (Nat.le_of_ble_eq_true rfl) (Nat.le_of_ble_eq_true rfl) ?_
  refine W.eq (g2 := F0 m 4 ls []) rfl ?_
  refine lv_aload_n hx hb dX1_init_4 rfl (lv_at hl 0 rfl) ?_
  refine lv_sipush (v := 8008) hx hb dX1_init_5 (by decide) ?_
  refine va_newa (atype := .int) (a0 := (8008, .inl (fun _ => 0))) hx hb (hts (.arrayClass .int) (List.mem_of_getElem? (i := 4) rfl)) (ty := .int) rfl hK hP hD hS hA (na_int 8008) (by decide) (by decide +kernel) (show 8008 * 4 ≤ 536870912 by decide) (show 0 + 1 ≤ 1 by decide) (show 0 + 8008 ≤ 8008 by decide) dX1_init_8 (fun q_1 cA_2 H hK hP hD hS => ?_)
  have hK : va_K (dC, dI) vwCl [(cI, .int), (cA_2, .int)] s := hK
  obtain rfl := kU_int hK 0 1 rfl rfl
  have hK := hK.sub (tys' := [(cI, .int)]) [0] rfl
  have hP : va_P (dC, dI) vwCl [(h0, .inr (1, fs)), (q_1, .inl (cI, 8008, .inl (fun _ => 0)))] H := hP
  have hD : va_D A [(h0, .inr (1, fs)), (q_1, .inl (cI, 8008, .inl (fun _ => 0)))] := hD
  refine W.widen (k := 1) (n := 8008) (by decide) (by decide) ?_
  refine va_putF (D := (dC, dI)) (ci := 1) (v := .ref q_1) (ty := (.array .int)) (C := RX1) (T := TX1) (N := 9) hx hb hts hin_X1 tyX1 tyX1_ok nmX1 hown hK hP hD hS 0 rfl rfl 1 (by decide) (hts (.fieldLink RX1 13 "NeedHouse$Layout" "stack" "[I") (List.mem_of_getElem? (i := 5) rfl)) (fun _ h9 => h9) rfl hin rfl (by decide +kernel) rfl rfl (by rw [hF.1]; decide) dX1_init_10 (fun H locs hP hD hS => ?_)
  have hP : va_P (dC, dI) vwCl [(h0, .inr (1, (fs.set 1 (.ref q_1)))), (q_1, .inl (cI, 8008, .inl (fun _ => 0)))] H := hP
  have hD : va_D A [(h0, .inr (1, (fs.set 1 (.ref q_1)))), (q_1, .inl (cI, 8008, .inl (fun _ => 0)))] := hD
  have hF_3 := hF.set 1 (.ref q_1) (l' := [(1, .ref q_1), (2, .int 0), (3, .int 0), (4, .int 0), (5, .int 0), (6, .int 0), (7, .int 0), (8, .int 0)]) (by decide) rfl
  generalize fs.set 1 (.ref q_1) = fs_4 at hP hD hF_3
  have hP : va_P (dC, dI) vwCl [(h0, .inr (1, fs_4)), (q_1, .inl (cI, 8008, .inl (fun _ => 0)))] H := hP
  have hD : va_D A [(h0, .inr (1, fs_4)), (q_1, .inl (cI, 8008, .inl (fun _ => 0)))] := hD
  refine lv_aload_n hx hb dX1_init_13 rfl (lv_at hl 0 rfl) ?_
  refine lv_aload_n hx hb dX1_init_14 rfl (lv_at hl 1 rfl) ?_
  refine va_putF (D := (dC, dI)) (ci := 1) (v := .ref p0) (ty := (.object "NeedHouse$Lexemes")) (C := RX1) (T := TX1) (N := 9) hx hb hts hin_X1 tyX1 tyX1_ok nmX1 hown hK hP hD hS 0 rfl rfl 0 (by decide) (hts (.fieldLink RX1 17 "NeedHouse$Layout" "lexemes" "LNeedHouse$Lexemes;") (List.mem_of_getElem? (i := 6) rfl)) (fun _ h9 => h9) rfl hin rfl (by decide +kernel) rfl rfl (by rw [hF_3.1]; decide) dX1_init_15 (fun H locs hP hD hS => ?_)
  have hP : va_P (dC, dI) vwCl [(h0, .inr (1, (fs_4.set 0 (.ref p0)))), (q_1, .inl (cI, 8008, .inl (fun _ => 0)))] H := hP
  have hD : va_D A [(h0, .inr (1, (fs_4.set 0 (.ref p0)))), (q_1, .inl (cI, 8008, .inl (fun _ => 0)))] := hD
  have hF_5 := hF_3.set 0 (.ref p0) (l' := [(0, .ref p0), (1, .ref q_1), (2, .int 0), (3, .int 0), (4, .int 0), (5, .int 0), (6, .int 0), (7, .int 0), (8, .int 0)]) (by decide) rfl
  generalize fs_4.set 0 (.ref p0) = fs_6 at hP hD hF_5
  have hP : va_P (dC, dI) vwCl [(h0, .inr (1, fs_6)), (q_1, .inl (cI, 8008, .inl (fun _ => 0)))] H := hP
  have hD : va_D A [(h0, .inr (1, fs_6)), (q_1, .inl (cI, 8008, .inl (fun _ => 0)))] := hD
  have hP9 := hP.sub (ws' := [(h0, .inr (1, fs_6)), (q_1, .inl (cI, 8008, .inl (fun _ => 0)))]) [0, 1] rfl
  have hD9 := hD.sub (ws' := [(h0, .inr (1, fs_6)), (q_1, .inl (cI, 8008, .inl (fun _ => 0)))]) [0, 1] (by decide) rfl
  have hK9 := hK.sub (tys' := [(cI, .int)]) [0] rfl
  exact W.vret hx hb hr (fun t ht hW => ⟨⟨((fs_6, q_1)), rfl, hF_5.sub [0, 1, 2, 3, 4, 5, 6, 7, 8] rfl, by rw [ht]; exact hP9, va_K.moved hW.alike hK9, hD9⟩, hS.F ht⟩) hS.2.2 dX1_init_18
def pw_c_X11_init : List Cond := .code yX11_init cX11_init 2 none :: ([.code objectInit ⟨#[0xb1]⟩ 1 none, .methodLink RX11 9 objectInit, .instanceMethod objectInit, .arrayClass .byte, .fieldLink RX11 15 "NeedHouse$Types" "kind" "[B", .arrayClass .int, .fieldLink RX11 19 "NeedHouse$Types" "info" "[I", .fieldLink RX11 23 "NeedHouse$Types" "stamp" "[I", .fieldLink RX11 26 "NeedHouse$Types" "parts" "[I", .fieldLink RX11 29 "NeedHouse$Types" "pairs" "[I", .fieldLink RX11 32 "NeedHouse$Types" "walk" "[I", .fieldLink RX11 35 "NeedHouse$Types" "codes" "[I", .fieldLink RX11 38 "NeedHouse$Types" "codeSize" "[I", .fieldLink RX11 41 "NeedHouse$Types" "free" "[I", .fieldLink RX11 44 "NeedHouse$Types" "around" "[I", .fieldLink RX11 47 "NeedHouse$Types" "datas" "LNeedHouse$Datas;"] ++ (wsX110 ++ []))
set_option maxHeartbeats 4000000 in
set_option maxRecDepth 100000 in
theorem c_X11_init (l : Launch) (dC : Nat → ClassId) (dI : Nat → Nat → Nat) (sz : Nat) (h0 : Nat) (fs : List Value) (cI : ClassId) (cB : ClassId) (p0 : Nat) (hF : hasF fs 18 [(11, .int 0), (12, .int 0), (13, .int 0), (14, .int 0), (15, .int 0), (16, .int 0), (17, .int 0)]) : Met l yX11_init pw_c_X11_init ({ frames := 1, cells := 10, slots := 42590, locals := 12 }) (va_Pc [.ref h0, .ref p0] (fun U => U.heap.size = sz ∧ va_P (dC, dI) vwCl [(h0, .inr (11, fs))] U.heap ∧ va_K (dC, dI) vwCl [(cI, .int), (cB, .byte)] U ∧ va_D (fun _ => True) [(h0, .inr (11, fs))])) (va_Qv (fun (u : (List Value)) => hasF u 18 [(0, .ref p0), (11, .int 0), (12, .int 0), (13, .int 0), (14, .int 0), (15, .int 0), (16, .int 0), (17, .int 0)]) (fun (u : (List Value)) (t : State) => va_P (dC, dI) vwCl [(h0, .inr (11, u))] t.heap ∧ va_K (dC, dI) vwCl [(cI, .int), (cB, .byte)] t ∧ va_D (va_A [(h0, .inr (11, fs))] sz) [(h0, .inr (11, u))]) (va_A [(h0, .inr (11, fs))] sz)) 10 42590 (va_A [(h0, .inr (11, fs))] sz) := by
  refine Met.ofW (cc := cX11_init) (maxL := 2) (ret := none) (by decide) rfl ?_
  intro p e s m args below meth c s₁ B hml hv
  obtain ⟨rfl, hsz, hP, hK, hD0⟩ := hv
  have hx := B.exec
  have hb := B.bytes
  have hr := B.returns
  have hts := atoms_spec (ws := pw_c_X11_init) B.pre
  have hown : s.vm.findClass RX11 = some m.cls := findClass_of_methodNamed B.named
  have hlocks := B.notSynchronized
  have hin : meth.name = "<init>" := (name_of_methodNamed B.named B.method).1
  have hin_X11 : ∀ w ∈ u_ws RX11 TX11 18, w ∈ pw_c_X11_init := fun w h => List.mem_cons_of_mem _ (List.mem_append_right _ (List.mem_append_left _ h))
  subst hsz
  have hD := hD0.self (sz := s.heap.size)
  generalize hAe : va_A [(h0, .inr (11, fs))] s.heap.size = A at hD ⊢
  have hA : ∀ q : Nat, s.heap.size ≤ q → A q := fun q h => by rw [← hAe]; exact Or.inr h
  have hS : va_S A s.heap s.heap [] := va_S.rf
  have hP : va_P (dC, dI) vwCl [(h0, .inr (11, fs))] s.heap := hP
  have hl := lv_entry ([.ref h0, .ref p0]) (n := 2) (Nat.le_of_ble_eq_true rfl)
  rw [lg_entry_eq]
  generalize (lg_sl ([.ref h0, .ref p0]) ++ List.replicate (2 - (lg_sl ([.ref h0, .ref p0])).length) Slot.unset).toArray = ls at hl ⊢
  have hl : lv_has ls 2 [(0, .ref h0), (1, .ref p0)] := hl
  refine lv_aload_n hx hb dX11_init_0 rfl (lv_at hl 0 rfl) ?_
  refine W.objInit hx hb hown (hts (.methodLink RX11 9 objectInit) (List.mem_of_getElem? (i := 2) rfl)) (hts (.instanceMethod objectInit) (List.mem_of_getElem? (i := 3) rfl)) (hts _ (List.mem_of_getElem? (i := 1) rfl)) rfl (by rw [hml]; exact hl.1) rfl dX11_init_1 (Nat.le_of_ble_eq_true rfl) (Nat.le_of_ble_eq_true rfl) ?_
  refine W.eq (g2 := F0 m 4 ls []) rfl ?_
  refine lv_aload_n hx hb dX11_init_4 rfl (lv_at hl 0 rfl) ?_
  refine lv_sipush (v := 4096) hx hb dX11_init_5 (by decide) ?_
  refine va_newa (atype := .byte) (a0 := (4096, .inl (fun _ => 0))) hx hb (hts (.arrayClass .byte) (List.mem_of_getElem? (i := 4) rfl)) (ty := .byte) rfl hK hP hD hS hA (na_byte 4096) (by decide) (by decide +kernel) (show 4096 * 1 ≤ 536870912 by decide) (show 0 + 1 ≤ 10 by decide) (show 0 + 4096 ≤ 42590 by decide) dX11_init_8 (fun q_1 cA_2 H hK hP hD hS => ?_)
  have hK : va_K (dC, dI) vwCl [(cI, .int), (cB, .byte), (cA_2, .byte)] s := hK
  obtain rfl := kU_byte hK 1 2 rfl rfl
  have hK := hK.sub (tys' := [(cI, .int), (cB, .byte)]) [0, 1] rfl
  have hP : va_P (dC, dI) vwCl [(h0, .inr (11, fs)), (q_1, .inl (cB, 4096, .inl (fun _ => 0)))] H := hP
  have hD : va_D A [(h0, .inr (11, fs)), (q_1, .inl (cB, 4096, .inl (fun _ => 0)))] := hD
  refine W.widen (k := 1) (n := 4096) (by decide) (by decide) ?_
  refine va_put (D := (dC, dI)) (ci := 11) (v := .ref q_1) (ty := (.array .byte)) (C := RX11) (T := TX11) (N := 18) hx hb hts hin_X11 tyX11 tyX11_ok nmX11 hown hK hP hD hS 0 rfl rfl 1 (by decide) (hts (.fieldLink RX11 15 "NeedHouse$Types" "kind" "[B") (List.mem_of_getElem? (i := 5) rfl)) (fun _ h9 => h9) rfl (by decide +kernel) rfl rfl (by rw [hF.1]; decide) dX11_init_10 (fun H locs hP hD hS => ?_)
  have hP : va_P (dC, dI) vwCl [(h0, .inr (11, (fs.set 1 (.ref q_1)))), (q_1, .inl (cB, 4096, .inl (fun _ => 0)))] H := hP
  have hD : va_D A [(h0, .inr (11, (fs.set 1 (.ref q_1)))), (q_1, .inl (cB, 4096, .inl (fun _ => 0)))] := hD
  have hF_3 := hF.set 1 (.ref q_1) (l' := [(1, .ref q_1), (11, .int 0), (12, .int 0), (13, .int 0), (14, .int 0), (15, .int 0), (16, .int 0), (17, .int 0)]) (by decide) rfl
  generalize fs.set 1 (.ref q_1) = fs_4 at hP hD hF_3
  have hP : va_P (dC, dI) vwCl [(h0, .inr (11, fs_4)), (q_1, .inl (cB, 4096, .inl (fun _ => 0)))] H := hP
  have hD : va_D A [(h0, .inr (11, fs_4)), (q_1, .inl (cB, 4096, .inl (fun _ => 0)))] := hD
  have hP := hP.sub (ws' := [(h0, .inr (11, fs_4))]) [0] rfl
  have hD := hD.sub (ws' := [(h0, .inr (11, fs_4))]) [0] (by decide) rfl
  refine lv_aload_n hx hb dX11_init_13 rfl (lv_at hl 0 rfl) ?_
  refine lv_sipush (v := 4096) hx hb dX11_init_14 (by decide) ?_
  refine va_newa (atype := .int) (a0 := (4096, .inl (fun _ => 0))) hx hb (hts (.arrayClass .int) (List.mem_of_getElem? (i := 6) rfl)) (ty := .int) rfl hK hP hD hS hA (na_int 4096) (by decide) (by decide +kernel) (show 4096 * 4 ≤ 536870912 by decide) (show 1 + 1 ≤ 10 by decide) (show 4096 + 4096 ≤ 42590 by decide) dX11_init_17 (fun q_5 cA_6 H hK hP hD hS => ?_)
  have hK : va_K (dC, dI) vwCl [(cI, .int), (cB, .byte), (cA_6, .int)] s := hK
  obtain rfl := kU_int hK 0 2 rfl rfl
  have hK := hK.sub (tys' := [(cI, .int), (cB, .byte)]) [0, 1] rfl
  have hP : va_P (dC, dI) vwCl [(h0, .inr (11, fs_4)), (q_5, .inl (cI, 4096, .inl (fun _ => 0)))] H := hP
  have hD : va_D A [(h0, .inr (11, fs_4)), (q_5, .inl (cI, 4096, .inl (fun _ => 0)))] := hD
  refine W.widen (k := 2) (n := 8192) (by decide) (by decide) ?_
  refine va_put (D := (dC, dI)) (ci := 11) (v := .ref q_5) (ty := (.array .int)) (C := RX11) (T := TX11) (N := 18) hx hb hts hin_X11 tyX11 tyX11_ok nmX11 hown hK hP hD hS 0 rfl rfl 2 (by decide) (hts (.fieldLink RX11 19 "NeedHouse$Types" "info" "[I") (List.mem_of_getElem? (i := 7) rfl)) (fun _ h9 => h9) rfl (by decide +kernel) rfl rfl (by rw [hF_3.1]; decide) dX11_init_19 (fun H locs hP hD hS => ?_)
  have hP : va_P (dC, dI) vwCl [(h0, .inr (11, (fs_4.set 2 (.ref q_5)))), (q_5, .inl (cI, 4096, .inl (fun _ => 0)))] H := hP
  have hD : va_D A [(h0, .inr (11, (fs_4.set 2 (.ref q_5)))), (q_5, .inl (cI, 4096, .inl (fun _ => 0)))] := hD
  have hF_7 := hF_3.set 2 (.ref q_5) (l' := [(2, .ref q_5), (1, .ref q_1), (11, .int 0), (12, .int 0), (13, .int 0), (14, .int 0), (15, .int 0), (16, .int 0), (17, .int 0)]) (by decide) rfl
  generalize fs_4.set 2 (.ref q_5) = fs_8 at hP hD hF_7
  have hP : va_P (dC, dI) vwCl [(h0, .inr (11, fs_8)), (q_5, .inl (cI, 4096, .inl (fun _ => 0)))] H := hP
  have hD : va_D A [(h0, .inr (11, fs_8)), (q_5, .inl (cI, 4096, .inl (fun _ => 0)))] := hD
  have hP := hP.sub (ws' := [(h0, .inr (11, fs_8))]) [0] rfl
  have hD := hD.sub (ws' := [(h0, .inr (11, fs_8))]) [0] (by decide) rfl
  refine lv_aload_n hx hb dX11_init_22 rfl (lv_at hl 0 rfl) ?_
  refine lv_sipush (v := 4096) hx hb dX11_init_23 (by decide) ?_
  refine va_newa (atype := .int) (a0 := (4096, .inl (fun _ => 0))) hx hb (hts (.arrayClass .int) (List.mem_of_getElem? (i := 6) rfl)) (ty := .int) rfl hK hP hD hS hA (na_int 4096) (by decide) (by decide +kernel) (show 4096 * 4 ≤ 536870912 by decide) (show 2 + 1 ≤ 10 by decide) (show 8192 + 4096 ≤ 42590 by decide) dX11_init_26 (fun q_9 cA_10 H hK hP hD hS => ?_)
  have hK : va_K (dC, dI) vwCl [(cI, .int), (cB, .byte), (cA_10, .int)] s := hK
  obtain rfl := kU_int hK 0 2 rfl rfl
  have hK := hK.sub (tys' := [(cI, .int), (cB, .byte)]) [0, 1] rfl
  have hP : va_P (dC, dI) vwCl [(h0, .inr (11, fs_8)), (q_9, .inl (cI, 4096, .inl (fun _ => 0)))] H := hP
  have hD : va_D A [(h0, .inr (11, fs_8)), (q_9, .inl (cI, 4096, .inl (fun _ => 0)))] := hD
  refine W.widen (k := 3) (n := 12288) (by decide) (by decide) ?_
  refine va_put (D := (dC, dI)) (ci := 11) (v := .ref q_9) (ty := (.array .int)) (C := RX11) (T := TX11) (N := 18) hx hb hts hin_X11 tyX11 tyX11_ok nmX11 hown hK hP hD hS 0 rfl rfl 3 (by decide) (hts (.fieldLink RX11 23 "NeedHouse$Types" "stamp" "[I") (List.mem_of_getElem? (i := 8) rfl)) (fun _ h9 => h9) rfl (by decide +kernel) rfl rfl (by rw [hF_7.1]; decide) dX11_init_28 (fun H locs hP hD hS => ?_)
  have hP : va_P (dC, dI) vwCl [(h0, .inr (11, (fs_8.set 3 (.ref q_9)))), (q_9, .inl (cI, 4096, .inl (fun _ => 0)))] H := hP
  have hD : va_D A [(h0, .inr (11, (fs_8.set 3 (.ref q_9)))), (q_9, .inl (cI, 4096, .inl (fun _ => 0)))] := hD
  have hF_11 := hF_7.set 3 (.ref q_9) (l' := [(3, .ref q_9), (2, .ref q_5), (1, .ref q_1), (11, .int 0), (12, .int 0), (13, .int 0), (14, .int 0), (15, .int 0), (16, .int 0), (17, .int 0)]) (by decide) rfl
  generalize fs_8.set 3 (.ref q_9) = fs_12 at hP hD hF_11
  have hP : va_P (dC, dI) vwCl [(h0, .inr (11, fs_12)), (q_9, .inl (cI, 4096, .inl (fun _ => 0)))] H := hP
  have hD : va_D A [(h0, .inr (11, fs_12)), (q_9, .inl (cI, 4096, .inl (fun _ => 0)))] := hD
  have hP := hP.sub (ws' := [(h0, .inr (11, fs_12))]) [0] rfl
  have hD := hD.sub (ws' := [(h0, .inr (11, fs_12))]) [0] (by decide) rfl
  refine lv_aload_n hx hb dX11_init_31 rfl (lv_at hl 0 rfl) ?_
  refine lv_sipush (v := 4096) hx hb dX11_init_32 (by decide) ?_
  refine va_newa (atype := .int) (a0 := (4096, .inl (fun _ => 0))) hx hb (hts (.arrayClass .int) (List.mem_of_getElem? (i := 6) rfl)) (ty := .int) rfl hK hP hD hS hA (na_int 4096) (by decide) (by decide +kernel) (show 4096 * 4 ≤ 536870912 by decide) (show 3 + 1 ≤ 10 by decide) (show 12288 + 4096 ≤ 42590 by decide) dX11_init_35 (fun q_13 cA_14 H hK hP hD hS => ?_)
  have hK : va_K (dC, dI) vwCl [(cI, .int), (cB, .byte), (cA_14, .int)] s := hK
  obtain rfl := kU_int hK 0 2 rfl rfl
  have hK := hK.sub (tys' := [(cI, .int), (cB, .byte)]) [0, 1] rfl
  have hP : va_P (dC, dI) vwCl [(h0, .inr (11, fs_12)), (q_13, .inl (cI, 4096, .inl (fun _ => 0)))] H := hP
  have hD : va_D A [(h0, .inr (11, fs_12)), (q_13, .inl (cI, 4096, .inl (fun _ => 0)))] := hD
  refine W.widen (k := 4) (n := 16384) (by decide) (by decide) ?_
  refine va_put (D := (dC, dI)) (ci := 11) (v := .ref q_13) (ty := (.array .int)) (C := RX11) (T := TX11) (N := 18) hx hb hts hin_X11 tyX11 tyX11_ok nmX11 hown hK hP hD hS 0 rfl rfl 4 (by decide) (hts (.fieldLink RX11 26 "NeedHouse$Types" "parts" "[I") (List.mem_of_getElem? (i := 9) rfl)) (fun _ h9 => h9) rfl (by decide +kernel) rfl rfl (by rw [hF_11.1]; decide) dX11_init_37 (fun H locs hP hD hS => ?_)
  have hP : va_P (dC, dI) vwCl [(h0, .inr (11, (fs_12.set 4 (.ref q_13)))), (q_13, .inl (cI, 4096, .inl (fun _ => 0)))] H := hP
  have hD : va_D A [(h0, .inr (11, (fs_12.set 4 (.ref q_13)))), (q_13, .inl (cI, 4096, .inl (fun _ => 0)))] := hD
  have hF_15 := hF_11.set 4 (.ref q_13) (l' := [(4, .ref q_13), (3, .ref q_9), (2, .ref q_5), (1, .ref q_1), (11, .int 0), (12, .int 0), (13, .int 0), (14, .int 0), (15, .int 0), (16, .int 0), (17, .int 0)]) (by decide) rfl
  generalize fs_12.set 4 (.ref q_13) = fs_16 at hP hD hF_15
  have hP : va_P (dC, dI) vwCl [(h0, .inr (11, fs_16)), (q_13, .inl (cI, 4096, .inl (fun _ => 0)))] H := hP
  have hD : va_D A [(h0, .inr (11, fs_16)), (q_13, .inl (cI, 4096, .inl (fun _ => 0)))] := hD
  have hP := hP.sub (ws' := [(h0, .inr (11, fs_16))]) [0] rfl
  have hD := hD.sub (ws' := [(h0, .inr (11, fs_16))]) [0] (by decide) rfl
  refine lv_aload_n hx hb dX11_init_40 rfl (lv_at hl 0 rfl) ?_
  refine lv_sipush (v := 1024) hx hb dX11_init_41 (by decide) ?_
  refine va_newa (atype := .int) (a0 := (1024, .inl (fun _ => 0))) hx hb (hts (.arrayClass .int) (List.mem_of_getElem? (i := 6) rfl)) (ty := .int) rfl hK hP hD hS hA (na_int 1024) (by decide) (by decide +kernel) (show 1024 * 4 ≤ 536870912 by decide) (show 4 + 1 ≤ 10 by decide) (show 16384 + 1024 ≤ 42590 by decide) dX11_init_44 (fun q_17 cA_18 H hK hP hD hS => ?_)
  have hK : va_K (dC, dI) vwCl [(cI, .int), (cB, .byte), (cA_18, .int)] s := hK
  obtain rfl := kU_int hK 0 2 rfl rfl
  have hK := hK.sub (tys' := [(cI, .int), (cB, .byte)]) [0, 1] rfl
  have hP : va_P (dC, dI) vwCl [(h0, .inr (11, fs_16)), (q_17, .inl (cI, 1024, .inl (fun _ => 0)))] H := hP
  have hD : va_D A [(h0, .inr (11, fs_16)), (q_17, .inl (cI, 1024, .inl (fun _ => 0)))] := hD
  refine W.widen (k := 5) (n := 17408) (by decide) (by decide) ?_
  refine va_put (D := (dC, dI)) (ci := 11) (v := .ref q_17) (ty := (.array .int)) (C := RX11) (T := TX11) (N := 18) hx hb hts hin_X11 tyX11 tyX11_ok nmX11 hown hK hP hD hS 0 rfl rfl 5 (by decide) (hts (.fieldLink RX11 29 "NeedHouse$Types" "pairs" "[I") (List.mem_of_getElem? (i := 10) rfl)) (fun _ h9 => h9) rfl (by decide +kernel) rfl rfl (by rw [hF_15.1]; decide) dX11_init_46 (fun H locs hP hD hS => ?_)
  have hP : va_P (dC, dI) vwCl [(h0, .inr (11, (fs_16.set 5 (.ref q_17)))), (q_17, .inl (cI, 1024, .inl (fun _ => 0)))] H := hP
  have hD : va_D A [(h0, .inr (11, (fs_16.set 5 (.ref q_17)))), (q_17, .inl (cI, 1024, .inl (fun _ => 0)))] := hD
  have hF_19 := hF_15.set 5 (.ref q_17) (l' := [(5, .ref q_17), (4, .ref q_13), (3, .ref q_9), (2, .ref q_5), (1, .ref q_1), (11, .int 0), (12, .int 0), (13, .int 0), (14, .int 0), (15, .int 0), (16, .int 0), (17, .int 0)]) (by decide) rfl
  generalize fs_16.set 5 (.ref q_17) = fs_20 at hP hD hF_19
  have hP : va_P (dC, dI) vwCl [(h0, .inr (11, fs_20)), (q_17, .inl (cI, 1024, .inl (fun _ => 0)))] H := hP
  have hD : va_D A [(h0, .inr (11, fs_20)), (q_17, .inl (cI, 1024, .inl (fun _ => 0)))] := hD
  have hP := hP.sub (ws' := [(h0, .inr (11, fs_20))]) [0] rfl
  have hD := hD.sub (ws' := [(h0, .inr (11, fs_20))]) [0] (by decide) rfl
  refine lv_aload_n hx hb dX11_init_49 rfl (lv_at hl 0 rfl) ?_
  refine lv_sipush (v := 1024) hx hb dX11_init_50 (by decide) ?_
  refine va_newa (atype := .int) (a0 := (1024, .inl (fun _ => 0))) hx hb (hts (.arrayClass .int) (List.mem_of_getElem? (i := 6) rfl)) (ty := .int) rfl hK hP hD hS hA (na_int 1024) (by decide) (by decide +kernel) (show 1024 * 4 ≤ 536870912 by decide) (show 5 + 1 ≤ 10 by decide) (show 17408 + 1024 ≤ 42590 by decide) dX11_init_53 (fun q_21 cA_22 H hK hP hD hS => ?_)
  have hK : va_K (dC, dI) vwCl [(cI, .int), (cB, .byte), (cA_22, .int)] s := hK
  obtain rfl := kU_int hK 0 2 rfl rfl
  have hK := hK.sub (tys' := [(cI, .int), (cB, .byte)]) [0, 1] rfl
  have hP : va_P (dC, dI) vwCl [(h0, .inr (11, fs_20)), (q_21, .inl (cI, 1024, .inl (fun _ => 0)))] H := hP
  have hD : va_D A [(h0, .inr (11, fs_20)), (q_21, .inl (cI, 1024, .inl (fun _ => 0)))] := hD
  refine W.widen (k := 6) (n := 18432) (by decide) (by decide) ?_
  refine va_put (D := (dC, dI)) (ci := 11) (v := .ref q_21) (ty := (.array .int)) (C := RX11) (T := TX11) (N := 18) hx hb hts hin_X11 tyX11 tyX11_ok nmX11 hown hK hP hD hS 0 rfl rfl 6 (by decide) (hts (.fieldLink RX11 32 "NeedHouse$Types" "walk" "[I") (List.mem_of_getElem? (i := 11) rfl)) (fun _ h9 => h9) rfl (by decide +kernel) rfl rfl (by rw [hF_19.1]; decide) dX11_init_55 (fun H locs hP hD hS => ?_)
  have hP : va_P (dC, dI) vwCl [(h0, .inr (11, (fs_20.set 6 (.ref q_21)))), (q_21, .inl (cI, 1024, .inl (fun _ => 0)))] H := hP
  have hD : va_D A [(h0, .inr (11, (fs_20.set 6 (.ref q_21)))), (q_21, .inl (cI, 1024, .inl (fun _ => 0)))] := hD
  have hF_23 := hF_19.set 6 (.ref q_21) (l' := [(6, .ref q_21), (5, .ref q_17), (4, .ref q_13), (3, .ref q_9), (2, .ref q_5), (1, .ref q_1), (11, .int 0), (12, .int 0), (13, .int 0), (14, .int 0), (15, .int 0), (16, .int 0), (17, .int 0)]) (by decide) rfl
  generalize fs_20.set 6 (.ref q_21) = fs_24 at hP hD hF_23
  have hP : va_P (dC, dI) vwCl [(h0, .inr (11, fs_24)), (q_21, .inl (cI, 1024, .inl (fun _ => 0)))] H := hP
  have hD : va_D A [(h0, .inr (11, fs_24)), (q_21, .inl (cI, 1024, .inl (fun _ => 0)))] := hD
  have hP := hP.sub (ws' := [(h0, .inr (11, fs_24))]) [0] rfl
  have hD := hD.sub (ws' := [(h0, .inr (11, fs_24))]) [0] (by decide) rfl
  refine lv_aload_n hx hb dX11_init_58 rfl (lv_at hl 0 rfl) ?_
  refine lv_sipush (v := 23424) hx hb dX11_init_59 (by decide) ?_
  refine va_newa (atype := .int) (a0 := (23424, .inl (fun _ => 0))) hx hb (hts (.arrayClass .int) (List.mem_of_getElem? (i := 6) rfl)) (ty := .int) rfl hK hP hD hS hA (na_int 23424) (by decide) (by decide +kernel) (show 23424 * 4 ≤ 536870912 by decide) (show 6 + 1 ≤ 10 by decide) (show 18432 + 23424 ≤ 42590 by decide) dX11_init_62 (fun q_25 cA_26 H hK hP hD hS => ?_)
  have hK : va_K (dC, dI) vwCl [(cI, .int), (cB, .byte), (cA_26, .int)] s := hK
  obtain rfl := kU_int hK 0 2 rfl rfl
  have hK := hK.sub (tys' := [(cI, .int), (cB, .byte)]) [0, 1] rfl
  have hP : va_P (dC, dI) vwCl [(h0, .inr (11, fs_24)), (q_25, .inl (cI, 23424, .inl (fun _ => 0)))] H := hP
  have hD : va_D A [(h0, .inr (11, fs_24)), (q_25, .inl (cI, 23424, .inl (fun _ => 0)))] := hD
  refine W.widen (k := 7) (n := 41856) (by decide) (by decide) ?_
  refine va_putF (D := (dC, dI)) (ci := 11) (v := .ref q_25) (ty := (.array .int)) (C := RX11) (T := TX11) (N := 18) hx hb hts hin_X11 tyX11 tyX11_ok nmX11 hown hK hP hD hS 0 rfl rfl 7 (by decide) (hts (.fieldLink RX11 35 "NeedHouse$Types" "codes" "[I") (List.mem_of_getElem? (i := 12) rfl)) (fun _ h9 => h9) rfl hin rfl (by decide +kernel) rfl rfl (by rw [hF_23.1]; decide) dX11_init_64 (fun H locs hP hD hS => ?_)
  have hP : va_P (dC, dI) vwCl [(h0, .inr (11, (fs_24.set 7 (.ref q_25)))), (q_25, .inl (cI, 23424, .inl (fun _ => 0)))] H := hP
  have hD : va_D A [(h0, .inr (11, (fs_24.set 7 (.ref q_25)))), (q_25, .inl (cI, 23424, .inl (fun _ => 0)))] := hD
  have hF_27 := hF_23.set 7 (.ref q_25) (l' := [(7, .ref q_25), (6, .ref q_21), (5, .ref q_17), (4, .ref q_13), (3, .ref q_9), (2, .ref q_5), (1, .ref q_1), (11, .int 0), (12, .int 0), (13, .int 0), (14, .int 0), (15, .int 0), (16, .int 0), (17, .int 0)]) (by decide) rfl
  generalize fs_24.set 7 (.ref q_25) = fs_28 at hP hD hF_27
  have hP : va_P (dC, dI) vwCl [(h0, .inr (11, fs_28)), (q_25, .inl (cI, 23424, .inl (fun _ => 0)))] H := hP
  have hD : va_D A [(h0, .inr (11, fs_28)), (q_25, .inl (cI, 23424, .inl (fun _ => 0)))] := hD
  have hP := hP.sub (ws' := [(h0, .inr (11, fs_28))]) [0] rfl
  have hD := hD.sub (ws' := [(h0, .inr (11, fs_28))]) [0] (by decide) rfl
  refine lv_aload_n hx hb dX11_init_67 rfl (lv_at hl 0 rfl) ?_
  refine lv_sipush (v := 366) hx hb dX11_init_68 (by decide) ?_
  refine va_newa (atype := .int) (a0 := (366, .inl (fun _ => 0))) hx hb (hts (.arrayClass .int) (List.mem_of_getElem? (i := 6) rfl)) (ty := .int) rfl hK hP hD hS hA (na_int 366) (by decide) (by decide +kernel) (show 366 * 4 ≤ 536870912 by decide) (show 7 + 1 ≤ 10 by decide) (show 41856 + 366 ≤ 42590 by decide) dX11_init_71 (fun q_29 cA_30 H hK hP hD hS => ?_)
  have hK : va_K (dC, dI) vwCl [(cI, .int), (cB, .byte), (cA_30, .int)] s := hK
  obtain rfl := kU_int hK 0 2 rfl rfl
  have hK := hK.sub (tys' := [(cI, .int), (cB, .byte)]) [0, 1] rfl
  have hP : va_P (dC, dI) vwCl [(h0, .inr (11, fs_28)), (q_29, .inl (cI, 366, .inl (fun _ => 0)))] H := hP
  have hD : va_D A [(h0, .inr (11, fs_28)), (q_29, .inl (cI, 366, .inl (fun _ => 0)))] := hD
  refine W.widen (k := 8) (n := 42222) (by decide) (by decide) ?_
  refine va_putF (D := (dC, dI)) (ci := 11) (v := .ref q_29) (ty := (.array .int)) (C := RX11) (T := TX11) (N := 18) hx hb hts hin_X11 tyX11 tyX11_ok nmX11 hown hK hP hD hS 0 rfl rfl 8 (by decide) (hts (.fieldLink RX11 38 "NeedHouse$Types" "codeSize" "[I") (List.mem_of_getElem? (i := 13) rfl)) (fun _ h9 => h9) rfl hin rfl (by decide +kernel) rfl rfl (by rw [hF_27.1]; decide) dX11_init_73 (fun H locs hP hD hS => ?_)
  have hP : va_P (dC, dI) vwCl [(h0, .inr (11, (fs_28.set 8 (.ref q_29)))), (q_29, .inl (cI, 366, .inl (fun _ => 0)))] H := hP
  have hD : va_D A [(h0, .inr (11, (fs_28.set 8 (.ref q_29)))), (q_29, .inl (cI, 366, .inl (fun _ => 0)))] := hD
  have hF_31 := hF_27.set 8 (.ref q_29) (l' := [(8, .ref q_29), (7, .ref q_25), (6, .ref q_21), (5, .ref q_17), (4, .ref q_13), (3, .ref q_9), (2, .ref q_5), (1, .ref q_1), (11, .int 0), (12, .int 0), (13, .int 0), (14, .int 0), (15, .int 0), (16, .int 0), (17, .int 0)]) (by decide) rfl
  generalize fs_28.set 8 (.ref q_29) = fs_32 at hP hD hF_31
  have hP : va_P (dC, dI) vwCl [(h0, .inr (11, fs_32)), (q_29, .inl (cI, 366, .inl (fun _ => 0)))] H := hP
  have hD : va_D A [(h0, .inr (11, fs_32)), (q_29, .inl (cI, 366, .inl (fun _ => 0)))] := hD
  have hP := hP.sub (ws' := [(h0, .inr (11, fs_32))]) [0] rfl
  have hD := hD.sub (ws' := [(h0, .inr (11, fs_32))]) [0] (by decide) rfl
  refine lv_aload_n hx hb dX11_init_76 rfl (lv_at hl 0 rfl) ?_
  refine lv_bipush (v := 64) hx hb dX11_init_77 (by decide) ?_
  refine va_newa (atype := .int) (a0 := (64, .inl (fun _ => 0))) hx hb (hts (.arrayClass .int) (List.mem_of_getElem? (i := 6) rfl)) (ty := .int) rfl hK hP hD hS hA (na_int 64) (by decide) (by decide +kernel) (show 64 * 4 ≤ 536870912 by decide) (show 8 + 1 ≤ 10 by decide) (show 42222 + 64 ≤ 42590 by decide) dX11_init_79 (fun q_33 cA_34 H hK hP hD hS => ?_)
  have hK : va_K (dC, dI) vwCl [(cI, .int), (cB, .byte), (cA_34, .int)] s := hK
  obtain rfl := kU_int hK 0 2 rfl rfl
  have hK := hK.sub (tys' := [(cI, .int), (cB, .byte)]) [0, 1] rfl
  have hP : va_P (dC, dI) vwCl [(h0, .inr (11, fs_32)), (q_33, .inl (cI, 64, .inl (fun _ => 0)))] H := hP
  have hD : va_D A [(h0, .inr (11, fs_32)), (q_33, .inl (cI, 64, .inl (fun _ => 0)))] := hD
  refine W.widen (k := 9) (n := 42286) (by decide) (by decide) ?_
  refine va_putF (D := (dC, dI)) (ci := 11) (v := .ref q_33) (ty := (.array .int)) (C := RX11) (T := TX11) (N := 18) hx hb hts hin_X11 tyX11 tyX11_ok nmX11 hown hK hP hD hS 0 rfl rfl 9 (by decide) (hts (.fieldLink RX11 41 "NeedHouse$Types" "free" "[I") (List.mem_of_getElem? (i := 14) rfl)) (fun _ h9 => h9) rfl hin rfl (by decide +kernel) rfl rfl (by rw [hF_31.1]; decide) dX11_init_81 (fun H locs hP hD hS => ?_)
  have hP : va_P (dC, dI) vwCl [(h0, .inr (11, (fs_32.set 9 (.ref q_33)))), (q_33, .inl (cI, 64, .inl (fun _ => 0)))] H := hP
  have hD : va_D A [(h0, .inr (11, (fs_32.set 9 (.ref q_33)))), (q_33, .inl (cI, 64, .inl (fun _ => 0)))] := hD
  have hF_35 := hF_31.set 9 (.ref q_33) (l' := [(9, .ref q_33), (8, .ref q_29), (7, .ref q_25), (6, .ref q_21), (5, .ref q_17), (4, .ref q_13), (3, .ref q_9), (2, .ref q_5), (1, .ref q_1), (11, .int 0), (12, .int 0), (13, .int 0), (14, .int 0), (15, .int 0), (16, .int 0), (17, .int 0)]) (by decide) rfl
  generalize fs_32.set 9 (.ref q_33) = fs_36 at hP hD hF_35
  have hP : va_P (dC, dI) vwCl [(h0, .inr (11, fs_36)), (q_33, .inl (cI, 64, .inl (fun _ => 0)))] H := hP
  have hD : va_D A [(h0, .inr (11, fs_36)), (q_33, .inl (cI, 64, .inl (fun _ => 0)))] := hD
  have hP := hP.sub (ws' := [(h0, .inr (11, fs_36))]) [0] rfl
  have hD := hD.sub (ws' := [(h0, .inr (11, fs_36))]) [0] (by decide) rfl
  refine lv_aload_n hx hb dX11_init_84 rfl (lv_at hl 0 rfl) ?_
  refine lv_sipush (v := 304) hx hb dX11_init_85 (by decide) ?_
  refine va_newa (atype := .int) (a0 := (304, .inl (fun _ => 0))) hx hb (hts (.arrayClass .int) (List.mem_of_getElem? (i := 6) rfl)) (ty := .int) rfl hK hP hD hS hA (na_int 304) (by decide) (by decide +kernel) (show 304 * 4 ≤ 536870912 by decide) (show 9 + 1 ≤ 10 by decide) (show 42286 + 304 ≤ 42590 by decide) dX11_init_88 (fun q_37 cA_38 H hK hP hD hS => ?_)
  have hK : va_K (dC, dI) vwCl [(cI, .int), (cB, .byte), (cA_38, .int)] s := hK
  obtain rfl := kU_int hK 0 2 rfl rfl
  have hK := hK.sub (tys' := [(cI, .int), (cB, .byte)]) [0, 1] rfl
  have hP : va_P (dC, dI) vwCl [(h0, .inr (11, fs_36)), (q_37, .inl (cI, 304, .inl (fun _ => 0)))] H := hP
  have hD : va_D A [(h0, .inr (11, fs_36)), (q_37, .inl (cI, 304, .inl (fun _ => 0)))] := hD
  refine W.widen (k := 10) (n := 42590) (by decide) (by decide) ?_
  refine va_putF (D := (dC, dI)) (ci := 11) (v := .ref q_37) (ty := (.array .int)) (C := RX11) (T := TX11) (N := 18) hx hb hts hin_X11 tyX11 tyX11_ok nmX11 hown hK hP hD hS 0 rfl rfl 10 (by decide) (hts (.fieldLink RX11 44 "NeedHouse$Types" "around" "[I") (List.mem_of_getElem? (i := 15) rfl)) (fun _ h9 => h9) rfl hin rfl (by decide +kernel) rfl rfl (by rw [hF_35.1]; decide) dX11_init_90 (fun H locs hP hD hS => ?_)
  have hP : va_P (dC, dI) vwCl [(h0, .inr (11, (fs_36.set 10 (.ref q_37)))), (q_37, .inl (cI, 304, .inl (fun _ => 0)))] H := hP
  have hD : va_D A [(h0, .inr (11, (fs_36.set 10 (.ref q_37)))), (q_37, .inl (cI, 304, .inl (fun _ => 0)))] := hD
  have hF_39 := hF_35.set 10 (.ref q_37) (l' := [(10, .ref q_37), (9, .ref q_33), (8, .ref q_29), (7, .ref q_25), (6, .ref q_21), (5, .ref q_17), (4, .ref q_13), (3, .ref q_9), (2, .ref q_5), (1, .ref q_1), (11, .int 0), (12, .int 0), (13, .int 0), (14, .int 0), (15, .int 0), (16, .int 0), (17, .int 0)]) (by decide) rfl
  generalize fs_36.set 10 (.ref q_37) = fs_40 at hP hD hF_39
  have hP : va_P (dC, dI) vwCl [(h0, .inr (11, fs_40)), (q_37, .inl (cI, 304, .inl (fun _ => 0)))] H := hP
  have hD : va_D A [(h0, .inr (11, fs_40)), (q_37, .inl (cI, 304, .inl (fun _ => 0)))] := hD
  have hP := hP.sub (ws' := [(h0, .inr (11, fs_40))]) [0] rfl
  have hD := hD.sub (ws' := [(h0, .inr (11, fs_40))]) [0] (by decide) rfl
  refine lv_aload_n hx hb dX11_init_93 rfl (lv_at hl 0 rfl) ?_
  refine lv_aload_n hx hb dX11_init_94 rfl (lv_at hl 1 rfl) ?_
  refine va_putF (D := (dC, dI)) (ci := 11) (v := .ref p0) (ty := (.object "NeedHouse$Datas")) (C := RX11) (T := TX11) (N := 18) hx hb hts hin_X11 tyX11 tyX11_ok nmX11 hown hK hP hD hS 0 rfl rfl 0 (by decide) (hts (.fieldLink RX11 47 "NeedHouse$Types" "datas" "LNeedHouse$Datas;") (List.mem_of_getElem? (i := 16) rfl)) (fun _ h9 => h9) rfl hin rfl (by decide +kernel) rfl rfl (by rw [hF_39.1]; decide) dX11_init_95 (fun H locs hP hD hS => ?_)
  have hP : va_P (dC, dI) vwCl [(h0, .inr (11, (fs_40.set 0 (.ref p0))))] H := hP
  have hD : va_D A [(h0, .inr (11, (fs_40.set 0 (.ref p0))))] := hD
  have hF_41 := hF_39.set 0 (.ref p0) (l' := [(0, .ref p0), (10, .ref q_37), (9, .ref q_33), (8, .ref q_29), (7, .ref q_25), (6, .ref q_21), (5, .ref q_17), (4, .ref q_13), (3, .ref q_9), (2, .ref q_5), (1, .ref q_1), (11, .int 0), (12, .int 0), (13, .int 0), (14, .int 0), (15, .int 0), (16, .int 0), (17, .int 0)]) (by decide) rfl
  generalize fs_40.set 0 (.ref p0) = fs_42 at hP hD hF_41
  have hP : va_P (dC, dI) vwCl [(h0, .inr (11, fs_42))] H := hP
  have hD : va_D A [(h0, .inr (11, fs_42))] := hD
  have hP9 := hP.sub (ws' := [(h0, .inr (11, fs_42))]) [0] rfl
  have hD9 := hD.sub (ws' := [(h0, .inr (11, fs_42))]) [0] (by decide) rfl
  have hK9 := hK.sub (tys' := [(cI, .int), (cB, .byte)]) [0, 1] rfl
  exact W.vret hx hb hr (fun t ht hW => ⟨⟨(fs_42), rfl, hF_41.sub [0, 11, 12, 13, 14, 15, 16, 17] rfl, by rw [ht]; exact hP9, va_K.moved hW.alike hK9, hD9⟩, hS.F ht⟩) hS.2.2 dX11_init_98
def pw_c_X10_init : List Cond := .code yX10_init cX10_init 5 none :: ([.code objectInit ⟨#[0xb1]⟩ 1 none, .methodLink RX10 3 objectInit, .instanceMethod objectInit, .arrayClass .int, .fieldLink RX10 11 "NeedHouse$Typer" "work" "[I", .fieldLink RX10 17 "NeedHouse$Typer" "typeOf" "[I", .fieldLink RX10 22 "NeedHouse$Typer" "nameType" "[I", .fieldLink RX10 25 "NeedHouse$Typer" "settled" "[I", .arrayClass .long, .fieldLink RX10 28 "NeedHouse$Typer" "uses" "[J", .fieldLink RX10 32 "NeedHouse$Typer" "numberOf" "[I", .fieldLink RX10 35 "NeedHouse$Typer" "firstGroup" "[I", .fieldLink RX10 38 "NeedHouse$Typer" "groupsOf" "[I", .fieldLink RX10 41 "NeedHouse$Typer" "groupStart" "[I", .fieldLink RX10 44 "NeedHouse$Typer" "members" "[I", .fieldLink RX10 47 "NeedHouse$Typer" "lexemes" "LNeedHouse$Lexemes;", .fieldLink RX10 51 "NeedHouse$Typer" "tree" "LNeedHouse$Tree;", .fieldLink RX10 55 "NeedHouse$Typer" "told" "LNeedHouse$Told;", .fieldLink RX10 59 "NeedHouse$Typer" "types" "LNeedHouse$Types;"] ++ (wsX100 ++ []))
set_option maxHeartbeats 4000000 in
set_option maxRecDepth 100000 in
theorem c_X10_init (l : Launch) (dC : Nat → ClassId) (dI : Nat → Nat → Nat) (sz : Nat) (h0 : Nat) (fs : List Value) (cI : ClassId) (cL : ClassId) (p0 : Nat) (p1 : Nat) (p2 : Nat) (p3 : Nat) (hF : hasF fs 17 [(5, .int 0), (15, .int 0), (16, .int 0)]) : Met l yX10_init pw_c_X10_init ({ frames := 1, cells := 10, slots := 29185, locals := 12 }) (va_Pc [.ref h0, .ref p0, .ref p1, .ref p2, .ref p3] (fun U => U.heap.size = sz ∧ va_P (dC, dI) vwCl [(h0, .inr (10, fs))] U.heap ∧ va_K (dC, dI) vwCl [(cI, .int), (cL, .long)] U ∧ va_D (fun _ => True) [(h0, .inr (10, fs))])) (va_Qv (fun (u : (List Value)) => hasF u 17 [(0, .ref p0), (1, .ref p1), (2, .ref p2), (3, .ref p3), (5, .int 0), (15, .int 0), (16, .int 0)]) (fun (u : (List Value)) (t : State) => va_P (dC, dI) vwCl [(h0, .inr (10, u))] t.heap ∧ va_K (dC, dI) vwCl [(cI, .int), (cL, .long)] t ∧ va_D (va_A [(h0, .inr (10, fs))] sz) [(h0, .inr (10, u))]) (va_A [(h0, .inr (10, fs))] sz)) 10 29185 (va_A [(h0, .inr (10, fs))] sz) := by
  refine Met.ofW (cc := cX10_init) (maxL := 5) (ret := none) (by decide) rfl ?_
  intro p e s m args below meth c s₁ B hml hv
  obtain ⟨rfl, hsz, hP, hK, hD0⟩ := hv
  have hx := B.exec
  have hb := B.bytes
  have hr := B.returns
  have hts := atoms_spec (ws := pw_c_X10_init) B.pre
  have hown : s.vm.findClass RX10 = some m.cls := findClass_of_methodNamed B.named
  have hlocks := B.notSynchronized
  have hin : meth.name = "<init>" := (name_of_methodNamed B.named B.method).1
  have hin_X10 : ∀ w ∈ u_ws RX10 TX10 17, w ∈ pw_c_X10_init := fun w h => List.mem_cons_of_mem _ (List.mem_append_right _ (List.mem_append_left _ h))
  subst hsz
  have hD := hD0.self (sz := s.heap.size)
  generalize hAe : va_A [(h0, .inr (10, fs))] s.heap.size = A at hD ⊢
  have hA : ∀ q : Nat, s.heap.size ≤ q → A q := fun q h => by rw [← hAe]; exact Or.inr h
  have hS : va_S A s.heap s.heap [] := va_S.rf
  have hP : va_P (dC, dI) vwCl [(h0, .inr (10, fs))] s.heap := hP
  have hl := lv_entry ([.ref h0, .ref p0, .ref p1, .ref p2, .ref p3]) (n := 5) (Nat.le_of_ble_eq_true rfl)
  rw [lg_entry_eq]
  generalize (lg_sl ([.ref h0, .ref p0, .ref p1, .ref p2, .ref p3]) ++ List.replicate (5 - (lg_sl ([.ref h0, .ref p0, .ref p1, .ref p2, .ref p3])).length) Slot.unset).toArray = ls at hl ⊢
  have hl : lv_has ls 5 [(0, .ref h0), (1, .ref p0), (2, .ref p1), (3, .ref p2), (4, .ref p3)] := hl
  refine lv_aload_n hx hb dX10_init_0 rfl (lv_at hl 0 rfl) ?_
  refine W.objInit hx hb hown (hts (.methodLink RX10 3 objectInit) (List.mem_of_getElem? (i := 2) rfl)) (hts (.instanceMethod objectInit) (List.mem_of_getElem? (i := 3) rfl)) (hts _ (List.mem_of_getElem? (i := 1) rfl)) rfl (by rw [hml]; exact hl.1) rfl dX10_init_1 (Nat.le_of_ble_eq_true rfl) (Nat.le_of_ble_eq_true rfl) ?_
  refine W.eq (g2 := F0 m 4 ls []) rfl ?_
  refine lv_aload_n hx hb dX10_init_4 rfl (lv_at hl 0 rfl) ?_
  refine lv_sipush (v := 16384) hx hb dX10_init_5 (by decide) ?_
  refine va_newa (atype := .int) (a0 := (16384, .inl (fun _ => 0))) hx hb (hts (.arrayClass .int) (List.mem_of_getElem? (i := 4) rfl)) (ty := .int) rfl hK hP hD hS hA (na_int 16384) (by decide) (by decide +kernel) (show 16384 * 4 ≤ 536870912 by decide) (show 0 + 1 ≤ 10 by decide) (show 0 + 16384 ≤ 29185 by decide) dX10_init_8 (fun q_1 cA_2 H hK hP hD hS => ?_)
  have hK : va_K (dC, dI) vwCl [(cI, .int), (cL, .long), (cA_2, .int)] s := hK
  obtain rfl := kU_int hK 0 2 rfl rfl
  have hK := hK.sub (tys' := [(cI, .int), (cL, .long)]) [0, 1] rfl
  have hP : va_P (dC, dI) vwCl [(h0, .inr (10, fs)), (q_1, .inl (cI, 16384, .inl (fun _ => 0)))] H := hP
  have hD : va_D A [(h0, .inr (10, fs)), (q_1, .inl (cI, 16384, .inl (fun _ => 0)))] := hD
  refine W.widen (k := 1) (n := 16384) (by decide) (by decide) ?_
  refine va_putF (D := (dC, dI)) (ci := 10) (v := .ref q_1) (ty := (.array .int)) (C := RX10) (T := TX10) (N := 17) hx hb hts hin_X10 tyX10 tyX10_ok nmX10 hown hK hP hD hS 0 rfl rfl 4 (by decide) (hts (.fieldLink RX10 11 "NeedHouse$Typer" "work" "[I") (List.mem_of_getElem? (i := 5) rfl)) (fun _ h9 => h9) rfl hin rfl (by decide +kernel) rfl rfl (by rw [hF.1]; decide) dX10_init_10 (fun H locs hP hD hS => ?_)
  have hP : va_P (dC, dI) vwCl [(h0, .inr (10, (fs.set 4 (.ref q_1)))), (q_1, .inl (cI, 16384, .inl (fun _ => 0)))] H := hP
  have hD : va_D A [(h0, .inr (10, (fs.set 4 (.ref q_1)))), (q_1, .inl (cI, 16384, .inl (fun _ => 0)))] := hD
  have hF_3 := hF.set 4 (.ref q_1) (l' := [(4, .ref q_1), (5, .int 0), (15, .int 0), (16, .int 0)]) (by decide) rfl
  generalize fs.set 4 (.ref q_1) = fs_4 at hP hD hF_3
  have hP : va_P (dC, dI) vwCl [(h0, .inr (10, fs_4)), (q_1, .inl (cI, 16384, .inl (fun _ => 0)))] H := hP
  have hD : va_D A [(h0, .inr (10, fs_4)), (q_1, .inl (cI, 16384, .inl (fun _ => 0)))] := hD
  have hP := hP.sub (ws' := [(h0, .inr (10, fs_4))]) [0] rfl
  have hD := hD.sub (ws' := [(h0, .inr (10, fs_4))]) [0] (by decide) rfl
  refine lv_aload_n hx hb dX10_init_13 rfl (lv_at hl 0 rfl) ?_
  refine lv_sipush (v := 5600) hx hb dX10_init_14 (by decide) ?_
  refine va_newa (atype := .int) (a0 := (5600, .inl (fun _ => 0))) hx hb (hts (.arrayClass .int) (List.mem_of_getElem? (i := 4) rfl)) (ty := .int) rfl hK hP hD hS hA (na_int 5600) (by decide) (by decide +kernel) (show 5600 * 4 ≤ 536870912 by decide) (show 1 + 1 ≤ 10 by decide) (show 16384 + 5600 ≤ 29185 by decide) dX10_init_17 (fun q_5 cA_6 H hK hP hD hS => ?_)
  have hK : va_K (dC, dI) vwCl [(cI, .int), (cL, .long), (cA_6, .int)] s := hK
  obtain rfl := kU_int hK 0 2 rfl rfl
  have hK := hK.sub (tys' := [(cI, .int), (cL, .long)]) [0, 1] rfl
  have hP : va_P (dC, dI) vwCl [(h0, .inr (10, fs_4)), (q_5, .inl (cI, 5600, .inl (fun _ => 0)))] H := hP
  have hD : va_D A [(h0, .inr (10, fs_4)), (q_5, .inl (cI, 5600, .inl (fun _ => 0)))] := hD
  refine W.widen (k := 2) (n := 21984) (by decide) (by decide) ?_
  refine va_putF (D := (dC, dI)) (ci := 10) (v := .ref q_5) (ty := (.array .int)) (C := RX10) (T := TX10) (N := 17) hx hb hts hin_X10 tyX10 tyX10_ok nmX10 hown hK hP hD hS 0 rfl rfl 6 (by decide) (hts (.fieldLink RX10 17 "NeedHouse$Typer" "typeOf" "[I") (List.mem_of_getElem? (i := 6) rfl)) (fun _ h9 => h9) rfl hin rfl (by decide +kernel) rfl rfl (by rw [hF_3.1]; decide) dX10_init_19 (fun H locs hP hD hS => ?_)
  have hP : va_P (dC, dI) vwCl [(h0, .inr (10, (fs_4.set 6 (.ref q_5)))), (q_5, .inl (cI, 5600, .inl (fun _ => 0)))] H := hP
  have hD : va_D A [(h0, .inr (10, (fs_4.set 6 (.ref q_5)))), (q_5, .inl (cI, 5600, .inl (fun _ => 0)))] := hD
  have hF_7 := hF_3.set 6 (.ref q_5) (l' := [(6, .ref q_5), (4, .ref q_1), (5, .int 0), (15, .int 0), (16, .int 0)]) (by decide) rfl
  generalize fs_4.set 6 (.ref q_5) = fs_8 at hP hD hF_7
  have hP : va_P (dC, dI) vwCl [(h0, .inr (10, fs_8)), (q_5, .inl (cI, 5600, .inl (fun _ => 0)))] H := hP
  have hD : va_D A [(h0, .inr (10, fs_8)), (q_5, .inl (cI, 5600, .inl (fun _ => 0)))] := hD
  have hP := hP.sub (ws' := [(h0, .inr (10, fs_8))]) [0] rfl
  have hD := hD.sub (ws' := [(h0, .inr (10, fs_8))]) [0] (by decide) rfl
  refine lv_aload_n hx hb dX10_init_22 rfl (lv_at hl 0 rfl) ?_
  refine lv_sipush (v := 300) hx hb dX10_init_23 (by decide) ?_
  refine va_newa (atype := .int) (a0 := (300, .inl (fun _ => 0))) hx hb (hts (.arrayClass .int) (List.mem_of_getElem? (i := 4) rfl)) (ty := .int) rfl hK hP hD hS hA (na_int 300) (by decide) (by decide +kernel) (show 300 * 4 ≤ 536870912 by decide) (show 2 + 1 ≤ 10 by decide) (show 21984 + 300 ≤ 29185 by decide) dX10_init_26 (fun q_9 cA_10 H hK hP hD hS => ?_)
  have hK : va_K (dC, dI) vwCl [(cI, .int), (cL, .long), (cA_10, .int)] s := hK
  obtain rfl := kU_int hK 0 2 rfl rfl
  have hK := hK.sub (tys' := [(cI, .int), (cL, .long)]) [0, 1] rfl
  have hP : va_P (dC, dI) vwCl [(h0, .inr (10, fs_8)), (q_9, .inl (cI, 300, .inl (fun _ => 0)))] H := hP
  have hD : va_D A [(h0, .inr (10, fs_8)), (q_9, .inl (cI, 300, .inl (fun _ => 0)))] := hD
  refine W.widen (k := 3) (n := 22284) (by decide) (by decide) ?_
  refine va_putF (D := (dC, dI)) (ci := 10) (v := .ref q_9) (ty := (.array .int)) (C := RX10) (T := TX10) (N := 17) hx hb hts hin_X10 tyX10 tyX10_ok nmX10 hown hK hP hD hS 0 rfl rfl 7 (by decide) (hts (.fieldLink RX10 22 "NeedHouse$Typer" "nameType" "[I") (List.mem_of_getElem? (i := 7) rfl)) (fun _ h9 => h9) rfl hin rfl (by decide +kernel) rfl rfl (by rw [hF_7.1]; decide) dX10_init_28 (fun H locs hP hD hS => ?_)
  have hP : va_P (dC, dI) vwCl [(h0, .inr (10, (fs_8.set 7 (.ref q_9)))), (q_9, .inl (cI, 300, .inl (fun _ => 0)))] H := hP
  have hD : va_D A [(h0, .inr (10, (fs_8.set 7 (.ref q_9)))), (q_9, .inl (cI, 300, .inl (fun _ => 0)))] := hD
  have hF_11 := hF_7.set 7 (.ref q_9) (l' := [(7, .ref q_9), (6, .ref q_5), (4, .ref q_1), (5, .int 0), (15, .int 0), (16, .int 0)]) (by decide) rfl
  generalize fs_8.set 7 (.ref q_9) = fs_12 at hP hD hF_11
  have hP : va_P (dC, dI) vwCl [(h0, .inr (10, fs_12)), (q_9, .inl (cI, 300, .inl (fun _ => 0)))] H := hP
  have hD : va_D A [(h0, .inr (10, fs_12)), (q_9, .inl (cI, 300, .inl (fun _ => 0)))] := hD
  have hP := hP.sub (ws' := [(h0, .inr (10, fs_12))]) [0] rfl
  have hD := hD.sub (ws' := [(h0, .inr (10, fs_12))]) [0] (by decide) rfl
  refine lv_aload_n hx hb dX10_init_31 rfl (lv_at hl 0 rfl) ?_
  refine lv_sipush (v := 300) hx hb dX10_init_32 (by decide) ?_
  refine va_newa (atype := .int) (a0 := (300, .inl (fun _ => 0))) hx hb (hts (.arrayClass .int) (List.mem_of_getElem? (i := 4) rfl)) (ty := .int) rfl hK hP hD hS hA (na_int 300) (by decide) (by decide +kernel) (show 300 * 4 ≤ 536870912 by decide) (show 3 + 1 ≤ 10 by decide) (show 22284 + 300 ≤ 29185 by decide) dX10_init_35 (fun q_13 cA_14 H hK hP hD hS => ?_)
  have hK : va_K (dC, dI) vwCl [(cI, .int), (cL, .long), (cA_14, .int)] s := hK
  obtain rfl := kU_int hK 0 2 rfl rfl
  have hK := hK.sub (tys' := [(cI, .int), (cL, .long)]) [0, 1] rfl
  have hP : va_P (dC, dI) vwCl [(h0, .inr (10, fs_12)), (q_13, .inl (cI, 300, .inl (fun _ => 0)))] H := hP
  have hD : va_D A [(h0, .inr (10, fs_12)), (q_13, .inl (cI, 300, .inl (fun _ => 0)))] := hD
  refine W.widen (k := 4) (n := 22584) (by decide) (by decide) ?_
  refine va_putF (D := (dC, dI)) (ci := 10) (v := .ref q_13) (ty := (.array .int)) (C := RX10) (T := TX10) (N := 17) hx hb hts hin_X10 tyX10 tyX10_ok nmX10 hown hK hP hD hS 0 rfl rfl 8 (by decide) (hts (.fieldLink RX10 25 "NeedHouse$Typer" "settled" "[I") (List.mem_of_getElem? (i := 8) rfl)) (fun _ h9 => h9) rfl hin rfl (by decide +kernel) rfl rfl (by rw [hF_11.1]; decide) dX10_init_37 (fun H locs hP hD hS => ?_)
  have hP : va_P (dC, dI) vwCl [(h0, .inr (10, (fs_12.set 8 (.ref q_13)))), (q_13, .inl (cI, 300, .inl (fun _ => 0)))] H := hP
  have hD : va_D A [(h0, .inr (10, (fs_12.set 8 (.ref q_13)))), (q_13, .inl (cI, 300, .inl (fun _ => 0)))] := hD
  have hF_15 := hF_11.set 8 (.ref q_13) (l' := [(8, .ref q_13), (7, .ref q_9), (6, .ref q_5), (4, .ref q_1), (5, .int 0), (15, .int 0), (16, .int 0)]) (by decide) rfl
  generalize fs_12.set 8 (.ref q_13) = fs_16 at hP hD hF_15
  have hP : va_P (dC, dI) vwCl [(h0, .inr (10, fs_16)), (q_13, .inl (cI, 300, .inl (fun _ => 0)))] H := hP
  have hD : va_D A [(h0, .inr (10, fs_16)), (q_13, .inl (cI, 300, .inl (fun _ => 0)))] := hD
  have hP := hP.sub (ws' := [(h0, .inr (10, fs_16))]) [0] rfl
  have hD := hD.sub (ws' := [(h0, .inr (10, fs_16))]) [0] (by decide) rfl
  refine lv_aload_n hx hb dX10_init_40 rfl (lv_at hl 0 rfl) ?_
  refine lv_sipush (v := 1500) hx hb dX10_init_41 (by decide) ?_
  refine va_newa (atype := .long) (a0 := (1500, .inr (.inl (fun _ => 0)))) hx hb (hts (.arrayClass .long) (List.mem_of_getElem? (i := 9) rfl)) (ty := .long) rfl hK hP hD hS hA (na_long 1500) (by decide) (by decide +kernel) (show 1500 * 8 ≤ 536870912 by decide) (show 4 + 1 ≤ 10 by decide) (show 22584 + 1500 ≤ 29185 by decide) dX10_init_44 (fun q_17 cA_18 H hK hP hD hS => ?_)
  have hK : va_K (dC, dI) vwCl [(cI, .int), (cL, .long), (cA_18, .long)] s := hK
  obtain rfl := kU_long hK 1 2 rfl rfl
  have hK := hK.sub (tys' := [(cI, .int), (cL, .long)]) [0, 1] rfl
  have hP : va_P (dC, dI) vwCl [(h0, .inr (10, fs_16)), (q_17, .inl (cL, 1500, .inr (.inl (fun _ => 0))))] H := hP
  have hD : va_D A [(h0, .inr (10, fs_16)), (q_17, .inl (cL, 1500, .inr (.inl (fun _ => 0))))] := hD
  refine W.widen (k := 5) (n := 24084) (by decide) (by decide) ?_
  refine va_putF (D := (dC, dI)) (ci := 10) (v := .ref q_17) (ty := (.array .long)) (C := RX10) (T := TX10) (N := 17) hx hb hts hin_X10 tyX10 tyX10_ok nmX10 hown hK hP hD hS 0 rfl rfl 9 (by decide) (hts (.fieldLink RX10 28 "NeedHouse$Typer" "uses" "[J") (List.mem_of_getElem? (i := 10) rfl)) (fun _ h9 => h9) rfl hin rfl (by decide +kernel) rfl rfl (by rw [hF_15.1]; decide) dX10_init_46 (fun H locs hP hD hS => ?_)
  have hP : va_P (dC, dI) vwCl [(h0, .inr (10, (fs_16.set 9 (.ref q_17)))), (q_17, .inl (cL, 1500, .inr (.inl (fun _ => 0))))] H := hP
  have hD : va_D A [(h0, .inr (10, (fs_16.set 9 (.ref q_17)))), (q_17, .inl (cL, 1500, .inr (.inl (fun _ => 0))))] := hD
  have hF_19 := hF_15.set 9 (.ref q_17) (l' := [(9, .ref q_17), (8, .ref q_13), (7, .ref q_9), (6, .ref q_5), (4, .ref q_1), (5, .int 0), (15, .int 0), (16, .int 0)]) (by decide) rfl
  generalize fs_16.set 9 (.ref q_17) = fs_20 at hP hD hF_19
  have hP : va_P (dC, dI) vwCl [(h0, .inr (10, fs_20)), (q_17, .inl (cL, 1500, .inr (.inl (fun _ => 0))))] H := hP
  have hD : va_D A [(h0, .inr (10, fs_20)), (q_17, .inl (cL, 1500, .inr (.inl (fun _ => 0))))] := hD
  have hP := hP.sub (ws' := [(h0, .inr (10, fs_20))]) [0] rfl
  have hD := hD.sub (ws' := [(h0, .inr (10, fs_20))]) [0] (by decide) rfl
  refine lv_aload_n hx hb dX10_init_49 rfl (lv_at hl 0 rfl) ?_
  refine lv_sipush (v := 300) hx hb dX10_init_50 (by decide) ?_
  refine va_newa (atype := .int) (a0 := (300, .inl (fun _ => 0))) hx hb (hts (.arrayClass .int) (List.mem_of_getElem? (i := 4) rfl)) (ty := .int) rfl hK hP hD hS hA (na_int 300) (by decide) (by decide +kernel) (show 300 * 4 ≤ 536870912 by decide) (show 5 + 1 ≤ 10 by decide) (show 24084 + 300 ≤ 29185 by decide) dX10_init_53 (fun q_21 cA_22 H hK hP hD hS => ?_)
  have hK : va_K (dC, dI) vwCl [(cI, .int), (cL, .long), (cA_22, .int)] s := hK
  obtain rfl := kU_int hK 0 2 rfl rfl
  have hK := hK.sub (tys' := [(cI, .int), (cL, .long)]) [0, 1] rfl
  have hP : va_P (dC, dI) vwCl [(h0, .inr (10, fs_20)), (q_21, .inl (cI, 300, .inl (fun _ => 0)))] H := hP
  have hD : va_D A [(h0, .inr (10, fs_20)), (q_21, .inl (cI, 300, .inl (fun _ => 0)))] := hD
  refine W.widen (k := 6) (n := 24384) (by decide) (by decide) ?_
  refine va_putF (D := (dC, dI)) (ci := 10) (v := .ref q_21) (ty := (.array .int)) (C := RX10) (T := TX10) (N := 17) hx hb hts hin_X10 tyX10 tyX10_ok nmX10 hown hK hP hD hS 0 rfl rfl 10 (by decide) (hts (.fieldLink RX10 32 "NeedHouse$Typer" "numberOf" "[I") (List.mem_of_getElem? (i := 11) rfl)) (fun _ h9 => h9) rfl hin rfl (by decide +kernel) rfl rfl (by rw [hF_19.1]; decide) dX10_init_55 (fun H locs hP hD hS => ?_)
  have hP : va_P (dC, dI) vwCl [(h0, .inr (10, (fs_20.set 10 (.ref q_21)))), (q_21, .inl (cI, 300, .inl (fun _ => 0)))] H := hP
  have hD : va_D A [(h0, .inr (10, (fs_20.set 10 (.ref q_21)))), (q_21, .inl (cI, 300, .inl (fun _ => 0)))] := hD
  have hF_23 := hF_19.set 10 (.ref q_21) (l' := [(10, .ref q_21), (9, .ref q_17), (8, .ref q_13), (7, .ref q_9), (6, .ref q_5), (4, .ref q_1), (5, .int 0), (15, .int 0), (16, .int 0)]) (by decide) rfl
  generalize fs_20.set 10 (.ref q_21) = fs_24 at hP hD hF_23
  have hP : va_P (dC, dI) vwCl [(h0, .inr (10, fs_24)), (q_21, .inl (cI, 300, .inl (fun _ => 0)))] H := hP
  have hD : va_D A [(h0, .inr (10, fs_24)), (q_21, .inl (cI, 300, .inl (fun _ => 0)))] := hD
  have hP := hP.sub (ws' := [(h0, .inr (10, fs_24))]) [0] rfl
  have hD := hD.sub (ws' := [(h0, .inr (10, fs_24))]) [0] (by decide) rfl
  refine lv_aload_n hx hb dX10_init_58 rfl (lv_at hl 0 rfl) ?_
  refine lv_sipush (v := 2100) hx hb dX10_init_59 (by decide) ?_
  refine va_newa (atype := .int) (a0 := (2100, .inl (fun _ => 0))) hx hb (hts (.arrayClass .int) (List.mem_of_getElem? (i := 4) rfl)) (ty := .int) rfl hK hP hD hS hA (na_int 2100) (by decide) (by decide +kernel) (show 2100 * 4 ≤ 536870912 by decide) (show 6 + 1 ≤ 10 by decide) (show 24384 + 2100 ≤ 29185 by decide) dX10_init_62 (fun q_25 cA_26 H hK hP hD hS => ?_)
  have hK : va_K (dC, dI) vwCl [(cI, .int), (cL, .long), (cA_26, .int)] s := hK
  obtain rfl := kU_int hK 0 2 rfl rfl
  have hK := hK.sub (tys' := [(cI, .int), (cL, .long)]) [0, 1] rfl
  have hP : va_P (dC, dI) vwCl [(h0, .inr (10, fs_24)), (q_25, .inl (cI, 2100, .inl (fun _ => 0)))] H := hP
  have hD : va_D A [(h0, .inr (10, fs_24)), (q_25, .inl (cI, 2100, .inl (fun _ => 0)))] := hD
  refine W.widen (k := 7) (n := 26484) (by decide) (by decide) ?_
  refine va_putF (D := (dC, dI)) (ci := 10) (v := .ref q_25) (ty := (.array .int)) (C := RX10) (T := TX10) (N := 17) hx hb hts hin_X10 tyX10 tyX10_ok nmX10 hown hK hP hD hS 0 rfl rfl 11 (by decide) (hts (.fieldLink RX10 35 "NeedHouse$Typer" "firstGroup" "[I") (List.mem_of_getElem? (i := 12) rfl)) (fun _ h9 => h9) rfl hin rfl (by decide +kernel) rfl rfl (by rw [hF_23.1]; decide) dX10_init_64 (fun H locs hP hD hS => ?_)
  have hP : va_P (dC, dI) vwCl [(h0, .inr (10, (fs_24.set 11 (.ref q_25)))), (q_25, .inl (cI, 2100, .inl (fun _ => 0)))] H := hP
  have hD : va_D A [(h0, .inr (10, (fs_24.set 11 (.ref q_25)))), (q_25, .inl (cI, 2100, .inl (fun _ => 0)))] := hD
  have hF_27 := hF_23.set 11 (.ref q_25) (l' := [(11, .ref q_25), (10, .ref q_21), (9, .ref q_17), (8, .ref q_13), (7, .ref q_9), (6, .ref q_5), (4, .ref q_1), (5, .int 0), (15, .int 0), (16, .int 0)]) (by decide) rfl
  generalize fs_24.set 11 (.ref q_25) = fs_28 at hP hD hF_27
  have hP : va_P (dC, dI) vwCl [(h0, .inr (10, fs_28)), (q_25, .inl (cI, 2100, .inl (fun _ => 0)))] H := hP
  have hD : va_D A [(h0, .inr (10, fs_28)), (q_25, .inl (cI, 2100, .inl (fun _ => 0)))] := hD
  have hP := hP.sub (ws' := [(h0, .inr (10, fs_28))]) [0] rfl
  have hD := hD.sub (ws' := [(h0, .inr (10, fs_28))]) [0] (by decide) rfl
  refine lv_aload_n hx hb dX10_init_67 rfl (lv_at hl 0 rfl) ?_
  refine lv_sipush (v := 2100) hx hb dX10_init_68 (by decide) ?_
  refine va_newa (atype := .int) (a0 := (2100, .inl (fun _ => 0))) hx hb (hts (.arrayClass .int) (List.mem_of_getElem? (i := 4) rfl)) (ty := .int) rfl hK hP hD hS hA (na_int 2100) (by decide) (by decide +kernel) (show 2100 * 4 ≤ 536870912 by decide) (show 7 + 1 ≤ 10 by decide) (show 26484 + 2100 ≤ 29185 by decide) dX10_init_71 (fun q_29 cA_30 H hK hP hD hS => ?_)
  have hK : va_K (dC, dI) vwCl [(cI, .int), (cL, .long), (cA_30, .int)] s := hK
  obtain rfl := kU_int hK 0 2 rfl rfl
  have hK := hK.sub (tys' := [(cI, .int), (cL, .long)]) [0, 1] rfl
  have hP : va_P (dC, dI) vwCl [(h0, .inr (10, fs_28)), (q_29, .inl (cI, 2100, .inl (fun _ => 0)))] H := hP
  have hD : va_D A [(h0, .inr (10, fs_28)), (q_29, .inl (cI, 2100, .inl (fun _ => 0)))] := hD
  refine W.widen (k := 8) (n := 28584) (by decide) (by decide) ?_
  refine va_putF (D := (dC, dI)) (ci := 10) (v := .ref q_29) (ty := (.array .int)) (C := RX10) (T := TX10) (N := 17) hx hb hts hin_X10 tyX10 tyX10_ok nmX10 hown hK hP hD hS 0 rfl rfl 12 (by decide) (hts (.fieldLink RX10 38 "NeedHouse$Typer" "groupsOf" "[I") (List.mem_of_getElem? (i := 13) rfl)) (fun _ h9 => h9) rfl hin rfl (by decide +kernel) rfl rfl (by rw [hF_27.1]; decide) dX10_init_73 (fun H locs hP hD hS => ?_)
  have hP : va_P (dC, dI) vwCl [(h0, .inr (10, (fs_28.set 12 (.ref q_29)))), (q_29, .inl (cI, 2100, .inl (fun _ => 0)))] H := hP
  have hD : va_D A [(h0, .inr (10, (fs_28.set 12 (.ref q_29)))), (q_29, .inl (cI, 2100, .inl (fun _ => 0)))] := hD
  have hF_31 := hF_27.set 12 (.ref q_29) (l' := [(12, .ref q_29), (11, .ref q_25), (10, .ref q_21), (9, .ref q_17), (8, .ref q_13), (7, .ref q_9), (6, .ref q_5), (4, .ref q_1), (5, .int 0), (15, .int 0), (16, .int 0)]) (by decide) rfl
  generalize fs_28.set 12 (.ref q_29) = fs_32 at hP hD hF_31
  have hP : va_P (dC, dI) vwCl [(h0, .inr (10, fs_32)), (q_29, .inl (cI, 2100, .inl (fun _ => 0)))] H := hP
  have hD : va_D A [(h0, .inr (10, fs_32)), (q_29, .inl (cI, 2100, .inl (fun _ => 0)))] := hD
  have hP := hP.sub (ws' := [(h0, .inr (10, fs_32))]) [0] rfl
  have hD := hD.sub (ws' := [(h0, .inr (10, fs_32))]) [0] (by decide) rfl
  refine lv_aload_n hx hb dX10_init_76 rfl (lv_at hl 0 rfl) ?_
  refine lv_sipush (v := 301) hx hb dX10_init_77 (by decide) ?_
  refine va_newa (atype := .int) (a0 := (301, .inl (fun _ => 0))) hx hb (hts (.arrayClass .int) (List.mem_of_getElem? (i := 4) rfl)) (ty := .int) rfl hK hP hD hS hA (na_int 301) (by decide) (by decide +kernel) (show 301 * 4 ≤ 536870912 by decide) (show 8 + 1 ≤ 10 by decide) (show 28584 + 301 ≤ 29185 by decide) dX10_init_80 (fun q_33 cA_34 H hK hP hD hS => ?_)
  have hK : va_K (dC, dI) vwCl [(cI, .int), (cL, .long), (cA_34, .int)] s := hK
  obtain rfl := kU_int hK 0 2 rfl rfl
  have hK := hK.sub (tys' := [(cI, .int), (cL, .long)]) [0, 1] rfl
  have hP : va_P (dC, dI) vwCl [(h0, .inr (10, fs_32)), (q_33, .inl (cI, 301, .inl (fun _ => 0)))] H := hP
  have hD : va_D A [(h0, .inr (10, fs_32)), (q_33, .inl (cI, 301, .inl (fun _ => 0)))] := hD
  refine W.widen (k := 9) (n := 28885) (by decide) (by decide) ?_
  refine va_putF (D := (dC, dI)) (ci := 10) (v := .ref q_33) (ty := (.array .int)) (C := RX10) (T := TX10) (N := 17) hx hb hts hin_X10 tyX10 tyX10_ok nmX10 hown hK hP hD hS 0 rfl rfl 13 (by decide) (hts (.fieldLink RX10 41 "NeedHouse$Typer" "groupStart" "[I") (List.mem_of_getElem? (i := 14) rfl)) (fun _ h9 => h9) rfl hin rfl (by decide +kernel) rfl rfl (by rw [hF_31.1]; decide) dX10_init_82 (fun H locs hP hD hS => ?_)
  have hP : va_P (dC, dI) vwCl [(h0, .inr (10, (fs_32.set 13 (.ref q_33)))), (q_33, .inl (cI, 301, .inl (fun _ => 0)))] H := hP
  have hD : va_D A [(h0, .inr (10, (fs_32.set 13 (.ref q_33)))), (q_33, .inl (cI, 301, .inl (fun _ => 0)))] := hD
  have hF_35 := hF_31.set 13 (.ref q_33) (l' := [(13, .ref q_33), (12, .ref q_29), (11, .ref q_25), (10, .ref q_21), (9, .ref q_17), (8, .ref q_13), (7, .ref q_9), (6, .ref q_5), (4, .ref q_1), (5, .int 0), (15, .int 0), (16, .int 0)]) (by decide) rfl
  generalize fs_32.set 13 (.ref q_33) = fs_36 at hP hD hF_35
  have hP : va_P (dC, dI) vwCl [(h0, .inr (10, fs_36)), (q_33, .inl (cI, 301, .inl (fun _ => 0)))] H := hP
  have hD : va_D A [(h0, .inr (10, fs_36)), (q_33, .inl (cI, 301, .inl (fun _ => 0)))] := hD
  have hP := hP.sub (ws' := [(h0, .inr (10, fs_36))]) [0] rfl
  have hD := hD.sub (ws' := [(h0, .inr (10, fs_36))]) [0] (by decide) rfl
  refine lv_aload_n hx hb dX10_init_85 rfl (lv_at hl 0 rfl) ?_
  refine lv_sipush (v := 300) hx hb dX10_init_86 (by decide) ?_
  refine va_newa (atype := .int) (a0 := (300, .inl (fun _ => 0))) hx hb (hts (.arrayClass .int) (List.mem_of_getElem? (i := 4) rfl)) (ty := .int) rfl hK hP hD hS hA (na_int 300) (by decide) (by decide +kernel) (show 300 * 4 ≤ 536870912 by decide) (show 9 + 1 ≤ 10 by decide) (show 28885 + 300 ≤ 29185 by decide) dX10_init_89 (fun q_37 cA_38 H hK hP hD hS => ?_)
  have hK : va_K (dC, dI) vwCl [(cI, .int), (cL, .long), (cA_38, .int)] s := hK
  obtain rfl := kU_int hK 0 2 rfl rfl
  have hK := hK.sub (tys' := [(cI, .int), (cL, .long)]) [0, 1] rfl
  have hP : va_P (dC, dI) vwCl [(h0, .inr (10, fs_36)), (q_37, .inl (cI, 300, .inl (fun _ => 0)))] H := hP
  have hD : va_D A [(h0, .inr (10, fs_36)), (q_37, .inl (cI, 300, .inl (fun _ => 0)))] := hD
  refine W.widen (k := 10) (n := 29185) (by decide) (by decide) ?_
  refine va_putF (D := (dC, dI)) (ci := 10) (v := .ref q_37) (ty := (.array .int)) (C := RX10) (T := TX10) (N := 17) hx hb hts hin_X10 tyX10 tyX10_ok nmX10 hown hK hP hD hS 0 rfl rfl 14 (by decide) (hts (.fieldLink RX10 44 "NeedHouse$Typer" "members" "[I") (List.mem_of_getElem? (i := 15) rfl)) (fun _ h9 => h9) rfl hin rfl (by decide +kernel) rfl rfl (by rw [hF_35.1]; decide) dX10_init_91 (fun H locs hP hD hS => ?_)
  have hP : va_P (dC, dI) vwCl [(h0, .inr (10, (fs_36.set 14 (.ref q_37)))), (q_37, .inl (cI, 300, .inl (fun _ => 0)))] H := hP
  have hD : va_D A [(h0, .inr (10, (fs_36.set 14 (.ref q_37)))), (q_37, .inl (cI, 300, .inl (fun _ => 0)))] := hD
  have hF_39 := hF_35.set 14 (.ref q_37) (l' := [(14, .ref q_37), (13, .ref q_33), (12, .ref q_29), (11, .ref q_25), (10, .ref q_21), (9, .ref q_17), (8, .ref q_13), (7, .ref q_9), (6, .ref q_5), (4, .ref q_1), (5, .int 0), (15, .int 0), (16, .int 0)]) (by decide) rfl
  generalize fs_36.set 14 (.ref q_37) = fs_40 at hP hD hF_39
  have hP : va_P (dC, dI) vwCl [(h0, .inr (10, fs_40)), (q_37, .inl (cI, 300, .inl (fun _ => 0)))] H := hP
  have hD : va_D A [(h0, .inr (10, fs_40)), (q_37, .inl (cI, 300, .inl (fun _ => 0)))] := hD
  have hP := hP.sub (ws' := [(h0, .inr (10, fs_40))]) [0] rfl
  have hD := hD.sub (ws' := [(h0, .inr (10, fs_40))]) [0] (by decide) rfl
  refine lv_aload_n hx hb dX10_init_94 rfl (lv_at hl 0 rfl) ?_
  refine lv_aload_n hx hb dX10_init_95 rfl (lv_at hl 1 rfl) ?_
  refine va_putF (D := (dC, dI)) (ci := 10) (v := .ref p0) (ty := (.object "NeedHouse$Lexemes")) (C := RX10) (T := TX10) (N := 17) hx hb hts hin_X10 tyX10 tyX10_ok nmX10 hown hK hP hD hS 0 rfl rfl 0 (by decide) (hts (.fieldLink RX10 47 "NeedHouse$Typer" "lexemes" "LNeedHouse$Lexemes;") (List.mem_of_getElem? (i := 16) rfl)) (fun _ h9 => h9) rfl hin rfl (by decide +kernel) rfl rfl (by rw [hF_39.1]; decide) dX10_init_96 (fun H locs hP hD hS => ?_)
  have hP : va_P (dC, dI) vwCl [(h0, .inr (10, (fs_40.set 0 (.ref p0))))] H := hP
  have hD : va_D A [(h0, .inr (10, (fs_40.set 0 (.ref p0))))] := hD
  have hF_41 := hF_39.set 0 (.ref p0) (l' := [(0, .ref p0), (14, .ref q_37), (13, .ref q_33), (12, .ref q_29), (11, .ref q_25), (10, .ref q_21), (9, .ref q_17), (8, .ref q_13), (7, .ref q_9), (6, .ref q_5), (4, .ref q_1), (5, .int 0), (15, .int 0), (16, .int 0)]) (by decide) rfl
  generalize fs_40.set 0 (.ref p0) = fs_42 at hP hD hF_41
  have hP : va_P (dC, dI) vwCl [(h0, .inr (10, fs_42))] H := hP
  have hD : va_D A [(h0, .inr (10, fs_42))] := hD
  refine lv_aload_n hx hb dX10_init_99 rfl (lv_at hl 0 rfl) ?_
  refine lv_aload_n hx hb dX10_init_100 rfl (lv_at hl 2 rfl) ?_
  refine va_putF (D := (dC, dI)) (ci := 10) (v := .ref p1) (ty := (.object "NeedHouse$Tree")) (C := RX10) (T := TX10) (N := 17) hx hb hts hin_X10 tyX10 tyX10_ok nmX10 hown hK hP hD hS 0 rfl rfl 1 (by decide) (hts (.fieldLink RX10 51 "NeedHouse$Typer" "tree" "LNeedHouse$Tree;") (List.mem_of_getElem? (i := 17) rfl)) (fun _ h9 => h9) rfl hin rfl (by decide +kernel) rfl rfl (by rw [hF_41.1]; decide) dX10_init_101 (fun H locs hP hD hS => ?_)
  have hP : va_P (dC, dI) vwCl [(h0, .inr (10, (fs_42.set 1 (.ref p1))))] H := hP
  have hD : va_D A [(h0, .inr (10, (fs_42.set 1 (.ref p1))))] := hD
  have hF_43 := hF_41.set 1 (.ref p1) (l' := [(1, .ref p1), (0, .ref p0), (14, .ref q_37), (13, .ref q_33), (12, .ref q_29), (11, .ref q_25), (10, .ref q_21), (9, .ref q_17), (8, .ref q_13), (7, .ref q_9), (6, .ref q_5), (4, .ref q_1), (5, .int 0), (15, .int 0), (16, .int 0)]) (by decide) rfl
  generalize fs_42.set 1 (.ref p1) = fs_44 at hP hD hF_43
  have hP : va_P (dC, dI) vwCl [(h0, .inr (10, fs_44))] H := hP
  have hD : va_D A [(h0, .inr (10, fs_44))] := hD
  refine lv_aload_n hx hb dX10_init_104 rfl (lv_at hl 0 rfl) ?_
  refine lv_aload_n hx hb dX10_init_105 rfl (lv_at hl 3 rfl) ?_
  refine va_putF (D := (dC, dI)) (ci := 10) (v := .ref p2) (ty := (.object "NeedHouse$Told")) (C := RX10) (T := TX10) (N := 17) hx hb hts hin_X10 tyX10 tyX10_ok nmX10 hown hK hP hD hS 0 rfl rfl 2 (by decide) (hts (.fieldLink RX10 55 "NeedHouse$Typer" "told" "LNeedHouse$Told;") (List.mem_of_getElem? (i := 18) rfl)) (fun _ h9 => h9) rfl hin rfl (by decide +kernel) rfl rfl (by rw [hF_43.1]; decide) dX10_init_106 (fun H locs hP hD hS => ?_)
  have hP : va_P (dC, dI) vwCl [(h0, .inr (10, (fs_44.set 2 (.ref p2))))] H := hP
  have hD : va_D A [(h0, .inr (10, (fs_44.set 2 (.ref p2))))] := hD
  have hF_45 := hF_43.set 2 (.ref p2) (l' := [(2, .ref p2), (1, .ref p1), (0, .ref p0), (14, .ref q_37), (13, .ref q_33), (12, .ref q_29), (11, .ref q_25), (10, .ref q_21), (9, .ref q_17), (8, .ref q_13), (7, .ref q_9), (6, .ref q_5), (4, .ref q_1), (5, .int 0), (15, .int 0), (16, .int 0)]) (by decide) rfl
  generalize fs_44.set 2 (.ref p2) = fs_46 at hP hD hF_45
  have hP : va_P (dC, dI) vwCl [(h0, .inr (10, fs_46))] H := hP
  have hD : va_D A [(h0, .inr (10, fs_46))] := hD
  refine lv_aload_n hx hb dX10_init_109 rfl (lv_at hl 0 rfl) ?_
  refine lv_aload hx hb dX10_init_110 (lv_at hl 4 rfl) ?_
  refine va_putF (D := (dC, dI)) (ci := 10) (v := .ref p3) (ty := (.object "NeedHouse$Types")) (C := RX10) (T := TX10) (N := 17) hx hb hts hin_X10 tyX10 tyX10_ok nmX10 hown hK hP hD hS 0 rfl rfl 3 (by decide) (hts (.fieldLink RX10 59 "NeedHouse$Typer" "types" "LNeedHouse$Types;") (List.mem_of_getElem? (i := 19) rfl)) (fun _ h9 => h9) rfl hin rfl (by decide +kernel) rfl rfl (by rw [hF_45.1]; decide) dX10_init_112 (fun H locs hP hD hS => ?_)
  have hP : va_P (dC, dI) vwCl [(h0, .inr (10, (fs_46.set 3 (.ref p3))))] H := hP
  have hD : va_D A [(h0, .inr (10, (fs_46.set 3 (.ref p3))))] := hD
  have hF_47 := hF_45.set 3 (.ref p3) (l' := [(3, .ref p3), (2, .ref p2), (1, .ref p1), (0, .ref p0), (14, .ref q_37), (13, .ref q_33), (12, .ref q_29), (11, .ref q_25), (10, .ref q_21), (9, .ref q_17), (8, .ref q_13), (7, .ref q_9), (6, .ref q_5), (4, .ref q_1), (5, .int 0), (15, .int 0), (16, .int 0)]) (by decide) rfl
  generalize fs_46.set 3 (.ref p3) = fs_48 at hP hD hF_47
  have hP : va_P (dC, dI) vwCl [(h0, .inr (10, fs_48))] H := hP
  have hD : va_D A [(h0, .inr (10, fs_48))] := hD
  have hP9 := hP.sub (ws' := [(h0, .inr (10, fs_48))]) [0] rfl
  have hD9 := hD.sub (ws' := [(h0, .inr (10, fs_48))]) [0] (by decide) rfl
  have hK9 := hK.sub (tys' := [(cI, .int), (cL, .long)]) [0, 1] rfl
  exact W.vret hx hb hr (fun t ht hW => ⟨⟨(fs_48), rfl, hF_47.sub [3, 2, 1, 0, 14, 15, 16] rfl, by rw [ht]; exact hP9, va_K.moved hW.alike hK9, hD9⟩, hS.F ht⟩) hS.2.2 dX10_init_115
def pw_c_X4_init : List Cond := .code yX4_init cX4_init 3 none :: ([.code objectInit ⟨#[0xb1]⟩ 1 none, .methodLink RX4 3 objectInit, .instanceMethod objectInit, .arrayClass .long, .fieldLink RX4 11 "NeedHouse$Needs" "free" "[J", .fieldLink RX4 15 "NeedHouse$Needs" "need" "[J", .fieldLink RX4 18 "NeedHouse$Needs" "strictOnes" "[J", .arrayClass .int, .fieldLink RX4 21 "NeedHouse$Needs" "freeFrom" "[I", .fieldLink RX4 25 "NeedHouse$Needs" "freeMany" "[I", .fieldLink RX4 28 "NeedHouse$Needs" "freeName" "[I", .fieldLink RX4 31 "NeedHouse$Needs" "cells" "[I", .fieldLink RX4 34 "NeedHouse$Needs" "thunks" "[I", .fieldLink RX4 37 "NeedHouse$Needs" "madeCells" "[I", .fieldLink RX4 40 "NeedHouse$Needs" "madeThunks" "[I", .fieldLink RX4 43 "NeedHouse$Needs" "tree" "LNeedHouse$Tree;", .fieldLink RX4 47 "NeedHouse$Needs" "told" "LNeedHouse$Told;"] ++ (wsX40 ++ []))
set_option maxHeartbeats 4000000 in
set_option maxRecDepth 100000 in
theorem c_X4_init (l : Launch) (dC : Nat → ClassId) (dI : Nat → Nat → Nat) (sz : Nat) (h0 : Nat) (fs : List Value) (cI : ClassId) (cL : ClassId) (p0 : Nat) (p1 : Nat) (hF : hasF fs 13 [(8, .int 0)]) : Met l yX4_init pw_c_X4_init ({ frames := 1, cells := 10, slots := 93711, locals := 12 }) (va_Pc [.ref h0, .ref p0, .ref p1] (fun U => U.heap.size = sz ∧ va_P (dC, dI) vwCl [(h0, .inr (4, fs))] U.heap ∧ va_K (dC, dI) vwCl [(cI, .int), (cL, .long)] U ∧ va_D (fun _ => True) [(h0, .inr (4, fs))])) (va_Qv (fun (u : (List Value)) => hasF u 13 [(0, .ref p0), (1, .ref p1), (8, .int 0)]) (fun (u : (List Value)) (t : State) => va_P (dC, dI) vwCl [(h0, .inr (4, u))] t.heap ∧ va_K (dC, dI) vwCl [(cI, .int), (cL, .long)] t ∧ va_D (va_A [(h0, .inr (4, fs))] sz) [(h0, .inr (4, u))]) (va_A [(h0, .inr (4, fs))] sz)) 10 93711 (va_A [(h0, .inr (4, fs))] sz) := by
  refine Met.ofW (cc := cX4_init) (maxL := 3) (ret := none) (by decide) rfl ?_
  intro p e s m args below meth c s₁ B hml hv
  obtain ⟨rfl, hsz, hP, hK, hD0⟩ := hv
  have hx := B.exec
  have hb := B.bytes
  have hr := B.returns
  have hts := atoms_spec (ws := pw_c_X4_init) B.pre
  have hown : s.vm.findClass RX4 = some m.cls := findClass_of_methodNamed B.named
  have hlocks := B.notSynchronized
  have hin : meth.name = "<init>" := (name_of_methodNamed B.named B.method).1
  have hin_X4 : ∀ w ∈ u_ws RX4 TX4 13, w ∈ pw_c_X4_init := fun w h => List.mem_cons_of_mem _ (List.mem_append_right _ (List.mem_append_left _ h))
  subst hsz
  have hD := hD0.self (sz := s.heap.size)
  generalize hAe : va_A [(h0, .inr (4, fs))] s.heap.size = A at hD ⊢
  have hA : ∀ q : Nat, s.heap.size ≤ q → A q := fun q h => by rw [← hAe]; exact Or.inr h
  have hS : va_S A s.heap s.heap [] := va_S.rf
  have hP : va_P (dC, dI) vwCl [(h0, .inr (4, fs))] s.heap := hP
  have hl := lv_entry ([.ref h0, .ref p0, .ref p1]) (n := 3) (Nat.le_of_ble_eq_true rfl)
  rw [lg_entry_eq]
  generalize (lg_sl ([.ref h0, .ref p0, .ref p1]) ++ List.replicate (3 - (lg_sl ([.ref h0, .ref p0, .ref p1])).length) Slot.unset).toArray = ls at hl ⊢
  have hl : lv_has ls 3 [(0, .ref h0), (1, .ref p0), (2, .ref p1)] := hl
  refine lv_aload_n hx hb dX4_init_0 rfl (lv_at hl 0 rfl) ?_
  refine W.objInit hx hb hown (hts (.methodLink RX4 3 objectInit) (List.mem_of_getElem? (i := 2) rfl)) (hts (.instanceMethod objectInit) (List.mem_of_getElem? (i := 3) rfl)) (hts _ (List.mem_of_getElem? (i := 1) rfl)) rfl (by rw [hml]; exact hl.1) rfl dX4_init_1 (Nat.le_of_ble_eq_true rfl) (Nat.le_of_ble_eq_true rfl) ?_
  refine W.eq (g2 := F0 m 4 ls []) rfl ?_
  refine lv_aload_n hx hb dX4_init_4 rfl (lv_at hl 0 rfl) ?_
  refine lv_sipush (v := 28005) hx hb dX4_init_5 (by decide) ?_
  refine va_newa (atype := .long) (a0 := (28005, .inr (.inl (fun _ => 0)))) hx hb (hts (.arrayClass .long) (List.mem_of_getElem? (i := 4) rfl)) (ty := .long) rfl hK hP hD hS hA (na_long 28005) (by decide) (by decide +kernel) (show 28005 * 8 ≤ 536870912 by decide) (show 0 + 1 ≤ 10 by decide) (show 0 + 28005 ≤ 93711 by decide) dX4_init_8 (fun q_1 cA_2 H hK hP hD hS => ?_)
  have hK : va_K (dC, dI) vwCl [(cI, .int), (cL, .long), (cA_2, .long)] s := hK
  obtain rfl := kU_long hK 1 2 rfl rfl
  have hK := hK.sub (tys' := [(cI, .int), (cL, .long)]) [0, 1] rfl
  have hP : va_P (dC, dI) vwCl [(h0, .inr (4, fs)), (q_1, .inl (cL, 28005, .inr (.inl (fun _ => 0))))] H := hP
  have hD : va_D A [(h0, .inr (4, fs)), (q_1, .inl (cL, 28005, .inr (.inl (fun _ => 0))))] := hD
  refine W.widen (k := 1) (n := 28005) (by decide) (by decide) ?_
  refine va_putF (D := (dC, dI)) (ci := 4) (v := .ref q_1) (ty := (.array .long)) (C := RX4) (T := TX4) (N := 13) hx hb hts hin_X4 tyX4 tyX4_ok nmX4 hown hK hP hD hS 0 rfl rfl 2 (by decide) (hts (.fieldLink RX4 11 "NeedHouse$Needs" "free" "[J") (List.mem_of_getElem? (i := 5) rfl)) (fun _ h9 => h9) rfl hin rfl (by decide +kernel) rfl rfl (by rw [hF.1]; decide) dX4_init_10 (fun H locs hP hD hS => ?_)
  have hP : va_P (dC, dI) vwCl [(h0, .inr (4, (fs.set 2 (.ref q_1)))), (q_1, .inl (cL, 28005, .inr (.inl (fun _ => 0))))] H := hP
  have hD : va_D A [(h0, .inr (4, (fs.set 2 (.ref q_1)))), (q_1, .inl (cL, 28005, .inr (.inl (fun _ => 0))))] := hD
  have hF_3 := hF.set 2 (.ref q_1) (l' := [(2, .ref q_1), (8, .int 0)]) (by decide) rfl
  generalize fs.set 2 (.ref q_1) = fs_4 at hP hD hF_3
  have hP : va_P (dC, dI) vwCl [(h0, .inr (4, fs_4)), (q_1, .inl (cL, 28005, .inr (.inl (fun _ => 0))))] H := hP
  have hD : va_D A [(h0, .inr (4, fs_4)), (q_1, .inl (cL, 28005, .inr (.inl (fun _ => 0))))] := hD
  have hP := hP.sub (ws' := [(h0, .inr (4, fs_4))]) [0] rfl
  have hD := hD.sub (ws' := [(h0, .inr (4, fs_4))]) [0] (by decide) rfl
  refine lv_aload_n hx hb dX4_init_13 rfl (lv_at hl 0 rfl) ?_
  refine lv_sipush (v := 28005) hx hb dX4_init_14 (by decide) ?_
  refine va_newa (atype := .long) (a0 := (28005, .inr (.inl (fun _ => 0)))) hx hb (hts (.arrayClass .long) (List.mem_of_getElem? (i := 4) rfl)) (ty := .long) rfl hK hP hD hS hA (na_long 28005) (by decide) (by decide +kernel) (show 28005 * 8 ≤ 536870912 by decide) (show 1 + 1 ≤ 10 by decide) (show 28005 + 28005 ≤ 93711 by decide) dX4_init_17 (fun q_5 cA_6 H hK hP hD hS => ?_)
  have hK : va_K (dC, dI) vwCl [(cI, .int), (cL, .long), (cA_6, .long)] s := hK
  obtain rfl := kU_long hK 1 2 rfl rfl
  have hK := hK.sub (tys' := [(cI, .int), (cL, .long)]) [0, 1] rfl
  have hP : va_P (dC, dI) vwCl [(h0, .inr (4, fs_4)), (q_5, .inl (cL, 28005, .inr (.inl (fun _ => 0))))] H := hP
  have hD : va_D A [(h0, .inr (4, fs_4)), (q_5, .inl (cL, 28005, .inr (.inl (fun _ => 0))))] := hD
  refine W.widen (k := 2) (n := 56010) (by decide) (by decide) ?_
  refine va_putF (D := (dC, dI)) (ci := 4) (v := .ref q_5) (ty := (.array .long)) (C := RX4) (T := TX4) (N := 13) hx hb hts hin_X4 tyX4 tyX4_ok nmX4 hown hK hP hD hS 0 rfl rfl 3 (by decide) (hts (.fieldLink RX4 15 "NeedHouse$Needs" "need" "[J") (List.mem_of_getElem? (i := 6) rfl)) (fun _ h9 => h9) rfl hin rfl (by decide +kernel) rfl rfl (by rw [hF_3.1]; decide) dX4_init_19 (fun H locs hP hD hS => ?_)
  have hP : va_P (dC, dI) vwCl [(h0, .inr (4, (fs_4.set 3 (.ref q_5)))), (q_5, .inl (cL, 28005, .inr (.inl (fun _ => 0))))] H := hP
  have hD : va_D A [(h0, .inr (4, (fs_4.set 3 (.ref q_5)))), (q_5, .inl (cL, 28005, .inr (.inl (fun _ => 0))))] := hD
  have hF_7 := hF_3.set 3 (.ref q_5) (l' := [(3, .ref q_5), (2, .ref q_1), (8, .int 0)]) (by decide) rfl
  generalize fs_4.set 3 (.ref q_5) = fs_8 at hP hD hF_7
  have hP : va_P (dC, dI) vwCl [(h0, .inr (4, fs_8)), (q_5, .inl (cL, 28005, .inr (.inl (fun _ => 0))))] H := hP
  have hD : va_D A [(h0, .inr (4, fs_8)), (q_5, .inl (cL, 28005, .inr (.inl (fun _ => 0))))] := hD
  have hP := hP.sub (ws' := [(h0, .inr (4, fs_8))]) [0] rfl
  have hD := hD.sub (ws' := [(h0, .inr (4, fs_8))]) [0] (by decide) rfl
  refine lv_aload_n hx hb dX4_init_22 rfl (lv_at hl 0 rfl) ?_
  refine lv_iconst (v := 5) hx hb dX4_init_23 (by decide) ?_
  refine va_newa (atype := .long) (a0 := (5, .inr (.inl (fun _ => 0)))) hx hb (hts (.arrayClass .long) (List.mem_of_getElem? (i := 4) rfl)) (ty := .long) rfl hK hP hD hS hA (na_long 5) (by decide) (by decide +kernel) (show 5 * 8 ≤ 536870912 by decide) (show 2 + 1 ≤ 10 by decide) (show 56010 + 5 ≤ 93711 by decide) dX4_init_24 (fun q_9 cA_10 H hK hP hD hS => ?_)
  have hK : va_K (dC, dI) vwCl [(cI, .int), (cL, .long), (cA_10, .long)] s := hK
  obtain rfl := kU_long hK 1 2 rfl rfl
  have hK := hK.sub (tys' := [(cI, .int), (cL, .long)]) [0, 1] rfl
  have hP : va_P (dC, dI) vwCl [(h0, .inr (4, fs_8)), (q_9, .inl (cL, 5, .inr (.inl (fun _ => 0))))] H := hP
  have hD : va_D A [(h0, .inr (4, fs_8)), (q_9, .inl (cL, 5, .inr (.inl (fun _ => 0))))] := hD
  refine W.widen (k := 3) (n := 56015) (by decide) (by decide) ?_
  refine va_putF (D := (dC, dI)) (ci := 4) (v := .ref q_9) (ty := (.array .long)) (C := RX4) (T := TX4) (N := 13) hx hb hts hin_X4 tyX4 tyX4_ok nmX4 hown hK hP hD hS 0 rfl rfl 4 (by decide) (hts (.fieldLink RX4 18 "NeedHouse$Needs" "strictOnes" "[J") (List.mem_of_getElem? (i := 7) rfl)) (fun _ h9 => h9) rfl hin rfl (by decide +kernel) rfl rfl (by rw [hF_7.1]; decide) dX4_init_26 (fun H locs hP hD hS => ?_)
  have hP : va_P (dC, dI) vwCl [(h0, .inr (4, (fs_8.set 4 (.ref q_9)))), (q_9, .inl (cL, 5, .inr (.inl (fun _ => 0))))] H := hP
  have hD : va_D A [(h0, .inr (4, (fs_8.set 4 (.ref q_9)))), (q_9, .inl (cL, 5, .inr (.inl (fun _ => 0))))] := hD
  have hF_11 := hF_7.set 4 (.ref q_9) (l' := [(4, .ref q_9), (3, .ref q_5), (2, .ref q_1), (8, .int 0)]) (by decide) rfl
  generalize fs_8.set 4 (.ref q_9) = fs_12 at hP hD hF_11
  have hP : va_P (dC, dI) vwCl [(h0, .inr (4, fs_12)), (q_9, .inl (cL, 5, .inr (.inl (fun _ => 0))))] H := hP
  have hD : va_D A [(h0, .inr (4, fs_12)), (q_9, .inl (cL, 5, .inr (.inl (fun _ => 0))))] := hD
  have hP := hP.sub (ws' := [(h0, .inr (4, fs_12))]) [0] rfl
  have hD := hD.sub (ws' := [(h0, .inr (4, fs_12))]) [0] (by decide) rfl
  refine lv_aload_n hx hb dX4_init_29 rfl (lv_at hl 0 rfl) ?_
  refine lv_sipush (v := 5600) hx hb dX4_init_30 (by decide) ?_
  refine va_newa (atype := .int) (a0 := (5600, .inl (fun _ => 0))) hx hb (hts (.arrayClass .int) (List.mem_of_getElem? (i := 8) rfl)) (ty := .int) rfl hK hP hD hS hA (na_int 5600) (by decide) (by decide +kernel) (show 5600 * 4 ≤ 536870912 by decide) (show 3 + 1 ≤ 10 by decide) (show 56015 + 5600 ≤ 93711 by decide) dX4_init_33 (fun q_13 cA_14 H hK hP hD hS => ?_)
  have hK : va_K (dC, dI) vwCl [(cI, .int), (cL, .long), (cA_14, .int)] s := hK
  obtain rfl := kU_int hK 0 2 rfl rfl
  have hK := hK.sub (tys' := [(cI, .int), (cL, .long)]) [0, 1] rfl
  have hP : va_P (dC, dI) vwCl [(h0, .inr (4, fs_12)), (q_13, .inl (cI, 5600, .inl (fun _ => 0)))] H := hP
  have hD : va_D A [(h0, .inr (4, fs_12)), (q_13, .inl (cI, 5600, .inl (fun _ => 0)))] := hD
  refine W.widen (k := 4) (n := 61615) (by decide) (by decide) ?_
  refine va_putF (D := (dC, dI)) (ci := 4) (v := .ref q_13) (ty := (.array .int)) (C := RX4) (T := TX4) (N := 13) hx hb hts hin_X4 tyX4 tyX4_ok nmX4 hown hK hP hD hS 0 rfl rfl 5 (by decide) (hts (.fieldLink RX4 21 "NeedHouse$Needs" "freeFrom" "[I") (List.mem_of_getElem? (i := 9) rfl)) (fun _ h9 => h9) rfl hin rfl (by decide +kernel) rfl rfl (by rw [hF_11.1]; decide) dX4_init_35 (fun H locs hP hD hS => ?_)
  have hP : va_P (dC, dI) vwCl [(h0, .inr (4, (fs_12.set 5 (.ref q_13)))), (q_13, .inl (cI, 5600, .inl (fun _ => 0)))] H := hP
  have hD : va_D A [(h0, .inr (4, (fs_12.set 5 (.ref q_13)))), (q_13, .inl (cI, 5600, .inl (fun _ => 0)))] := hD
  have hF_15 := hF_11.set 5 (.ref q_13) (l' := [(5, .ref q_13), (4, .ref q_9), (3, .ref q_5), (2, .ref q_1), (8, .int 0)]) (by decide) rfl
  generalize fs_12.set 5 (.ref q_13) = fs_16 at hP hD hF_15
  have hP : va_P (dC, dI) vwCl [(h0, .inr (4, fs_16)), (q_13, .inl (cI, 5600, .inl (fun _ => 0)))] H := hP
  have hD : va_D A [(h0, .inr (4, fs_16)), (q_13, .inl (cI, 5600, .inl (fun _ => 0)))] := hD
  have hP := hP.sub (ws' := [(h0, .inr (4, fs_16))]) [0] rfl
  have hD := hD.sub (ws' := [(h0, .inr (4, fs_16))]) [0] (by decide) rfl
  refine lv_aload_n hx hb dX4_init_38 rfl (lv_at hl 0 rfl) ?_
  refine lv_sipush (v := 5600) hx hb dX4_init_39 (by decide) ?_
  refine va_newa (atype := .int) (a0 := (5600, .inl (fun _ => 0))) hx hb (hts (.arrayClass .int) (List.mem_of_getElem? (i := 8) rfl)) (ty := .int) rfl hK hP hD hS hA (na_int 5600) (by decide) (by decide +kernel) (show 5600 * 4 ≤ 536870912 by decide) (show 4 + 1 ≤ 10 by decide) (show 61615 + 5600 ≤ 93711 by decide) dX4_init_42 (fun q_17 cA_18 H hK hP hD hS => ?_)
  have hK : va_K (dC, dI) vwCl [(cI, .int), (cL, .long), (cA_18, .int)] s := hK
  obtain rfl := kU_int hK 0 2 rfl rfl
  have hK := hK.sub (tys' := [(cI, .int), (cL, .long)]) [0, 1] rfl
  have hP : va_P (dC, dI) vwCl [(h0, .inr (4, fs_16)), (q_17, .inl (cI, 5600, .inl (fun _ => 0)))] H := hP
  have hD : va_D A [(h0, .inr (4, fs_16)), (q_17, .inl (cI, 5600, .inl (fun _ => 0)))] := hD
  refine W.widen (k := 5) (n := 67215) (by decide) (by decide) ?_
  refine va_putF (D := (dC, dI)) (ci := 4) (v := .ref q_17) (ty := (.array .int)) (C := RX4) (T := TX4) (N := 13) hx hb hts hin_X4 tyX4 tyX4_ok nmX4 hown hK hP hD hS 0 rfl rfl 6 (by decide) (hts (.fieldLink RX4 25 "NeedHouse$Needs" "freeMany" "[I") (List.mem_of_getElem? (i := 10) rfl)) (fun _ h9 => h9) rfl hin rfl (by decide +kernel) rfl rfl (by rw [hF_15.1]; decide) dX4_init_44 (fun H locs hP hD hS => ?_)
  have hP : va_P (dC, dI) vwCl [(h0, .inr (4, (fs_16.set 6 (.ref q_17)))), (q_17, .inl (cI, 5600, .inl (fun _ => 0)))] H := hP
  have hD : va_D A [(h0, .inr (4, (fs_16.set 6 (.ref q_17)))), (q_17, .inl (cI, 5600, .inl (fun _ => 0)))] := hD
  have hF_19 := hF_15.set 6 (.ref q_17) (l' := [(6, .ref q_17), (5, .ref q_13), (4, .ref q_9), (3, .ref q_5), (2, .ref q_1), (8, .int 0)]) (by decide) rfl
  generalize fs_16.set 6 (.ref q_17) = fs_20 at hP hD hF_19
  have hP : va_P (dC, dI) vwCl [(h0, .inr (4, fs_20)), (q_17, .inl (cI, 5600, .inl (fun _ => 0)))] H := hP
  have hD : va_D A [(h0, .inr (4, fs_20)), (q_17, .inl (cI, 5600, .inl (fun _ => 0)))] := hD
  have hP := hP.sub (ws' := [(h0, .inr (4, fs_20))]) [0] rfl
  have hD := hD.sub (ws' := [(h0, .inr (4, fs_20))]) [0] (by decide) rfl
  refine lv_aload_n hx hb dX4_init_47 rfl (lv_at hl 0 rfl) ?_
  refine lv_sipush (v := 4096) hx hb dX4_init_48 (by decide) ?_
  refine va_newa (atype := .int) (a0 := (4096, .inl (fun _ => 0))) hx hb (hts (.arrayClass .int) (List.mem_of_getElem? (i := 8) rfl)) (ty := .int) rfl hK hP hD hS hA (na_int 4096) (by decide) (by decide +kernel) (show 4096 * 4 ≤ 536870912 by decide) (show 5 + 1 ≤ 10 by decide) (show 67215 + 4096 ≤ 93711 by decide) dX4_init_51 (fun q_21 cA_22 H hK hP hD hS => ?_)
  have hK : va_K (dC, dI) vwCl [(cI, .int), (cL, .long), (cA_22, .int)] s := hK
  obtain rfl := kU_int hK 0 2 rfl rfl
  have hK := hK.sub (tys' := [(cI, .int), (cL, .long)]) [0, 1] rfl
  have hP : va_P (dC, dI) vwCl [(h0, .inr (4, fs_20)), (q_21, .inl (cI, 4096, .inl (fun _ => 0)))] H := hP
  have hD : va_D A [(h0, .inr (4, fs_20)), (q_21, .inl (cI, 4096, .inl (fun _ => 0)))] := hD
  refine W.widen (k := 6) (n := 71311) (by decide) (by decide) ?_
  refine va_put (D := (dC, dI)) (ci := 4) (v := .ref q_21) (ty := (.array .int)) (C := RX4) (T := TX4) (N := 13) hx hb hts hin_X4 tyX4 tyX4_ok nmX4 hown hK hP hD hS 0 rfl rfl 7 (by decide) (hts (.fieldLink RX4 28 "NeedHouse$Needs" "freeName" "[I") (List.mem_of_getElem? (i := 11) rfl)) (fun _ h9 => h9) rfl (by decide +kernel) rfl rfl (by rw [hF_19.1]; decide) dX4_init_53 (fun H locs hP hD hS => ?_)
  have hP : va_P (dC, dI) vwCl [(h0, .inr (4, (fs_20.set 7 (.ref q_21)))), (q_21, .inl (cI, 4096, .inl (fun _ => 0)))] H := hP
  have hD : va_D A [(h0, .inr (4, (fs_20.set 7 (.ref q_21)))), (q_21, .inl (cI, 4096, .inl (fun _ => 0)))] := hD
  have hF_23 := hF_19.set 7 (.ref q_21) (l' := [(7, .ref q_21), (6, .ref q_17), (5, .ref q_13), (4, .ref q_9), (3, .ref q_5), (2, .ref q_1), (8, .int 0)]) (by decide) rfl
  generalize fs_20.set 7 (.ref q_21) = fs_24 at hP hD hF_23
  have hP : va_P (dC, dI) vwCl [(h0, .inr (4, fs_24)), (q_21, .inl (cI, 4096, .inl (fun _ => 0)))] H := hP
  have hD : va_D A [(h0, .inr (4, fs_24)), (q_21, .inl (cI, 4096, .inl (fun _ => 0)))] := hD
  have hP := hP.sub (ws' := [(h0, .inr (4, fs_24))]) [0] rfl
  have hD := hD.sub (ws' := [(h0, .inr (4, fs_24))]) [0] (by decide) rfl
  refine lv_aload_n hx hb dX4_init_56 rfl (lv_at hl 0 rfl) ?_
  refine lv_sipush (v := 5600) hx hb dX4_init_57 (by decide) ?_
  refine va_newa (atype := .int) (a0 := (5600, .inl (fun _ => 0))) hx hb (hts (.arrayClass .int) (List.mem_of_getElem? (i := 8) rfl)) (ty := .int) rfl hK hP hD hS hA (na_int 5600) (by decide) (by decide +kernel) (show 5600 * 4 ≤ 536870912 by decide) (show 6 + 1 ≤ 10 by decide) (show 71311 + 5600 ≤ 93711 by decide) dX4_init_60 (fun q_25 cA_26 H hK hP hD hS => ?_)
  have hK : va_K (dC, dI) vwCl [(cI, .int), (cL, .long), (cA_26, .int)] s := hK
  obtain rfl := kU_int hK 0 2 rfl rfl
  have hK := hK.sub (tys' := [(cI, .int), (cL, .long)]) [0, 1] rfl
  have hP : va_P (dC, dI) vwCl [(h0, .inr (4, fs_24)), (q_25, .inl (cI, 5600, .inl (fun _ => 0)))] H := hP
  have hD : va_D A [(h0, .inr (4, fs_24)), (q_25, .inl (cI, 5600, .inl (fun _ => 0)))] := hD
  refine W.widen (k := 7) (n := 76911) (by decide) (by decide) ?_
  refine va_putF (D := (dC, dI)) (ci := 4) (v := .ref q_25) (ty := (.array .int)) (C := RX4) (T := TX4) (N := 13) hx hb hts hin_X4 tyX4 tyX4_ok nmX4 hown hK hP hD hS 0 rfl rfl 9 (by decide) (hts (.fieldLink RX4 31 "NeedHouse$Needs" "cells" "[I") (List.mem_of_getElem? (i := 12) rfl)) (fun _ h9 => h9) rfl hin rfl (by decide +kernel) rfl rfl (by rw [hF_23.1]; decide) dX4_init_62 (fun H locs hP hD hS => ?_)
  have hP : va_P (dC, dI) vwCl [(h0, .inr (4, (fs_24.set 9 (.ref q_25)))), (q_25, .inl (cI, 5600, .inl (fun _ => 0)))] H := hP
  have hD : va_D A [(h0, .inr (4, (fs_24.set 9 (.ref q_25)))), (q_25, .inl (cI, 5600, .inl (fun _ => 0)))] := hD
  have hF_27 := hF_23.set 9 (.ref q_25) (l' := [(9, .ref q_25), (7, .ref q_21), (6, .ref q_17), (5, .ref q_13), (4, .ref q_9), (3, .ref q_5), (2, .ref q_1), (8, .int 0)]) (by decide) rfl
  generalize fs_24.set 9 (.ref q_25) = fs_28 at hP hD hF_27
  have hP : va_P (dC, dI) vwCl [(h0, .inr (4, fs_28)), (q_25, .inl (cI, 5600, .inl (fun _ => 0)))] H := hP
  have hD : va_D A [(h0, .inr (4, fs_28)), (q_25, .inl (cI, 5600, .inl (fun _ => 0)))] := hD
  have hP := hP.sub (ws' := [(h0, .inr (4, fs_28))]) [0] rfl
  have hD := hD.sub (ws' := [(h0, .inr (4, fs_28))]) [0] (by decide) rfl
  refine lv_aload_n hx hb dX4_init_65 rfl (lv_at hl 0 rfl) ?_
  refine lv_sipush (v := 5600) hx hb dX4_init_66 (by decide) ?_
  refine va_newa (atype := .int) (a0 := (5600, .inl (fun _ => 0))) hx hb (hts (.arrayClass .int) (List.mem_of_getElem? (i := 8) rfl)) (ty := .int) rfl hK hP hD hS hA (na_int 5600) (by decide) (by decide +kernel) (show 5600 * 4 ≤ 536870912 by decide) (show 7 + 1 ≤ 10 by decide) (show 76911 + 5600 ≤ 93711 by decide) dX4_init_69 (fun q_29 cA_30 H hK hP hD hS => ?_)
  have hK : va_K (dC, dI) vwCl [(cI, .int), (cL, .long), (cA_30, .int)] s := hK
  obtain rfl := kU_int hK 0 2 rfl rfl
  have hK := hK.sub (tys' := [(cI, .int), (cL, .long)]) [0, 1] rfl
  have hP : va_P (dC, dI) vwCl [(h0, .inr (4, fs_28)), (q_29, .inl (cI, 5600, .inl (fun _ => 0)))] H := hP
  have hD : va_D A [(h0, .inr (4, fs_28)), (q_29, .inl (cI, 5600, .inl (fun _ => 0)))] := hD
  refine W.widen (k := 8) (n := 82511) (by decide) (by decide) ?_
  refine va_putF (D := (dC, dI)) (ci := 4) (v := .ref q_29) (ty := (.array .int)) (C := RX4) (T := TX4) (N := 13) hx hb hts hin_X4 tyX4 tyX4_ok nmX4 hown hK hP hD hS 0 rfl rfl 10 (by decide) (hts (.fieldLink RX4 34 "NeedHouse$Needs" "thunks" "[I") (List.mem_of_getElem? (i := 13) rfl)) (fun _ h9 => h9) rfl hin rfl (by decide +kernel) rfl rfl (by rw [hF_27.1]; decide) dX4_init_71 (fun H locs hP hD hS => ?_)
  have hP : va_P (dC, dI) vwCl [(h0, .inr (4, (fs_28.set 10 (.ref q_29)))), (q_29, .inl (cI, 5600, .inl (fun _ => 0)))] H := hP
  have hD : va_D A [(h0, .inr (4, (fs_28.set 10 (.ref q_29)))), (q_29, .inl (cI, 5600, .inl (fun _ => 0)))] := hD
  have hF_31 := hF_27.set 10 (.ref q_29) (l' := [(10, .ref q_29), (9, .ref q_25), (7, .ref q_21), (6, .ref q_17), (5, .ref q_13), (4, .ref q_9), (3, .ref q_5), (2, .ref q_1), (8, .int 0)]) (by decide) rfl
  generalize fs_28.set 10 (.ref q_29) = fs_32 at hP hD hF_31
  have hP : va_P (dC, dI) vwCl [(h0, .inr (4, fs_32)), (q_29, .inl (cI, 5600, .inl (fun _ => 0)))] H := hP
  have hD : va_D A [(h0, .inr (4, fs_32)), (q_29, .inl (cI, 5600, .inl (fun _ => 0)))] := hD
  have hP := hP.sub (ws' := [(h0, .inr (4, fs_32))]) [0] rfl
  have hD := hD.sub (ws' := [(h0, .inr (4, fs_32))]) [0] (by decide) rfl
  refine lv_aload_n hx hb dX4_init_74 rfl (lv_at hl 0 rfl) ?_
  refine lv_sipush (v := 5600) hx hb dX4_init_75 (by decide) ?_
  refine va_newa (atype := .int) (a0 := (5600, .inl (fun _ => 0))) hx hb (hts (.arrayClass .int) (List.mem_of_getElem? (i := 8) rfl)) (ty := .int) rfl hK hP hD hS hA (na_int 5600) (by decide) (by decide +kernel) (show 5600 * 4 ≤ 536870912 by decide) (show 8 + 1 ≤ 10 by decide) (show 82511 + 5600 ≤ 93711 by decide) dX4_init_78 (fun q_33 cA_34 H hK hP hD hS => ?_)
  have hK : va_K (dC, dI) vwCl [(cI, .int), (cL, .long), (cA_34, .int)] s := hK
  obtain rfl := kU_int hK 0 2 rfl rfl
  have hK := hK.sub (tys' := [(cI, .int), (cL, .long)]) [0, 1] rfl
  have hP : va_P (dC, dI) vwCl [(h0, .inr (4, fs_32)), (q_33, .inl (cI, 5600, .inl (fun _ => 0)))] H := hP
  have hD : va_D A [(h0, .inr (4, fs_32)), (q_33, .inl (cI, 5600, .inl (fun _ => 0)))] := hD
  refine W.widen (k := 9) (n := 88111) (by decide) (by decide) ?_
  refine va_putF (D := (dC, dI)) (ci := 4) (v := .ref q_33) (ty := (.array .int)) (C := RX4) (T := TX4) (N := 13) hx hb hts hin_X4 tyX4 tyX4_ok nmX4 hown hK hP hD hS 0 rfl rfl 11 (by decide) (hts (.fieldLink RX4 37 "NeedHouse$Needs" "madeCells" "[I") (List.mem_of_getElem? (i := 14) rfl)) (fun _ h9 => h9) rfl hin rfl (by decide +kernel) rfl rfl (by rw [hF_31.1]; decide) dX4_init_80 (fun H locs hP hD hS => ?_)
  have hP : va_P (dC, dI) vwCl [(h0, .inr (4, (fs_32.set 11 (.ref q_33)))), (q_33, .inl (cI, 5600, .inl (fun _ => 0)))] H := hP
  have hD : va_D A [(h0, .inr (4, (fs_32.set 11 (.ref q_33)))), (q_33, .inl (cI, 5600, .inl (fun _ => 0)))] := hD
  have hF_35 := hF_31.set 11 (.ref q_33) (l' := [(11, .ref q_33), (10, .ref q_29), (9, .ref q_25), (7, .ref q_21), (6, .ref q_17), (5, .ref q_13), (4, .ref q_9), (3, .ref q_5), (2, .ref q_1), (8, .int 0)]) (by decide) rfl
  generalize fs_32.set 11 (.ref q_33) = fs_36 at hP hD hF_35
  have hP : va_P (dC, dI) vwCl [(h0, .inr (4, fs_36)), (q_33, .inl (cI, 5600, .inl (fun _ => 0)))] H := hP
  have hD : va_D A [(h0, .inr (4, fs_36)), (q_33, .inl (cI, 5600, .inl (fun _ => 0)))] := hD
  have hP := hP.sub (ws' := [(h0, .inr (4, fs_36))]) [0] rfl
  have hD := hD.sub (ws' := [(h0, .inr (4, fs_36))]) [0] (by decide) rfl
  refine lv_aload_n hx hb dX4_init_83 rfl (lv_at hl 0 rfl) ?_
  refine lv_sipush (v := 5600) hx hb dX4_init_84 (by decide) ?_
  refine va_newa (atype := .int) (a0 := (5600, .inl (fun _ => 0))) hx hb (hts (.arrayClass .int) (List.mem_of_getElem? (i := 8) rfl)) (ty := .int) rfl hK hP hD hS hA (na_int 5600) (by decide) (by decide +kernel) (show 5600 * 4 ≤ 536870912 by decide) (show 9 + 1 ≤ 10 by decide) (show 88111 + 5600 ≤ 93711 by decide) dX4_init_87 (fun q_37 cA_38 H hK hP hD hS => ?_)
  have hK : va_K (dC, dI) vwCl [(cI, .int), (cL, .long), (cA_38, .int)] s := hK
  obtain rfl := kU_int hK 0 2 rfl rfl
  have hK := hK.sub (tys' := [(cI, .int), (cL, .long)]) [0, 1] rfl
  have hP : va_P (dC, dI) vwCl [(h0, .inr (4, fs_36)), (q_37, .inl (cI, 5600, .inl (fun _ => 0)))] H := hP
  have hD : va_D A [(h0, .inr (4, fs_36)), (q_37, .inl (cI, 5600, .inl (fun _ => 0)))] := hD
  refine W.widen (k := 10) (n := 93711) (by decide) (by decide) ?_
  refine va_putF (D := (dC, dI)) (ci := 4) (v := .ref q_37) (ty := (.array .int)) (C := RX4) (T := TX4) (N := 13) hx hb hts hin_X4 tyX4 tyX4_ok nmX4 hown hK hP hD hS 0 rfl rfl 12 (by decide) (hts (.fieldLink RX4 40 "NeedHouse$Needs" "madeThunks" "[I") (List.mem_of_getElem? (i := 15) rfl)) (fun _ h9 => h9) rfl hin rfl (by decide +kernel) rfl rfl (by rw [hF_35.1]; decide) dX4_init_89 (fun H locs hP hD hS => ?_)
  have hP : va_P (dC, dI) vwCl [(h0, .inr (4, (fs_36.set 12 (.ref q_37)))), (q_37, .inl (cI, 5600, .inl (fun _ => 0)))] H := hP
  have hD : va_D A [(h0, .inr (4, (fs_36.set 12 (.ref q_37)))), (q_37, .inl (cI, 5600, .inl (fun _ => 0)))] := hD
  have hF_39 := hF_35.set 12 (.ref q_37) (l' := [(12, .ref q_37), (11, .ref q_33), (10, .ref q_29), (9, .ref q_25), (7, .ref q_21), (6, .ref q_17), (5, .ref q_13), (4, .ref q_9), (3, .ref q_5), (2, .ref q_1), (8, .int 0)]) (by decide) rfl
  generalize fs_36.set 12 (.ref q_37) = fs_40 at hP hD hF_39
  have hP : va_P (dC, dI) vwCl [(h0, .inr (4, fs_40)), (q_37, .inl (cI, 5600, .inl (fun _ => 0)))] H := hP
  have hD : va_D A [(h0, .inr (4, fs_40)), (q_37, .inl (cI, 5600, .inl (fun _ => 0)))] := hD
  have hP := hP.sub (ws' := [(h0, .inr (4, fs_40))]) [0] rfl
  have hD := hD.sub (ws' := [(h0, .inr (4, fs_40))]) [0] (by decide) rfl
  refine lv_aload_n hx hb dX4_init_92 rfl (lv_at hl 0 rfl) ?_
  refine lv_aload_n hx hb dX4_init_93 rfl (lv_at hl 1 rfl) ?_
  refine va_putF (D := (dC, dI)) (ci := 4) (v := .ref p0) (ty := (.object "NeedHouse$Tree")) (C := RX4) (T := TX4) (N := 13) hx hb hts hin_X4 tyX4 tyX4_ok nmX4 hown hK hP hD hS 0 rfl rfl 0 (by decide) (hts (.fieldLink RX4 43 "NeedHouse$Needs" "tree" "LNeedHouse$Tree;") (List.mem_of_getElem? (i := 16) rfl)) (fun _ h9 => h9) rfl hin rfl (by decide +kernel) rfl rfl (by rw [hF_39.1]; decide) dX4_init_94 (fun H locs hP hD hS => ?_)
  have hP : va_P (dC, dI) vwCl [(h0, .inr (4, (fs_40.set 0 (.ref p0))))] H := hP
  have hD : va_D A [(h0, .inr (4, (fs_40.set 0 (.ref p0))))] := hD
  have hF_41 := hF_39.set 0 (.ref p0) (l' := [(0, .ref p0), (12, .ref q_37), (11, .ref q_33), (10, .ref q_29), (9, .ref q_25), (7, .ref q_21), (6, .ref q_17), (5, .ref q_13), (4, .ref q_9), (3, .ref q_5), (2, .ref q_1), (8, .int 0)]) (by decide) rfl
  generalize fs_40.set 0 (.ref p0) = fs_42 at hP hD hF_41
  have hP : va_P (dC, dI) vwCl [(h0, .inr (4, fs_42))] H := hP
  have hD : va_D A [(h0, .inr (4, fs_42))] := hD
  refine lv_aload_n hx hb dX4_init_97 rfl (lv_at hl 0 rfl) ?_
  refine lv_aload_n hx hb dX4_init_98 rfl (lv_at hl 2 rfl) ?_
  refine va_putF (D := (dC, dI)) (ci := 4) (v := .ref p1) (ty := (.object "NeedHouse$Told")) (C := RX4) (T := TX4) (N := 13) hx hb hts hin_X4 tyX4 tyX4_ok nmX4 hown hK hP hD hS 0 rfl rfl 1 (by decide) (hts (.fieldLink RX4 47 "NeedHouse$Needs" "told" "LNeedHouse$Told;") (List.mem_of_getElem? (i := 17) rfl)) (fun _ h9 => h9) rfl hin rfl (by decide +kernel) rfl rfl (by rw [hF_41.1]; decide) dX4_init_99 (fun H locs hP hD hS => ?_)
  have hP : va_P (dC, dI) vwCl [(h0, .inr (4, (fs_42.set 1 (.ref p1))))] H := hP
  have hD : va_D A [(h0, .inr (4, (fs_42.set 1 (.ref p1))))] := hD
  have hF_43 := hF_41.set 1 (.ref p1) (l' := [(1, .ref p1), (0, .ref p0), (12, .ref q_37), (11, .ref q_33), (10, .ref q_29), (9, .ref q_25), (7, .ref q_21), (6, .ref q_17), (5, .ref q_13), (4, .ref q_9), (3, .ref q_5), (2, .ref q_1), (8, .int 0)]) (by decide) rfl
  generalize fs_42.set 1 (.ref p1) = fs_44 at hP hD hF_43
  have hP : va_P (dC, dI) vwCl [(h0, .inr (4, fs_44))] H := hP
  have hD : va_D A [(h0, .inr (4, fs_44))] := hD
  have hP9 := hP.sub (ws' := [(h0, .inr (4, fs_44))]) [0] rfl
  have hD9 := hD.sub (ws' := [(h0, .inr (4, fs_44))]) [0] (by decide) rfl
  have hK9 := hK.sub (tys' := [(cI, .int), (cL, .long)]) [0, 1] rfl
  exact W.vret hx hb hr (fun t ht hW => ⟨⟨(fs_44), rfl, hF_43.sub [1, 0, 12] rfl, by rw [ht]; exact hP9, va_K.moved hW.alike hK9, hD9⟩, hS.F ht⟩) hS.2.2 dX4_init_102
def pw_c_X7_init : List Cond := .code yX7_init cX7_init 5 none :: ([.code objectInit ⟨#[0xb1]⟩ 1 none, .methodLink RX7 3 objectInit, .instanceMethod objectInit, .arrayClass .long, .fieldLink RX7 11 "NeedHouse$Store" "heap" "[J", .fieldLink RX7 15 "NeedHouse$Store" "spare" "[J", .fieldLink RX7 20 "NeedHouse$Store" "variable" "[J", .fieldLink RX7 23 "NeedHouse$Store" "argument" "[J", .arrayClass .int, .fieldLink RX7 26 "NeedHouse$Store" "frame" "[I", .fieldLink RX7 30 "NeedHouse$Store" "frameFrom" "[I", .fieldLink RX7 33 "NeedHouse$Store" "saved" "[J", .fieldLink RX7 36 "NeedHouse$Store" "globalState" "[I", .fieldLink RX7 39 "NeedHouse$Store" "globalValue" "[J", .fieldLink RX7 42 "NeedHouse$Store" "unfilled" "[I", .fieldLink RX7 45 "NeedHouse$Store" "tree" "LNeedHouse$Tree;", .fieldLink RX7 49 "NeedHouse$Store" "told" "LNeedHouse$Told;", .fieldLink RX7 53 "NeedHouse$Store" "datas" "LNeedHouse$Datas;", .fieldLink RX7 57 "NeedHouse$Store" "needs" "LNeedHouse$Needs;"] ++ (wsX70 ++ []))
set_option maxHeartbeats 4000000 in
set_option maxRecDepth 100000 in
theorem c_X7_init (l : Launch) (dC : Nat → ClassId) (dI : Nat → Nat → Nat) (sz : Nat) (h0 : Nat) (fs : List Value) (cI : ClassId) (cL : ClassId) (p0 : Nat) (p1 : Nat) (p2 : Nat) (p3 : Nat) (hF : hasF fs 22 [(6, .int 0), (7, .int 0), (10, .int 0), (13, .int 0), (15, .int 0), (19, .int 0), (20, .int 0), (21, .long 0)]) : Met l yX7_init pw_c_X7_init ({ frames := 1, cells := 10, slots := 26628, locals := 12 }) (va_Pc [.ref h0, .ref p0, .ref p1, .ref p2, .ref p3] (fun U => U.heap.size = sz ∧ va_P (dC, dI) vwCl [(h0, .inr (7, fs))] U.heap ∧ va_K (dC, dI) vwCl [(cI, .int), (cL, .long)] U ∧ va_D (fun _ => True) [(h0, .inr (7, fs))])) (va_Qv (fun (u : (List Value)) => hasF u 22 [(0, .ref p0), (1, .ref p1), (2, .ref p2), (3, .ref p3), (6, .int 0), (7, .int 0), (10, .int 0), (13, .int 0), (15, .int 0), (19, .int 0), (20, .int 0), (21, .long 0)]) (fun (u : (List Value)) (t : State) => va_P (dC, dI) vwCl [(h0, .inr (7, u))] t.heap ∧ va_K (dC, dI) vwCl [(cI, .int), (cL, .long)] t ∧ va_D (va_A [(h0, .inr (7, fs))] sz) [(h0, .inr (7, u))]) (va_A [(h0, .inr (7, fs))] sz)) 10 26628 (va_A [(h0, .inr (7, fs))] sz) := by
  refine Met.ofW (cc := cX7_init) (maxL := 5) (ret := none) (by decide) rfl ?_
  intro p e s m args below meth c s₁ B hml hv
  obtain ⟨rfl, hsz, hP, hK, hD0⟩ := hv
  have hx := B.exec
  have hb := B.bytes
  have hr := B.returns
  have hts := atoms_spec (ws := pw_c_X7_init) B.pre
  have hown : s.vm.findClass RX7 = some m.cls := findClass_of_methodNamed B.named
  have hlocks := B.notSynchronized
  have hin : meth.name = "<init>" := (name_of_methodNamed B.named B.method).1
  have hin_X7 : ∀ w ∈ u_ws RX7 TX7 22, w ∈ pw_c_X7_init := fun w h => List.mem_cons_of_mem _ (List.mem_append_right _ (List.mem_append_left _ h))
  subst hsz
  have hD := hD0.self (sz := s.heap.size)
  generalize hAe : va_A [(h0, .inr (7, fs))] s.heap.size = A at hD ⊢
  have hA : ∀ q : Nat, s.heap.size ≤ q → A q := fun q h => by rw [← hAe]; exact Or.inr h
  have hS : va_S A s.heap s.heap [] := va_S.rf
  have hP : va_P (dC, dI) vwCl [(h0, .inr (7, fs))] s.heap := hP
  have hl := lv_entry ([.ref h0, .ref p0, .ref p1, .ref p2, .ref p3]) (n := 5) (Nat.le_of_ble_eq_true rfl)
  rw [lg_entry_eq]
  generalize (lg_sl ([.ref h0, .ref p0, .ref p1, .ref p2, .ref p3]) ++ List.replicate (5 - (lg_sl ([.ref h0, .ref p0, .ref p1, .ref p2, .ref p3])).length) Slot.unset).toArray = ls at hl ⊢
  have hl : lv_has ls 5 [(0, .ref h0), (1, .ref p0), (2, .ref p1), (3, .ref p2), (4, .ref p3)] := hl
  refine lv_aload_n hx hb dX7_init_0 rfl (lv_at hl 0 rfl) ?_
  refine W.objInit hx hb hown (hts (.methodLink RX7 3 objectInit) (List.mem_of_getElem? (i := 2) rfl)) (hts (.instanceMethod objectInit) (List.mem_of_getElem? (i := 3) rfl)) (hts _ (List.mem_of_getElem? (i := 1) rfl)) rfl (by rw [hml]; exact hl.1) rfl dX7_init_1 (Nat.le_of_ble_eq_true rfl) (Nat.le_of_ble_eq_true rfl) ?_
  refine W.eq (g2 := F0 m 4 ls []) rfl ?_
  refine lv_aload_n hx hb dX7_init_4 rfl (lv_at hl 0 rfl) ?_
  refine lv_sipush (v := 4000) hx hb dX7_init_5 (by decide) ?_
  refine va_newa (atype := .long) (a0 := (4000, .inr (.inl (fun _ => 0)))) hx hb (hts (.arrayClass .long) (List.mem_of_getElem? (i := 4) rfl)) (ty := .long) rfl hK hP hD hS hA (na_long 4000) (by decide) (by decide +kernel) (show 4000 * 8 ≤ 536870912 by decide) (show 0 + 1 ≤ 10 by decide) (show 0 + 4000 ≤ 26628 by decide) dX7_init_8 (fun q_1 cA_2 H hK hP hD hS => ?_)
  have hK : va_K (dC, dI) vwCl [(cI, .int), (cL, .long), (cA_2, .long)] s := hK
  obtain rfl := kU_long hK 1 2 rfl rfl
  have hK := hK.sub (tys' := [(cI, .int), (cL, .long)]) [0, 1] rfl
  have hP : va_P (dC, dI) vwCl [(h0, .inr (7, fs)), (q_1, .inl (cL, 4000, .inr (.inl (fun _ => 0))))] H := hP
  have hD : va_D A [(h0, .inr (7, fs)), (q_1, .inl (cL, 4000, .inr (.inl (fun _ => 0))))] := hD
  refine W.widen (k := 1) (n := 4000) (by decide) (by decide) ?_
  refine va_put (D := (dC, dI)) (ci := 7) (v := .ref q_1) (ty := (.array .long)) (C := RX7) (T := TX7) (N := 22) hx hb hts hin_X7 tyX7 tyX7_ok nmX7 hown hK hP hD hS 0 rfl rfl 4 (by decide) (hts (.fieldLink RX7 11 "NeedHouse$Store" "heap" "[J") (List.mem_of_getElem? (i := 5) rfl)) (fun _ h9 => h9) rfl (by decide +kernel) rfl rfl (by rw [hF.1]; decide) dX7_init_10 (fun H locs hP hD hS => ?_)
  have hP : va_P (dC, dI) vwCl [(h0, .inr (7, (fs.set 4 (.ref q_1)))), (q_1, .inl (cL, 4000, .inr (.inl (fun _ => 0))))] H := hP
  have hD : va_D A [(h0, .inr (7, (fs.set 4 (.ref q_1)))), (q_1, .inl (cL, 4000, .inr (.inl (fun _ => 0))))] := hD
  have hF_3 := hF.set 4 (.ref q_1) (l' := [(4, .ref q_1), (6, .int 0), (7, .int 0), (10, .int 0), (13, .int 0), (15, .int 0), (19, .int 0), (20, .int 0), (21, .long 0)]) (by decide) rfl
  generalize fs.set 4 (.ref q_1) = fs_4 at hP hD hF_3
  have hP : va_P (dC, dI) vwCl [(h0, .inr (7, fs_4)), (q_1, .inl (cL, 4000, .inr (.inl (fun _ => 0))))] H := hP
  have hD : va_D A [(h0, .inr (7, fs_4)), (q_1, .inl (cL, 4000, .inr (.inl (fun _ => 0))))] := hD
  have hP := hP.sub (ws' := [(h0, .inr (7, fs_4))]) [0] rfl
  have hD := hD.sub (ws' := [(h0, .inr (7, fs_4))]) [0] (by decide) rfl
  refine lv_aload_n hx hb dX7_init_13 rfl (lv_at hl 0 rfl) ?_
  refine lv_sipush (v := 4000) hx hb dX7_init_14 (by decide) ?_
  refine va_newa (atype := .long) (a0 := (4000, .inr (.inl (fun _ => 0)))) hx hb (hts (.arrayClass .long) (List.mem_of_getElem? (i := 4) rfl)) (ty := .long) rfl hK hP hD hS hA (na_long 4000) (by decide) (by decide +kernel) (show 4000 * 8 ≤ 536870912 by decide) (show 1 + 1 ≤ 10 by decide) (show 4000 + 4000 ≤ 26628 by decide) dX7_init_17 (fun q_5 cA_6 H hK hP hD hS => ?_)
  have hK : va_K (dC, dI) vwCl [(cI, .int), (cL, .long), (cA_6, .long)] s := hK
  obtain rfl := kU_long hK 1 2 rfl rfl
  have hK := hK.sub (tys' := [(cI, .int), (cL, .long)]) [0, 1] rfl
  have hP : va_P (dC, dI) vwCl [(h0, .inr (7, fs_4)), (q_5, .inl (cL, 4000, .inr (.inl (fun _ => 0))))] H := hP
  have hD : va_D A [(h0, .inr (7, fs_4)), (q_5, .inl (cL, 4000, .inr (.inl (fun _ => 0))))] := hD
  refine W.widen (k := 2) (n := 8000) (by decide) (by decide) ?_
  refine va_put (D := (dC, dI)) (ci := 7) (v := .ref q_5) (ty := (.array .long)) (C := RX7) (T := TX7) (N := 22) hx hb hts hin_X7 tyX7 tyX7_ok nmX7 hown hK hP hD hS 0 rfl rfl 5 (by decide) (hts (.fieldLink RX7 15 "NeedHouse$Store" "spare" "[J") (List.mem_of_getElem? (i := 6) rfl)) (fun _ h9 => h9) rfl (by decide +kernel) rfl rfl (by rw [hF_3.1]; decide) dX7_init_19 (fun H locs hP hD hS => ?_)
  have hP : va_P (dC, dI) vwCl [(h0, .inr (7, (fs_4.set 5 (.ref q_5)))), (q_5, .inl (cL, 4000, .inr (.inl (fun _ => 0))))] H := hP
  have hD : va_D A [(h0, .inr (7, (fs_4.set 5 (.ref q_5)))), (q_5, .inl (cL, 4000, .inr (.inl (fun _ => 0))))] := hD
  have hF_7 := hF_3.set 5 (.ref q_5) (l' := [(5, .ref q_5), (4, .ref q_1), (6, .int 0), (7, .int 0), (10, .int 0), (13, .int 0), (15, .int 0), (19, .int 0), (20, .int 0), (21, .long 0)]) (by decide) rfl
  generalize fs_4.set 5 (.ref q_5) = fs_8 at hP hD hF_7
  have hP : va_P (dC, dI) vwCl [(h0, .inr (7, fs_8)), (q_5, .inl (cL, 4000, .inr (.inl (fun _ => 0))))] H := hP
  have hD : va_D A [(h0, .inr (7, fs_8)), (q_5, .inl (cL, 4000, .inr (.inl (fun _ => 0))))] := hD
  have hP := hP.sub (ws' := [(h0, .inr (7, fs_8))]) [0] rfl
  have hD := hD.sub (ws' := [(h0, .inr (7, fs_8))]) [0] (by decide) rfl
  refine lv_aload_n hx hb dX7_init_22 rfl (lv_at hl 0 rfl) ?_
  refine lv_sipush (v := 300) hx hb dX7_init_23 (by decide) ?_
  refine va_newa (atype := .long) (a0 := (300, .inr (.inl (fun _ => 0)))) hx hb (hts (.arrayClass .long) (List.mem_of_getElem? (i := 4) rfl)) (ty := .long) rfl hK hP hD hS hA (na_long 300) (by decide) (by decide +kernel) (show 300 * 8 ≤ 536870912 by decide) (show 2 + 1 ≤ 10 by decide) (show 8000 + 300 ≤ 26628 by decide) dX7_init_26 (fun q_9 cA_10 H hK hP hD hS => ?_)
  have hK : va_K (dC, dI) vwCl [(cI, .int), (cL, .long), (cA_10, .long)] s := hK
  obtain rfl := kU_long hK 1 2 rfl rfl
  have hK := hK.sub (tys' := [(cI, .int), (cL, .long)]) [0, 1] rfl
  have hP : va_P (dC, dI) vwCl [(h0, .inr (7, fs_8)), (q_9, .inl (cL, 300, .inr (.inl (fun _ => 0))))] H := hP
  have hD : va_D A [(h0, .inr (7, fs_8)), (q_9, .inl (cL, 300, .inr (.inl (fun _ => 0))))] := hD
  refine W.widen (k := 3) (n := 8300) (by decide) (by decide) ?_
  refine va_putF (D := (dC, dI)) (ci := 7) (v := .ref q_9) (ty := (.array .long)) (C := RX7) (T := TX7) (N := 22) hx hb hts hin_X7 tyX7 tyX7_ok nmX7 hown hK hP hD hS 0 rfl rfl 8 (by decide) (hts (.fieldLink RX7 20 "NeedHouse$Store" "variable" "[J") (List.mem_of_getElem? (i := 7) rfl)) (fun _ h9 => h9) rfl hin rfl (by decide +kernel) rfl rfl (by rw [hF_7.1]; decide) dX7_init_28 (fun H locs hP hD hS => ?_)
  have hP : va_P (dC, dI) vwCl [(h0, .inr (7, (fs_8.set 8 (.ref q_9)))), (q_9, .inl (cL, 300, .inr (.inl (fun _ => 0))))] H := hP
  have hD : va_D A [(h0, .inr (7, (fs_8.set 8 (.ref q_9)))), (q_9, .inl (cL, 300, .inr (.inl (fun _ => 0))))] := hD
  have hF_11 := hF_7.set 8 (.ref q_9) (l' := [(8, .ref q_9), (5, .ref q_5), (4, .ref q_1), (6, .int 0), (7, .int 0), (10, .int 0), (13, .int 0), (15, .int 0), (19, .int 0), (20, .int 0), (21, .long 0)]) (by decide) rfl
  generalize fs_8.set 8 (.ref q_9) = fs_12 at hP hD hF_11
  have hP : va_P (dC, dI) vwCl [(h0, .inr (7, fs_12)), (q_9, .inl (cL, 300, .inr (.inl (fun _ => 0))))] H := hP
  have hD : va_D A [(h0, .inr (7, fs_12)), (q_9, .inl (cL, 300, .inr (.inl (fun _ => 0))))] := hD
  have hP := hP.sub (ws' := [(h0, .inr (7, fs_12))]) [0] rfl
  have hD := hD.sub (ws' := [(h0, .inr (7, fs_12))]) [0] (by decide) rfl
  refine lv_aload_n hx hb dX7_init_31 rfl (lv_at hl 0 rfl) ?_
  refine lv_bipush (v := 16) hx hb dX7_init_32 (by decide) ?_
  refine va_newa (atype := .long) (a0 := (16, .inr (.inl (fun _ => 0)))) hx hb (hts (.arrayClass .long) (List.mem_of_getElem? (i := 4) rfl)) (ty := .long) rfl hK hP hD hS hA (na_long 16) (by decide) (by decide +kernel) (show 16 * 8 ≤ 536870912 by decide) (show 3 + 1 ≤ 10 by decide) (show 8300 + 16 ≤ 26628 by decide) dX7_init_34 (fun q_13 cA_14 H hK hP hD hS => ?_)
  have hK : va_K (dC, dI) vwCl [(cI, .int), (cL, .long), (cA_14, .long)] s := hK
  obtain rfl := kU_long hK 1 2 rfl rfl
  have hK := hK.sub (tys' := [(cI, .int), (cL, .long)]) [0, 1] rfl
  have hP : va_P (dC, dI) vwCl [(h0, .inr (7, fs_12)), (q_13, .inl (cL, 16, .inr (.inl (fun _ => 0))))] H := hP
  have hD : va_D A [(h0, .inr (7, fs_12)), (q_13, .inl (cL, 16, .inr (.inl (fun _ => 0))))] := hD
  refine W.widen (k := 4) (n := 8316) (by decide) (by decide) ?_
  refine va_putF (D := (dC, dI)) (ci := 7) (v := .ref q_13) (ty := (.array .long)) (C := RX7) (T := TX7) (N := 22) hx hb hts hin_X7 tyX7 tyX7_ok nmX7 hown hK hP hD hS 0 rfl rfl 9 (by decide) (hts (.fieldLink RX7 23 "NeedHouse$Store" "argument" "[J") (List.mem_of_getElem? (i := 8) rfl)) (fun _ h9 => h9) rfl hin rfl (by decide +kernel) rfl rfl (by rw [hF_11.1]; decide) dX7_init_36 (fun H locs hP hD hS => ?_)
  have hP : va_P (dC, dI) vwCl [(h0, .inr (7, (fs_12.set 9 (.ref q_13)))), (q_13, .inl (cL, 16, .inr (.inl (fun _ => 0))))] H := hP
  have hD : va_D A [(h0, .inr (7, (fs_12.set 9 (.ref q_13)))), (q_13, .inl (cL, 16, .inr (.inl (fun _ => 0))))] := hD
  have hF_15 := hF_11.set 9 (.ref q_13) (l' := [(9, .ref q_13), (8, .ref q_9), (5, .ref q_5), (4, .ref q_1), (6, .int 0), (7, .int 0), (10, .int 0), (13, .int 0), (15, .int 0), (19, .int 0), (20, .int 0), (21, .long 0)]) (by decide) rfl
  generalize fs_12.set 9 (.ref q_13) = fs_16 at hP hD hF_15
  have hP : va_P (dC, dI) vwCl [(h0, .inr (7, fs_16)), (q_13, .inl (cL, 16, .inr (.inl (fun _ => 0))))] H := hP
  have hD : va_D A [(h0, .inr (7, fs_16)), (q_13, .inl (cL, 16, .inr (.inl (fun _ => 0))))] := hD
  have hP := hP.sub (ws' := [(h0, .inr (7, fs_16))]) [0] rfl
  have hD := hD.sub (ws' := [(h0, .inr (7, fs_16))]) [0] (by decide) rfl
  refine lv_aload_n hx hb dX7_init_39 rfl (lv_at hl 0 rfl) ?_
  refine lv_sipush (v := 1000) hx hb dX7_init_40 (by decide) ?_
  refine va_newa (atype := .int) (a0 := (1000, .inl (fun _ => 0))) hx hb (hts (.arrayClass .int) (List.mem_of_getElem? (i := 9) rfl)) (ty := .int) rfl hK hP hD hS hA (na_int 1000) (by decide) (by decide +kernel) (show 1000 * 4 ≤ 536870912 by decide) (show 4 + 1 ≤ 10 by decide) (show 8316 + 1000 ≤ 26628 by decide) dX7_init_43 (fun q_17 cA_18 H hK hP hD hS => ?_)
  have hK : va_K (dC, dI) vwCl [(cI, .int), (cL, .long), (cA_18, .int)] s := hK
  obtain rfl := kU_int hK 0 2 rfl rfl
  have hK := hK.sub (tys' := [(cI, .int), (cL, .long)]) [0, 1] rfl
  have hP : va_P (dC, dI) vwCl [(h0, .inr (7, fs_16)), (q_17, .inl (cI, 1000, .inl (fun _ => 0)))] H := hP
  have hD : va_D A [(h0, .inr (7, fs_16)), (q_17, .inl (cI, 1000, .inl (fun _ => 0)))] := hD
  refine W.widen (k := 5) (n := 9316) (by decide) (by decide) ?_
  refine va_putF (D := (dC, dI)) (ci := 7) (v := .ref q_17) (ty := (.array .int)) (C := RX7) (T := TX7) (N := 22) hx hb hts hin_X7 tyX7 tyX7_ok nmX7 hown hK hP hD hS 0 rfl rfl 11 (by decide) (hts (.fieldLink RX7 26 "NeedHouse$Store" "frame" "[I") (List.mem_of_getElem? (i := 10) rfl)) (fun _ h9 => h9) rfl hin rfl (by decide +kernel) rfl rfl (by rw [hF_15.1]; decide) dX7_init_45 (fun H locs hP hD hS => ?_)
  have hP : va_P (dC, dI) vwCl [(h0, .inr (7, (fs_16.set 11 (.ref q_17)))), (q_17, .inl (cI, 1000, .inl (fun _ => 0)))] H := hP
  have hD : va_D A [(h0, .inr (7, (fs_16.set 11 (.ref q_17)))), (q_17, .inl (cI, 1000, .inl (fun _ => 0)))] := hD
  have hF_19 := hF_15.set 11 (.ref q_17) (l' := [(11, .ref q_17), (9, .ref q_13), (8, .ref q_9), (5, .ref q_5), (4, .ref q_1), (6, .int 0), (7, .int 0), (10, .int 0), (13, .int 0), (15, .int 0), (19, .int 0), (20, .int 0), (21, .long 0)]) (by decide) rfl
  generalize fs_16.set 11 (.ref q_17) = fs_20 at hP hD hF_19
  have hP : va_P (dC, dI) vwCl [(h0, .inr (7, fs_20)), (q_17, .inl (cI, 1000, .inl (fun _ => 0)))] H := hP
  have hD : va_D A [(h0, .inr (7, fs_20)), (q_17, .inl (cI, 1000, .inl (fun _ => 0)))] := hD
  have hP := hP.sub (ws' := [(h0, .inr (7, fs_20))]) [0] rfl
  have hD := hD.sub (ws' := [(h0, .inr (7, fs_20))]) [0] (by decide) rfl
  refine lv_aload_n hx hb dX7_init_48 rfl (lv_at hl 0 rfl) ?_
  refine lv_sipush (v := 1000) hx hb dX7_init_49 (by decide) ?_
  refine va_newa (atype := .int) (a0 := (1000, .inl (fun _ => 0))) hx hb (hts (.arrayClass .int) (List.mem_of_getElem? (i := 9) rfl)) (ty := .int) rfl hK hP hD hS hA (na_int 1000) (by decide) (by decide +kernel) (show 1000 * 4 ≤ 536870912 by decide) (show 5 + 1 ≤ 10 by decide) (show 9316 + 1000 ≤ 26628 by decide) dX7_init_52 (fun q_21 cA_22 H hK hP hD hS => ?_)
  have hK : va_K (dC, dI) vwCl [(cI, .int), (cL, .long), (cA_22, .int)] s := hK
  obtain rfl := kU_int hK 0 2 rfl rfl
  have hK := hK.sub (tys' := [(cI, .int), (cL, .long)]) [0, 1] rfl
  have hP : va_P (dC, dI) vwCl [(h0, .inr (7, fs_20)), (q_21, .inl (cI, 1000, .inl (fun _ => 0)))] H := hP
  have hD : va_D A [(h0, .inr (7, fs_20)), (q_21, .inl (cI, 1000, .inl (fun _ => 0)))] := hD
  refine W.widen (k := 6) (n := 10316) (by decide) (by decide) ?_
  refine va_putF (D := (dC, dI)) (ci := 7) (v := .ref q_21) (ty := (.array .int)) (C := RX7) (T := TX7) (N := 22) hx hb hts hin_X7 tyX7 tyX7_ok nmX7 hown hK hP hD hS 0 rfl rfl 12 (by decide) (hts (.fieldLink RX7 30 "NeedHouse$Store" "frameFrom" "[I") (List.mem_of_getElem? (i := 11) rfl)) (fun _ h9 => h9) rfl hin rfl (by decide +kernel) rfl rfl (by rw [hF_19.1]; decide) dX7_init_54 (fun H locs hP hD hS => ?_)
  have hP : va_P (dC, dI) vwCl [(h0, .inr (7, (fs_20.set 12 (.ref q_21)))), (q_21, .inl (cI, 1000, .inl (fun _ => 0)))] H := hP
  have hD : va_D A [(h0, .inr (7, (fs_20.set 12 (.ref q_21)))), (q_21, .inl (cI, 1000, .inl (fun _ => 0)))] := hD
  have hF_23 := hF_19.set 12 (.ref q_21) (l' := [(12, .ref q_21), (11, .ref q_17), (9, .ref q_13), (8, .ref q_9), (5, .ref q_5), (4, .ref q_1), (6, .int 0), (7, .int 0), (10, .int 0), (13, .int 0), (15, .int 0), (19, .int 0), (20, .int 0), (21, .long 0)]) (by decide) rfl
  generalize fs_20.set 12 (.ref q_21) = fs_24 at hP hD hF_23
  have hP : va_P (dC, dI) vwCl [(h0, .inr (7, fs_24)), (q_21, .inl (cI, 1000, .inl (fun _ => 0)))] H := hP
  have hD : va_D A [(h0, .inr (7, fs_24)), (q_21, .inl (cI, 1000, .inl (fun _ => 0)))] := hD
  have hP := hP.sub (ws' := [(h0, .inr (7, fs_24))]) [0] rfl
  have hD := hD.sub (ws' := [(h0, .inr (7, fs_24))]) [0] (by decide) rfl
  refine lv_aload_n hx hb dX7_init_57 rfl (lv_at hl 0 rfl) ?_
  refine lv_sipush (v := 8192) hx hb dX7_init_58 (by decide) ?_
  refine va_newa (atype := .long) (a0 := (8192, .inr (.inl (fun _ => 0)))) hx hb (hts (.arrayClass .long) (List.mem_of_getElem? (i := 4) rfl)) (ty := .long) rfl hK hP hD hS hA (na_long 8192) (by decide) (by decide +kernel) (show 8192 * 8 ≤ 536870912 by decide) (show 6 + 1 ≤ 10 by decide) (show 10316 + 8192 ≤ 26628 by decide) dX7_init_61 (fun q_25 cA_26 H hK hP hD hS => ?_)
  have hK : va_K (dC, dI) vwCl [(cI, .int), (cL, .long), (cA_26, .long)] s := hK
  obtain rfl := kU_long hK 1 2 rfl rfl
  have hK := hK.sub (tys' := [(cI, .int), (cL, .long)]) [0, 1] rfl
  have hP : va_P (dC, dI) vwCl [(h0, .inr (7, fs_24)), (q_25, .inl (cL, 8192, .inr (.inl (fun _ => 0))))] H := hP
  have hD : va_D A [(h0, .inr (7, fs_24)), (q_25, .inl (cL, 8192, .inr (.inl (fun _ => 0))))] := hD
  refine W.widen (k := 7) (n := 18508) (by decide) (by decide) ?_
  refine va_put (D := (dC, dI)) (ci := 7) (v := .ref q_25) (ty := (.array .long)) (C := RX7) (T := TX7) (N := 22) hx hb hts hin_X7 tyX7 tyX7_ok nmX7 hown hK hP hD hS 0 rfl rfl 14 (by decide) (hts (.fieldLink RX7 33 "NeedHouse$Store" "saved" "[J") (List.mem_of_getElem? (i := 12) rfl)) (fun _ h9 => h9) rfl (by decide +kernel) rfl rfl (by rw [hF_23.1]; decide) dX7_init_63 (fun H locs hP hD hS => ?_)
  have hP : va_P (dC, dI) vwCl [(h0, .inr (7, (fs_24.set 14 (.ref q_25)))), (q_25, .inl (cL, 8192, .inr (.inl (fun _ => 0))))] H := hP
  have hD : va_D A [(h0, .inr (7, (fs_24.set 14 (.ref q_25)))), (q_25, .inl (cL, 8192, .inr (.inl (fun _ => 0))))] := hD
  have hF_27 := hF_23.set 14 (.ref q_25) (l' := [(14, .ref q_25), (12, .ref q_21), (11, .ref q_17), (9, .ref q_13), (8, .ref q_9), (5, .ref q_5), (4, .ref q_1), (6, .int 0), (7, .int 0), (10, .int 0), (13, .int 0), (15, .int 0), (19, .int 0), (20, .int 0), (21, .long 0)]) (by decide) rfl
  generalize fs_24.set 14 (.ref q_25) = fs_28 at hP hD hF_27
  have hP : va_P (dC, dI) vwCl [(h0, .inr (7, fs_28)), (q_25, .inl (cL, 8192, .inr (.inl (fun _ => 0))))] H := hP
  have hD : va_D A [(h0, .inr (7, fs_28)), (q_25, .inl (cL, 8192, .inr (.inl (fun _ => 0))))] := hD
  have hP := hP.sub (ws' := [(h0, .inr (7, fs_28))]) [0] rfl
  have hD := hD.sub (ws' := [(h0, .inr (7, fs_28))]) [0] (by decide) rfl
  refine lv_aload_n hx hb dX7_init_66 rfl (lv_at hl 0 rfl) ?_
  refine lv_bipush (v := 60) hx hb dX7_init_67 (by decide) ?_
  refine va_newa (atype := .int) (a0 := (60, .inl (fun _ => 0))) hx hb (hts (.arrayClass .int) (List.mem_of_getElem? (i := 9) rfl)) (ty := .int) rfl hK hP hD hS hA (na_int 60) (by decide) (by decide +kernel) (show 60 * 4 ≤ 536870912 by decide) (show 7 + 1 ≤ 10 by decide) (show 18508 + 60 ≤ 26628 by decide) dX7_init_69 (fun q_29 cA_30 H hK hP hD hS => ?_)
  have hK : va_K (dC, dI) vwCl [(cI, .int), (cL, .long), (cA_30, .int)] s := hK
  obtain rfl := kU_int hK 0 2 rfl rfl
  have hK := hK.sub (tys' := [(cI, .int), (cL, .long)]) [0, 1] rfl
  have hP : va_P (dC, dI) vwCl [(h0, .inr (7, fs_28)), (q_29, .inl (cI, 60, .inl (fun _ => 0)))] H := hP
  have hD : va_D A [(h0, .inr (7, fs_28)), (q_29, .inl (cI, 60, .inl (fun _ => 0)))] := hD
  refine W.widen (k := 8) (n := 18568) (by decide) (by decide) ?_
  refine va_putF (D := (dC, dI)) (ci := 7) (v := .ref q_29) (ty := (.array .int)) (C := RX7) (T := TX7) (N := 22) hx hb hts hin_X7 tyX7 tyX7_ok nmX7 hown hK hP hD hS 0 rfl rfl 16 (by decide) (hts (.fieldLink RX7 36 "NeedHouse$Store" "globalState" "[I") (List.mem_of_getElem? (i := 13) rfl)) (fun _ h9 => h9) rfl hin rfl (by decide +kernel) rfl rfl (by rw [hF_27.1]; decide) dX7_init_71 (fun H locs hP hD hS => ?_)
  have hP : va_P (dC, dI) vwCl [(h0, .inr (7, (fs_28.set 16 (.ref q_29)))), (q_29, .inl (cI, 60, .inl (fun _ => 0)))] H := hP
  have hD : va_D A [(h0, .inr (7, (fs_28.set 16 (.ref q_29)))), (q_29, .inl (cI, 60, .inl (fun _ => 0)))] := hD
  have hF_31 := hF_27.set 16 (.ref q_29) (l' := [(16, .ref q_29), (14, .ref q_25), (12, .ref q_21), (11, .ref q_17), (9, .ref q_13), (8, .ref q_9), (5, .ref q_5), (4, .ref q_1), (6, .int 0), (7, .int 0), (10, .int 0), (13, .int 0), (15, .int 0), (19, .int 0), (20, .int 0), (21, .long 0)]) (by decide) rfl
  generalize fs_28.set 16 (.ref q_29) = fs_32 at hP hD hF_31
  have hP : va_P (dC, dI) vwCl [(h0, .inr (7, fs_32)), (q_29, .inl (cI, 60, .inl (fun _ => 0)))] H := hP
  have hD : va_D A [(h0, .inr (7, fs_32)), (q_29, .inl (cI, 60, .inl (fun _ => 0)))] := hD
  have hP := hP.sub (ws' := [(h0, .inr (7, fs_32))]) [0] rfl
  have hD := hD.sub (ws' := [(h0, .inr (7, fs_32))]) [0] (by decide) rfl
  refine lv_aload_n hx hb dX7_init_74 rfl (lv_at hl 0 rfl) ?_
  refine lv_bipush (v := 60) hx hb dX7_init_75 (by decide) ?_
  refine va_newa (atype := .long) (a0 := (60, .inr (.inl (fun _ => 0)))) hx hb (hts (.arrayClass .long) (List.mem_of_getElem? (i := 4) rfl)) (ty := .long) rfl hK hP hD hS hA (na_long 60) (by decide) (by decide +kernel) (show 60 * 8 ≤ 536870912 by decide) (show 8 + 1 ≤ 10 by decide) (show 18568 + 60 ≤ 26628 by decide) dX7_init_77 (fun q_33 cA_34 H hK hP hD hS => ?_)
  have hK : va_K (dC, dI) vwCl [(cI, .int), (cL, .long), (cA_34, .long)] s := hK
  obtain rfl := kU_long hK 1 2 rfl rfl
  have hK := hK.sub (tys' := [(cI, .int), (cL, .long)]) [0, 1] rfl
  have hP : va_P (dC, dI) vwCl [(h0, .inr (7, fs_32)), (q_33, .inl (cL, 60, .inr (.inl (fun _ => 0))))] H := hP
  have hD : va_D A [(h0, .inr (7, fs_32)), (q_33, .inl (cL, 60, .inr (.inl (fun _ => 0))))] := hD
  refine W.widen (k := 9) (n := 18628) (by decide) (by decide) ?_
  refine va_putF (D := (dC, dI)) (ci := 7) (v := .ref q_33) (ty := (.array .long)) (C := RX7) (T := TX7) (N := 22) hx hb hts hin_X7 tyX7 tyX7_ok nmX7 hown hK hP hD hS 0 rfl rfl 17 (by decide) (hts (.fieldLink RX7 39 "NeedHouse$Store" "globalValue" "[J") (List.mem_of_getElem? (i := 14) rfl)) (fun _ h9 => h9) rfl hin rfl (by decide +kernel) rfl rfl (by rw [hF_31.1]; decide) dX7_init_79 (fun H locs hP hD hS => ?_)
  have hP : va_P (dC, dI) vwCl [(h0, .inr (7, (fs_32.set 17 (.ref q_33)))), (q_33, .inl (cL, 60, .inr (.inl (fun _ => 0))))] H := hP
  have hD : va_D A [(h0, .inr (7, (fs_32.set 17 (.ref q_33)))), (q_33, .inl (cL, 60, .inr (.inl (fun _ => 0))))] := hD
  have hF_35 := hF_31.set 17 (.ref q_33) (l' := [(17, .ref q_33), (16, .ref q_29), (14, .ref q_25), (12, .ref q_21), (11, .ref q_17), (9, .ref q_13), (8, .ref q_9), (5, .ref q_5), (4, .ref q_1), (6, .int 0), (7, .int 0), (10, .int 0), (13, .int 0), (15, .int 0), (19, .int 0), (20, .int 0), (21, .long 0)]) (by decide) rfl
  generalize fs_32.set 17 (.ref q_33) = fs_36 at hP hD hF_35
  have hP : va_P (dC, dI) vwCl [(h0, .inr (7, fs_36)), (q_33, .inl (cL, 60, .inr (.inl (fun _ => 0))))] H := hP
  have hD : va_D A [(h0, .inr (7, fs_36)), (q_33, .inl (cL, 60, .inr (.inl (fun _ => 0))))] := hD
  have hP := hP.sub (ws' := [(h0, .inr (7, fs_36))]) [0] rfl
  have hD := hD.sub (ws' := [(h0, .inr (7, fs_36))]) [0] (by decide) rfl
  refine lv_aload_n hx hb dX7_init_82 rfl (lv_at hl 0 rfl) ?_
  refine lv_sipush (v := 8000) hx hb dX7_init_83 (by decide) ?_
  refine va_newa (atype := .int) (a0 := (8000, .inl (fun _ => 0))) hx hb (hts (.arrayClass .int) (List.mem_of_getElem? (i := 9) rfl)) (ty := .int) rfl hK hP hD hS hA (na_int 8000) (by decide) (by decide +kernel) (show 8000 * 4 ≤ 536870912 by decide) (show 9 + 1 ≤ 10 by decide) (show 18628 + 8000 ≤ 26628 by decide) dX7_init_86 (fun q_37 cA_38 H hK hP hD hS => ?_)
  have hK : va_K (dC, dI) vwCl [(cI, .int), (cL, .long), (cA_38, .int)] s := hK
  obtain rfl := kU_int hK 0 2 rfl rfl
  have hK := hK.sub (tys' := [(cI, .int), (cL, .long)]) [0, 1] rfl
  have hP : va_P (dC, dI) vwCl [(h0, .inr (7, fs_36)), (q_37, .inl (cI, 8000, .inl (fun _ => 0)))] H := hP
  have hD : va_D A [(h0, .inr (7, fs_36)), (q_37, .inl (cI, 8000, .inl (fun _ => 0)))] := hD
  refine W.widen (k := 10) (n := 26628) (by decide) (by decide) ?_
  refine va_putF (D := (dC, dI)) (ci := 7) (v := .ref q_37) (ty := (.array .int)) (C := RX7) (T := TX7) (N := 22) hx hb hts hin_X7 tyX7 tyX7_ok nmX7 hown hK hP hD hS 0 rfl rfl 18 (by decide) (hts (.fieldLink RX7 42 "NeedHouse$Store" "unfilled" "[I") (List.mem_of_getElem? (i := 15) rfl)) (fun _ h9 => h9) rfl hin rfl (by decide +kernel) rfl rfl (by rw [hF_35.1]; decide) dX7_init_88 (fun H locs hP hD hS => ?_)
  have hP : va_P (dC, dI) vwCl [(h0, .inr (7, (fs_36.set 18 (.ref q_37)))), (q_37, .inl (cI, 8000, .inl (fun _ => 0)))] H := hP
  have hD : va_D A [(h0, .inr (7, (fs_36.set 18 (.ref q_37)))), (q_37, .inl (cI, 8000, .inl (fun _ => 0)))] := hD
  have hF_39 := hF_35.set 18 (.ref q_37) (l' := [(18, .ref q_37), (17, .ref q_33), (16, .ref q_29), (14, .ref q_25), (12, .ref q_21), (11, .ref q_17), (9, .ref q_13), (8, .ref q_9), (5, .ref q_5), (4, .ref q_1), (6, .int 0), (7, .int 0), (10, .int 0), (13, .int 0), (15, .int 0), (19, .int 0), (20, .int 0), (21, .long 0)]) (by decide) rfl
  generalize fs_36.set 18 (.ref q_37) = fs_40 at hP hD hF_39
  have hP : va_P (dC, dI) vwCl [(h0, .inr (7, fs_40)), (q_37, .inl (cI, 8000, .inl (fun _ => 0)))] H := hP
  have hD : va_D A [(h0, .inr (7, fs_40)), (q_37, .inl (cI, 8000, .inl (fun _ => 0)))] := hD
  have hP := hP.sub (ws' := [(h0, .inr (7, fs_40))]) [0] rfl
  have hD := hD.sub (ws' := [(h0, .inr (7, fs_40))]) [0] (by decide) rfl
  refine lv_aload_n hx hb dX7_init_91 rfl (lv_at hl 0 rfl) ?_
  refine lv_aload_n hx hb dX7_init_92 rfl (lv_at hl 1 rfl) ?_
  refine va_putF (D := (dC, dI)) (ci := 7) (v := .ref p0) (ty := (.object "NeedHouse$Tree")) (C := RX7) (T := TX7) (N := 22) hx hb hts hin_X7 tyX7 tyX7_ok nmX7 hown hK hP hD hS 0 rfl rfl 0 (by decide) (hts (.fieldLink RX7 45 "NeedHouse$Store" "tree" "LNeedHouse$Tree;") (List.mem_of_getElem? (i := 16) rfl)) (fun _ h9 => h9) rfl hin rfl (by decide +kernel) rfl rfl (by rw [hF_39.1]; decide) dX7_init_93 (fun H locs hP hD hS => ?_)
  have hP : va_P (dC, dI) vwCl [(h0, .inr (7, (fs_40.set 0 (.ref p0))))] H := hP
  have hD : va_D A [(h0, .inr (7, (fs_40.set 0 (.ref p0))))] := hD
  have hF_41 := hF_39.set 0 (.ref p0) (l' := [(0, .ref p0), (18, .ref q_37), (17, .ref q_33), (16, .ref q_29), (14, .ref q_25), (12, .ref q_21), (11, .ref q_17), (9, .ref q_13), (8, .ref q_9), (5, .ref q_5), (4, .ref q_1), (6, .int 0), (7, .int 0), (10, .int 0), (13, .int 0), (15, .int 0), (19, .int 0), (20, .int 0), (21, .long 0)]) (by decide) rfl
  generalize fs_40.set 0 (.ref p0) = fs_42 at hP hD hF_41
  have hP : va_P (dC, dI) vwCl [(h0, .inr (7, fs_42))] H := hP
  have hD : va_D A [(h0, .inr (7, fs_42))] := hD
  refine lv_aload_n hx hb dX7_init_96 rfl (lv_at hl 0 rfl) ?_
  refine lv_aload_n hx hb dX7_init_97 rfl (lv_at hl 2 rfl) ?_
  refine va_putF (D := (dC, dI)) (ci := 7) (v := .ref p1) (ty := (.object "NeedHouse$Told")) (C := RX7) (T := TX7) (N := 22) hx hb hts hin_X7 tyX7 tyX7_ok nmX7 hown hK hP hD hS 0 rfl rfl 1 (by decide) (hts (.fieldLink RX7 49 "NeedHouse$Store" "told" "LNeedHouse$Told;") (List.mem_of_getElem? (i := 17) rfl)) (fun _ h9 => h9) rfl hin rfl (by decide +kernel) rfl rfl (by rw [hF_41.1]; decide) dX7_init_98 (fun H locs hP hD hS => ?_)
  have hP : va_P (dC, dI) vwCl [(h0, .inr (7, (fs_42.set 1 (.ref p1))))] H := hP
  have hD : va_D A [(h0, .inr (7, (fs_42.set 1 (.ref p1))))] := hD
  have hF_43 := hF_41.set 1 (.ref p1) (l' := [(1, .ref p1), (0, .ref p0), (18, .ref q_37), (17, .ref q_33), (16, .ref q_29), (14, .ref q_25), (12, .ref q_21), (11, .ref q_17), (9, .ref q_13), (8, .ref q_9), (5, .ref q_5), (4, .ref q_1), (6, .int 0), (7, .int 0), (10, .int 0), (13, .int 0), (15, .int 0), (19, .int 0), (20, .int 0), (21, .long 0)]) (by decide) rfl
  generalize fs_42.set 1 (.ref p1) = fs_44 at hP hD hF_43
  have hP : va_P (dC, dI) vwCl [(h0, .inr (7, fs_44))] H := hP
  have hD : va_D A [(h0, .inr (7, fs_44))] := hD
  refine lv_aload_n hx hb dX7_init_101 rfl (lv_at hl 0 rfl) ?_
  refine lv_aload_n hx hb dX7_init_102 rfl (lv_at hl 3 rfl) ?_
  refine va_putF (D := (dC, dI)) (ci := 7) (v := .ref p2) (ty := (.object "NeedHouse$Datas")) (C := RX7) (T := TX7) (N := 22) hx hb hts hin_X7 tyX7 tyX7_ok nmX7 hown hK hP hD hS 0 rfl rfl 2 (by decide) (hts (.fieldLink RX7 53 "NeedHouse$Store" "datas" "LNeedHouse$Datas;") (List.mem_of_getElem? (i := 18) rfl)) (fun _ h9 => h9) rfl hin rfl (by decide +kernel) rfl rfl (by rw [hF_43.1]; decide) dX7_init_103 (fun H locs hP hD hS => ?_)
  have hP : va_P (dC, dI) vwCl [(h0, .inr (7, (fs_44.set 2 (.ref p2))))] H := hP
  have hD : va_D A [(h0, .inr (7, (fs_44.set 2 (.ref p2))))] := hD
  have hF_45 := hF_43.set 2 (.ref p2) (l' := [(2, .ref p2), (1, .ref p1), (0, .ref p0), (18, .ref q_37), (17, .ref q_33), (16, .ref q_29), (14, .ref q_25), (12, .ref q_21), (11, .ref q_17), (9, .ref q_13), (8, .ref q_9), (5, .ref q_5), (4, .ref q_1), (6, .int 0), (7, .int 0), (10, .int 0), (13, .int 0), (15, .int 0), (19, .int 0), (20, .int 0), (21, .long 0)]) (by decide) rfl
  generalize fs_44.set 2 (.ref p2) = fs_46 at hP hD hF_45
  have hP : va_P (dC, dI) vwCl [(h0, .inr (7, fs_46))] H := hP
  have hD : va_D A [(h0, .inr (7, fs_46))] := hD
  refine lv_aload_n hx hb dX7_init_106 rfl (lv_at hl 0 rfl) ?_
  refine lv_aload hx hb dX7_init_107 (lv_at hl 4 rfl) ?_
  refine va_putF (D := (dC, dI)) (ci := 7) (v := .ref p3) (ty := (.object "NeedHouse$Needs")) (C := RX7) (T := TX7) (N := 22) hx hb hts hin_X7 tyX7 tyX7_ok nmX7 hown hK hP hD hS 0 rfl rfl 3 (by decide) (hts (.fieldLink RX7 57 "NeedHouse$Store" "needs" "LNeedHouse$Needs;") (List.mem_of_getElem? (i := 19) rfl)) (fun _ h9 => h9) rfl hin rfl (by decide +kernel) rfl rfl (by rw [hF_45.1]; decide) dX7_init_109 (fun H locs hP hD hS => ?_)
  have hP : va_P (dC, dI) vwCl [(h0, .inr (7, (fs_46.set 3 (.ref p3))))] H := hP
  have hD : va_D A [(h0, .inr (7, (fs_46.set 3 (.ref p3))))] := hD
  have hF_47 := hF_45.set 3 (.ref p3) (l' := [(3, .ref p3), (2, .ref p2), (1, .ref p1), (0, .ref p0), (18, .ref q_37), (17, .ref q_33), (16, .ref q_29), (14, .ref q_25), (12, .ref q_21), (11, .ref q_17), (9, .ref q_13), (8, .ref q_9), (5, .ref q_5), (4, .ref q_1), (6, .int 0), (7, .int 0), (10, .int 0), (13, .int 0), (15, .int 0), (19, .int 0), (20, .int 0), (21, .long 0)]) (by decide) rfl
  generalize fs_46.set 3 (.ref p3) = fs_48 at hP hD hF_47
  have hP : va_P (dC, dI) vwCl [(h0, .inr (7, fs_48))] H := hP
  have hD : va_D A [(h0, .inr (7, fs_48))] := hD
  have hP9 := hP.sub (ws' := [(h0, .inr (7, fs_48))]) [0] rfl
  have hD9 := hD.sub (ws' := [(h0, .inr (7, fs_48))]) [0] (by decide) rfl
  have hK9 := hK.sub (tys' := [(cI, .int), (cL, .long)]) [0, 1] rfl
  exact W.vret hx hb hr (fun t ht hW => ⟨⟨(fs_48), rfl, hF_47.sub [3, 2, 1, 0, 14, 15, 16, 17, 18, 19, 20, 21] rfl, by rw [ht]; exact hP9, va_K.moved hW.alike hK9, hD9⟩, hS.F ht⟩) hS.2.2 dX7_init_112
def pw_c_X5_init : List Cond := .code yX5_init cX5_init 5 none :: ([.code objectInit ⟨#[0xb1]⟩ 1 none, .methodLink RX5 3 objectInit, .instanceMethod objectInit, .arrayClass .int, .fieldLink RX5 11 "NeedHouse$Parser" "held" "[I", .fieldLink RX5 17 "NeedHouse$Parser" "signs" "[I", .fieldLink RX5 20 "NeedHouse$Parser" "operands" "[I", .fieldLink RX5 23 "NeedHouse$Parser" "lexemes" "LNeedHouse$Lexemes;", .fieldLink RX5 27 "NeedHouse$Parser" "tree" "LNeedHouse$Tree;", .fieldLink RX5 31 "NeedHouse$Parser" "told" "LNeedHouse$Told;", .fieldLink RX5 35 "NeedHouse$Parser" "datas" "LNeedHouse$Datas;", .classLink RX5 39 RX1, .instantiable RX1 9, .initialized RX1, .code yX1_init cX1_init 2 none, .methodLink RX1 5 objectInit, .fieldLink RX1 13 "NeedHouse$Layout" "stack" "[I", .fieldLink RX1 17 "NeedHouse$Layout" "lexemes" "LNeedHouse$Lexemes;", .methodLink RX5 41 yX1_init, .instanceMethod yX1_init, .fieldLink RX5 44 "NeedHouse$Parser" "layout" "LNeedHouse$Layout;"] ++ (wsX50 ++ (wsX10 ++ [])))
set_option maxRecDepth 20000 in
theorem g_c_X5_init_c_X1_init_58 : GoodIn pw_c_X5_init (pw_c_X1_init) := goodIn_r _ [15, 1, 16, 3, 4, 17, 18, 32, 33, 34, 35, 36, 37, 38, 39, 40] rfl (by decide +kernel)
set_option maxHeartbeats 4000000 in
set_option maxRecDepth 100000 in
theorem c_X5_init (l : Launch) (dC : Nat → ClassId) (dI : Nat → Nat → Nat) (sz : Nat) (h0 : Nat) (fs : List Value) (cI : ClassId) (p0 : Nat) (p1 : Nat) (p2 : Nat) (p3 : Nat) (hF : hasF fs 10 [(8, .int 0), (9, .int 0)]) : Met l yX5_init pw_c_X5_init ({ frames := 2, cells := 5, slots := 16361, locals := 33 }) (va_Pc [.ref h0, .ref p0, .ref p1, .ref p2, .ref p3] (fun U => U.heap.size = sz ∧ va_P (dC, dI) vwCl [(h0, .inr (5, fs))] U.heap ∧ va_K (dC, dI) vwCl [(cI, .int)] U ∧ va_D (fun _ => True) [(h0, .inr (5, fs))])) (va_Qv (fun (u : (List Value) × (Nat) × (List Value) × (Nat)) => hasF u.1 10 [(0, .ref p0), (1, .ref u.2.1), (2, .ref p1), (3, .ref p2), (4, .ref p3), (8, .int 0), (9, .int 0)] ∧ hasF u.2.2.1 9 [(0, .ref p0), (1, .ref u.2.2.2), (2, .int 0), (3, .int 0), (4, .int 0), (5, .int 0), (6, .int 0), (7, .int 0), (8, .int 0)]) (fun (u : (List Value) × (Nat) × (List Value) × (Nat)) (t : State) => va_P (dC, dI) vwCl [(h0, .inr (5, u.1)), (u.2.1, .inr (1, u.2.2.1)), (u.2.2.2, .inl (cI, 8008, .inl (fun _ => 0)))] t.heap ∧ va_K (dC, dI) vwCl [(cI, .int)] t ∧ va_D (va_A [(h0, .inr (5, fs))] sz) [(h0, .inr (5, u.1)), (u.2.1, .inr (1, u.2.2.1)), (u.2.2.2, .inl (cI, 8008, .inl (fun _ => 0)))]) (va_A [(h0, .inr (5, fs))] sz)) 5 16361 (va_A [(h0, .inr (5, fs))] sz) := by
  refine Met.ofW (cc := cX5_init) (maxL := 5) (ret := none) (by decide) rfl ?_
  intro p e s m args below meth c s₁ B hml hv
  obtain ⟨rfl, hsz, hP, hK, hD0⟩ := hv
  have hx := B.exec
  have hb := B.bytes
  have hr := B.returns
  have hts := atoms_spec (ws := pw_c_X5_init) B.pre
  have hown : s.vm.findClass RX5 = some m.cls := findClass_of_methodNamed B.named
  have hlocks := B.notSynchronized
  have hin : meth.name = "<init>" := (name_of_methodNamed B.named B.method).1
  have hin_X5 : ∀ w ∈ u_ws RX5 TX5 10, w ∈ pw_c_X5_init := fun w h => List.mem_cons_of_mem _ (List.mem_append_right _ (List.mem_append_left _ h))
  have hin_X1 : ∀ w ∈ u_ws RX1 TX1 9, w ∈ pw_c_X5_init := fun w h => List.mem_cons_of_mem _ (List.mem_append_right _ (List.mem_append_right _ (List.mem_append_left _ h)))
  subst hsz
  have hD := hD0.self (sz := s.heap.size)
  generalize hAe : va_A [(h0, .inr (5, fs))] s.heap.size = A at hD ⊢
  have hA : ∀ q : Nat, s.heap.size ≤ q → A q := fun q h => by rw [← hAe]; exact Or.inr h
  have hS : va_S A s.heap s.heap [] := va_S.rf
  have hP : va_P (dC, dI) vwCl [(h0, .inr (5, fs))] s.heap := hP
  have hl := lv_entry ([.ref h0, .ref p0, .ref p1, .ref p2, .ref p3]) (n := 5) (Nat.le_of_ble_eq_true rfl)
  rw [lg_entry_eq]
  generalize (lg_sl ([.ref h0, .ref p0, .ref p1, .ref p2, .ref p3]) ++ List.replicate (5 - (lg_sl ([.ref h0, .ref p0, .ref p1, .ref p2, .ref p3])).length) Slot.unset).toArray = ls at hl ⊢
  have hl : lv_has ls 5 [(0, .ref h0), (1, .ref p0), (2, .ref p1), (3, .ref p2), (4, .ref p3)] := hl
  refine lv_aload_n hx hb dX5_init_0 rfl (lv_at hl 0 rfl) ?_
  refine W.objInit hx hb hown (hts (.methodLink RX5 3 objectInit) (List.mem_of_getElem? (i := 2) rfl)) (hts (.instanceMethod objectInit) (List.mem_of_getElem? (i := 3) rfl)) (hts _ (List.mem_of_getElem? (i := 1) rfl)) rfl (by rw [hml]; exact hl.1) rfl dX5_init_1 (Nat.le_of_ble_eq_true rfl) (Nat.le_of_ble_eq_true rfl) ?_
  refine W.eq (g2 := F0 m 4 ls []) rfl ?_
  refine lv_aload_n hx hb dX5_init_4 rfl (lv_at hl 0 rfl) ?_
  refine lv_sipush (v := 4004) hx hb dX5_init_5 (by decide) ?_
  refine va_newa (atype := .int) (a0 := (4004, .inl (fun _ => 0))) hx hb (hts (.arrayClass .int) (List.mem_of_getElem? (i := 4) rfl)) (ty := .int) rfl hK hP hD hS hA (na_int 4004) (by decide) (by decide +kernel) (show 4004 * 4 ≤ 536870912 by decide) (show 0 + 1 ≤ 5 by decide) (show 0 + 4004 ≤ 16361 by decide) dX5_init_8 (fun q_1 cA_2 H hK hP hD hS => ?_)
  have hK : va_K (dC, dI) vwCl [(cI, .int), (cA_2, .int)] s := hK
  obtain rfl := kU_int hK 0 1 rfl rfl
  have hK := hK.sub (tys' := [(cI, .int)]) [0] rfl
  have hP : va_P (dC, dI) vwCl [(h0, .inr (5, fs)), (q_1, .inl (cI, 4004, .inl (fun _ => 0)))] H := hP
  have hD : va_D A [(h0, .inr (5, fs)), (q_1, .inl (cI, 4004, .inl (fun _ => 0)))] := hD
  refine W.widen (k := 1) (n := 4004) (by decide) (by decide) ?_
  refine va_putF (D := (dC, dI)) (ci := 5) (v := .ref q_1) (ty := (.array .int)) (C := RX5) (T := TX5) (N := 10) hx hb hts hin_X5 tyX5 tyX5_ok nmX5 hown hK hP hD hS 0 rfl rfl 5 (by decide) (hts (.fieldLink RX5 11 "NeedHouse$Parser" "held" "[I") (List.mem_of_getElem? (i := 5) rfl)) (fun _ h9 => h9) rfl hin rfl (by decide +kernel) rfl rfl (by rw [hF.1]; decide) dX5_init_10 (fun H locs hP hD hS => ?_)
  have hP : va_P (dC, dI) vwCl [(h0, .inr (5, (fs.set 5 (.ref q_1)))), (q_1, .inl (cI, 4004, .inl (fun _ => 0)))] H := hP
  have hD : va_D A [(h0, .inr (5, (fs.set 5 (.ref q_1)))), (q_1, .inl (cI, 4004, .inl (fun _ => 0)))] := hD
  have hF_3 := hF.set 5 (.ref q_1) (l' := [(5, .ref q_1), (8, .int 0), (9, .int 0)]) (by decide) rfl
  generalize fs.set 5 (.ref q_1) = fs_4 at hP hD hF_3
  have hP : va_P (dC, dI) vwCl [(h0, .inr (5, fs_4)), (q_1, .inl (cI, 4004, .inl (fun _ => 0)))] H := hP
  have hD : va_D A [(h0, .inr (5, fs_4)), (q_1, .inl (cI, 4004, .inl (fun _ => 0)))] := hD
  have hP := hP.sub (ws' := [(h0, .inr (5, fs_4))]) [0] rfl
  have hD := hD.sub (ws' := [(h0, .inr (5, fs_4))]) [0] (by decide) rfl
  refine lv_aload_n hx hb dX5_init_13 rfl (lv_at hl 0 rfl) ?_
  refine lv_sipush (v := 4004) hx hb dX5_init_14 (by decide) ?_
  refine va_newa (atype := .int) (a0 := (4004, .inl (fun _ => 0))) hx hb (hts (.arrayClass .int) (List.mem_of_getElem? (i := 4) rfl)) (ty := .int) rfl hK hP hD hS hA (na_int 4004) (by decide) (by decide +kernel) (show 4004 * 4 ≤ 536870912 by decide) (show 1 + 1 ≤ 5 by decide) (show 4004 + 4004 ≤ 16361 by decide) dX5_init_17 (fun q_5 cA_6 H hK hP hD hS => ?_)
  have hK : va_K (dC, dI) vwCl [(cI, .int), (cA_6, .int)] s := hK
  obtain rfl := kU_int hK 0 1 rfl rfl
  have hK := hK.sub (tys' := [(cI, .int)]) [0] rfl
  have hP : va_P (dC, dI) vwCl [(h0, .inr (5, fs_4)), (q_5, .inl (cI, 4004, .inl (fun _ => 0)))] H := hP
  have hD : va_D A [(h0, .inr (5, fs_4)), (q_5, .inl (cI, 4004, .inl (fun _ => 0)))] := hD
  refine W.widen (k := 2) (n := 8008) (by decide) (by decide) ?_
  refine va_putF (D := (dC, dI)) (ci := 5) (v := .ref q_5) (ty := (.array .int)) (C := RX5) (T := TX5) (N := 10) hx hb hts hin_X5 tyX5 tyX5_ok nmX5 hown hK hP hD hS 0 rfl rfl 6 (by decide) (hts (.fieldLink RX5 17 "NeedHouse$Parser" "signs" "[I") (List.mem_of_getElem? (i := 6) rfl)) (fun _ h9 => h9) rfl hin rfl (by decide +kernel) rfl rfl (by rw [hF_3.1]; decide) dX5_init_19 (fun H locs hP hD hS => ?_)
  have hP : va_P (dC, dI) vwCl [(h0, .inr (5, (fs_4.set 6 (.ref q_5)))), (q_5, .inl (cI, 4004, .inl (fun _ => 0)))] H := hP
  have hD : va_D A [(h0, .inr (5, (fs_4.set 6 (.ref q_5)))), (q_5, .inl (cI, 4004, .inl (fun _ => 0)))] := hD
  have hF_7 := hF_3.set 6 (.ref q_5) (l' := [(6, .ref q_5), (5, .ref q_1), (8, .int 0), (9, .int 0)]) (by decide) rfl
  generalize fs_4.set 6 (.ref q_5) = fs_8 at hP hD hF_7
  have hP : va_P (dC, dI) vwCl [(h0, .inr (5, fs_8)), (q_5, .inl (cI, 4004, .inl (fun _ => 0)))] H := hP
  have hD : va_D A [(h0, .inr (5, fs_8)), (q_5, .inl (cI, 4004, .inl (fun _ => 0)))] := hD
  have hP := hP.sub (ws' := [(h0, .inr (5, fs_8))]) [0] rfl
  have hD := hD.sub (ws' := [(h0, .inr (5, fs_8))]) [0] (by decide) rfl
  refine lv_aload_n hx hb dX5_init_22 rfl (lv_at hl 0 rfl) ?_
  refine lv_sipush (v := 336) hx hb dX5_init_23 (by decide) ?_
  refine va_newa (atype := .int) (a0 := (336, .inl (fun _ => 0))) hx hb (hts (.arrayClass .int) (List.mem_of_getElem? (i := 4) rfl)) (ty := .int) rfl hK hP hD hS hA (na_int 336) (by decide) (by decide +kernel) (show 336 * 4 ≤ 536870912 by decide) (show 2 + 1 ≤ 5 by decide) (show 8008 + 336 ≤ 16361 by decide) dX5_init_26 (fun q_9 cA_10 H hK hP hD hS => ?_)
  have hK : va_K (dC, dI) vwCl [(cI, .int), (cA_10, .int)] s := hK
  obtain rfl := kU_int hK 0 1 rfl rfl
  have hK := hK.sub (tys' := [(cI, .int)]) [0] rfl
  have hP : va_P (dC, dI) vwCl [(h0, .inr (5, fs_8)), (q_9, .inl (cI, 336, .inl (fun _ => 0)))] H := hP
  have hD : va_D A [(h0, .inr (5, fs_8)), (q_9, .inl (cI, 336, .inl (fun _ => 0)))] := hD
  refine W.widen (k := 3) (n := 8344) (by decide) (by decide) ?_
  refine va_putF (D := (dC, dI)) (ci := 5) (v := .ref q_9) (ty := (.array .int)) (C := RX5) (T := TX5) (N := 10) hx hb hts hin_X5 tyX5 tyX5_ok nmX5 hown hK hP hD hS 0 rfl rfl 7 (by decide) (hts (.fieldLink RX5 20 "NeedHouse$Parser" "operands" "[I") (List.mem_of_getElem? (i := 7) rfl)) (fun _ h9 => h9) rfl hin rfl (by decide +kernel) rfl rfl (by rw [hF_7.1]; decide) dX5_init_28 (fun H locs hP hD hS => ?_)
  have hP : va_P (dC, dI) vwCl [(h0, .inr (5, (fs_8.set 7 (.ref q_9)))), (q_9, .inl (cI, 336, .inl (fun _ => 0)))] H := hP
  have hD : va_D A [(h0, .inr (5, (fs_8.set 7 (.ref q_9)))), (q_9, .inl (cI, 336, .inl (fun _ => 0)))] := hD
  have hF_11 := hF_7.set 7 (.ref q_9) (l' := [(7, .ref q_9), (6, .ref q_5), (5, .ref q_1), (8, .int 0), (9, .int 0)]) (by decide) rfl
  generalize fs_8.set 7 (.ref q_9) = fs_12 at hP hD hF_11
  have hP : va_P (dC, dI) vwCl [(h0, .inr (5, fs_12)), (q_9, .inl (cI, 336, .inl (fun _ => 0)))] H := hP
  have hD : va_D A [(h0, .inr (5, fs_12)), (q_9, .inl (cI, 336, .inl (fun _ => 0)))] := hD
  have hP := hP.sub (ws' := [(h0, .inr (5, fs_12))]) [0] rfl
  have hD := hD.sub (ws' := [(h0, .inr (5, fs_12))]) [0] (by decide) rfl
  refine lv_aload_n hx hb dX5_init_31 rfl (lv_at hl 0 rfl) ?_
  refine lv_aload_n hx hb dX5_init_32 rfl (lv_at hl 1 rfl) ?_
  refine va_putF (D := (dC, dI)) (ci := 5) (v := .ref p0) (ty := (.object "NeedHouse$Lexemes")) (C := RX5) (T := TX5) (N := 10) hx hb hts hin_X5 tyX5 tyX5_ok nmX5 hown hK hP hD hS 0 rfl rfl 0 (by decide) (hts (.fieldLink RX5 23 "NeedHouse$Parser" "lexemes" "LNeedHouse$Lexemes;") (List.mem_of_getElem? (i := 8) rfl)) (fun _ h9 => h9) rfl hin rfl (by decide +kernel) rfl rfl (by rw [hF_11.1]; decide) dX5_init_33 (fun H locs hP hD hS => ?_)
  have hP : va_P (dC, dI) vwCl [(h0, .inr (5, (fs_12.set 0 (.ref p0))))] H := hP
  have hD : va_D A [(h0, .inr (5, (fs_12.set 0 (.ref p0))))] := hD
  have hF_13 := hF_11.set 0 (.ref p0) (l' := [(0, .ref p0), (7, .ref q_9), (6, .ref q_5), (5, .ref q_1), (8, .int 0), (9, .int 0)]) (by decide) rfl
  generalize fs_12.set 0 (.ref p0) = fs_14 at hP hD hF_13
  have hP : va_P (dC, dI) vwCl [(h0, .inr (5, fs_14))] H := hP
  have hD : va_D A [(h0, .inr (5, fs_14))] := hD
  refine lv_aload_n hx hb dX5_init_36 rfl (lv_at hl 0 rfl) ?_
  refine lv_aload_n hx hb dX5_init_37 rfl (lv_at hl 2 rfl) ?_
  refine va_putF (D := (dC, dI)) (ci := 5) (v := .ref p1) (ty := (.object "NeedHouse$Tree")) (C := RX5) (T := TX5) (N := 10) hx hb hts hin_X5 tyX5 tyX5_ok nmX5 hown hK hP hD hS 0 rfl rfl 2 (by decide) (hts (.fieldLink RX5 27 "NeedHouse$Parser" "tree" "LNeedHouse$Tree;") (List.mem_of_getElem? (i := 9) rfl)) (fun _ h9 => h9) rfl hin rfl (by decide +kernel) rfl rfl (by rw [hF_13.1]; decide) dX5_init_38 (fun H locs hP hD hS => ?_)
  have hP : va_P (dC, dI) vwCl [(h0, .inr (5, (fs_14.set 2 (.ref p1))))] H := hP
  have hD : va_D A [(h0, .inr (5, (fs_14.set 2 (.ref p1))))] := hD
  have hF_15 := hF_13.set 2 (.ref p1) (l' := [(2, .ref p1), (0, .ref p0), (7, .ref q_9), (6, .ref q_5), (5, .ref q_1), (8, .int 0), (9, .int 0)]) (by decide) rfl
  generalize fs_14.set 2 (.ref p1) = fs_16 at hP hD hF_15
  have hP : va_P (dC, dI) vwCl [(h0, .inr (5, fs_16))] H := hP
  have hD : va_D A [(h0, .inr (5, fs_16))] := hD
  refine lv_aload_n hx hb dX5_init_41 rfl (lv_at hl 0 rfl) ?_
  refine lv_aload_n hx hb dX5_init_42 rfl (lv_at hl 3 rfl) ?_
  refine va_putF (D := (dC, dI)) (ci := 5) (v := .ref p2) (ty := (.object "NeedHouse$Told")) (C := RX5) (T := TX5) (N := 10) hx hb hts hin_X5 tyX5 tyX5_ok nmX5 hown hK hP hD hS 0 rfl rfl 3 (by decide) (hts (.fieldLink RX5 31 "NeedHouse$Parser" "told" "LNeedHouse$Told;") (List.mem_of_getElem? (i := 10) rfl)) (fun _ h9 => h9) rfl hin rfl (by decide +kernel) rfl rfl (by rw [hF_15.1]; decide) dX5_init_43 (fun H locs hP hD hS => ?_)
  have hP : va_P (dC, dI) vwCl [(h0, .inr (5, (fs_16.set 3 (.ref p2))))] H := hP
  have hD : va_D A [(h0, .inr (5, (fs_16.set 3 (.ref p2))))] := hD
  have hF_17 := hF_15.set 3 (.ref p2) (l' := [(3, .ref p2), (2, .ref p1), (0, .ref p0), (7, .ref q_9), (6, .ref q_5), (5, .ref q_1), (8, .int 0), (9, .int 0)]) (by decide) rfl
  generalize fs_16.set 3 (.ref p2) = fs_18 at hP hD hF_17
  have hP : va_P (dC, dI) vwCl [(h0, .inr (5, fs_18))] H := hP
  have hD : va_D A [(h0, .inr (5, fs_18))] := hD
  refine lv_aload_n hx hb dX5_init_46 rfl (lv_at hl 0 rfl) ?_
  refine lv_aload hx hb dX5_init_47 (lv_at hl 4 rfl) ?_
  refine va_putF (D := (dC, dI)) (ci := 5) (v := .ref p3) (ty := (.object "NeedHouse$Datas")) (C := RX5) (T := TX5) (N := 10) hx hb hts hin_X5 tyX5 tyX5_ok nmX5 hown hK hP hD hS 0 rfl rfl 4 (by decide) (hts (.fieldLink RX5 35 "NeedHouse$Parser" "datas" "LNeedHouse$Datas;") (List.mem_of_getElem? (i := 11) rfl)) (fun _ h9 => h9) rfl hin rfl (by decide +kernel) rfl rfl (by rw [hF_17.1]; decide) dX5_init_49 (fun H locs hP hD hS => ?_)
  have hP : va_P (dC, dI) vwCl [(h0, .inr (5, (fs_18.set 4 (.ref p3))))] H := hP
  have hD : va_D A [(h0, .inr (5, (fs_18.set 4 (.ref p3))))] := hD
  have hF_19 := hF_17.set 4 (.ref p3) (l' := [(4, .ref p3), (3, .ref p2), (2, .ref p1), (0, .ref p0), (7, .ref q_9), (6, .ref q_5), (5, .ref q_1), (8, .int 0), (9, .int 0)]) (by decide) rfl
  generalize fs_18.set 4 (.ref p3) = fs_20 at hP hD hF_19
  have hP : va_P (dC, dI) vwCl [(h0, .inr (5, fs_20))] H := hP
  have hD : va_D A [(h0, .inr (5, fs_20))] := hD
  refine lv_aload_n hx hb dX5_init_52 rfl (lv_at hl 0 rfl) ?_
  refine va_new (ci := 1) (fs := dfs 9 tyX1) (C := RX1) (T := TX1) (N := 9) hx hb hts hin_X1 tyX1 tyX1_ok hown (hts (.classLink RX5 39 RX1) (List.mem_of_getElem? (i := 12) rfl)) (hts (.instantiable RX1 9) (List.mem_of_getElem? (i := 13) rfl)) (hts (.initialized RX1) (List.mem_of_getElem? (i := 14) rfl)) hK hP hD hS hA rfl dfs_ok (show 3 + 1 ≤ 5 by decide) (show 8344 + 9 ≤ 16361 by decide) dX5_init_53 (fun q_21 H hP hD hS => ?_)
  have hP : va_P (dC, dI) vwCl [(h0, .inr (5, fs_20)), (q_21, .inr (1, (dfs 9 tyX1)))] H := hP
  have hD : va_D A [(h0, .inr (5, fs_20)), (q_21, .inr (1, (dfs 9 tyX1)))] := hD
  have hF_22 : hasF (dfs 9 tyX1) 9 [(2, .int 0), (3, .int 0), (4, .int 0), (5, .int 0), (6, .int 0), (7, .int 0), (8, .int 0)] := dfs_has (List.forall_mem_cons.mpr ⟨⟨by decide, rfl⟩, List.forall_mem_cons.mpr ⟨⟨by decide, rfl⟩, List.forall_mem_cons.mpr ⟨⟨by decide, rfl⟩, List.forall_mem_cons.mpr ⟨⟨by decide, rfl⟩, List.forall_mem_cons.mpr ⟨⟨by decide, rfl⟩, List.forall_mem_cons.mpr ⟨⟨by decide, rfl⟩, List.forall_mem_cons.mpr ⟨⟨by decide, rfl⟩, fun _ h => absurd h List.not_mem_nil⟩⟩⟩⟩⟩⟩⟩)
  generalize dfs 9 tyX1 = fs_23 at hP hD hF_22
  have hP : va_P (dC, dI) vwCl [(h0, .inr (5, fs_20)), (q_21, .inr (1, fs_23))] H := hP
  have hD : va_D A [(h0, .inr (5, fs_20)), (q_21, .inr (1, fs_23))] := hD
  refine W.widen (k := 4) (n := 8353) (by decide) (by decide) ?_
  refine lv_dup hx hb dX5_init_56 rfl ?_
  refine lv_aload_n hx hb dX5_init_57 rfl (lv_at hl 1 rfl) ?_
  have hPc := hP.sub (ws' := [(q_21, .inr (1, fs_23))]) [1] rfl
  have hDc := hD.sub (ws' := [(q_21, .inr (1, fs_23))]) [1] (by decide) rfl
  have hKc := hK.sub (tys' := [(cI, .int)]) [0] rfl
  have hFc := va_free (wc := [(q_21, .inr (1, fs_23))]) hD hS hA [1] rfl
  refine va_callv (va_runI (As := [.ref p0]) (rest := [.ref q_21, .ref h0]) ⟨hx, hb, hml, hown, hts⟩ (c_X1_init l dC dI H.size q_21 fs_23 cI p0 (hF_22.sub [0, 1, 2, 3, 4, 5, 6] rfl)) (cwI 1 hts g_c_X5_init_c_X1_init_58 rfl rfl rfl (hts (.initialized RX1) (List.mem_of_getElem? (i := 14) rfl)) (hts (.methodLink RX5 41 yX1_init) (List.mem_of_getElem? (i := 19) rfl)) (hts (.instanceMethod yX1_init) (List.mem_of_getElem? (i := 20) rfl)) rfl (by decide +kernel) ⟨Nat.le_of_ble_eq_true rfl, Nat.le_of_ble_eq_true rfl⟩) ⟨fun a U g mk q => by obtain ⟨q0, q1, qP, qK, qD⟩ := q; exact ⟨q0, q1, qP, va_K.moved (u := U) (U := U.calling g mk a) (Vm.Alike.refl U.vm) qK, qD⟩, fun U hU hW => ⟨rfl, by rw [hU], by rw [hU]; exact hPc, va_K.moved hW.alike hKc, hDc.weaken (fun _ _ _ _ => trivial)⟩⟩ rfl rfl hl.1 rfl (lv_room (Nat.le_of_ble_eq_true rfl)) dX5_init_58 ⟨show 4 + 1 ≤ 5 by decide, show 8353 + 8008 ≤ 16361 by decide⟩) hS (fun q _ h => hFc q h) hFc (fun u t H1 locs ht hvm hw hB hz1 hk1 hS => ?_)
  obtain ⟨fs1_26, a1__27⟩ := u
  obtain ⟨hP1, hK1, hD1⟩ := hB
  rw [ht] at hP1
  have hK1 := va_K.moved hvm.symm hK1
  try dsimp only at hw hP1 hK1 hD1
  have hF_28 := hw
  obtain ⟨hP, hD⟩ := va_join (wr := [(h0, .inr (5, fs_20))]) (w1 := [(q_21, .inr (1, fs1_26)), (a1__27, .inl (cI, 8008, .inl (fun _ => 0)))]) hP hD [1] [0] rfl rfl (by decide) (by decide) hk1 hFc hP1 hD1
  generalize H1 = H at hP hS ⊢
  have hK := (hK.sub (tys' := []) [] rfl).app hK1
  have hK : va_K (dC, dI) vwCl [(cI, .int)] s := hK
  have hP : va_P (dC, dI) vwCl [(h0, .inr (5, fs_20)), (q_21, .inr (1, fs1_26)), (a1__27, .inl (cI, 8008, .inl (fun _ => 0)))] H := hP
  have hD : va_D A [(h0, .inr (5, fs_20)), (q_21, .inr (1, fs1_26)), (a1__27, .inl (cI, 8008, .inl (fun _ => 0)))] := hD
  refine W.widen (k := 5) (n := 16361) (by decide) (by decide) ?_
  refine va_putF (D := (dC, dI)) (ci := 5) (v := .ref q_21) (ty := (.object "NeedHouse$Layout")) (C := RX5) (T := TX5) (N := 10) hx hb hts hin_X5 tyX5 tyX5_ok nmX5 hown hK hP hD hS 0 rfl rfl 1 (by decide) (hts (.fieldLink RX5 44 "NeedHouse$Parser" "layout" "LNeedHouse$Layout;") (List.mem_of_getElem? (i := 21) rfl)) (fun _ h9 => h9) rfl hin rfl (by decide +kernel) rfl rfl (by rw [hF_19.1]; decide) dX5_init_61 (fun H locs hP hD hS => ?_)
  have hP : va_P (dC, dI) vwCl [(h0, .inr (5, (fs_20.set 1 (.ref q_21)))), (q_21, .inr (1, fs1_26)), (a1__27, .inl (cI, 8008, .inl (fun _ => 0)))] H := hP
  have hD : va_D A [(h0, .inr (5, (fs_20.set 1 (.ref q_21)))), (q_21, .inr (1, fs1_26)), (a1__27, .inl (cI, 8008, .inl (fun _ => 0)))] := hD
  have hF_29 := hF_19.set 1 (.ref q_21) (l' := [(1, .ref q_21), (4, .ref p3), (3, .ref p2), (2, .ref p1), (0, .ref p0), (7, .ref q_9), (6, .ref q_5), (5, .ref q_1), (8, .int 0), (9, .int 0)]) (by decide) rfl
  generalize fs_20.set 1 (.ref q_21) = fs_30 at hP hD hF_29
  have hP : va_P (dC, dI) vwCl [(h0, .inr (5, fs_30)), (q_21, .inr (1, fs1_26)), (a1__27, .inl (cI, 8008, .inl (fun _ => 0)))] H := hP
  have hD : va_D A [(h0, .inr (5, fs_30)), (q_21, .inr (1, fs1_26)), (a1__27, .inl (cI, 8008, .inl (fun _ => 0)))] := hD
  have hP9 := hP.sub (ws' := [(h0, .inr (5, fs_30)), (q_21, .inr (1, fs1_26)), (a1__27, .inl (cI, 8008, .inl (fun _ => 0)))]) [0, 1, 2] rfl
  have hD9 := hD.sub (ws' := [(h0, .inr (5, fs_30)), (q_21, .inr (1, fs1_26)), (a1__27, .inl (cI, 8008, .inl (fun _ => 0)))]) [0, 1, 2] (by decide) rfl
  have hK9 := hK.sub (tys' := [(cI, .int)]) [0] rfl
  exact W.vret hx hb hr (fun t ht hW => ⟨⟨((fs_30, q_21, fs1_26, a1__27)), rfl, ⟨hF_29.sub [4, 0, 3, 2, 1, 8, 9] rfl, hF_28.sub [0, 1, 2, 3, 4, 5, 6, 7, 8] rfl⟩, by rw [ht]; exact hP9, va_K.moved hW.alike hK9, hD9⟩, hS.F ht⟩) hS.2.2 dX5_init_64
def pw_c_X3_init : List Cond := .code yX3_init cX3_init 6 none :: ([.code objectInit ⟨#[0xb1]⟩ 1 none, .methodLink RX3 3 objectInit, .instanceMethod objectInit, .arrayClass .int, .fieldLink RX3 11 "NeedHouse$Machine" "output" "[I", .fieldLink RX3 15 "NeedHouse$Machine" "tree" "LNeedHouse$Tree;", .fieldLink RX3 19 "NeedHouse$Machine" "told" "LNeedHouse$Told;", .fieldLink RX3 23 "NeedHouse$Machine" "datas" "LNeedHouse$Datas;", .fieldLink RX3 27 "NeedHouse$Machine" "needs" "LNeedHouse$Needs;", .classLink RX3 31 RX7, .instantiable RX7 22, .initialized RX7, .code yX7_init cX7_init 5 none, .methodLink RX7 3 objectInit, .arrayClass .long, .fieldLink RX7 11 "NeedHouse$Store" "heap" "[J", .fieldLink RX7 15 "NeedHouse$Store" "spare" "[J", .fieldLink RX7 20 "NeedHouse$Store" "variable" "[J", .fieldLink RX7 23 "NeedHouse$Store" "argument" "[J", .fieldLink RX7 26 "NeedHouse$Store" "frame" "[I", .fieldLink RX7 30 "NeedHouse$Store" "frameFrom" "[I", .fieldLink RX7 33 "NeedHouse$Store" "saved" "[J", .fieldLink RX7 36 "NeedHouse$Store" "globalState" "[I", .fieldLink RX7 39 "NeedHouse$Store" "globalValue" "[J", .fieldLink RX7 42 "NeedHouse$Store" "unfilled" "[I", .fieldLink RX7 45 "NeedHouse$Store" "tree" "LNeedHouse$Tree;", .fieldLink RX7 49 "NeedHouse$Store" "told" "LNeedHouse$Told;", .fieldLink RX7 53 "NeedHouse$Store" "datas" "LNeedHouse$Datas;", .fieldLink RX7 57 "NeedHouse$Store" "needs" "LNeedHouse$Needs;", .methodLink RX3 33 yX7_init, .instanceMethod yX7_init, .fieldLink RX3 36 "NeedHouse$Machine" "store" "LNeedHouse$Store;", .classLink RX3 40 RX6, .instantiable RX6 3, .initialized RX6, .code yX6_init cX6_init 3 none, .methodLink RX6 3 objectInit, .fieldLink RX6 9 "NeedHouse$Sheet" "lexemes" "LNeedHouse$Lexemes;", .arrayClass .byte, .fieldLink RX6 15 "NeedHouse$Sheet" "row" "[B", .fieldLink RX6 19 "NeedHouse$Sheet" "size" "I", .methodLink RX3 42 yX6_init, .instanceMethod yX6_init, .fieldLink RX3 45 "NeedHouse$Machine" "text" "LNeedHouse$Sheet;"] ++ (wsX30 ++ (wsX70 ++ (wsX60 ++ []))))
set_option maxRecDepth 20000 in
theorem g_c_X3_init_c_X7_init_46 : GoodIn pw_c_X3_init (pw_c_X7_init) := goodIn_r _ [13, 1, 14, 3, 15, 16, 17, 18, 19, 4, 20, 21, 22, 23, 24, 25, 26, 27, 28, 29, 59, 60, 61, 62, 63, 64, 65, 66, 67, 68, 69, 70, 71, 72, 73, 74, 75, 76, 77, 78, 79, 80] rfl (by decide +kernel)
set_option maxRecDepth 20000 in
theorem g_c_X3_init_c_X6_init_1000_61 : GoodIn pw_c_X3_init (pw_c_X6_init_1000) := goodIn_r _ [36, 1, 37, 3, 38, 39, 40, 41, 81, 82, 83] rfl (by decide +kernel)
set_option maxHeartbeats 4000000 in
set_option maxRecDepth 100000 in
theorem c_X3_init (l : Launch) (dC : Nat → ClassId) (dI : Nat → Nat → Nat) (sz : Nat) (h0 : Nat) (fs : List Value) (cI : ClassId) (cL : ClassId) (cB : ClassId) (p0 : Nat) (p1 : Nat) (p2 : Nat) (p3 : Nat) (p4 : Nat) (hF : hasF fs 14 [(7, .int 0), (8, .int 0), (9, .int 0), (10, .int 0), (11, .int 0), (12, .long 0), (13, .int 0)]) : Met l yX3_init pw_c_X3_init ({ frames := 2, cells := 14, slots := 28153, locals := 36 }) (va_Pc [.ref h0, .ref p0, .ref p1, .ref p2, .ref p3, .ref p4] (fun U => U.heap.size = sz ∧ va_P (dC, dI) vwCl [(h0, .inr (3, fs))] U.heap ∧ va_K (dC, dI) vwCl [(cI, .int), (cL, .long), (cB, .byte)] U ∧ va_D (fun _ => True) [(h0, .inr (3, fs))])) (va_Qv (fun (u : (List Value) × (Nat) × (List Value)) => hasF u.1 14 [(0, .ref p1), (1, .ref p2), (2, .ref p3), (3, .ref p4), (5, .ref u.2.1), (7, .int 0), (8, .int 0), (9, .int 0), (10, .int 0), (11, .int 0), (12, .long 0), (13, .int 0)] ∧ hasF u.2.2 3 [(0, .ref p0), (2, .int 0)]) (fun (u : (List Value) × (Nat) × (List Value)) (t : State) => va_P (dC, dI) vwCl [(h0, .inr (3, u.1)), (u.2.1, .inr (6, u.2.2))] t.heap ∧ va_K (dC, dI) vwCl [(cI, .int), (cL, .long), (cB, .byte)] t ∧ va_D (va_A [(h0, .inr (3, fs))] sz) [(h0, .inr (3, u.1)), (u.2.1, .inr (6, u.2.2))]) (va_A [(h0, .inr (3, fs))] sz)) 14 28153 (va_A [(h0, .inr (3, fs))] sz) := by
  refine Met.ofW (cc := cX3_init) (maxL := 6) (ret := none) (by decide) rfl ?_
  intro p e s m args below meth c s₁ B hml hv
  obtain ⟨rfl, hsz, hP, hK, hD0⟩ := hv
  have hx := B.exec
  have hb := B.bytes
  have hr := B.returns
  have hts := atoms_spec (ws := pw_c_X3_init) B.pre
  have hown : s.vm.findClass RX3 = some m.cls := findClass_of_methodNamed B.named
  have hlocks := B.notSynchronized
  have hin : meth.name = "<init>" := (name_of_methodNamed B.named B.method).1
  have hin_X3 : ∀ w ∈ u_ws RX3 TX3 14, w ∈ pw_c_X3_init := fun w h => List.mem_cons_of_mem _ (List.mem_append_right _ (List.mem_append_left _ h))
  have hin_X7 : ∀ w ∈ u_ws RX7 TX7 22, w ∈ pw_c_X3_init := fun w h => List.mem_cons_of_mem _ (List.mem_append_right _ (List.mem_append_right _ (List.mem_append_left _ h)))
  have hin_X6 : ∀ w ∈ u_ws RX6 TX6 3, w ∈ pw_c_X3_init := fun w h => List.mem_cons_of_mem _ (List.mem_append_right _ (List.mem_append_right _ (List.mem_append_right _ (List.mem_append_left _ h))))
  subst hsz
  have hD := hD0.self (sz := s.heap.size)
  generalize hAe : va_A [(h0, .inr (3, fs))] s.heap.size = A at hD ⊢
  have hA : ∀ q : Nat, s.heap.size ≤ q → A q := fun q h => by rw [← hAe]; exact Or.inr h
  have hS : va_S A s.heap s.heap [] := va_S.rf
  have hP : va_P (dC, dI) vwCl [(h0, .inr (3, fs))] s.heap := hP
  have hl := lv_entry ([.ref h0, .ref p0, .ref p1, .ref p2, .ref p3, .ref p4]) (n := 6) (Nat.le_of_ble_eq_true rfl)
  rw [lg_entry_eq]
  generalize (lg_sl ([.ref h0, .ref p0, .ref p1, .ref p2, .ref p3, .ref p4]) ++ List.replicate (6 - (lg_sl ([.ref h0, .ref p0, .ref p1, .ref p2, .ref p3, .ref p4])).length) Slot.unset).toArray = ls at hl ⊢
  have hl : lv_has ls 6 [(0, .ref h0), (1, .ref p0), (2, .ref p1), (3, .ref p2), (4, .ref p3), (5, .ref p4)] := hl
  refine lv_aload_n hx hb dX3_init_0 rfl (lv_at hl 0 rfl) ?_
  refine W.objInit hx hb hown (hts (.methodLink RX3 3 objectInit) (List.mem_of_getElem? (i := 2) rfl)) (hts (.instanceMethod objectInit) (List.mem_of_getElem? (i := 3) rfl)) (hts _ (List.mem_of_getElem? (i := 1) rfl)) rfl (by rw [hml]; exact hl.1) rfl dX3_init_1 (Nat.le_of_ble_eq_true rfl) (Nat.le_of_ble_eq_true rfl) ?_
  refine W.eq (g2 := F0 m 4 ls []) rfl ?_
  refine lv_aload_n hx hb dX3_init_4 rfl (lv_at hl 0 rfl) ?_
  refine lv_sipush (v := 500) hx hb dX3_init_5 (by decide) ?_
  refine va_newa (atype := .int) (a0 := (500, .inl (fun _ => 0))) hx hb (hts (.arrayClass .int) (List.mem_of_getElem? (i := 4) rfl)) (ty := .int) rfl hK hP hD hS hA (na_int 500) (by decide) (by decide +kernel) (show 500 * 4 ≤ 536870912 by decide) (show 0 + 1 ≤ 14 by decide) (show 0 + 500 ≤ 28153 by decide) dX3_init_8 (fun q_1 cA_2 H hK hP hD hS => ?_)
  have hK : va_K (dC, dI) vwCl [(cI, .int), (cL, .long), (cB, .byte), (cA_2, .int)] s := hK
  obtain rfl := kU_int hK 0 3 rfl rfl
  have hK := hK.sub (tys' := [(cI, .int), (cL, .long), (cB, .byte)]) [0, 1, 2] rfl
  have hP : va_P (dC, dI) vwCl [(h0, .inr (3, fs)), (q_1, .inl (cI, 500, .inl (fun _ => 0)))] H := hP
  have hD : va_D A [(h0, .inr (3, fs)), (q_1, .inl (cI, 500, .inl (fun _ => 0)))] := hD
  refine W.widen (k := 1) (n := 500) (by decide) (by decide) ?_
  refine va_putF (D := (dC, dI)) (ci := 3) (v := .ref q_1) (ty := (.array .int)) (C := RX3) (T := TX3) (N := 14) hx hb hts hin_X3 tyX3 tyX3_ok nmX3 hown hK hP hD hS 0 rfl rfl 6 (by decide) (hts (.fieldLink RX3 11 "NeedHouse$Machine" "output" "[I") (List.mem_of_getElem? (i := 5) rfl)) (fun _ h9 => h9) rfl hin rfl (by decide +kernel) rfl rfl (by rw [hF.1]; decide) dX3_init_10 (fun H locs hP hD hS => ?_)
  have hP : va_P (dC, dI) vwCl [(h0, .inr (3, (fs.set 6 (.ref q_1)))), (q_1, .inl (cI, 500, .inl (fun _ => 0)))] H := hP
  have hD : va_D A [(h0, .inr (3, (fs.set 6 (.ref q_1)))), (q_1, .inl (cI, 500, .inl (fun _ => 0)))] := hD
  have hF_3 := hF.set 6 (.ref q_1) (l' := [(6, .ref q_1), (7, .int 0), (8, .int 0), (9, .int 0), (10, .int 0), (11, .int 0), (12, .long 0), (13, .int 0)]) (by decide) rfl
  generalize fs.set 6 (.ref q_1) = fs_4 at hP hD hF_3
  have hP : va_P (dC, dI) vwCl [(h0, .inr (3, fs_4)), (q_1, .inl (cI, 500, .inl (fun _ => 0)))] H := hP
  have hD : va_D A [(h0, .inr (3, fs_4)), (q_1, .inl (cI, 500, .inl (fun _ => 0)))] := hD
  have hP := hP.sub (ws' := [(h0, .inr (3, fs_4))]) [0] rfl
  have hD := hD.sub (ws' := [(h0, .inr (3, fs_4))]) [0] (by decide) rfl
  refine lv_aload_n hx hb dX3_init_13 rfl (lv_at hl 0 rfl) ?_
  refine lv_aload_n hx hb dX3_init_14 rfl (lv_at hl 2 rfl) ?_
  refine va_putF (D := (dC, dI)) (ci := 3) (v := .ref p1) (ty := (.object "NeedHouse$Tree")) (C := RX3) (T := TX3) (N := 14) hx hb hts hin_X3 tyX3 tyX3_ok nmX3 hown hK hP hD hS 0 rfl rfl 0 (by decide) (hts (.fieldLink RX3 15 "NeedHouse$Machine" "tree" "LNeedHouse$Tree;") (List.mem_of_getElem? (i := 6) rfl)) (fun _ h9 => h9) rfl hin rfl (by decide +kernel) rfl rfl (by rw [hF_3.1]; decide) dX3_init_15 (fun H locs hP hD hS => ?_)
  have hP : va_P (dC, dI) vwCl [(h0, .inr (3, (fs_4.set 0 (.ref p1))))] H := hP
  have hD : va_D A [(h0, .inr (3, (fs_4.set 0 (.ref p1))))] := hD
  have hF_5 := hF_3.set 0 (.ref p1) (l' := [(0, .ref p1), (6, .ref q_1), (7, .int 0), (8, .int 0), (9, .int 0), (10, .int 0), (11, .int 0), (12, .long 0), (13, .int 0)]) (by decide) rfl
  generalize fs_4.set 0 (.ref p1) = fs_6 at hP hD hF_5
  have hP : va_P (dC, dI) vwCl [(h0, .inr (3, fs_6))] H := hP
  have hD : va_D A [(h0, .inr (3, fs_6))] := hD
  refine lv_aload_n hx hb dX3_init_18 rfl (lv_at hl 0 rfl) ?_
  refine lv_aload_n hx hb dX3_init_19 rfl (lv_at hl 3 rfl) ?_
  refine va_putF (D := (dC, dI)) (ci := 3) (v := .ref p2) (ty := (.object "NeedHouse$Told")) (C := RX3) (T := TX3) (N := 14) hx hb hts hin_X3 tyX3 tyX3_ok nmX3 hown hK hP hD hS 0 rfl rfl 1 (by decide) (hts (.fieldLink RX3 19 "NeedHouse$Machine" "told" "LNeedHouse$Told;") (List.mem_of_getElem? (i := 7) rfl)) (fun _ h9 => h9) rfl hin rfl (by decide +kernel) rfl rfl (by rw [hF_5.1]; decide) dX3_init_20 (fun H locs hP hD hS => ?_)
  have hP : va_P (dC, dI) vwCl [(h0, .inr (3, (fs_6.set 1 (.ref p2))))] H := hP
  have hD : va_D A [(h0, .inr (3, (fs_6.set 1 (.ref p2))))] := hD
  have hF_7 := hF_5.set 1 (.ref p2) (l' := [(1, .ref p2), (0, .ref p1), (6, .ref q_1), (7, .int 0), (8, .int 0), (9, .int 0), (10, .int 0), (11, .int 0), (12, .long 0), (13, .int 0)]) (by decide) rfl
  generalize fs_6.set 1 (.ref p2) = fs_8 at hP hD hF_7
  have hP : va_P (dC, dI) vwCl [(h0, .inr (3, fs_8))] H := hP
  have hD : va_D A [(h0, .inr (3, fs_8))] := hD
  refine lv_aload_n hx hb dX3_init_23 rfl (lv_at hl 0 rfl) ?_
  refine lv_aload hx hb dX3_init_24 (lv_at hl 4 rfl) ?_
  refine va_putF (D := (dC, dI)) (ci := 3) (v := .ref p3) (ty := (.object "NeedHouse$Datas")) (C := RX3) (T := TX3) (N := 14) hx hb hts hin_X3 tyX3 tyX3_ok nmX3 hown hK hP hD hS 0 rfl rfl 2 (by decide) (hts (.fieldLink RX3 23 "NeedHouse$Machine" "datas" "LNeedHouse$Datas;") (List.mem_of_getElem? (i := 8) rfl)) (fun _ h9 => h9) rfl hin rfl (by decide +kernel) rfl rfl (by rw [hF_7.1]; decide) dX3_init_26 (fun H locs hP hD hS => ?_)
  have hP : va_P (dC, dI) vwCl [(h0, .inr (3, (fs_8.set 2 (.ref p3))))] H := hP
  have hD : va_D A [(h0, .inr (3, (fs_8.set 2 (.ref p3))))] := hD
  have hF_9 := hF_7.set 2 (.ref p3) (l' := [(2, .ref p3), (1, .ref p2), (0, .ref p1), (6, .ref q_1), (7, .int 0), (8, .int 0), (9, .int 0), (10, .int 0), (11, .int 0), (12, .long 0), (13, .int 0)]) (by decide) rfl
  generalize fs_8.set 2 (.ref p3) = fs_10 at hP hD hF_9
  have hP : va_P (dC, dI) vwCl [(h0, .inr (3, fs_10))] H := hP
  have hD : va_D A [(h0, .inr (3, fs_10))] := hD
  refine lv_aload_n hx hb dX3_init_29 rfl (lv_at hl 0 rfl) ?_
  refine lv_aload hx hb dX3_init_30 (lv_at hl 5 rfl) ?_
  refine va_putF (D := (dC, dI)) (ci := 3) (v := .ref p4) (ty := (.object "NeedHouse$Needs")) (C := RX3) (T := TX3) (N := 14) hx hb hts hin_X3 tyX3 tyX3_ok nmX3 hown hK hP hD hS 0 rfl rfl 3 (by decide) (hts (.fieldLink RX3 27 "NeedHouse$Machine" "needs" "LNeedHouse$Needs;") (List.mem_of_getElem? (i := 9) rfl)) (fun _ h9 => h9) rfl hin rfl (by decide +kernel) rfl rfl (by rw [hF_9.1]; decide) dX3_init_32 (fun H locs hP hD hS => ?_)
  have hP : va_P (dC, dI) vwCl [(h0, .inr (3, (fs_10.set 3 (.ref p4))))] H := hP
  have hD : va_D A [(h0, .inr (3, (fs_10.set 3 (.ref p4))))] := hD
  have hF_11 := hF_9.set 3 (.ref p4) (l' := [(3, .ref p4), (2, .ref p3), (1, .ref p2), (0, .ref p1), (6, .ref q_1), (7, .int 0), (8, .int 0), (9, .int 0), (10, .int 0), (11, .int 0), (12, .long 0), (13, .int 0)]) (by decide) rfl
  generalize fs_10.set 3 (.ref p4) = fs_12 at hP hD hF_11
  have hP : va_P (dC, dI) vwCl [(h0, .inr (3, fs_12))] H := hP
  have hD : va_D A [(h0, .inr (3, fs_12))] := hD
  refine lv_aload_n hx hb dX3_init_35 rfl (lv_at hl 0 rfl) ?_
  refine va_new (ci := 7) (fs := dfs 22 tyX7) (C := RX7) (T := TX7) (N := 22) hx hb hts hin_X7 tyX7 tyX7_ok hown (hts (.classLink RX3 31 RX7) (List.mem_of_getElem? (i := 10) rfl)) (hts (.instantiable RX7 22) (List.mem_of_getElem? (i := 11) rfl)) (hts (.initialized RX7) (List.mem_of_getElem? (i := 12) rfl)) hK hP hD hS hA rfl dfs_ok (show 1 + 1 ≤ 14 by decide) (show 500 + 22 ≤ 28153 by decide) dX3_init_36 (fun q_13 H hP hD hS => ?_)
  have hP : va_P (dC, dI) vwCl [(h0, .inr (3, fs_12)), (q_13, .inr (7, (dfs 22 tyX7)))] H := hP
  have hD : va_D A [(h0, .inr (3, fs_12)), (q_13, .inr (7, (dfs 22 tyX7)))] := hD
  have hF_14 : hasF (dfs 22 tyX7) 22 [(6, .int 0), (7, .int 0), (10, .int 0), (13, .int 0), (15, .int 0), (19, .int 0), (20, .int 0), (21, .long 0)] := dfs_has (List.forall_mem_cons.mpr ⟨⟨by decide, rfl⟩, List.forall_mem_cons.mpr ⟨⟨by decide, rfl⟩, List.forall_mem_cons.mpr ⟨⟨by decide, rfl⟩, List.forall_mem_cons.mpr ⟨⟨by decide, rfl⟩, List.forall_mem_cons.mpr ⟨⟨by decide, rfl⟩, List.forall_mem_cons.mpr ⟨⟨by decide, rfl⟩, List.forall_mem_cons.mpr ⟨⟨by decide, rfl⟩, List.forall_mem_cons.mpr ⟨⟨by decide, rfl⟩, fun _ h => absurd h List.not_mem_nil⟩⟩⟩⟩⟩⟩⟩⟩)
  generalize dfs 22 tyX7 = fs_15 at hP hD hF_14
  have hP : va_P (dC, dI) vwCl [(h0, .inr (3, fs_12)), (q_13, .inr (7, fs_15))] H := hP
  have hD : va_D A [(h0, .inr (3, fs_12)), (q_13, .inr (7, fs_15))] := hD
  refine W.widen (k := 2) (n := 522) (by decide) (by decide) ?_
  refine lv_dup hx hb dX3_init_39 rfl ?_
  refine lv_aload_n hx hb dX3_init_40 rfl (lv_at hl 2 rfl) ?_
  refine lv_aload_n hx hb dX3_init_41 rfl (lv_at hl 3 rfl) ?_
  refine lv_aload hx hb dX3_init_42 (lv_at hl 4 rfl) ?_
  refine lv_aload hx hb dX3_init_44 (lv_at hl 5 rfl) ?_
  have hPc := hP.sub (ws' := [(q_13, .inr (7, fs_15))]) [1] rfl
  have hDc := hD.sub (ws' := [(q_13, .inr (7, fs_15))]) [1] (by decide) rfl
  have hKc := hK.sub (tys' := [(cI, .int), (cL, .long)]) [0, 1] rfl
  have hFc := va_free (wc := [(q_13, .inr (7, fs_15))]) hD hS hA [1] rfl
  refine va_callv (va_runI (As := [.ref p1, .ref p2, .ref p3, .ref p4]) (rest := [.ref q_13, .ref h0]) ⟨hx, hb, hml, hown, hts⟩ (c_X7_init l dC dI H.size q_13 fs_15 cI cL p1 p2 p3 p4 (hF_14.sub [0, 1, 2, 3, 4, 5, 6, 7] rfl)) (cwI 4 hts g_c_X3_init_c_X7_init_46 rfl rfl rfl (hts (.initialized RX7) (List.mem_of_getElem? (i := 12) rfl)) (hts (.methodLink RX3 33 yX7_init) (List.mem_of_getElem? (i := 30) rfl)) (hts (.instanceMethod yX7_init) (List.mem_of_getElem? (i := 31) rfl)) rfl (by decide +kernel) ⟨Nat.le_of_ble_eq_true rfl, Nat.le_of_ble_eq_true rfl⟩) ⟨fun a U g mk q => by obtain ⟨q0, q1, qP, qK, qD⟩ := q; exact ⟨q0, q1, qP, va_K.moved (u := U) (U := U.calling g mk a) (Vm.Alike.refl U.vm) qK, qD⟩, fun U hU hW => ⟨rfl, by rw [hU], by rw [hU]; exact hPc, va_K.moved hW.alike hKc, hDc.weaken (fun _ _ _ _ => trivial)⟩⟩ rfl rfl hl.1 rfl (lv_room (Nat.le_of_ble_eq_true rfl)) dX3_init_46 ⟨show 2 + 10 ≤ 14 by decide, show 522 + 26628 ≤ 28153 by decide⟩) hS (fun q _ h => hFc q h) hFc (fun u t H1 locs ht hvm hw hB hz1 hk1 hS => ?_)
  obtain ⟨fs1_18, rfl⟩ : ∃ z, z = u := ⟨_, rfl⟩
  obtain ⟨hP1, hK1, hD1⟩ := hB
  rw [ht] at hP1
  have hK1 := va_K.moved hvm.symm hK1
  try dsimp only at hw hP1 hK1 hD1
  have hF_19 := hw
  obtain ⟨hP, hD⟩ := va_join (wr := [(h0, .inr (3, fs_12))]) (w1 := [(q_13, .inr (7, fs1_18))]) hP hD [1] [0] rfl rfl (by decide) (by decide) hk1 hFc hP1 hD1
  generalize H1 = H at hP hS ⊢
  have hK := (hK.sub (tys' := [(cB, .byte)]) [2] rfl).app hK1
  have hK : va_K (dC, dI) vwCl [(cB, .byte), (cI, .int), (cL, .long)] s := hK
  have hP : va_P (dC, dI) vwCl [(h0, .inr (3, fs_12)), (q_13, .inr (7, fs1_18))] H := hP
  have hD : va_D A [(h0, .inr (3, fs_12)), (q_13, .inr (7, fs1_18))] := hD
  refine W.widen (k := 12) (n := 27150) (by decide) (by decide) ?_
  refine va_putF (D := (dC, dI)) (ci := 3) (v := .ref q_13) (ty := (.object "NeedHouse$Store")) (C := RX3) (T := TX3) (N := 14) hx hb hts hin_X3 tyX3 tyX3_ok nmX3 hown hK hP hD hS 0 rfl rfl 4 (by decide) (hts (.fieldLink RX3 36 "NeedHouse$Machine" "store" "LNeedHouse$Store;") (List.mem_of_getElem? (i := 32) rfl)) (fun _ h9 => h9) rfl hin rfl (by decide +kernel) rfl rfl (by rw [hF_11.1]; decide) dX3_init_49 (fun H locs hP hD hS => ?_)
  have hP : va_P (dC, dI) vwCl [(h0, .inr (3, (fs_12.set 4 (.ref q_13)))), (q_13, .inr (7, fs1_18))] H := hP
  have hD : va_D A [(h0, .inr (3, (fs_12.set 4 (.ref q_13)))), (q_13, .inr (7, fs1_18))] := hD
  have hF_20 := hF_11.set 4 (.ref q_13) (l' := [(4, .ref q_13), (3, .ref p4), (2, .ref p3), (1, .ref p2), (0, .ref p1), (6, .ref q_1), (7, .int 0), (8, .int 0), (9, .int 0), (10, .int 0), (11, .int 0), (12, .long 0), (13, .int 0)]) (by decide) rfl
  generalize fs_12.set 4 (.ref q_13) = fs_21 at hP hD hF_20
  have hP : va_P (dC, dI) vwCl [(h0, .inr (3, fs_21)), (q_13, .inr (7, fs1_18))] H := hP
  have hD : va_D A [(h0, .inr (3, fs_21)), (q_13, .inr (7, fs1_18))] := hD
  refine lv_aload_n hx hb dX3_init_52 rfl (lv_at hl 0 rfl) ?_
  refine va_new (ci := 6) (fs := dfs 3 tyX6) (C := RX6) (T := TX6) (N := 3) hx hb hts hin_X6 tyX6 tyX6_ok hown (hts (.classLink RX3 40 RX6) (List.mem_of_getElem? (i := 33) rfl)) (hts (.instantiable RX6 3) (List.mem_of_getElem? (i := 34) rfl)) (hts (.initialized RX6) (List.mem_of_getElem? (i := 35) rfl)) hK hP hD hS hA rfl dfs_ok (show 12 + 1 ≤ 14 by decide) (show 27150 + 3 ≤ 28153 by decide) dX3_init_53 (fun q_22 H hP hD hS => ?_)
  have hP : va_P (dC, dI) vwCl [(h0, .inr (3, fs_21)), (q_13, .inr (7, fs1_18)), (q_22, .inr (6, (dfs 3 tyX6)))] H := hP
  have hD : va_D A [(h0, .inr (3, fs_21)), (q_13, .inr (7, fs1_18)), (q_22, .inr (6, (dfs 3 tyX6)))] := hD
  have hF_23 : hasF (dfs 3 tyX6) 3 [(2, .int 0)] := dfs_has (List.forall_mem_cons.mpr ⟨⟨by decide, rfl⟩, fun _ h => absurd h List.not_mem_nil⟩)
  generalize dfs 3 tyX6 = fs_24 at hP hD hF_23
  have hP : va_P (dC, dI) vwCl [(h0, .inr (3, fs_21)), (q_13, .inr (7, fs1_18)), (q_22, .inr (6, fs_24))] H := hP
  have hD : va_D A [(h0, .inr (3, fs_21)), (q_13, .inr (7, fs1_18)), (q_22, .inr (6, fs_24))] := hD
  refine W.widen (k := 13) (n := 27153) (by decide) (by decide) ?_
  refine lv_dup hx hb dX3_init_56 rfl ?_
  refine lv_aload_n hx hb dX3_init_57 rfl (lv_at hl 1 rfl) ?_
  refine lv_sipush (v := 1000) hx hb dX3_init_58 (by decide) ?_
  have hPc := hP.sub (ws' := [(q_22, .inr (6, fs_24))]) [2] rfl
  have hDc := hD.sub (ws' := [(q_22, .inr (6, fs_24))]) [2] (by decide) rfl
  have hKc := hK.sub (tys' := [(cB, .byte)]) [0] rfl
  have hFc := va_free (wc := [(q_22, .inr (6, fs_24))]) hD hS hA [2] rfl
  refine va_callv (va_runI (As := [.ref p0, .int 1000]) (rest := [.ref q_22, .ref h0]) ⟨hx, hb, hml, hown, hts⟩ (c_X6_init_1000 l dC dI H.size q_22 fs_24 cB p0 (hF_23.sub [0] rfl)) (cwI 2 hts g_c_X3_init_c_X6_init_1000_61 rfl rfl rfl (hts (.initialized RX6) (List.mem_of_getElem? (i := 35) rfl)) (hts (.methodLink RX3 42 yX6_init) (List.mem_of_getElem? (i := 42) rfl)) (hts (.instanceMethod yX6_init) (List.mem_of_getElem? (i := 43) rfl)) rfl (by decide +kernel) ⟨Nat.le_of_ble_eq_true rfl, Nat.le_of_ble_eq_true rfl⟩) ⟨fun a U g mk q => by obtain ⟨q0, q1, qP, qK, qD⟩ := q; exact ⟨q0, q1, qP, va_K.moved (u := U) (U := U.calling g mk a) (Vm.Alike.refl U.vm) qK, qD⟩, fun U hU hW => ⟨rfl, by rw [hU], by rw [hU]; exact hPc, va_K.moved hW.alike hKc, hDc.weaken (fun _ _ _ _ => trivial)⟩⟩ rfl rfl hl.1 rfl (lv_room (Nat.le_of_ble_eq_true rfl)) dX3_init_61 ⟨show 13 + 1 ≤ 14 by decide, show 27153 + 1000 ≤ 28153 by decide⟩) hS (fun q _ h => hFc q h) hFc (fun u t H1 locs ht hvm hw hB hz1 hk1 hS => ?_)
  obtain ⟨fs1_27, rfl⟩ : ∃ z, z = u := ⟨_, rfl⟩
  obtain ⟨hP1, hK1, hD1⟩ := hB
  rw [ht] at hP1
  have hK1 := va_K.moved hvm.symm hK1
  try dsimp only at hw hP1 hK1 hD1
  have hF_28 := hw
  obtain ⟨hP, hD⟩ := va_join (wr := [(h0, .inr (3, fs_21)), (q_13, .inr (7, fs1_18))]) (w1 := [(q_22, .inr (6, fs1_27))]) hP hD [2] [0, 1] rfl rfl (by decide) (by decide) hk1 hFc hP1 hD1
  generalize H1 = H at hP hS ⊢
  have hK := (hK.sub (tys' := [(cI, .int), (cL, .long)]) [1, 2] rfl).app hK1
  have hK : va_K (dC, dI) vwCl [(cI, .int), (cL, .long), (cB, .byte)] s := hK
  have hP : va_P (dC, dI) vwCl [(h0, .inr (3, fs_21)), (q_13, .inr (7, fs1_18)), (q_22, .inr (6, fs1_27))] H := hP
  have hD : va_D A [(h0, .inr (3, fs_21)), (q_13, .inr (7, fs1_18)), (q_22, .inr (6, fs1_27))] := hD
  refine W.widen (k := 14) (n := 28153) (by decide) (by decide) ?_
  refine va_putF (D := (dC, dI)) (ci := 3) (v := .ref q_22) (ty := (.object "NeedHouse$Sheet")) (C := RX3) (T := TX3) (N := 14) hx hb hts hin_X3 tyX3 tyX3_ok nmX3 hown hK hP hD hS 0 rfl rfl 5 (by decide) (hts (.fieldLink RX3 45 "NeedHouse$Machine" "text" "LNeedHouse$Sheet;") (List.mem_of_getElem? (i := 44) rfl)) (fun _ h9 => h9) rfl hin rfl (by decide +kernel) rfl rfl (by rw [hF_20.1]; decide) dX3_init_64 (fun H locs hP hD hS => ?_)
  have hP : va_P (dC, dI) vwCl [(h0, .inr (3, (fs_21.set 5 (.ref q_22)))), (q_13, .inr (7, fs1_18)), (q_22, .inr (6, fs1_27))] H := hP
  have hD : va_D A [(h0, .inr (3, (fs_21.set 5 (.ref q_22)))), (q_13, .inr (7, fs1_18)), (q_22, .inr (6, fs1_27))] := hD
  have hF_29 := hF_20.set 5 (.ref q_22) (l' := [(5, .ref q_22), (4, .ref q_13), (3, .ref p4), (2, .ref p3), (1, .ref p2), (0, .ref p1), (6, .ref q_1), (7, .int 0), (8, .int 0), (9, .int 0), (10, .int 0), (11, .int 0), (12, .long 0), (13, .int 0)]) (by decide) rfl
  generalize fs_21.set 5 (.ref q_22) = fs_30 at hP hD hF_29
  have hP : va_P (dC, dI) vwCl [(h0, .inr (3, fs_30)), (q_13, .inr (7, fs1_18)), (q_22, .inr (6, fs1_27))] H := hP
  have hD : va_D A [(h0, .inr (3, fs_30)), (q_13, .inr (7, fs1_18)), (q_22, .inr (6, fs1_27))] := hD
  have hP9 := hP.sub (ws' := [(h0, .inr (3, fs_30)), (q_22, .inr (6, fs1_27))]) [0, 2] rfl
  have hD9 := hD.sub (ws' := [(h0, .inr (3, fs_30)), (q_22, .inr (6, fs1_27))]) [0, 2] (by decide) rfl
  have hK9 := hK.sub (tys' := [(cI, .int), (cL, .long), (cB, .byte)]) [0, 1, 2] rfl
  exact W.vret hx hb hr (fun t ht hW => ⟨⟨((fs_30, q_22, fs1_27)), rfl, ⟨hF_29.sub [5, 4, 3, 2, 0, 7, 8, 9, 10, 11, 12, 13] rfl, hF_28.sub [0, 1] rfl⟩, by rw [ht]; exact hP9, va_K.moved hW.alike hK9, hD9⟩, hS.F ht⟩) hS.2.2 dX3_init_67
end
section
theorem dX12_init_0 : decode cX12_init 0 = .ok (.aload_n 0, 1) := by decide +kernel
theorem dX12_init_1 : decode cX12_init 1 = .ok (.invokespecial 1, 3) := by decide +kernel
theorem dX12_init_4 : decode cX12_init 4 = .ok (.aload_n 0, 1) := by decide +kernel
theorem dX12_init_5 : decode cX12_init 5 = .ok (.sipush 4000, 3) := by decide +kernel
theorem dX12_init_8 : decode cX12_init 8 = .ok (.newarray .byte, 2) := by decide +kernel
theorem dX12_init_10 : decode cX12_init 10 = .ok (.putfield 9, 3) := by decide +kernel
theorem dX12_init_13 : decode cX12_init 13 = .ok (.aload_n 0, 1) := by decide +kernel
theorem dX12_init_14 : decode cX12_init 14 = .ok (.new 13, 3) := by decide +kernel
theorem dX12_init_17 : decode cX12_init 17 = .ok (.dup, 1) := by decide +kernel
theorem dX12_init_18 : decode cX12_init 18 = .ok (.invokespecial 15, 3) := by decide +kernel
theorem dX12_init_21 : decode cX12_init 21 = .ok (.putfield 16, 3) := by decide +kernel
theorem dX12_init_24 : decode cX12_init 24 = .ok (.aload_n 0, 1) := by decide +kernel
theorem dX12_init_25 : decode cX12_init 25 = .ok (.new 20, 3) := by decide +kernel
theorem dX12_init_28 : decode cX12_init 28 = .ok (.dup, 1) := by decide +kernel
theorem dX12_init_29 : decode cX12_init 29 = .ok (.aload_n 0, 1) := by decide +kernel
theorem dX12_init_30 : decode cX12_init 30 = .ok (.getfield 16, 3) := by decide +kernel
theorem dX12_init_33 : decode cX12_init 33 = .ok (.invokespecial 22, 3) := by decide +kernel
theorem dX12_init_36 : decode cX12_init 36 = .ok (.putfield 25, 3) := by decide +kernel
theorem dX12_init_39 : decode cX12_init 39 = .ok (.aload_n 0, 1) := by decide +kernel
theorem dX12_init_40 : decode cX12_init 40 = .ok (.new 29, 3) := by decide +kernel
theorem dX12_init_43 : decode cX12_init 43 = .ok (.dup, 1) := by decide +kernel
theorem dX12_init_44 : decode cX12_init 44 = .ok (.aload_n 0, 1) := by decide +kernel
theorem dX12_init_45 : decode cX12_init 45 = .ok (.getfield 16, 3) := by decide +kernel
theorem dX12_init_48 : decode cX12_init 48 = .ok (.invokespecial 31, 3) := by decide +kernel
theorem dX12_init_51 : decode cX12_init 51 = .ok (.putfield 32, 3) := by decide +kernel
theorem dX12_init_54 : decode cX12_init 54 = .ok (.aload_n 0, 1) := by decide +kernel
theorem dX12_init_55 : decode cX12_init 55 = .ok (.new 36, 3) := by decide +kernel
theorem dX12_init_58 : decode cX12_init 58 = .ok (.dup, 1) := by decide +kernel
theorem dX12_init_59 : decode cX12_init 59 = .ok (.aload_n 0, 1) := by decide +kernel
theorem dX12_init_60 : decode cX12_init 60 = .ok (.getfield 16, 3) := by decide +kernel
theorem dX12_init_63 : decode cX12_init 63 = .ok (.aload_n 0, 1) := by decide +kernel
theorem dX12_init_64 : decode cX12_init 64 = .ok (.getfield 32, 3) := by decide +kernel
theorem dX12_init_67 : decode cX12_init 67 = .ok (.aload_n 0, 1) := by decide +kernel
theorem dX12_init_68 : decode cX12_init 68 = .ok (.getfield 25, 3) := by decide +kernel
theorem dX12_init_71 : decode cX12_init 71 = .ok (.invokespecial 38, 3) := by decide +kernel
theorem dX12_init_74 : decode cX12_init 74 = .ok (.putfield 41, 3) := by decide +kernel
theorem dX12_init_77 : decode cX12_init 77 = .ok (.aload_n 0, 1) := by decide +kernel
theorem dX12_init_78 : decode cX12_init 78 = .ok (.new 45, 3) := by decide +kernel
theorem dX12_init_81 : decode cX12_init 81 = .ok (.dup, 1) := by decide +kernel
theorem dX12_init_82 : decode cX12_init 82 = .ok (.aload_n 0, 1) := by decide +kernel
theorem dX12_init_83 : decode cX12_init 83 = .ok (.getfield 16, 3) := by decide +kernel
theorem dX12_init_86 : decode cX12_init 86 = .ok (.aload_n 0, 1) := by decide +kernel
theorem dX12_init_87 : decode cX12_init 87 = .ok (.getfield 41, 3) := by decide +kernel
theorem dX12_init_90 : decode cX12_init 90 = .ok (.aload_n 0, 1) := by decide +kernel
theorem dX12_init_91 : decode cX12_init 91 = .ok (.getfield 32, 3) := by decide +kernel
theorem dX12_init_94 : decode cX12_init 94 = .ok (.aload_n 0, 1) := by decide +kernel
theorem dX12_init_95 : decode cX12_init 95 = .ok (.getfield 25, 3) := by decide +kernel
theorem dX12_init_98 : decode cX12_init 98 = .ok (.invokespecial 47, 3) := by decide +kernel
theorem dX12_init_101 : decode cX12_init 101 = .ok (.putfield 50, 3) := by decide +kernel
theorem dX12_init_104 : decode cX12_init 104 = .ok (.aload_n 0, 1) := by decide +kernel
theorem dX12_init_105 : decode cX12_init 105 = .ok (.new 54, 3) := by decide +kernel
theorem dX12_init_108 : decode cX12_init 108 = .ok (.dup, 1) := by decide +kernel
theorem dX12_init_109 : decode cX12_init 109 = .ok (.aload_n 0, 1) := by decide +kernel
theorem dX12_init_110 : decode cX12_init 110 = .ok (.getfield 25, 3) := by decide +kernel
theorem dX12_init_113 : decode cX12_init 113 = .ok (.invokespecial 56, 3) := by decide +kernel
theorem dX12_init_116 : decode cX12_init 116 = .ok (.putfield 59, 3) := by decide +kernel
theorem dX12_init_119 : decode cX12_init 119 = .ok (.aload_n 0, 1) := by decide +kernel
theorem dX12_init_120 : decode cX12_init 120 = .ok (.new 63, 3) := by decide +kernel
theorem dX12_init_123 : decode cX12_init 123 = .ok (.dup, 1) := by decide +kernel
theorem dX12_init_124 : decode cX12_init 124 = .ok (.aload_n 0, 1) := by decide +kernel
theorem dX12_init_125 : decode cX12_init 125 = .ok (.getfield 16, 3) := by decide +kernel
theorem dX12_init_128 : decode cX12_init 128 = .ok (.aload_n 0, 1) := by decide +kernel
theorem dX12_init_129 : decode cX12_init 129 = .ok (.getfield 41, 3) := by decide +kernel
theorem dX12_init_132 : decode cX12_init 132 = .ok (.aload_n 0, 1) := by decide +kernel
theorem dX12_init_133 : decode cX12_init 133 = .ok (.getfield 32, 3) := by decide +kernel
theorem dX12_init_136 : decode cX12_init 136 = .ok (.aload_n 0, 1) := by decide +kernel
theorem dX12_init_137 : decode cX12_init 137 = .ok (.getfield 59, 3) := by decide +kernel
theorem dX12_init_140 : decode cX12_init 140 = .ok (.invokespecial 65, 3) := by decide +kernel
theorem dX12_init_143 : decode cX12_init 143 = .ok (.putfield 68, 3) := by decide +kernel
theorem dX12_init_146 : decode cX12_init 146 = .ok (.aload_n 0, 1) := by decide +kernel
theorem dX12_init_147 : decode cX12_init 147 = .ok (.new 72, 3) := by decide +kernel
theorem dX12_init_150 : decode cX12_init 150 = .ok (.dup, 1) := by decide +kernel
theorem dX12_init_151 : decode cX12_init 151 = .ok (.aload_n 0, 1) := by decide +kernel
theorem dX12_init_152 : decode cX12_init 152 = .ok (.getfield 41, 3) := by decide +kernel
theorem dX12_init_155 : decode cX12_init 155 = .ok (.aload_n 0, 1) := by decide +kernel
theorem dX12_init_156 : decode cX12_init 156 = .ok (.getfield 32, 3) := by decide +kernel
theorem dX12_init_159 : decode cX12_init 159 = .ok (.invokespecial 74, 3) := by decide +kernel
theorem dX12_init_162 : decode cX12_init 162 = .ok (.putfield 77, 3) := by decide +kernel
theorem dX12_init_165 : decode cX12_init 165 = .ok (.aload_n 0, 1) := by decide +kernel
theorem dX12_init_166 : decode cX12_init 166 = .ok (.new 81, 3) := by decide +kernel
theorem dX12_init_169 : decode cX12_init 169 = .ok (.dup, 1) := by decide +kernel
theorem dX12_init_170 : decode cX12_init 170 = .ok (.aload_n 0, 1) := by decide +kernel
theorem dX12_init_171 : decode cX12_init 171 = .ok (.getfield 16, 3) := by decide +kernel
theorem dX12_init_174 : decode cX12_init 174 = .ok (.aload_n 0, 1) := by decide +kernel
theorem dX12_init_175 : decode cX12_init 175 = .ok (.getfield 41, 3) := by decide +kernel
theorem dX12_init_178 : decode cX12_init 178 = .ok (.aload_n 0, 1) := by decide +kernel
theorem dX12_init_179 : decode cX12_init 179 = .ok (.getfield 32, 3) := by decide +kernel
theorem dX12_init_182 : decode cX12_init 182 = .ok (.aload_n 0, 1) := by decide +kernel
theorem dX12_init_183 : decode cX12_init 183 = .ok (.getfield 25, 3) := by decide +kernel
theorem dX12_init_186 : decode cX12_init 186 = .ok (.aload_n 0, 1) := by decide +kernel
theorem dX12_init_187 : decode cX12_init 187 = .ok (.getfield 77, 3) := by decide +kernel
theorem dX12_init_190 : decode cX12_init 190 = .ok (.invokespecial 83, 3) := by decide +kernel
theorem dX12_init_193 : decode cX12_init 193 = .ok (.putfield 86, 3) := by decide +kernel
theorem dX12_init_196 : decode cX12_init 196 = .ok (.aload_n 0, 1) := by decide +kernel
theorem dX12_init_197 : decode cX12_init 197 = .ok (.new 90, 3) := by decide +kernel
theorem dX12_init_200 : decode cX12_init 200 = .ok (.dup, 1) := by decide +kernel
theorem dX12_init_201 : decode cX12_init 201 = .ok (.aload_n 0, 1) := by decide +kernel
theorem dX12_init_202 : decode cX12_init 202 = .ok (.getfield 16, 3) := by decide +kernel
theorem dX12_init_205 : decode cX12_init 205 = .ok (.sipush 1200, 3) := by decide +kernel
theorem dX12_init_208 : decode cX12_init 208 = .ok (.invokespecial 92, 3) := by decide +kernel
theorem dX12_init_211 : decode cX12_init 211 = .ok (.putfield 95, 3) := by decide +kernel
theorem dX12_init_214 : decode cX12_init 214 = .ok (.aload_n 0, 1) := by decide +kernel
theorem dX12_init_215 : decode cX12_init 215 = .ok (.iconst 0, 1) := by decide +kernel
theorem dX12_init_216 : decode cX12_init 216 = .ok (.putfield 99, 3) := by decide +kernel
theorem dX12_init_219 : decode cX12_init 219 = .ok (.aload_n 0, 1) := by decide +kernel
theorem dX12_init_220 : decode cX12_init 220 = .ok (.iconst (-1), 1) := by decide +kernel
theorem dX12_init_221 : decode cX12_init 221 = .ok (.putfield 103, 3) := by decide +kernel
theorem dX12_init_224 : decode cX12_init 224 = .ok (.aload_n 0, 1) := by decide +kernel
theorem dX12_init_225 : decode cX12_init 225 = .ok (.iconst 0, 1) := by decide +kernel
theorem dX12_init_226 : decode cX12_init 226 = .ok (.putfield 106, 3) := by decide +kernel
theorem dX12_init_229 : decode cX12_init 229 = .ok (.return_, 1) := by decide +kernel
def pw_c_X12_init : List Cond := .code yX12_init cX12_init 1 none :: ([.code objectInit ⟨#[0xb1]⟩ 1 none, .methodLink RX12 1 objectInit, .instanceMethod objectInit, .arrayClass .byte, .fieldLink RX12 9 "NeedHouse" "tape" "[B", .classLink RX12 13 RX2, .instantiable RX2 12, .initialized RX2, .code yX2_init cX2_init 1 none, .methodLink RX2 5 objectInit, .arrayClass .int, .fieldLink RX2 11 "NeedHouse$Lexemes" "kind" "[I", .fieldLink RX2 15 "NeedHouse$Lexemes" "line" "[I", .fieldLink RX2 18 "NeedHouse$Lexemes" "column" "[I", .fieldLink RX2 21 "NeedHouse$Lexemes" "value" "[I", .arrayClass .long, .fieldLink RX2 24 "NeedHouse$Lexemes" "head" "[J", .fieldLink RX2 28 "NeedHouse$Lexemes" "tail" "[J", .fieldLink RX2 31 "NeedHouse$Lexemes" "table" "[I", .instanceMethod yX2_init, .fieldLink RX12 16 "NeedHouse" "lexemes" "LNeedHouse$Lexemes;", .classLink RX12 20 RX0, .instantiable RX0 20, .initialized RX0, .code yX0_init cX0_init 2 none, .methodLink RX0 3 objectInit, .fieldLink RX0 11 "NeedHouse$Datas" "dataToken" "[I", .fieldLink RX0 15 "NeedHouse$Datas" "firstName" "[I", .fieldLink RX0 18 "NeedHouse$Datas" "nameCount" "[I", .fieldLink RX0 21 "NeedHouse$Datas" "nameToken" "[I", .fieldLink RX0 24 "NeedHouse$Datas" "conToken" "[I", .fieldLink RX0 27 "NeedHouse$Datas" "conData" "[I", .fieldLink RX0 30 "NeedHouse$Datas" "conFields" "[I", .fieldLink RX0 33 "NeedHouse$Datas" "conCode" "[I", .fieldLink RX0 36 "NeedHouse$Datas" "conCodes" "[I", .fieldLink RX0 39 "NeedHouse$Datas" "code" "[I", .fieldLink RX0 42 "NeedHouse$Datas" "codeToken" "[I", .fieldLink RX0 45 "NeedHouse$Datas" "codeParts" "[I", .fieldLink RX0 50 "NeedHouse$Datas" "typeOf" "[I", .fieldLink RX0 53 "NeedHouse$Datas" "conOf" "[I", .fieldLink RX0 56 "NeedHouse$Datas" "mark" "[I", .fieldLink RX0 59 "NeedHouse$Datas" "lexemes" "LNeedHouse$Lexemes;", .fieldLink RX0 63 "NeedHouse$Datas" "cons" "I", .methodLink RX12 22 yX0_init, .instanceMethod yX0_init, .fieldLink RX12 25 "NeedHouse" "datas" "LNeedHouse$Datas;", .classLink RX12 29 RX8, .instantiable RX8 18, .initialized RX8, .code yX8_init cX8_init 2 none, .methodLink RX8 3 objectInit, .fieldLink RX8 11 "NeedHouse$Told" "symbol" "[I", .fieldLink RX8 15 "NeedHouse$Told" "token" "[I", .fieldLink RX8 18 "NeedHouse$Told" "scope" "[I", .fieldLink RX8 21 "NeedHouse$Told" "place" "[I", .fieldLink RX8 24 "NeedHouse$Told" "next" "[I", .fieldLink RX8 27 "NeedHouse$Told" "row" "[I", .fieldLink RX8 30 "NeedHouse$Told" "body" "[I", .fieldLink RX8 33 "NeedHouse$Told" "maker" "[I", .fieldLink RX8 36 "NeedHouse$Told" "parent" "[I", .fieldLink RX8 39 "NeedHouse$Told" "owner" "[I", .fieldLink RX8 42 "NeedHouse$Told" "first" "[I", .fieldLink RX8 45 "NeedHouse$Told" "last" "[I", .fieldLink RX8 48 "NeedHouse$Told" "width" "[I", .fieldLink RX8 51 "NeedHouse$Told" "globals" "[I", .fieldLink RX8 56 "NeedHouse$Told" "mark" "[I", .fieldLink RX8 59 "NeedHouse$Told" "lexemes" "LNeedHouse$Lexemes;", .methodLink RX12 31 yX8_init, .instanceMethod yX8_init, .fieldLink RX12 32 "NeedHouse" "told" "LNeedHouse$Told;", .classLink RX12 36 RX9, .instantiable RX9 20, .initialized RX9, .code yX9_init cX9_init 4 none, .methodLink RX9 5 objectInit, .fieldLink RX9 13 "NeedHouse$Tree" "kind" "[I", .fieldLink RX9 17 "NeedHouse$Tree" "first" "[I", .fieldLink RX9 20 "NeedHouse$Tree" "a" "[I", .fieldLink RX9 23 "NeedHouse$Tree" "b" "[I", .fieldLink RX9 26 "NeedHouse$Tree" "c" "[I", .fieldLink RX9 29 "NeedHouse$Tree" "part" "[I", .fieldLink RX9 32 "NeedHouse$Tree" "partOwner" "[I", .fieldLink RX9 35 "NeedHouse$Tree" "itemKind" "[I", .fieldLink RX9 38 "NeedHouse$Tree" "itemToken" "[I", .fieldLink RX9 41 "NeedHouse$Tree" "itemWant" "[I", .fieldLink RX9 44 "NeedHouse$Tree" "itemRow" "[I", .fieldLink RX9 47 "NeedHouse$Tree" "itemBody" "[I", .fieldLink RX9 50 "NeedHouse$Tree" "itemNext" "[I", .fieldLink RX9 53 "NeedHouse$Tree" "itemOwner" "[I", .fieldLink RX9 56 "NeedHouse$Tree" "lexemes" "LNeedHouse$Lexemes;", .fieldLink RX9 60 "NeedHouse$Tree" "told" "LNeedHouse$Told;", .fieldLink RX9 64 "NeedHouse$Tree" "datas" "LNeedHouse$Datas;", .methodLink RX12 38 yX9_init, .instanceMethod yX9_init, .fieldLink RX12 41 "NeedHouse" "tree" "LNeedHouse$Tree;", .classLink RX12 45 RX5, .instantiable RX5 10, .initialized RX5, .code yX5_init cX5_init 5 none, .methodLink RX5 3 objectInit, .fieldLink RX5 11 "NeedHouse$Parser" "held" "[I", .fieldLink RX5 17 "NeedHouse$Parser" "signs" "[I", .fieldLink RX5 20 "NeedHouse$Parser" "operands" "[I", .fieldLink RX5 23 "NeedHouse$Parser" "lexemes" "LNeedHouse$Lexemes;", .fieldLink RX5 27 "NeedHouse$Parser" "tree" "LNeedHouse$Tree;", .fieldLink RX5 31 "NeedHouse$Parser" "told" "LNeedHouse$Told;", .fieldLink RX5 35 "NeedHouse$Parser" "datas" "LNeedHouse$Datas;", .classLink RX5 39 RX1, .instantiable RX1 9, .initialized RX1, .code yX1_init cX1_init 2 none, .methodLink RX1 5 objectInit, .fieldLink RX1 13 "NeedHouse$Layout" "stack" "[I", .fieldLink RX1 17 "NeedHouse$Layout" "lexemes" "LNeedHouse$Lexemes;", .methodLink RX5 41 yX1_init, .instanceMethod yX1_init, .fieldLink RX5 44 "NeedHouse$Parser" "layout" "LNeedHouse$Layout;", .methodLink RX12 47 yX5_init, .instanceMethod yX5_init, .fieldLink RX12 50 "NeedHouse" "parser" "LNeedHouse$Parser;", .classLink RX12 54 RX11, .instantiable RX11 18, .initialized RX11, .code yX11_init cX11_init 2 none, .methodLink RX11 9 objectInit, .fieldLink RX11 15 "NeedHouse$Types" "kind" "[B", .fieldLink RX11 19 "NeedHouse$Types" "info" "[I", .fieldLink RX11 23 "NeedHouse$Types" "stamp" "[I", .fieldLink RX11 26 "NeedHouse$Types" "parts" "[I", .fieldLink RX11 29 "NeedHouse$Types" "pairs" "[I", .fieldLink RX11 32 "NeedHouse$Types" "walk" "[I", .fieldLink RX11 35 "NeedHouse$Types" "codes" "[I", .fieldLink RX11 38 "NeedHouse$Types" "codeSize" "[I", .fieldLink RX11 41 "NeedHouse$Types" "free" "[I", .fieldLink RX11 44 "NeedHouse$Types" "around" "[I", .fieldLink RX11 47 "NeedHouse$Types" "datas" "LNeedHouse$Datas;", .methodLink RX12 56 yX11_init, .instanceMethod yX11_init, .fieldLink RX12 59 "NeedHouse" "types" "LNeedHouse$Types;", .classLink RX12 63 RX10, .instantiable RX10 17, .initialized RX10, .code yX10_init cX10_init 5 none, .methodLink RX10 3 objectInit, .fieldLink RX10 11 "NeedHouse$Typer" "work" "[I", .fieldLink RX10 17 "NeedHouse$Typer" "typeOf" "[I", .fieldLink RX10 22 "NeedHouse$Typer" "nameType" "[I", .fieldLink RX10 25 "NeedHouse$Typer" "settled" "[I", .fieldLink RX10 28 "NeedHouse$Typer" "uses" "[J", .fieldLink RX10 32 "NeedHouse$Typer" "numberOf" "[I", .fieldLink RX10 35 "NeedHouse$Typer" "firstGroup" "[I", .fieldLink RX10 38 "NeedHouse$Typer" "groupsOf" "[I", .fieldLink RX10 41 "NeedHouse$Typer" "groupStart" "[I", .fieldLink RX10 44 "NeedHouse$Typer" "members" "[I", .fieldLink RX10 47 "NeedHouse$Typer" "lexemes" "LNeedHouse$Lexemes;", .fieldLink RX10 51 "NeedHouse$Typer" "tree" "LNeedHouse$Tree;", .fieldLink RX10 55 "NeedHouse$Typer" "told" "LNeedHouse$Told;", .fieldLink RX10 59 "NeedHouse$Typer" "types" "LNeedHouse$Types;", .methodLink RX12 65 yX10_init, .instanceMethod yX10_init, .fieldLink RX12 68 "NeedHouse" "typer" "LNeedHouse$Typer;", .classLink RX12 72 RX4, .instantiable RX4 13, .initialized RX4, .code yX4_init cX4_init 3 none, .methodLink RX4 3 objectInit, .fieldLink RX4 11 "NeedHouse$Needs" "free" "[J", .fieldLink RX4 15 "NeedHouse$Needs" "need" "[J", .fieldLink RX4 18 "NeedHouse$Needs" "strictOnes" "[J", .fieldLink RX4 21 "NeedHouse$Needs" "freeFrom" "[I", .fieldLink RX4 25 "NeedHouse$Needs" "freeMany" "[I", .fieldLink RX4 28 "NeedHouse$Needs" "freeName" "[I", .fieldLink RX4 31 "NeedHouse$Needs" "cells" "[I", .fieldLink RX4 34 "NeedHouse$Needs" "thunks" "[I", .fieldLink RX4 37 "NeedHouse$Needs" "madeCells" "[I", .fieldLink RX4 40 "NeedHouse$Needs" "madeThunks" "[I", .fieldLink RX4 43 "NeedHouse$Needs" "tree" "LNeedHouse$Tree;", .fieldLink RX4 47 "NeedHouse$Needs" "told" "LNeedHouse$Told;", .methodLink RX12 74 yX4_init, .instanceMethod yX4_init, .fieldLink RX12 77 "NeedHouse" "needs" "LNeedHouse$Needs;", .classLink RX12 81 RX3, .instantiable RX3 14, .initialized RX3, .code yX3_init cX3_init 6 none, .methodLink RX3 3 objectInit, .fieldLink RX3 11 "NeedHouse$Machine" "output" "[I", .fieldLink RX3 15 "NeedHouse$Machine" "tree" "LNeedHouse$Tree;", .fieldLink RX3 19 "NeedHouse$Machine" "told" "LNeedHouse$Told;", .fieldLink RX3 23 "NeedHouse$Machine" "datas" "LNeedHouse$Datas;", .fieldLink RX3 27 "NeedHouse$Machine" "needs" "LNeedHouse$Needs;", .classLink RX3 31 RX7, .instantiable RX7 22, .initialized RX7, .code yX7_init cX7_init 5 none, .methodLink RX7 3 objectInit, .fieldLink RX7 11 "NeedHouse$Store" "heap" "[J", .fieldLink RX7 15 "NeedHouse$Store" "spare" "[J", .fieldLink RX7 20 "NeedHouse$Store" "variable" "[J", .fieldLink RX7 23 "NeedHouse$Store" "argument" "[J", .fieldLink RX7 26 "NeedHouse$Store" "frame" "[I", .fieldLink RX7 30 "NeedHouse$Store" "frameFrom" "[I", .fieldLink RX7 33 "NeedHouse$Store" "saved" "[J", .fieldLink RX7 36 "NeedHouse$Store" "globalState" "[I", .fieldLink RX7 39 "NeedHouse$Store" "globalValue" "[J", .fieldLink RX7 42 "NeedHouse$Store" "unfilled" "[I", .fieldLink RX7 45 "NeedHouse$Store" "tree" "LNeedHouse$Tree;", .fieldLink RX7 49 "NeedHouse$Store" "told" "LNeedHouse$Told;", .fieldLink RX7 53 "NeedHouse$Store" "datas" "LNeedHouse$Datas;", .fieldLink RX7 57 "NeedHouse$Store" "needs" "LNeedHouse$Needs;", .methodLink RX3 33 yX7_init, .instanceMethod yX7_init, .fieldLink RX3 36 "NeedHouse$Machine" "store" "LNeedHouse$Store;", .classLink RX3 40 RX6, .instantiable RX6 3, .initialized RX6, .code yX6_init cX6_init 3 none, .methodLink RX6 3 objectInit, .fieldLink RX6 9 "NeedHouse$Sheet" "lexemes" "LNeedHouse$Lexemes;", .fieldLink RX6 15 "NeedHouse$Sheet" "row" "[B", .fieldLink RX6 19 "NeedHouse$Sheet" "size" "I", .methodLink RX3 42 yX6_init, .instanceMethod yX6_init, .fieldLink RX3 45 "NeedHouse$Machine" "text" "LNeedHouse$Sheet;", .methodLink RX12 83 yX3_init, .instanceMethod yX3_init, .fieldLink RX12 86 "NeedHouse" "machine" "LNeedHouse$Machine;", .classLink RX12 90 RX6, .methodLink RX12 92 yX6_init, .fieldLink RX12 95 "NeedHouse" "signs" "LNeedHouse$Sheet;", .fieldLink RX12 99 "NeedHouse" "length" "I", .fieldLink RX12 103 "NeedHouse" "signsOf" "I", .fieldLink RX12 106 "NeedHouse" "ready" "Z"] ++ (wsX120 ++ (wsX20 ++ (wsX00 ++ (wsX80 ++ (wsX90 ++ (wsX50 ++ (wsX10 ++ (wsX110 ++ (wsX100 ++ (wsX40 ++ (wsX30 ++ (wsX70 ++ (wsX60 ++ []))))))))))))))
set_option maxRecDepth 20000 in
theorem g_c_X12_init_c_X2_init_18 : GoodIn pw_c_X12_init (pw_c_X2_init) := goodIn_r _ [9, 1, 10, 3, 11, 12, 13, 14, 15, 16, 17, 18, 19, 248, 249, 250, 251, 252, 253, 254, 255, 256, 257, 258, 259] rfl (by decide +kernel)
set_option maxRecDepth 20000 in
theorem g_c_X12_init_c_X0_init_33 : GoodIn pw_c_X12_init (pw_c_X0_init) := goodIn_r _ [25, 1, 26, 3, 11, 27, 28, 29, 30, 31, 32, 33, 34, 35, 36, 37, 38, 39, 40, 41, 42, 43, 260, 261, 262, 263, 264, 265, 266, 267, 268, 269, 270, 271, 272, 273, 274, 275, 276, 277, 278, 279] rfl (by decide +kernel)
set_option maxRecDepth 20000 in
theorem g_c_X12_init_c_X8_init_48 : GoodIn pw_c_X12_init (pw_c_X8_init) := goodIn_r _ [50, 1, 51, 3, 11, 52, 53, 54, 55, 56, 57, 58, 59, 60, 61, 62, 63, 64, 65, 66, 67, 280, 281, 282, 283, 284, 285, 286, 287, 288, 289, 290, 291, 292, 293, 294, 295, 296, 297] rfl (by decide +kernel)
set_option maxRecDepth 20000 in
theorem g_c_X12_init_c_X9_init_71 : GoodIn pw_c_X12_init (pw_c_X9_init) := goodIn_r _ [74, 1, 75, 3, 11, 76, 77, 78, 79, 80, 81, 82, 83, 84, 85, 86, 87, 88, 89, 90, 91, 92, 298, 299, 300, 301, 302, 303, 304, 305, 306, 307, 308, 309, 310, 311, 312, 313, 314, 315, 316, 317] rfl (by decide +kernel)
set_option maxRecDepth 20000 in
theorem g_c_X12_init_c_X5_init_98 : GoodIn pw_c_X12_init (pw_c_X5_init) := goodIn_r _ [99, 1, 100, 3, 11, 101, 102, 103, 104, 105, 106, 107, 108, 109, 110, 111, 112, 113, 114, 115, 116, 117, 318, 319, 320, 321, 322, 323, 324, 325, 326, 327, 328, 329, 330, 331, 332, 333, 334, 335, 336] rfl (by decide +kernel)
set_option maxRecDepth 20000 in
theorem g_c_X12_init_c_X11_init_113 : GoodIn pw_c_X12_init (pw_c_X11_init) := goodIn_r _ [124, 1, 125, 3, 4, 126, 11, 127, 128, 129, 130, 131, 132, 133, 134, 135, 136, 337, 338, 339, 340, 341, 342, 343, 344, 345, 346, 347, 348, 349, 350, 351, 352, 353, 354] rfl (by decide +kernel)
set_option maxRecDepth 20000 in
theorem g_c_X12_init_c_X10_init_140 : GoodIn pw_c_X12_init (pw_c_X10_init) := goodIn_r _ [143, 1, 144, 3, 11, 145, 146, 147, 148, 16, 149, 150, 151, 152, 153, 154, 155, 156, 157, 158, 355, 356, 357, 358, 359, 360, 361, 362, 363, 364, 365, 366, 367, 368, 369, 370, 371] rfl (by decide +kernel)
set_option maxRecDepth 20000 in
theorem g_c_X12_init_c_X4_init_159 : GoodIn pw_c_X12_init (pw_c_X4_init) := goodIn_r _ [165, 1, 166, 3, 16, 167, 168, 169, 11, 170, 171, 172, 173, 174, 175, 176, 177, 178, 372, 373, 374, 375, 376, 377, 378, 379, 380, 381, 382, 383, 384] rfl (by decide +kernel)
set_option maxRecDepth 20000 in
theorem g_c_X12_init_c_X3_init_190 : GoodIn pw_c_X12_init (pw_c_X3_init) := goodIn_r _ [185, 1, 186, 3, 11, 187, 188, 189, 190, 191, 192, 193, 194, 195, 196, 16, 197, 198, 199, 200, 201, 202, 203, 204, 205, 206, 207, 208, 209, 210, 211, 212, 213, 214, 215, 216, 217, 218, 219, 4, 220, 221, 222, 223, 224, 385, 386, 387, 388, 389, 390, 391, 392, 393, 394, 395, 396, 397, 398, 399, 400, 401, 402, 403, 404, 405, 406, 407, 408, 409, 410, 411, 412, 413, 414, 415, 416, 417, 418, 419, 420, 421, 422, 423] rfl (by decide +kernel)
set_option maxRecDepth 20000 in
theorem g_c_X12_init_c_X6_init_1200_208 : GoodIn pw_c_X12_init (pw_c_X6_init_1200) := goodIn_r _ [217, 1, 218, 3, 219, 4, 220, 221, 421, 422, 423] rfl (by decide +kernel)
set_option maxHeartbeats 4000000 in
set_option maxRecDepth 100000 in
theorem c_X12_init (l : Launch) (dC : Nat → ClassId) (dI : Nat → Nat → Nat) (sz : Nat) (h0 : Nat) (fs : List Value) (cI : ClassId) (cL : ClassId) (cB : ClassId) (hF : hasF fs 14 [(11, .int 0), (12, .int 0), (13, .int 0)]) : Met l yX12_init pw_c_X12_init ({ frames := 3, cells := 112, slots := 370249, locals := 61 }) (va_Pc [.ref h0] (fun U => U.heap.size = sz ∧ va_P (dC, dI) vwCl [(h0, .inr (12, fs))] U.heap ∧ va_K (dC, dI) vwCl [(cI, .int), (cL, .long), (cB, .byte)] U ∧ va_D (fun _ => True) [(h0, .inr (12, fs))] ∧ va_Nw (.methodLinkNest RX12 15 yX2_init RX12) U)) (va_Qv (fun (u : (List Value) × (Nat) × (Nat) × (List Value) × (Nat) × (Nat) × (Nat) × (Nat) × (Nat) × (Nat) × (Nat) × (Nat) × (List Value) × (Nat) × (Nat) × (Nat) × (Nat) × (List Value) × (Nat) × (Nat) × (Nat) × (Nat) × (Nat) × (Nat) × (Nat) × (List Value) × (Nat) × (List Value) × (Nat) × (List Value) × (Nat) × (Nat) × (List Value) × (Nat) × (List Value)) => hasF u.1 14 [(0, .ref u.2.1), (1, .ref u.2.2.1), (2, .ref u.2.2.2.2.2.2.2.2.2.2.2.1), (3, .ref u.2.2.2.2.2.2.2.2.2.2.2.2.2.2.2.2.1), (4, .ref u.2.2.2.2.2.2.2.2.2.2.2.2.2.2.2.2.2.2.2.2.2.2.2.2.1), (5, .ref u.2.2.2.2.2.2.2.2.2.2.2.2.2.2.2.2.2.2.2.2.2.2.2.2.2.2.1), (9, .ref u.2.2.2.2.2.2.2.2.2.2.2.2.2.2.2.2.2.2.2.2.2.2.2.2.2.2.2.2.2.2.2.1), (11, .int 0), (12, .int (-1)), (13, .int 0)] ∧ hasF u.2.2.2.1 12 [(0, .ref u.2.2.2.2.1), (1, .ref u.2.2.2.2.2.1), (2, .ref u.2.2.2.2.2.2.1), (3, .ref u.2.2.2.2.2.2.2.1), (4, .ref u.2.2.2.2.2.2.2.2.1), (5, .ref u.2.2.2.2.2.2.2.2.2.1), (6, .ref u.2.2.2.2.2.2.2.2.2.2.1), (7, .int 0), (8, .int 0), (9, .int 0), (10, .int 0), (11, .int 0)] ∧ hasF u.2.2.2.2.2.2.2.2.2.2.2.2.1 20 [(0, .ref u.2.2.1), (13, .ref u.2.2.2.2.2.2.2.2.2.2.2.2.2.1), (14, .ref u.2.2.2.2.2.2.2.2.2.2.2.2.2.2.1), (15, .ref u.2.2.2.2.2.2.2.2.2.2.2.2.2.2.2.1), (16, .int 0), (17, .int 5), (18, .int 0), (19, .int 0)] ∧ hasF u.2.2.2.2.2.2.2.2.2.2.2.2.2.2.2.2.2.1 18 [(0, .ref u.2.2.1), (9, .ref u.2.2.2.2.2.2.2.2.2.2.2.2.2.2.2.2.2.2.1), (10, .ref u.2.2.2.2.2.2.2.2.2.2.2.2.2.2.2.2.2.2.2.1), (11, .ref u.2.2.2.2.2.2.2.2.2.2.2.2.2.2.2.2.2.2.2.2.1), (12, .ref u.2.2.2.2.2.2.2.2.2.2.2.2.2.2.2.2.2.2.2.2.2.1), (13, .ref u.2.2.2.2.2.2.2.2.2.2.2.2.2.2.2.2.2.2.2.2.2.2.1), (15, .ref u.2.2.2.2.2.2.2.2.2.2.2.2.2.2.2.2.2.2.2.2.2.2.2.1), (16, .int 0), (17, .int 0)] ∧ hasF u.2.2.2.2.2.2.2.2.2.2.2.2.2.2.2.2.2.2.2.2.2.2.2.2.2.1 20 [(0, .ref u.2.2.1), (1, .ref u.2.2.2.2.2.2.2.2.2.2.2.2.2.2.2.2.1), (2, .ref u.2.2.2.2.2.2.2.2.2.2.2.1), (17, .int 0), (18, .int 0), (19, .int 0)] ∧ hasF u.2.2.2.2.2.2.2.2.2.2.2.2.2.2.2.2.2.2.2.2.2.2.2.2.2.2.2.1 10 [(0, .ref u.2.2.1), (1, .ref u.2.2.2.2.2.2.2.2.2.2.2.2.2.2.2.2.2.2.2.2.2.2.2.2.2.2.2.2.1), (2, .ref u.2.2.2.2.2.2.2.2.2.2.2.2.2.2.2.2.2.2.2.2.2.2.2.2.1), (3, .ref u.2.2.2.2.2.2.2.2.2.2.2.2.2.2.2.2.1), (4, .ref u.2.2.2.2.2.2.2.2.2.2.2.1), (8, .int 0), (9, .int 0)] ∧ hasF u.2.2.2.2.2.2.2.2.2.2.2.2.2.2.2.2.2.2.2.2.2.2.2.2.2.2.2.2.2.1 9 [(0, .ref u.2.2.1), (1, .ref u.2.2.2.2.2.2.2.2.2.2.2.2.2.2.2.2.2.2.2.2.2.2.2.2.2.2.2.2.2.2.1), (2, .int 0), (3, .int 0), (4, .int 0), (5, .int 0), (6, .int 0), (7, .int 0), (8, .int 0)] ∧ hasF u.2.2.2.2.2.2.2.2.2.2.2.2.2.2.2.2.2.2.2.2.2.2.2.2.2.2.2.2.2.2.2.2.1 14 [(0, .ref u.2.2.2.2.2.2.2.2.2.2.2.2.2.2.2.2.2.2.2.2.2.2.2.2.1), (1, .ref u.2.2.2.2.2.2.2.2.2.2.2.2.2.2.2.2.1), (2, .ref u.2.2.2.2.2.2.2.2.2.2.2.1), (5, .ref u.2.2.2.2.2.2.2.2.2.2.2.2.2.2.2.2.2.2.2.2.2.2.2.2.2.2.2.2.2.2.2.2.2.1), (7, .int 0), (8, .int 0), (9, .int 0), (10, .int 0), (11, .int 0), (12, .long 0), (13, .int 0)] ∧ hasF u.2.2.2.2.2.2.2.2.2.2.2.2.2.2.2.2.2.2.2.2.2.2.2.2.2.2.2.2.2.2.2.2.2.2 3 [(0, .ref u.2.2.1), (2, .int 0)]) (fun (u : (List Value) × (Nat) × (Nat) × (List Value) × (Nat) × (Nat) × (Nat) × (Nat) × (Nat) × (Nat) × (Nat) × (Nat) × (List Value) × (Nat) × (Nat) × (Nat) × (Nat) × (List Value) × (Nat) × (Nat) × (Nat) × (Nat) × (Nat) × (Nat) × (Nat) × (List Value) × (Nat) × (List Value) × (Nat) × (List Value) × (Nat) × (Nat) × (List Value) × (Nat) × (List Value)) (t : State) => va_P (dC, dI) vwCl [(h0, .inr (12, u.1)), (u.2.1, .inl (cB, 4000, .inl (fun _ => 0))), (u.2.2.1, .inr (2, u.2.2.2.1)), (u.2.2.2.2.1, .inl (cI, 4004, .inl (fun _ => 0))), (u.2.2.2.2.2.1, .inl (cI, 4004, .inl (fun _ => 0))), (u.2.2.2.2.2.2.1, .inl (cI, 4004, .inl (fun _ => 0))), (u.2.2.2.2.2.2.2.1, .inl (cI, 4004, .inl (fun _ => 0))), (u.2.2.2.2.2.2.2.2.1, .inl (cL, 2100, .inr (.inl (fun _ => 0)))), (u.2.2.2.2.2.2.2.2.2.1, .inl (cL, 2100, .inr (.inl (fun _ => 0)))), (u.2.2.2.2.2.2.2.2.2.2.1, .inl (cI, 8192, .inl (fun _ => 0))), (u.2.2.2.2.2.2.2.2.2.2.2.1, .inr (0, u.2.2.2.2.2.2.2.2.2.2.2.2.1)), (u.2.2.2.2.2.2.2.2.2.2.2.2.2.1, .inl (cI, 2100, .inl (fun _ => 0))), (u.2.2.2.2.2.2.2.2.2.2.2.2.2.2.1, .inl (cI, 2100, .inl (fun _ => 0))), (u.2.2.2.2.2.2.2.2.2.2.2.2.2.2.2.1, .inl (cI, 2100, .inl (fun _ => 0))), (u.2.2.2.2.2.2.2.2.2.2.2.2.2.2.2.2.1, .inr (8, u.2.2.2.2.2.2.2.2.2.2.2.2.2.2.2.2.2.1)), (u.2.2.2.2.2.2.2.2.2.2.2.2.2.2.2.2.2.2.1, .inl (cI, 2100, .inl (fun _ => 0))), (u.2.2.2.2.2.2.2.2.2.2.2.2.2.2.2.2.2.2.2.1, .inl (cI, 2100, .inl (fun _ => 0))), (u.2.2.2.2.2.2.2.2.2.2.2.2.2.2.2.2.2.2.2.2.1, .inl (cI, 2100, .inl (fun _ => 0))), (u.2.2.2.2.2.2.2.2.2.2.2.2.2.2.2.2.2.2.2.2.2.1, .inl (cI, 2100, .inl (fun _ => 0))), (u.2.2.2.2.2.2.2.2.2.2.2.2.2.2.2.2.2.2.2.2.2.2.1, .inl (cI, 2100, .inl (fun _ => 0))), (u.2.2.2.2.2.2.2.2.2.2.2.2.2.2.2.2.2.2.2.2.2.2.2.1, .inl (cI, 2100, .inl (fun _ => 0))), (u.2.2.2.2.2.2.2.2.2.2.2.2.2.2.2.2.2.2.2.2.2.2.2.2.1, .inr (9, u.2.2.2.2.2.2.2.2.2.2.2.2.2.2.2.2.2.2.2.2.2.2.2.2.2.1)), (u.2.2.2.2.2.2.2.2.2.2.2.2.2.2.2.2.2.2.2.2.2.2.2.2.2.2.1, .inr (5, u.2.2.2.2.2.2.2.2.2.2.2.2.2.2.2.2.2.2.2.2.2.2.2.2.2.2.2.1)), (u.2.2.2.2.2.2.2.2.2.2.2.2.2.2.2.2.2.2.2.2.2.2.2.2.2.2.2.2.1, .inr (1, u.2.2.2.2.2.2.2.2.2.2.2.2.2.2.2.2.2.2.2.2.2.2.2.2.2.2.2.2.2.1)), (u.2.2.2.2.2.2.2.2.2.2.2.2.2.2.2.2.2.2.2.2.2.2.2.2.2.2.2.2.2.2.1, .inl (cI, 8008, .inl (fun _ => 0))), (u.2.2.2.2.2.2.2.2.2.2.2.2.2.2.2.2.2.2.2.2.2.2.2.2.2.2.2.2.2.2.2.1, .inr (3, u.2.2.2.2.2.2.2.2.2.2.2.2.2.2.2.2.2.2.2.2.2.2.2.2.2.2.2.2.2.2.2.2.1)), (u.2.2.2.2.2.2.2.2.2.2.2.2.2.2.2.2.2.2.2.2.2.2.2.2.2.2.2.2.2.2.2.2.2.1, .inr (6, u.2.2.2.2.2.2.2.2.2.2.2.2.2.2.2.2.2.2.2.2.2.2.2.2.2.2.2.2.2.2.2.2.2.2))] t.heap ∧ va_K (dC, dI) vwCl [(cI, .int), (cL, .long), (cB, .byte)] t ∧ va_D (va_A [(h0, .inr (12, fs))] sz) [(h0, .inr (12, u.1)), (u.2.1, .inl (cB, 4000, .inl (fun _ => 0))), (u.2.2.1, .inr (2, u.2.2.2.1)), (u.2.2.2.2.1, .inl (cI, 4004, .inl (fun _ => 0))), (u.2.2.2.2.2.1, .inl (cI, 4004, .inl (fun _ => 0))), (u.2.2.2.2.2.2.1, .inl (cI, 4004, .inl (fun _ => 0))), (u.2.2.2.2.2.2.2.1, .inl (cI, 4004, .inl (fun _ => 0))), (u.2.2.2.2.2.2.2.2.1, .inl (cL, 2100, .inr (.inl (fun _ => 0)))), (u.2.2.2.2.2.2.2.2.2.1, .inl (cL, 2100, .inr (.inl (fun _ => 0)))), (u.2.2.2.2.2.2.2.2.2.2.1, .inl (cI, 8192, .inl (fun _ => 0))), (u.2.2.2.2.2.2.2.2.2.2.2.1, .inr (0, u.2.2.2.2.2.2.2.2.2.2.2.2.1)), (u.2.2.2.2.2.2.2.2.2.2.2.2.2.1, .inl (cI, 2100, .inl (fun _ => 0))), (u.2.2.2.2.2.2.2.2.2.2.2.2.2.2.1, .inl (cI, 2100, .inl (fun _ => 0))), (u.2.2.2.2.2.2.2.2.2.2.2.2.2.2.2.1, .inl (cI, 2100, .inl (fun _ => 0))), (u.2.2.2.2.2.2.2.2.2.2.2.2.2.2.2.2.1, .inr (8, u.2.2.2.2.2.2.2.2.2.2.2.2.2.2.2.2.2.1)), (u.2.2.2.2.2.2.2.2.2.2.2.2.2.2.2.2.2.2.1, .inl (cI, 2100, .inl (fun _ => 0))), (u.2.2.2.2.2.2.2.2.2.2.2.2.2.2.2.2.2.2.2.1, .inl (cI, 2100, .inl (fun _ => 0))), (u.2.2.2.2.2.2.2.2.2.2.2.2.2.2.2.2.2.2.2.2.1, .inl (cI, 2100, .inl (fun _ => 0))), (u.2.2.2.2.2.2.2.2.2.2.2.2.2.2.2.2.2.2.2.2.2.1, .inl (cI, 2100, .inl (fun _ => 0))), (u.2.2.2.2.2.2.2.2.2.2.2.2.2.2.2.2.2.2.2.2.2.2.1, .inl (cI, 2100, .inl (fun _ => 0))), (u.2.2.2.2.2.2.2.2.2.2.2.2.2.2.2.2.2.2.2.2.2.2.2.1, .inl (cI, 2100, .inl (fun _ => 0))), (u.2.2.2.2.2.2.2.2.2.2.2.2.2.2.2.2.2.2.2.2.2.2.2.2.1, .inr (9, u.2.2.2.2.2.2.2.2.2.2.2.2.2.2.2.2.2.2.2.2.2.2.2.2.2.1)), (u.2.2.2.2.2.2.2.2.2.2.2.2.2.2.2.2.2.2.2.2.2.2.2.2.2.2.1, .inr (5, u.2.2.2.2.2.2.2.2.2.2.2.2.2.2.2.2.2.2.2.2.2.2.2.2.2.2.2.1)), (u.2.2.2.2.2.2.2.2.2.2.2.2.2.2.2.2.2.2.2.2.2.2.2.2.2.2.2.2.1, .inr (1, u.2.2.2.2.2.2.2.2.2.2.2.2.2.2.2.2.2.2.2.2.2.2.2.2.2.2.2.2.2.1)), (u.2.2.2.2.2.2.2.2.2.2.2.2.2.2.2.2.2.2.2.2.2.2.2.2.2.2.2.2.2.2.1, .inl (cI, 8008, .inl (fun _ => 0))), (u.2.2.2.2.2.2.2.2.2.2.2.2.2.2.2.2.2.2.2.2.2.2.2.2.2.2.2.2.2.2.2.1, .inr (3, u.2.2.2.2.2.2.2.2.2.2.2.2.2.2.2.2.2.2.2.2.2.2.2.2.2.2.2.2.2.2.2.2.1)), (u.2.2.2.2.2.2.2.2.2.2.2.2.2.2.2.2.2.2.2.2.2.2.2.2.2.2.2.2.2.2.2.2.2.1, .inr (6, u.2.2.2.2.2.2.2.2.2.2.2.2.2.2.2.2.2.2.2.2.2.2.2.2.2.2.2.2.2.2.2.2.2.2))]) (va_A [(h0, .inr (12, fs))] sz)) 112 370249 (va_A [(h0, .inr (12, fs))] sz) := by
  refine Met.ofW (cc := cX12_init) (maxL := 1) (ret := none) (by decide) rfl ?_
  intro p e s m args below meth c s₁ B hml hv
  obtain ⟨rfl, hsz, hP, hK, hD0, hNest_15⟩ := hv
  have hx := B.exec
  have hb := B.bytes
  have hr := B.returns
  have hts := atoms_spec (ws := pw_c_X12_init) B.pre
  have hown : s.vm.findClass RX12 = some m.cls := findClass_of_methodNamed B.named
  have hlocks := B.notSynchronized
  have hin : meth.name = "<init>" := (name_of_methodNamed B.named B.method).1
  have hin_X12 : ∀ w ∈ u_ws RX12 TX12 14, w ∈ pw_c_X12_init := fun w h => List.mem_cons_of_mem _ (List.mem_append_right _ (List.mem_append_left _ h))
  have hin_X2 : ∀ w ∈ u_ws RX2 TX2 12, w ∈ pw_c_X12_init := fun w h => List.mem_cons_of_mem _ (List.mem_append_right _ (List.mem_append_right _ (List.mem_append_left _ h)))
  have hin_X0 : ∀ w ∈ u_ws RX0 TX0 20, w ∈ pw_c_X12_init := fun w h => List.mem_cons_of_mem _ (List.mem_append_right _ (List.mem_append_right _ (List.mem_append_right _ (List.mem_append_left _ h))))
  have hin_X8 : ∀ w ∈ u_ws RX8 TX8 18, w ∈ pw_c_X12_init := fun w h => List.mem_cons_of_mem _ (List.mem_append_right _ (List.mem_append_right _ (List.mem_append_right _ (List.mem_append_right _ (List.mem_append_left _ h)))))
  have hin_X9 : ∀ w ∈ u_ws RX9 TX9 20, w ∈ pw_c_X12_init := fun w h => List.mem_cons_of_mem _ (List.mem_append_right _ (List.mem_append_right _ (List.mem_append_right _ (List.mem_append_right _ (List.mem_append_right _ (List.mem_append_left _ h))))))
  have hin_X5 : ∀ w ∈ u_ws RX5 TX5 10, w ∈ pw_c_X12_init := fun w h => List.mem_cons_of_mem _ (List.mem_append_right _ (List.mem_append_right _ (List.mem_append_right _ (List.mem_append_right _ (List.mem_append_right _ (List.mem_append_right _ (List.mem_append_left _ h)))))))
  have hin_X1 : ∀ w ∈ u_ws RX1 TX1 9, w ∈ pw_c_X12_init := fun w h => List.mem_cons_of_mem _ (List.mem_append_right _ (List.mem_append_right _ (List.mem_append_right _ (List.mem_append_right _ (List.mem_append_right _ (List.mem_append_right _ (List.mem_append_right _ (List.mem_append_left _ h))))))))
  have hin_X11 : ∀ w ∈ u_ws RX11 TX11 18, w ∈ pw_c_X12_init := fun w h => List.mem_cons_of_mem _ (List.mem_append_right _ (List.mem_append_right _ (List.mem_append_right _ (List.mem_append_right _ (List.mem_append_right _ (List.mem_append_right _ (List.mem_append_right _ (List.mem_append_right _ (List.mem_append_left _ h)))))))))
  have hin_X10 : ∀ w ∈ u_ws RX10 TX10 17, w ∈ pw_c_X12_init := fun w h => List.mem_cons_of_mem _ (List.mem_append_right _ (List.mem_append_right _ (List.mem_append_right _ (List.mem_append_right _ (List.mem_append_right _ (List.mem_append_right _ (List.mem_append_right _ (List.mem_append_right _ (List.mem_append_right _ (List.mem_append_left _ h))))))))))
  have hin_X4 : ∀ w ∈ u_ws RX4 TX4 13, w ∈ pw_c_X12_init := fun w h => List.mem_cons_of_mem _ (List.mem_append_right _ (List.mem_append_right _ (List.mem_append_right _ (List.mem_append_right _ (List.mem_append_right _ (List.mem_append_right _ (List.mem_append_right _ (List.mem_append_right _ (List.mem_append_right _ (List.mem_append_right _ (List.mem_append_left _ h)))))))))))
  have hin_X3 : ∀ w ∈ u_ws RX3 TX3 14, w ∈ pw_c_X12_init := fun w h => List.mem_cons_of_mem _ (List.mem_append_right _ (List.mem_append_right _ (List.mem_append_right _ (List.mem_append_right _ (List.mem_append_right _ (List.mem_append_right _ (List.mem_append_right _ (List.mem_append_right _ (List.mem_append_right _ (List.mem_append_right _ (List.mem_append_right _ (List.mem_append_left _ h))))))))))))
  have hin_X7 : ∀ w ∈ u_ws RX7 TX7 22, w ∈ pw_c_X12_init := fun w h => List.mem_cons_of_mem _ (List.mem_append_right _ (List.mem_append_right _ (List.mem_append_right _ (List.mem_append_right _ (List.mem_append_right _ (List.mem_append_right _ (List.mem_append_right _ (List.mem_append_right _ (List.mem_append_right _ (List.mem_append_right _ (List.mem_append_right _ (List.mem_append_right _ (List.mem_append_left _ h)))))))))))))
  have hin_X6 : ∀ w ∈ u_ws RX6 TX6 3, w ∈ pw_c_X12_init := fun w h => List.mem_cons_of_mem _ (List.mem_append_right _ (List.mem_append_right _ (List.mem_append_right _ (List.mem_append_right _ (List.mem_append_right _ (List.mem_append_right _ (List.mem_append_right _ (List.mem_append_right _ (List.mem_append_right _ (List.mem_append_right _ (List.mem_append_right _ (List.mem_append_right _ (List.mem_append_right _ (List.mem_append_left _ h))))))))))))))
  subst hsz
  have hD := hD0.self (sz := s.heap.size)
  generalize hAe : va_A [(h0, .inr (12, fs))] s.heap.size = A at hD ⊢
  have hA : ∀ q : Nat, s.heap.size ≤ q → A q := fun q h => by rw [← hAe]; exact Or.inr h
  have hS : va_S A s.heap s.heap [] := va_S.rf
  have hP : va_P (dC, dI) vwCl [(h0, .inr (12, fs))] s.heap := hP
  have hl := lv_entry ([.ref h0]) (n := 1) (Nat.le_of_ble_eq_true rfl)
  rw [lg_entry_eq]
  generalize (lg_sl ([.ref h0]) ++ List.replicate (1 - (lg_sl ([.ref h0])).length) Slot.unset).toArray = ls at hl ⊢
  have hl : lv_has ls 1 [(0, .ref h0)] := hl
  refine lv_aload_n hx hb dX12_init_0 rfl (lv_at hl 0 rfl) ?_
  refine W.objInit hx hb hown (hts (.methodLink RX12 1 objectInit) (List.mem_of_getElem? (i := 2) rfl)) (hts (.instanceMethod objectInit) (List.mem_of_getElem? (i := 3) rfl)) (hts _ (List.mem_of_getElem? (i := 1) rfl)) rfl (by rw [hml]; exact hl.1) rfl dX12_init_1 (Nat.le_of_ble_eq_true rfl) (Nat.le_of_ble_eq_true rfl) ?_
  refine W.eq (g2 := F0 m 4 ls []) rfl ?_
  refine lv_aload_n hx hb dX12_init_4 rfl (lv_at hl 0 rfl) ?_
  refine lv_sipush (v := 4000) hx hb dX12_init_5 (by decide) ?_
  refine va_newa (atype := .byte) (a0 := (4000, .inl (fun _ => 0))) hx hb (hts (.arrayClass .byte) (List.mem_of_getElem? (i := 4) rfl)) (ty := .byte) rfl hK hP hD hS hA (na_byte 4000) (by decide) (by decide +kernel) (show 4000 * 1 ≤ 536870912 by decide) (show 0 + 1 ≤ 112 by decide) (show 0 + 4000 ≤ 370249 by decide) dX12_init_8 (fun q_1 cA_2 H hK hP hD hS => ?_)
  have hK : va_K (dC, dI) vwCl [(cI, .int), (cL, .long), (cB, .byte), (cA_2, .byte)] s := hK
  obtain rfl := kU_byte hK 2 3 rfl rfl
  have hK := hK.sub (tys' := [(cI, .int), (cL, .long), (cB, .byte)]) [0, 1, 2] rfl
  have hP : va_P (dC, dI) vwCl [(h0, .inr (12, fs)), (q_1, .inl (cB, 4000, .inl (fun _ => 0)))] H := hP
  have hD : va_D A [(h0, .inr (12, fs)), (q_1, .inl (cB, 4000, .inl (fun _ => 0)))] := hD
  refine W.widen (k := 1) (n := 4000) (by decide) (by decide) ?_
  refine va_putF (D := (dC, dI)) (ci := 12) (v := .ref q_1) (ty := (.array .byte)) (C := RX12) (T := TX12) (N := 14) hx hb hts hin_X12 tyX12 tyX12_ok nmX12 hown hK hP hD hS 0 rfl rfl 0 (by decide) (hts (.fieldLink RX12 9 "NeedHouse" "tape" "[B") (List.mem_of_getElem? (i := 5) rfl)) (fun _ h9 => h9) rfl hin rfl (by decide +kernel) rfl rfl (by rw [hF.1]; decide) dX12_init_10 (fun H locs hP hD hS => ?_)
  have hP : va_P (dC, dI) vwCl [(h0, .inr (12, (fs.set 0 (.ref q_1)))), (q_1, .inl (cB, 4000, .inl (fun _ => 0)))] H := hP
  have hD : va_D A [(h0, .inr (12, (fs.set 0 (.ref q_1)))), (q_1, .inl (cB, 4000, .inl (fun _ => 0)))] := hD
  have hF_3 := hF.set 0 (.ref q_1) (l' := [(0, .ref q_1), (11, .int 0), (12, .int 0), (13, .int 0)]) (by decide) rfl
  generalize fs.set 0 (.ref q_1) = fs_4 at hP hD hF_3
  have hP : va_P (dC, dI) vwCl [(h0, .inr (12, fs_4)), (q_1, .inl (cB, 4000, .inl (fun _ => 0)))] H := hP
  have hD : va_D A [(h0, .inr (12, fs_4)), (q_1, .inl (cB, 4000, .inl (fun _ => 0)))] := hD
  refine lv_aload_n hx hb dX12_init_13 rfl (lv_at hl 0 rfl) ?_
  refine va_new (ci := 2) (fs := dfs 12 tyX2) (C := RX2) (T := TX2) (N := 12) hx hb hts hin_X2 tyX2 tyX2_ok hown (hts (.classLink RX12 13 RX2) (List.mem_of_getElem? (i := 6) rfl)) (hts (.instantiable RX2 12) (List.mem_of_getElem? (i := 7) rfl)) (hts (.initialized RX2) (List.mem_of_getElem? (i := 8) rfl)) hK hP hD hS hA rfl dfs_ok (show 1 + 1 ≤ 112 by decide) (show 4000 + 12 ≤ 370249 by decide) dX12_init_14 (fun q_5 H hP hD hS => ?_)
  have hP : va_P (dC, dI) vwCl [(h0, .inr (12, fs_4)), (q_1, .inl (cB, 4000, .inl (fun _ => 0))), (q_5, .inr (2, (dfs 12 tyX2)))] H := hP
  have hD : va_D A [(h0, .inr (12, fs_4)), (q_1, .inl (cB, 4000, .inl (fun _ => 0))), (q_5, .inr (2, (dfs 12 tyX2)))] := hD
  have hF_6 : hasF (dfs 12 tyX2) 12 [(7, .int 0), (8, .int 0), (9, .int 0), (10, .int 0), (11, .int 0)] := dfs_has (List.forall_mem_cons.mpr ⟨⟨by decide, rfl⟩, List.forall_mem_cons.mpr ⟨⟨by decide, rfl⟩, List.forall_mem_cons.mpr ⟨⟨by decide, rfl⟩, List.forall_mem_cons.mpr ⟨⟨by decide, rfl⟩, List.forall_mem_cons.mpr ⟨⟨by decide, rfl⟩, fun _ h => absurd h List.not_mem_nil⟩⟩⟩⟩⟩)
  generalize dfs 12 tyX2 = fs_7 at hP hD hF_6
  have hP : va_P (dC, dI) vwCl [(h0, .inr (12, fs_4)), (q_1, .inl (cB, 4000, .inl (fun _ => 0))), (q_5, .inr (2, fs_7))] H := hP
  have hD : va_D A [(h0, .inr (12, fs_4)), (q_1, .inl (cB, 4000, .inl (fun _ => 0))), (q_5, .inr (2, fs_7))] := hD
  refine W.widen (k := 2) (n := 4012) (by decide) (by decide) ?_
  refine lv_dup hx hb dX12_init_17 rfl ?_
  have hPc := hP.sub (ws' := [(q_5, .inr (2, fs_7))]) [2] rfl
  have hDc := hD.sub (ws' := [(q_5, .inr (2, fs_7))]) [2] (by decide) rfl
  have hKc := hK.sub (tys' := [(cI, .int), (cL, .long)]) [0, 1] rfl
  have hFc := va_free (wc := [(q_5, .inr (2, fs_7))]) hD hS hA [2] rfl
  refine va_callv (va_runIN (As := []) (rest := [.ref q_5, .ref h0]) ⟨hx, hb, hml, hown, hts⟩ (c_X2_init l dC dI H.size q_5 fs_7 cI cL (hF_6.sub [0, 1, 2, 3, 4] rfl)) ⟨va_cnB 0 hts g_c_X12_init_c_X2_init_18 rfl rfl rfl hNest_15 (hts (.initialized RX2) (List.mem_of_getElem? (i := 8) rfl)) (by decide +kernel) ⟨Nat.le_of_ble_eq_true rfl, Nat.le_of_ble_eq_true rfl⟩, rfl, (hts (.instanceMethod yX2_init) (List.mem_of_getElem? (i := 20) rfl))⟩ ⟨fun a U g mk q => by obtain ⟨q0, q1, qP, qK, qD⟩ := q; exact ⟨q0, q1, qP, va_K.moved (u := U) (U := U.calling g mk a) (Vm.Alike.refl U.vm) qK, qD⟩, fun U hU hW => ⟨rfl, by rw [hU], by rw [hU]; exact hPc, va_K.moved hW.alike hKc, hDc.weaken (fun _ _ _ _ => trivial)⟩⟩ rfl rfl hl.1 rfl (lv_room (Nat.le_of_ble_eq_true rfl)) dX12_init_18 ⟨show 2 + 7 ≤ 112 by decide, show 4012 + 28408 ≤ 370249 by decide⟩) hS (fun q _ h => hFc q h) hFc (fun u t H1 locs ht hvm hw hB hz1 hk1 hS => ?_)
  obtain ⟨fs1_10, a1__11, a2__12, a3__13, a4__14, a5__15, a6__16, a7__17⟩ := u
  obtain ⟨hP1, hK1, hD1⟩ := hB
  rw [ht] at hP1
  have hK1 := va_K.moved hvm.symm hK1
  try dsimp only at hw hP1 hK1 hD1
  have hF_18 := hw
  obtain ⟨hP, hD⟩ := va_join (wr := [(h0, .inr (12, fs_4)), (q_1, .inl (cB, 4000, .inl (fun _ => 0)))]) (w1 := [(q_5, .inr (2, fs1_10)), (a1__11, .inl (cI, 4004, .inl (fun _ => 0))), (a2__12, .inl (cI, 4004, .inl (fun _ => 0))), (a3__13, .inl (cI, 4004, .inl (fun _ => 0))), (a4__14, .inl (cI, 4004, .inl (fun _ => 0))), (a5__15, .inl (cL, 2100, .inr (.inl (fun _ => 0)))), (a6__16, .inl (cL, 2100, .inr (.inl (fun _ => 0)))), (a7__17, .inl (cI, 8192, .inl (fun _ => 0)))]) hP hD [2] [0, 1] rfl rfl (by decide) (by decide) hk1 hFc hP1 hD1
  generalize H1 = H at hP hS ⊢
  have hK := (hK.sub (tys' := [(cB, .byte)]) [2] rfl).app hK1
  have hK : va_K (dC, dI) vwCl [(cB, .byte), (cI, .int), (cL, .long)] s := hK
  have hP : va_P (dC, dI) vwCl [(h0, .inr (12, fs_4)), (q_1, .inl (cB, 4000, .inl (fun _ => 0))), (q_5, .inr (2, fs1_10)), (a1__11, .inl (cI, 4004, .inl (fun _ => 0))), (a2__12, .inl (cI, 4004, .inl (fun _ => 0))), (a3__13, .inl (cI, 4004, .inl (fun _ => 0))), (a4__14, .inl (cI, 4004, .inl (fun _ => 0))), (a5__15, .inl (cL, 2100, .inr (.inl (fun _ => 0)))), (a6__16, .inl (cL, 2100, .inr (.inl (fun _ => 0)))), (a7__17, .inl (cI, 8192, .inl (fun _ => 0)))] H := hP
  have hD : va_D A [(h0, .inr (12, fs_4)), (q_1, .inl (cB, 4000, .inl (fun _ => 0))), (q_5, .inr (2, fs1_10)), (a1__11, .inl (cI, 4004, .inl (fun _ => 0))), (a2__12, .inl (cI, 4004, .inl (fun _ => 0))), (a3__13, .inl (cI, 4004, .inl (fun _ => 0))), (a4__14, .inl (cI, 4004, .inl (fun _ => 0))), (a5__15, .inl (cL, 2100, .inr (.inl (fun _ => 0)))), (a6__16, .inl (cL, 2100, .inr (.inl (fun _ => 0)))), (a7__17, .inl (cI, 8192, .inl (fun _ => 0)))] := hD
  refine W.widen (k := 9) (n := 32420) (by decide) (by decide) ?_
  refine va_putF (D := (dC, dI)) (ci := 12) (v := .ref q_5) (ty := (.object "NeedHouse$Lexemes")) (C := RX12) (T := TX12) (N := 14) hx hb hts hin_X12 tyX12 tyX12_ok nmX12 hown hK hP hD hS 0 rfl rfl 1 (by decide) (hts (.fieldLink RX12 16 "NeedHouse" "lexemes" "LNeedHouse$Lexemes;") (List.mem_of_getElem? (i := 21) rfl)) (fun _ h9 => h9) rfl hin rfl (by decide +kernel) rfl rfl (by rw [hF_3.1]; decide) dX12_init_21 (fun H locs hP hD hS => ?_)
  have hP : va_P (dC, dI) vwCl [(h0, .inr (12, (fs_4.set 1 (.ref q_5)))), (q_1, .inl (cB, 4000, .inl (fun _ => 0))), (q_5, .inr (2, fs1_10)), (a1__11, .inl (cI, 4004, .inl (fun _ => 0))), (a2__12, .inl (cI, 4004, .inl (fun _ => 0))), (a3__13, .inl (cI, 4004, .inl (fun _ => 0))), (a4__14, .inl (cI, 4004, .inl (fun _ => 0))), (a5__15, .inl (cL, 2100, .inr (.inl (fun _ => 0)))), (a6__16, .inl (cL, 2100, .inr (.inl (fun _ => 0)))), (a7__17, .inl (cI, 8192, .inl (fun _ => 0)))] H := hP
  have hD : va_D A [(h0, .inr (12, (fs_4.set 1 (.ref q_5)))), (q_1, .inl (cB, 4000, .inl (fun _ => 0))), (q_5, .inr (2, fs1_10)), (a1__11, .inl (cI, 4004, .inl (fun _ => 0))), (a2__12, .inl (cI, 4004, .inl (fun _ => 0))), (a3__13, .inl (cI, 4004, .inl (fun _ => 0))), (a4__14, .inl (cI, 4004, .inl (fun _ => 0))), (a5__15, .inl (cL, 2100, .inr (.inl (fun _ => 0)))), (a6__16, .inl (cL, 2100, .inr (.inl (fun _ => 0)))), (a7__17, .inl (cI, 8192, .inl (fun _ => 0)))] := hD
  have hF_19 := hF_3.set 1 (.ref q_5) (l' := [(1, .ref q_5), (0, .ref q_1), (11, .int 0), (12, .int 0), (13, .int 0)]) (by decide) rfl
  generalize fs_4.set 1 (.ref q_5) = fs_20 at hP hD hF_19
  have hP : va_P (dC, dI) vwCl [(h0, .inr (12, fs_20)), (q_1, .inl (cB, 4000, .inl (fun _ => 0))), (q_5, .inr (2, fs1_10)), (a1__11, .inl (cI, 4004, .inl (fun _ => 0))), (a2__12, .inl (cI, 4004, .inl (fun _ => 0))), (a3__13, .inl (cI, 4004, .inl (fun _ => 0))), (a4__14, .inl (cI, 4004, .inl (fun _ => 0))), (a5__15, .inl (cL, 2100, .inr (.inl (fun _ => 0)))), (a6__16, .inl (cL, 2100, .inr (.inl (fun _ => 0)))), (a7__17, .inl (cI, 8192, .inl (fun _ => 0)))] H := hP
  have hD : va_D A [(h0, .inr (12, fs_20)), (q_1, .inl (cB, 4000, .inl (fun _ => 0))), (q_5, .inr (2, fs1_10)), (a1__11, .inl (cI, 4004, .inl (fun _ => 0))), (a2__12, .inl (cI, 4004, .inl (fun _ => 0))), (a3__13, .inl (cI, 4004, .inl (fun _ => 0))), (a4__14, .inl (cI, 4004, .inl (fun _ => 0))), (a5__15, .inl (cL, 2100, .inr (.inl (fun _ => 0)))), (a6__16, .inl (cL, 2100, .inr (.inl (fun _ => 0)))), (a7__17, .inl (cI, 8192, .inl (fun _ => 0)))] := hD
  refine lv_aload_n hx hb dX12_init_24 rfl (lv_at hl 0 rfl) ?_
  refine va_new (ci := 0) (fs := dfs 20 tyX0) (C := RX0) (T := TX0) (N := 20) hx hb hts hin_X0 tyX0 tyX0_ok hown (hts (.classLink RX12 20 RX0) (List.mem_of_getElem? (i := 22) rfl)) (hts (.instantiable RX0 20) (List.mem_of_getElem? (i := 23) rfl)) (hts (.initialized RX0) (List.mem_of_getElem? (i := 24) rfl)) hK hP hD hS hA rfl dfs_ok (show 9 + 1 ≤ 112 by decide) (show 32420 + 20 ≤ 370249 by decide) dX12_init_25 (fun q_21 H hP hD hS => ?_)
  have hP : va_P (dC, dI) vwCl [(h0, .inr (12, fs_20)), (q_1, .inl (cB, 4000, .inl (fun _ => 0))), (q_5, .inr (2, fs1_10)), (a1__11, .inl (cI, 4004, .inl (fun _ => 0))), (a2__12, .inl (cI, 4004, .inl (fun _ => 0))), (a3__13, .inl (cI, 4004, .inl (fun _ => 0))), (a4__14, .inl (cI, 4004, .inl (fun _ => 0))), (a5__15, .inl (cL, 2100, .inr (.inl (fun _ => 0)))), (a6__16, .inl (cL, 2100, .inr (.inl (fun _ => 0)))), (a7__17, .inl (cI, 8192, .inl (fun _ => 0))), (q_21, .inr (0, (dfs 20 tyX0)))] H := hP
  have hD : va_D A [(h0, .inr (12, fs_20)), (q_1, .inl (cB, 4000, .inl (fun _ => 0))), (q_5, .inr (2, fs1_10)), (a1__11, .inl (cI, 4004, .inl (fun _ => 0))), (a2__12, .inl (cI, 4004, .inl (fun _ => 0))), (a3__13, .inl (cI, 4004, .inl (fun _ => 0))), (a4__14, .inl (cI, 4004, .inl (fun _ => 0))), (a5__15, .inl (cL, 2100, .inr (.inl (fun _ => 0)))), (a6__16, .inl (cL, 2100, .inr (.inl (fun _ => 0)))), (a7__17, .inl (cI, 8192, .inl (fun _ => 0))), (q_21, .inr (0, (dfs 20 tyX0)))] := hD
  have hF_22 : hasF (dfs 20 tyX0) 20 [(16, .int 0), (17, .int 0), (18, .int 0), (19, .int 0)] := dfs_has (List.forall_mem_cons.mpr ⟨⟨by decide, rfl⟩, List.forall_mem_cons.mpr ⟨⟨by decide, rfl⟩, List.forall_mem_cons.mpr ⟨⟨by decide, rfl⟩, List.forall_mem_cons.mpr ⟨⟨by decide, rfl⟩, fun _ h => absurd h List.not_mem_nil⟩⟩⟩⟩)
  generalize dfs 20 tyX0 = fs_23 at hP hD hF_22
  have hP : va_P (dC, dI) vwCl [(h0, .inr (12, fs_20)), (q_1, .inl (cB, 4000, .inl (fun _ => 0))), (q_5, .inr (2, fs1_10)), (a1__11, .inl (cI, 4004, .inl (fun _ => 0))), (a2__12, .inl (cI, 4004, .inl (fun _ => 0))), (a3__13, .inl (cI, 4004, .inl (fun _ => 0))), (a4__14, .inl (cI, 4004, .inl (fun _ => 0))), (a5__15, .inl (cL, 2100, .inr (.inl (fun _ => 0)))), (a6__16, .inl (cL, 2100, .inr (.inl (fun _ => 0)))), (a7__17, .inl (cI, 8192, .inl (fun _ => 0))), (q_21, .inr (0, fs_23))] H := hP
  have hD : va_D A [(h0, .inr (12, fs_20)), (q_1, .inl (cB, 4000, .inl (fun _ => 0))), (q_5, .inr (2, fs1_10)), (a1__11, .inl (cI, 4004, .inl (fun _ => 0))), (a2__12, .inl (cI, 4004, .inl (fun _ => 0))), (a3__13, .inl (cI, 4004, .inl (fun _ => 0))), (a4__14, .inl (cI, 4004, .inl (fun _ => 0))), (a5__15, .inl (cL, 2100, .inr (.inl (fun _ => 0)))), (a6__16, .inl (cL, 2100, .inr (.inl (fun _ => 0)))), (a7__17, .inl (cI, 8192, .inl (fun _ => 0))), (q_21, .inr (0, fs_23))] := hD
  refine W.widen (k := 10) (n := 32440) (by decide) (by decide) ?_
  refine lv_dup hx hb dX12_init_28 rfl ?_
  refine lv_aload_n hx hb dX12_init_29 rfl (lv_at hl 0 rfl) ?_
  refine va_get (D := (dC, dI)) (ci := 12) (v := .ref q_5) (C := RX12) (T := TX12) (N := 14) hx hb hts hin_X12 hown hK hP 0 rfl rfl 1 (by decide) (hts (.fieldLink RX12 16 "NeedHouse" "lexemes" "LNeedHouse$Lexemes;") (List.mem_of_getElem? (i := 21) rfl)) (fun _ h9 => h9) (hF_19.at 0 rfl) dX12_init_30 ?_
  have hPc := hP.sub (ws' := [(q_21, .inr (0, fs_23))]) [10] rfl
  have hDc := hD.sub (ws' := [(q_21, .inr (0, fs_23))]) [10] (by decide) rfl
  have hKc := hK.sub (tys' := [(cI, .int)]) [1] rfl
  have hFc := va_free (wc := [(q_21, .inr (0, fs_23))]) hD hS hA [10] rfl
  refine va_callv (va_runI (As := [.ref q_5]) (rest := [.ref q_21, .ref h0]) ⟨hx, hb, hml, hown, hts⟩ (c_X0_init l dC dI H.size q_21 fs_23 cI q_5 (hF_22.sub [0, 1, 2, 3] rfl)) (cwI 1 hts g_c_X12_init_c_X0_init_33 rfl rfl rfl (hts (.initialized RX0) (List.mem_of_getElem? (i := 24) rfl)) (hts (.methodLink RX12 22 yX0_init) (List.mem_of_getElem? (i := 44) rfl)) (hts (.instanceMethod yX0_init) (List.mem_of_getElem? (i := 45) rfl)) rfl (by decide +kernel) ⟨Nat.le_of_ble_eq_true rfl, Nat.le_of_ble_eq_true rfl⟩) ⟨fun a U g mk q => by obtain ⟨q0, q1, qP, qK, qD⟩ := q; exact ⟨q0, q1, qP, va_K.moved (u := U) (U := U.calling g mk a) (Vm.Alike.refl U.vm) qK, qD⟩, fun U hU hW => ⟨rfl, by rw [hU], by rw [hU]; exact hPc, va_K.moved hW.alike hKc, hDc.weaken (fun _ _ _ _ => trivial)⟩⟩ rfl rfl hl.1 rfl (lv_room (Nat.le_of_ble_eq_true rfl)) dX12_init_33 ⟨show 10 + 15 ≤ 112 by decide, show 32440 + 33000 ≤ 370249 by decide⟩) hS (fun q _ h => hFc q h) hFc (fun u t H1 locs ht hvm hw hB hz1 hk1 hS => ?_)
  obtain ⟨fs1_26, a1__27, a2__28, a3__29⟩ := u
  obtain ⟨hP1, hK1, hD1⟩ := hB
  rw [ht] at hP1
  have hK1 := va_K.moved hvm.symm hK1
  try dsimp only at hw hP1 hK1 hD1
  have hF_30 := hw
  obtain ⟨hP, hD⟩ := va_join (wr := [(h0, .inr (12, fs_20)), (q_1, .inl (cB, 4000, .inl (fun _ => 0))), (q_5, .inr (2, fs1_10)), (a1__11, .inl (cI, 4004, .inl (fun _ => 0))), (a2__12, .inl (cI, 4004, .inl (fun _ => 0))), (a3__13, .inl (cI, 4004, .inl (fun _ => 0))), (a4__14, .inl (cI, 4004, .inl (fun _ => 0))), (a5__15, .inl (cL, 2100, .inr (.inl (fun _ => 0)))), (a6__16, .inl (cL, 2100, .inr (.inl (fun _ => 0)))), (a7__17, .inl (cI, 8192, .inl (fun _ => 0)))]) (w1 := [(q_21, .inr (0, fs1_26)), (a1__27, .inl (cI, 2100, .inl (fun _ => 0))), (a2__28, .inl (cI, 2100, .inl (fun _ => 0))), (a3__29, .inl (cI, 2100, .inl (fun _ => 0)))]) hP hD [10] [0, 1, 2, 3, 4, 5, 6, 7, 8, 9] rfl rfl (by decide) (by decide) hk1 hFc hP1 hD1
  generalize H1 = H at hP hS ⊢
  have hK := (hK.sub (tys' := [(cB, .byte), (cL, .long)]) [0, 2] rfl).app hK1
  have hK : va_K (dC, dI) vwCl [(cB, .byte), (cL, .long), (cI, .int)] s := hK
  have hP : va_P (dC, dI) vwCl [(h0, .inr (12, fs_20)), (q_1, .inl (cB, 4000, .inl (fun _ => 0))), (q_5, .inr (2, fs1_10)), (a1__11, .inl (cI, 4004, .inl (fun _ => 0))), (a2__12, .inl (cI, 4004, .inl (fun _ => 0))), (a3__13, .inl (cI, 4004, .inl (fun _ => 0))), (a4__14, .inl (cI, 4004, .inl (fun _ => 0))), (a5__15, .inl (cL, 2100, .inr (.inl (fun _ => 0)))), (a6__16, .inl (cL, 2100, .inr (.inl (fun _ => 0)))), (a7__17, .inl (cI, 8192, .inl (fun _ => 0))), (q_21, .inr (0, fs1_26)), (a1__27, .inl (cI, 2100, .inl (fun _ => 0))), (a2__28, .inl (cI, 2100, .inl (fun _ => 0))), (a3__29, .inl (cI, 2100, .inl (fun _ => 0)))] H := hP
  have hD : va_D A [(h0, .inr (12, fs_20)), (q_1, .inl (cB, 4000, .inl (fun _ => 0))), (q_5, .inr (2, fs1_10)), (a1__11, .inl (cI, 4004, .inl (fun _ => 0))), (a2__12, .inl (cI, 4004, .inl (fun _ => 0))), (a3__13, .inl (cI, 4004, .inl (fun _ => 0))), (a4__14, .inl (cI, 4004, .inl (fun _ => 0))), (a5__15, .inl (cL, 2100, .inr (.inl (fun _ => 0)))), (a6__16, .inl (cL, 2100, .inr (.inl (fun _ => 0)))), (a7__17, .inl (cI, 8192, .inl (fun _ => 0))), (q_21, .inr (0, fs1_26)), (a1__27, .inl (cI, 2100, .inl (fun _ => 0))), (a2__28, .inl (cI, 2100, .inl (fun _ => 0))), (a3__29, .inl (cI, 2100, .inl (fun _ => 0)))] := hD
  refine W.widen (k := 25) (n := 65440) (by decide) (by decide) ?_
  refine va_putF (D := (dC, dI)) (ci := 12) (v := .ref q_21) (ty := (.object "NeedHouse$Datas")) (C := RX12) (T := TX12) (N := 14) hx hb hts hin_X12 tyX12 tyX12_ok nmX12 hown hK hP hD hS 0 rfl rfl 2 (by decide) (hts (.fieldLink RX12 25 "NeedHouse" "datas" "LNeedHouse$Datas;") (List.mem_of_getElem? (i := 46) rfl)) (fun _ h9 => h9) rfl hin rfl (by decide +kernel) rfl rfl (by rw [hF_19.1]; decide) dX12_init_36 (fun H locs hP hD hS => ?_)
  have hP : va_P (dC, dI) vwCl [(h0, .inr (12, (fs_20.set 2 (.ref q_21)))), (q_1, .inl (cB, 4000, .inl (fun _ => 0))), (q_5, .inr (2, fs1_10)), (a1__11, .inl (cI, 4004, .inl (fun _ => 0))), (a2__12, .inl (cI, 4004, .inl (fun _ => 0))), (a3__13, .inl (cI, 4004, .inl (fun _ => 0))), (a4__14, .inl (cI, 4004, .inl (fun _ => 0))), (a5__15, .inl (cL, 2100, .inr (.inl (fun _ => 0)))), (a6__16, .inl (cL, 2100, .inr (.inl (fun _ => 0)))), (a7__17, .inl (cI, 8192, .inl (fun _ => 0))), (q_21, .inr (0, fs1_26)), (a1__27, .inl (cI, 2100, .inl (fun _ => 0))), (a2__28, .inl (cI, 2100, .inl (fun _ => 0))), (a3__29, .inl (cI, 2100, .inl (fun _ => 0)))] H := hP
  have hD : va_D A [(h0, .inr (12, (fs_20.set 2 (.ref q_21)))), (q_1, .inl (cB, 4000, .inl (fun _ => 0))), (q_5, .inr (2, fs1_10)), (a1__11, .inl (cI, 4004, .inl (fun _ => 0))), (a2__12, .inl (cI, 4004, .inl (fun _ => 0))), (a3__13, .inl (cI, 4004, .inl (fun _ => 0))), (a4__14, .inl (cI, 4004, .inl (fun _ => 0))), (a5__15, .inl (cL, 2100, .inr (.inl (fun _ => 0)))), (a6__16, .inl (cL, 2100, .inr (.inl (fun _ => 0)))), (a7__17, .inl (cI, 8192, .inl (fun _ => 0))), (q_21, .inr (0, fs1_26)), (a1__27, .inl (cI, 2100, .inl (fun _ => 0))), (a2__28, .inl (cI, 2100, .inl (fun _ => 0))), (a3__29, .inl (cI, 2100, .inl (fun _ => 0)))] := hD
  have hF_31 := hF_19.set 2 (.ref q_21) (l' := [(2, .ref q_21), (1, .ref q_5), (0, .ref q_1), (11, .int 0), (12, .int 0), (13, .int 0)]) (by decide) rfl
  generalize fs_20.set 2 (.ref q_21) = fs_32 at hP hD hF_31
  have hP : va_P (dC, dI) vwCl [(h0, .inr (12, fs_32)), (q_1, .inl (cB, 4000, .inl (fun _ => 0))), (q_5, .inr (2, fs1_10)), (a1__11, .inl (cI, 4004, .inl (fun _ => 0))), (a2__12, .inl (cI, 4004, .inl (fun _ => 0))), (a3__13, .inl (cI, 4004, .inl (fun _ => 0))), (a4__14, .inl (cI, 4004, .inl (fun _ => 0))), (a5__15, .inl (cL, 2100, .inr (.inl (fun _ => 0)))), (a6__16, .inl (cL, 2100, .inr (.inl (fun _ => 0)))), (a7__17, .inl (cI, 8192, .inl (fun _ => 0))), (q_21, .inr (0, fs1_26)), (a1__27, .inl (cI, 2100, .inl (fun _ => 0))), (a2__28, .inl (cI, 2100, .inl (fun _ => 0))), (a3__29, .inl (cI, 2100, .inl (fun _ => 0)))] H := hP
  have hD : va_D A [(h0, .inr (12, fs_32)), (q_1, .inl (cB, 4000, .inl (fun _ => 0))), (q_5, .inr (2, fs1_10)), (a1__11, .inl (cI, 4004, .inl (fun _ => 0))), (a2__12, .inl (cI, 4004, .inl (fun _ => 0))), (a3__13, .inl (cI, 4004, .inl (fun _ => 0))), (a4__14, .inl (cI, 4004, .inl (fun _ => 0))), (a5__15, .inl (cL, 2100, .inr (.inl (fun _ => 0)))), (a6__16, .inl (cL, 2100, .inr (.inl (fun _ => 0)))), (a7__17, .inl (cI, 8192, .inl (fun _ => 0))), (q_21, .inr (0, fs1_26)), (a1__27, .inl (cI, 2100, .inl (fun _ => 0))), (a2__28, .inl (cI, 2100, .inl (fun _ => 0))), (a3__29, .inl (cI, 2100, .inl (fun _ => 0)))] := hD
  refine lv_aload_n hx hb dX12_init_39 rfl (lv_at hl 0 rfl) ?_
  refine va_new (ci := 8) (fs := dfs 18 tyX8) (C := RX8) (T := TX8) (N := 18) hx hb hts hin_X8 tyX8 tyX8_ok hown (hts (.classLink RX12 29 RX8) (List.mem_of_getElem? (i := 47) rfl)) (hts (.instantiable RX8 18) (List.mem_of_getElem? (i := 48) rfl)) (hts (.initialized RX8) (List.mem_of_getElem? (i := 49) rfl)) hK hP hD hS hA rfl dfs_ok (show 25 + 1 ≤ 112 by decide) (show 65440 + 18 ≤ 370249 by decide) dX12_init_40 (fun q_33 H hP hD hS => ?_)
  have hP : va_P (dC, dI) vwCl [(h0, .inr (12, fs_32)), (q_1, .inl (cB, 4000, .inl (fun _ => 0))), (q_5, .inr (2, fs1_10)), (a1__11, .inl (cI, 4004, .inl (fun _ => 0))), (a2__12, .inl (cI, 4004, .inl (fun _ => 0))), (a3__13, .inl (cI, 4004, .inl (fun _ => 0))), (a4__14, .inl (cI, 4004, .inl (fun _ => 0))), (a5__15, .inl (cL, 2100, .inr (.inl (fun _ => 0)))), (a6__16, .inl (cL, 2100, .inr (.inl (fun _ => 0)))), (a7__17, .inl (cI, 8192, .inl (fun _ => 0))), (q_21, .inr (0, fs1_26)), (a1__27, .inl (cI, 2100, .inl (fun _ => 0))), (a2__28, .inl (cI, 2100, .inl (fun _ => 0))), (a3__29, .inl (cI, 2100, .inl (fun _ => 0))), (q_33, .inr (8, (dfs 18 tyX8)))] H := hP
  have hD : va_D A [(h0, .inr (12, fs_32)), (q_1, .inl (cB, 4000, .inl (fun _ => 0))), (q_5, .inr (2, fs1_10)), (a1__11, .inl (cI, 4004, .inl (fun _ => 0))), (a2__12, .inl (cI, 4004, .inl (fun _ => 0))), (a3__13, .inl (cI, 4004, .inl (fun _ => 0))), (a4__14, .inl (cI, 4004, .inl (fun _ => 0))), (a5__15, .inl (cL, 2100, .inr (.inl (fun _ => 0)))), (a6__16, .inl (cL, 2100, .inr (.inl (fun _ => 0)))), (a7__17, .inl (cI, 8192, .inl (fun _ => 0))), (q_21, .inr (0, fs1_26)), (a1__27, .inl (cI, 2100, .inl (fun _ => 0))), (a2__28, .inl (cI, 2100, .inl (fun _ => 0))), (a3__29, .inl (cI, 2100, .inl (fun _ => 0))), (q_33, .inr (8, (dfs 18 tyX8)))] := hD
  have hF_34 : hasF (dfs 18 tyX8) 18 [(16, .int 0), (17, .int 0)] := dfs_has (List.forall_mem_cons.mpr ⟨⟨by decide, rfl⟩, List.forall_mem_cons.mpr ⟨⟨by decide, rfl⟩, fun _ h => absurd h List.not_mem_nil⟩⟩)
  generalize dfs 18 tyX8 = fs_35 at hP hD hF_34
  have hP : va_P (dC, dI) vwCl [(h0, .inr (12, fs_32)), (q_1, .inl (cB, 4000, .inl (fun _ => 0))), (q_5, .inr (2, fs1_10)), (a1__11, .inl (cI, 4004, .inl (fun _ => 0))), (a2__12, .inl (cI, 4004, .inl (fun _ => 0))), (a3__13, .inl (cI, 4004, .inl (fun _ => 0))), (a4__14, .inl (cI, 4004, .inl (fun _ => 0))), (a5__15, .inl (cL, 2100, .inr (.inl (fun _ => 0)))), (a6__16, .inl (cL, 2100, .inr (.inl (fun _ => 0)))), (a7__17, .inl (cI, 8192, .inl (fun _ => 0))), (q_21, .inr (0, fs1_26)), (a1__27, .inl (cI, 2100, .inl (fun _ => 0))), (a2__28, .inl (cI, 2100, .inl (fun _ => 0))), (a3__29, .inl (cI, 2100, .inl (fun _ => 0))), (q_33, .inr (8, fs_35))] H := hP
  have hD : va_D A [(h0, .inr (12, fs_32)), (q_1, .inl (cB, 4000, .inl (fun _ => 0))), (q_5, .inr (2, fs1_10)), (a1__11, .inl (cI, 4004, .inl (fun _ => 0))), (a2__12, .inl (cI, 4004, .inl (fun _ => 0))), (a3__13, .inl (cI, 4004, .inl (fun _ => 0))), (a4__14, .inl (cI, 4004, .inl (fun _ => 0))), (a5__15, .inl (cL, 2100, .inr (.inl (fun _ => 0)))), (a6__16, .inl (cL, 2100, .inr (.inl (fun _ => 0)))), (a7__17, .inl (cI, 8192, .inl (fun _ => 0))), (q_21, .inr (0, fs1_26)), (a1__27, .inl (cI, 2100, .inl (fun _ => 0))), (a2__28, .inl (cI, 2100, .inl (fun _ => 0))), (a3__29, .inl (cI, 2100, .inl (fun _ => 0))), (q_33, .inr (8, fs_35))] := hD
  refine W.widen (k := 26) (n := 65458) (by decide) (by decide) ?_
  refine lv_dup hx hb dX12_init_43 rfl ?_
  refine lv_aload_n hx hb dX12_init_44 rfl (lv_at hl 0 rfl) ?_
  refine va_get (D := (dC, dI)) (ci := 12) (v := .ref q_5) (C := RX12) (T := TX12) (N := 14) hx hb hts hin_X12 hown hK hP 0 rfl rfl 1 (by decide) (hts (.fieldLink RX12 16 "NeedHouse" "lexemes" "LNeedHouse$Lexemes;") (List.mem_of_getElem? (i := 21) rfl)) (fun _ h9 => h9) (hF_31.at 1 rfl) dX12_init_45 ?_
  have hPc := hP.sub (ws' := [(q_33, .inr (8, fs_35))]) [14] rfl
  have hDc := hD.sub (ws' := [(q_33, .inr (8, fs_35))]) [14] (by decide) rfl
  have hKc := hK.sub (tys' := [(cI, .int)]) [2] rfl
  have hFc := va_free (wc := [(q_33, .inr (8, fs_35))]) hD hS hA [14] rfl
  refine va_callv (va_runI (As := [.ref q_5]) (rest := [.ref q_33, .ref h0]) ⟨hx, hb, hml, hown, hts⟩ (c_X8_init l dC dI H.size q_33 fs_35 cI q_5 (hF_34.sub [0, 1] rfl)) (cwI 1 hts g_c_X12_init_c_X8_init_48 rfl rfl rfl (hts (.initialized RX8) (List.mem_of_getElem? (i := 49) rfl)) (hts (.methodLink RX12 31 yX8_init) (List.mem_of_getElem? (i := 68) rfl)) (hts (.instanceMethod yX8_init) (List.mem_of_getElem? (i := 69) rfl)) rfl (by decide +kernel) ⟨Nat.le_of_ble_eq_true rfl, Nat.le_of_ble_eq_true rfl⟩) ⟨fun a U g mk q => by obtain ⟨q0, q1, qP, qK, qD⟩ := q; exact ⟨q0, q1, qP, va_K.moved (u := U) (U := U.calling g mk a) (Vm.Alike.refl U.vm) qK, qD⟩, fun U hU hW => ⟨rfl, by rw [hU], by rw [hU]; exact hPc, va_K.moved hW.alike hKc, hDc.weaken (fun _ _ _ _ => trivial)⟩⟩ rfl rfl hl.1 rfl (lv_room (Nat.le_of_ble_eq_true rfl)) dX12_init_48 ⟨show 26 + 15 ≤ 112 by decide, show 65458 + 29460 ≤ 370249 by decide⟩) hS (fun q _ h => hFc q h) hFc (fun u t H1 locs ht hvm hw hB hz1 hk1 hS => ?_)
  obtain ⟨fs1_38, a1__39, a2__40, a3__41, a4__42, a5__43, a6__44⟩ := u
  obtain ⟨hP1, hK1, hD1⟩ := hB
  rw [ht] at hP1
  have hK1 := va_K.moved hvm.symm hK1
  try dsimp only at hw hP1 hK1 hD1
  have hF_45 := hw
  obtain ⟨hP, hD⟩ := va_join (wr := [(h0, .inr (12, fs_32)), (q_1, .inl (cB, 4000, .inl (fun _ => 0))), (q_5, .inr (2, fs1_10)), (a1__11, .inl (cI, 4004, .inl (fun _ => 0))), (a2__12, .inl (cI, 4004, .inl (fun _ => 0))), (a3__13, .inl (cI, 4004, .inl (fun _ => 0))), (a4__14, .inl (cI, 4004, .inl (fun _ => 0))), (a5__15, .inl (cL, 2100, .inr (.inl (fun _ => 0)))), (a6__16, .inl (cL, 2100, .inr (.inl (fun _ => 0)))), (a7__17, .inl (cI, 8192, .inl (fun _ => 0))), (q_21, .inr (0, fs1_26)), (a1__27, .inl (cI, 2100, .inl (fun _ => 0))), (a2__28, .inl (cI, 2100, .inl (fun _ => 0))), (a3__29, .inl (cI, 2100, .inl (fun _ => 0)))]) (w1 := [(q_33, .inr (8, fs1_38)), (a1__39, .inl (cI, 2100, .inl (fun _ => 0))), (a2__40, .inl (cI, 2100, .inl (fun _ => 0))), (a3__41, .inl (cI, 2100, .inl (fun _ => 0))), (a4__42, .inl (cI, 2100, .inl (fun _ => 0))), (a5__43, .inl (cI, 2100, .inl (fun _ => 0))), (a6__44, .inl (cI, 2100, .inl (fun _ => 0)))]) hP hD [14] [0, 1, 2, 3, 4, 5, 6, 7, 8, 9, 10, 11, 12, 13] rfl rfl (by decide) (by decide) hk1 hFc hP1 hD1
  generalize H1 = H at hP hS ⊢
  have hK := (hK.sub (tys' := [(cB, .byte), (cL, .long)]) [0, 1] rfl).app hK1
  have hK : va_K (dC, dI) vwCl [(cB, .byte), (cL, .long), (cI, .int)] s := hK
  have hP : va_P (dC, dI) vwCl [(h0, .inr (12, fs_32)), (q_1, .inl (cB, 4000, .inl (fun _ => 0))), (q_5, .inr (2, fs1_10)), (a1__11, .inl (cI, 4004, .inl (fun _ => 0))), (a2__12, .inl (cI, 4004, .inl (fun _ => 0))), (a3__13, .inl (cI, 4004, .inl (fun _ => 0))), (a4__14, .inl (cI, 4004, .inl (fun _ => 0))), (a5__15, .inl (cL, 2100, .inr (.inl (fun _ => 0)))), (a6__16, .inl (cL, 2100, .inr (.inl (fun _ => 0)))), (a7__17, .inl (cI, 8192, .inl (fun _ => 0))), (q_21, .inr (0, fs1_26)), (a1__27, .inl (cI, 2100, .inl (fun _ => 0))), (a2__28, .inl (cI, 2100, .inl (fun _ => 0))), (a3__29, .inl (cI, 2100, .inl (fun _ => 0))), (q_33, .inr (8, fs1_38)), (a1__39, .inl (cI, 2100, .inl (fun _ => 0))), (a2__40, .inl (cI, 2100, .inl (fun _ => 0))), (a3__41, .inl (cI, 2100, .inl (fun _ => 0))), (a4__42, .inl (cI, 2100, .inl (fun _ => 0))), (a5__43, .inl (cI, 2100, .inl (fun _ => 0))), (a6__44, .inl (cI, 2100, .inl (fun _ => 0)))] H := hP
  have hD : va_D A [(h0, .inr (12, fs_32)), (q_1, .inl (cB, 4000, .inl (fun _ => 0))), (q_5, .inr (2, fs1_10)), (a1__11, .inl (cI, 4004, .inl (fun _ => 0))), (a2__12, .inl (cI, 4004, .inl (fun _ => 0))), (a3__13, .inl (cI, 4004, .inl (fun _ => 0))), (a4__14, .inl (cI, 4004, .inl (fun _ => 0))), (a5__15, .inl (cL, 2100, .inr (.inl (fun _ => 0)))), (a6__16, .inl (cL, 2100, .inr (.inl (fun _ => 0)))), (a7__17, .inl (cI, 8192, .inl (fun _ => 0))), (q_21, .inr (0, fs1_26)), (a1__27, .inl (cI, 2100, .inl (fun _ => 0))), (a2__28, .inl (cI, 2100, .inl (fun _ => 0))), (a3__29, .inl (cI, 2100, .inl (fun _ => 0))), (q_33, .inr (8, fs1_38)), (a1__39, .inl (cI, 2100, .inl (fun _ => 0))), (a2__40, .inl (cI, 2100, .inl (fun _ => 0))), (a3__41, .inl (cI, 2100, .inl (fun _ => 0))), (a4__42, .inl (cI, 2100, .inl (fun _ => 0))), (a5__43, .inl (cI, 2100, .inl (fun _ => 0))), (a6__44, .inl (cI, 2100, .inl (fun _ => 0)))] := hD
  refine W.widen (k := 41) (n := 94918) (by decide) (by decide) ?_
  refine va_putF (D := (dC, dI)) (ci := 12) (v := .ref q_33) (ty := (.object "NeedHouse$Told")) (C := RX12) (T := TX12) (N := 14) hx hb hts hin_X12 tyX12 tyX12_ok nmX12 hown hK hP hD hS 0 rfl rfl 3 (by decide) (hts (.fieldLink RX12 32 "NeedHouse" "told" "LNeedHouse$Told;") (List.mem_of_getElem? (i := 70) rfl)) (fun _ h9 => h9) rfl hin rfl (by decide +kernel) rfl rfl (by rw [hF_31.1]; decide) dX12_init_51 (fun H locs hP hD hS => ?_)
  have hP : va_P (dC, dI) vwCl [(h0, .inr (12, (fs_32.set 3 (.ref q_33)))), (q_1, .inl (cB, 4000, .inl (fun _ => 0))), (q_5, .inr (2, fs1_10)), (a1__11, .inl (cI, 4004, .inl (fun _ => 0))), (a2__12, .inl (cI, 4004, .inl (fun _ => 0))), (a3__13, .inl (cI, 4004, .inl (fun _ => 0))), (a4__14, .inl (cI, 4004, .inl (fun _ => 0))), (a5__15, .inl (cL, 2100, .inr (.inl (fun _ => 0)))), (a6__16, .inl (cL, 2100, .inr (.inl (fun _ => 0)))), (a7__17, .inl (cI, 8192, .inl (fun _ => 0))), (q_21, .inr (0, fs1_26)), (a1__27, .inl (cI, 2100, .inl (fun _ => 0))), (a2__28, .inl (cI, 2100, .inl (fun _ => 0))), (a3__29, .inl (cI, 2100, .inl (fun _ => 0))), (q_33, .inr (8, fs1_38)), (a1__39, .inl (cI, 2100, .inl (fun _ => 0))), (a2__40, .inl (cI, 2100, .inl (fun _ => 0))), (a3__41, .inl (cI, 2100, .inl (fun _ => 0))), (a4__42, .inl (cI, 2100, .inl (fun _ => 0))), (a5__43, .inl (cI, 2100, .inl (fun _ => 0))), (a6__44, .inl (cI, 2100, .inl (fun _ => 0)))] H := hP
  have hD : va_D A [(h0, .inr (12, (fs_32.set 3 (.ref q_33)))), (q_1, .inl (cB, 4000, .inl (fun _ => 0))), (q_5, .inr (2, fs1_10)), (a1__11, .inl (cI, 4004, .inl (fun _ => 0))), (a2__12, .inl (cI, 4004, .inl (fun _ => 0))), (a3__13, .inl (cI, 4004, .inl (fun _ => 0))), (a4__14, .inl (cI, 4004, .inl (fun _ => 0))), (a5__15, .inl (cL, 2100, .inr (.inl (fun _ => 0)))), (a6__16, .inl (cL, 2100, .inr (.inl (fun _ => 0)))), (a7__17, .inl (cI, 8192, .inl (fun _ => 0))), (q_21, .inr (0, fs1_26)), (a1__27, .inl (cI, 2100, .inl (fun _ => 0))), (a2__28, .inl (cI, 2100, .inl (fun _ => 0))), (a3__29, .inl (cI, 2100, .inl (fun _ => 0))), (q_33, .inr (8, fs1_38)), (a1__39, .inl (cI, 2100, .inl (fun _ => 0))), (a2__40, .inl (cI, 2100, .inl (fun _ => 0))), (a3__41, .inl (cI, 2100, .inl (fun _ => 0))), (a4__42, .inl (cI, 2100, .inl (fun _ => 0))), (a5__43, .inl (cI, 2100, .inl (fun _ => 0))), (a6__44, .inl (cI, 2100, .inl (fun _ => 0)))] := hD
  have hF_46 := hF_31.set 3 (.ref q_33) (l' := [(3, .ref q_33), (2, .ref q_21), (1, .ref q_5), (0, .ref q_1), (11, .int 0), (12, .int 0), (13, .int 0)]) (by decide) rfl
  generalize fs_32.set 3 (.ref q_33) = fs_47 at hP hD hF_46
  have hP : va_P (dC, dI) vwCl [(h0, .inr (12, fs_47)), (q_1, .inl (cB, 4000, .inl (fun _ => 0))), (q_5, .inr (2, fs1_10)), (a1__11, .inl (cI, 4004, .inl (fun _ => 0))), (a2__12, .inl (cI, 4004, .inl (fun _ => 0))), (a3__13, .inl (cI, 4004, .inl (fun _ => 0))), (a4__14, .inl (cI, 4004, .inl (fun _ => 0))), (a5__15, .inl (cL, 2100, .inr (.inl (fun _ => 0)))), (a6__16, .inl (cL, 2100, .inr (.inl (fun _ => 0)))), (a7__17, .inl (cI, 8192, .inl (fun _ => 0))), (q_21, .inr (0, fs1_26)), (a1__27, .inl (cI, 2100, .inl (fun _ => 0))), (a2__28, .inl (cI, 2100, .inl (fun _ => 0))), (a3__29, .inl (cI, 2100, .inl (fun _ => 0))), (q_33, .inr (8, fs1_38)), (a1__39, .inl (cI, 2100, .inl (fun _ => 0))), (a2__40, .inl (cI, 2100, .inl (fun _ => 0))), (a3__41, .inl (cI, 2100, .inl (fun _ => 0))), (a4__42, .inl (cI, 2100, .inl (fun _ => 0))), (a5__43, .inl (cI, 2100, .inl (fun _ => 0))), (a6__44, .inl (cI, 2100, .inl (fun _ => 0)))] H := hP
  have hD : va_D A [(h0, .inr (12, fs_47)), (q_1, .inl (cB, 4000, .inl (fun _ => 0))), (q_5, .inr (2, fs1_10)), (a1__11, .inl (cI, 4004, .inl (fun _ => 0))), (a2__12, .inl (cI, 4004, .inl (fun _ => 0))), (a3__13, .inl (cI, 4004, .inl (fun _ => 0))), (a4__14, .inl (cI, 4004, .inl (fun _ => 0))), (a5__15, .inl (cL, 2100, .inr (.inl (fun _ => 0)))), (a6__16, .inl (cL, 2100, .inr (.inl (fun _ => 0)))), (a7__17, .inl (cI, 8192, .inl (fun _ => 0))), (q_21, .inr (0, fs1_26)), (a1__27, .inl (cI, 2100, .inl (fun _ => 0))), (a2__28, .inl (cI, 2100, .inl (fun _ => 0))), (a3__29, .inl (cI, 2100, .inl (fun _ => 0))), (q_33, .inr (8, fs1_38)), (a1__39, .inl (cI, 2100, .inl (fun _ => 0))), (a2__40, .inl (cI, 2100, .inl (fun _ => 0))), (a3__41, .inl (cI, 2100, .inl (fun _ => 0))), (a4__42, .inl (cI, 2100, .inl (fun _ => 0))), (a5__43, .inl (cI, 2100, .inl (fun _ => 0))), (a6__44, .inl (cI, 2100, .inl (fun _ => 0)))] := hD
  refine lv_aload_n hx hb dX12_init_54 rfl (lv_at hl 0 rfl) ?_
  refine va_new (ci := 9) (fs := dfs 20 tyX9) (C := RX9) (T := TX9) (N := 20) hx hb hts hin_X9 tyX9 tyX9_ok hown (hts (.classLink RX12 36 RX9) (List.mem_of_getElem? (i := 71) rfl)) (hts (.instantiable RX9 20) (List.mem_of_getElem? (i := 72) rfl)) (hts (.initialized RX9) (List.mem_of_getElem? (i := 73) rfl)) hK hP hD hS hA rfl dfs_ok (show 41 + 1 ≤ 112 by decide) (show 94918 + 20 ≤ 370249 by decide) dX12_init_55 (fun q_48 H hP hD hS => ?_)
  have hP : va_P (dC, dI) vwCl [(h0, .inr (12, fs_47)), (q_1, .inl (cB, 4000, .inl (fun _ => 0))), (q_5, .inr (2, fs1_10)), (a1__11, .inl (cI, 4004, .inl (fun _ => 0))), (a2__12, .inl (cI, 4004, .inl (fun _ => 0))), (a3__13, .inl (cI, 4004, .inl (fun _ => 0))), (a4__14, .inl (cI, 4004, .inl (fun _ => 0))), (a5__15, .inl (cL, 2100, .inr (.inl (fun _ => 0)))), (a6__16, .inl (cL, 2100, .inr (.inl (fun _ => 0)))), (a7__17, .inl (cI, 8192, .inl (fun _ => 0))), (q_21, .inr (0, fs1_26)), (a1__27, .inl (cI, 2100, .inl (fun _ => 0))), (a2__28, .inl (cI, 2100, .inl (fun _ => 0))), (a3__29, .inl (cI, 2100, .inl (fun _ => 0))), (q_33, .inr (8, fs1_38)), (a1__39, .inl (cI, 2100, .inl (fun _ => 0))), (a2__40, .inl (cI, 2100, .inl (fun _ => 0))), (a3__41, .inl (cI, 2100, .inl (fun _ => 0))), (a4__42, .inl (cI, 2100, .inl (fun _ => 0))), (a5__43, .inl (cI, 2100, .inl (fun _ => 0))), (a6__44, .inl (cI, 2100, .inl (fun _ => 0))), (q_48, .inr (9, (dfs 20 tyX9)))] H := hP
  have hD : va_D A [(h0, .inr (12, fs_47)), (q_1, .inl (cB, 4000, .inl (fun _ => 0))), (q_5, .inr (2, fs1_10)), (a1__11, .inl (cI, 4004, .inl (fun _ => 0))), (a2__12, .inl (cI, 4004, .inl (fun _ => 0))), (a3__13, .inl (cI, 4004, .inl (fun _ => 0))), (a4__14, .inl (cI, 4004, .inl (fun _ => 0))), (a5__15, .inl (cL, 2100, .inr (.inl (fun _ => 0)))), (a6__16, .inl (cL, 2100, .inr (.inl (fun _ => 0)))), (a7__17, .inl (cI, 8192, .inl (fun _ => 0))), (q_21, .inr (0, fs1_26)), (a1__27, .inl (cI, 2100, .inl (fun _ => 0))), (a2__28, .inl (cI, 2100, .inl (fun _ => 0))), (a3__29, .inl (cI, 2100, .inl (fun _ => 0))), (q_33, .inr (8, fs1_38)), (a1__39, .inl (cI, 2100, .inl (fun _ => 0))), (a2__40, .inl (cI, 2100, .inl (fun _ => 0))), (a3__41, .inl (cI, 2100, .inl (fun _ => 0))), (a4__42, .inl (cI, 2100, .inl (fun _ => 0))), (a5__43, .inl (cI, 2100, .inl (fun _ => 0))), (a6__44, .inl (cI, 2100, .inl (fun _ => 0))), (q_48, .inr (9, (dfs 20 tyX9)))] := hD
  have hF_49 : hasF (dfs 20 tyX9) 20 [(17, .int 0), (18, .int 0), (19, .int 0)] := dfs_has (List.forall_mem_cons.mpr ⟨⟨by decide, rfl⟩, List.forall_mem_cons.mpr ⟨⟨by decide, rfl⟩, List.forall_mem_cons.mpr ⟨⟨by decide, rfl⟩, fun _ h => absurd h List.not_mem_nil⟩⟩⟩)
  generalize dfs 20 tyX9 = fs_50 at hP hD hF_49
  have hP : va_P (dC, dI) vwCl [(h0, .inr (12, fs_47)), (q_1, .inl (cB, 4000, .inl (fun _ => 0))), (q_5, .inr (2, fs1_10)), (a1__11, .inl (cI, 4004, .inl (fun _ => 0))), (a2__12, .inl (cI, 4004, .inl (fun _ => 0))), (a3__13, .inl (cI, 4004, .inl (fun _ => 0))), (a4__14, .inl (cI, 4004, .inl (fun _ => 0))), (a5__15, .inl (cL, 2100, .inr (.inl (fun _ => 0)))), (a6__16, .inl (cL, 2100, .inr (.inl (fun _ => 0)))), (a7__17, .inl (cI, 8192, .inl (fun _ => 0))), (q_21, .inr (0, fs1_26)), (a1__27, .inl (cI, 2100, .inl (fun _ => 0))), (a2__28, .inl (cI, 2100, .inl (fun _ => 0))), (a3__29, .inl (cI, 2100, .inl (fun _ => 0))), (q_33, .inr (8, fs1_38)), (a1__39, .inl (cI, 2100, .inl (fun _ => 0))), (a2__40, .inl (cI, 2100, .inl (fun _ => 0))), (a3__41, .inl (cI, 2100, .inl (fun _ => 0))), (a4__42, .inl (cI, 2100, .inl (fun _ => 0))), (a5__43, .inl (cI, 2100, .inl (fun _ => 0))), (a6__44, .inl (cI, 2100, .inl (fun _ => 0))), (q_48, .inr (9, fs_50))] H := hP
  have hD : va_D A [(h0, .inr (12, fs_47)), (q_1, .inl (cB, 4000, .inl (fun _ => 0))), (q_5, .inr (2, fs1_10)), (a1__11, .inl (cI, 4004, .inl (fun _ => 0))), (a2__12, .inl (cI, 4004, .inl (fun _ => 0))), (a3__13, .inl (cI, 4004, .inl (fun _ => 0))), (a4__14, .inl (cI, 4004, .inl (fun _ => 0))), (a5__15, .inl (cL, 2100, .inr (.inl (fun _ => 0)))), (a6__16, .inl (cL, 2100, .inr (.inl (fun _ => 0)))), (a7__17, .inl (cI, 8192, .inl (fun _ => 0))), (q_21, .inr (0, fs1_26)), (a1__27, .inl (cI, 2100, .inl (fun _ => 0))), (a2__28, .inl (cI, 2100, .inl (fun _ => 0))), (a3__29, .inl (cI, 2100, .inl (fun _ => 0))), (q_33, .inr (8, fs1_38)), (a1__39, .inl (cI, 2100, .inl (fun _ => 0))), (a2__40, .inl (cI, 2100, .inl (fun _ => 0))), (a3__41, .inl (cI, 2100, .inl (fun _ => 0))), (a4__42, .inl (cI, 2100, .inl (fun _ => 0))), (a5__43, .inl (cI, 2100, .inl (fun _ => 0))), (a6__44, .inl (cI, 2100, .inl (fun _ => 0))), (q_48, .inr (9, fs_50))] := hD
  refine W.widen (k := 42) (n := 94938) (by decide) (by decide) ?_
  refine lv_dup hx hb dX12_init_58 rfl ?_
  refine lv_aload_n hx hb dX12_init_59 rfl (lv_at hl 0 rfl) ?_
  refine va_get (D := (dC, dI)) (ci := 12) (v := .ref q_5) (C := RX12) (T := TX12) (N := 14) hx hb hts hin_X12 hown hK hP 0 rfl rfl 1 (by decide) (hts (.fieldLink RX12 16 "NeedHouse" "lexemes" "LNeedHouse$Lexemes;") (List.mem_of_getElem? (i := 21) rfl)) (fun _ h9 => h9) (hF_46.at 2 rfl) dX12_init_60 ?_
  refine lv_aload_n hx hb dX12_init_63 rfl (lv_at hl 0 rfl) ?_
  refine va_get (D := (dC, dI)) (ci := 12) (v := .ref q_33) (C := RX12) (T := TX12) (N := 14) hx hb hts hin_X12 hown hK hP 0 rfl rfl 3 (by decide) (hts (.fieldLink RX12 32 "NeedHouse" "told" "LNeedHouse$Told;") (List.mem_of_getElem? (i := 70) rfl)) (fun _ h9 => h9) (hF_46.at 0 rfl) dX12_init_64 ?_
  refine lv_aload_n hx hb dX12_init_67 rfl (lv_at hl 0 rfl) ?_
  refine va_get (D := (dC, dI)) (ci := 12) (v := .ref q_21) (C := RX12) (T := TX12) (N := 14) hx hb hts hin_X12 hown hK hP 0 rfl rfl 2 (by decide) (hts (.fieldLink RX12 25 "NeedHouse" "datas" "LNeedHouse$Datas;") (List.mem_of_getElem? (i := 46) rfl)) (fun _ h9 => h9) (hF_46.at 1 rfl) dX12_init_68 ?_
  have hPc := hP.sub (ws' := [(q_48, .inr (9, fs_50))]) [21] rfl
  have hDc := hD.sub (ws' := [(q_48, .inr (9, fs_50))]) [21] (by decide) rfl
  have hKc := hK.sub (tys' := [(cI, .int)]) [2] rfl
  have hFc := va_free (wc := [(q_48, .inr (9, fs_50))]) hD hS hA [21] rfl
  refine va_callv (va_runI (As := [.ref q_5, .ref q_33, .ref q_21]) (rest := [.ref q_48, .ref h0]) ⟨hx, hb, hml, hown, hts⟩ (c_X9_init l dC dI H.size q_48 fs_50 cI q_5 q_33 q_21 (hF_49.sub [0, 1, 2] rfl)) (cwI 3 hts g_c_X12_init_c_X9_init_71 rfl rfl rfl (hts (.initialized RX9) (List.mem_of_getElem? (i := 73) rfl)) (hts (.methodLink RX12 38 yX9_init) (List.mem_of_getElem? (i := 93) rfl)) (hts (.instanceMethod yX9_init) (List.mem_of_getElem? (i := 94) rfl)) rfl (by decide +kernel) ⟨Nat.le_of_ble_eq_true rfl, Nat.le_of_ble_eq_true rfl⟩) ⟨fun a U g mk q => by obtain ⟨q0, q1, qP, qK, qD⟩ := q; exact ⟨q0, q1, qP, va_K.moved (u := U) (U := U.calling g mk a) (Vm.Alike.refl U.vm) qK, qD⟩, fun U hU hW => ⟨rfl, by rw [hU], by rw [hU]; exact hPc, va_K.moved hW.alike hKc, hDc.weaken (fun _ _ _ _ => trivial)⟩⟩ rfl rfl hl.1 rfl (lv_room (Nat.le_of_ble_eq_true rfl)) dX12_init_71 ⟨show 42 + 14 ≤ 112 by decide, show 94938 + 64036 ≤ 370249 by decide⟩) hS (fun q _ h => hFc q h) hFc (fun u t H1 locs ht hvm hw hB hz1 hk1 hS => ?_)
  obtain ⟨fs1_53, rfl⟩ : ∃ z, z = u := ⟨_, rfl⟩
  obtain ⟨hP1, hK1, hD1⟩ := hB
  rw [ht] at hP1
  have hK1 := va_K.moved hvm.symm hK1
  try dsimp only at hw hP1 hK1 hD1
  have hF_54 := hw
  obtain ⟨hP, hD⟩ := va_join (wr := [(h0, .inr (12, fs_47)), (q_1, .inl (cB, 4000, .inl (fun _ => 0))), (q_5, .inr (2, fs1_10)), (a1__11, .inl (cI, 4004, .inl (fun _ => 0))), (a2__12, .inl (cI, 4004, .inl (fun _ => 0))), (a3__13, .inl (cI, 4004, .inl (fun _ => 0))), (a4__14, .inl (cI, 4004, .inl (fun _ => 0))), (a5__15, .inl (cL, 2100, .inr (.inl (fun _ => 0)))), (a6__16, .inl (cL, 2100, .inr (.inl (fun _ => 0)))), (a7__17, .inl (cI, 8192, .inl (fun _ => 0))), (q_21, .inr (0, fs1_26)), (a1__27, .inl (cI, 2100, .inl (fun _ => 0))), (a2__28, .inl (cI, 2100, .inl (fun _ => 0))), (a3__29, .inl (cI, 2100, .inl (fun _ => 0))), (q_33, .inr (8, fs1_38)), (a1__39, .inl (cI, 2100, .inl (fun _ => 0))), (a2__40, .inl (cI, 2100, .inl (fun _ => 0))), (a3__41, .inl (cI, 2100, .inl (fun _ => 0))), (a4__42, .inl (cI, 2100, .inl (fun _ => 0))), (a5__43, .inl (cI, 2100, .inl (fun _ => 0))), (a6__44, .inl (cI, 2100, .inl (fun _ => 0)))]) (w1 := [(q_48, .inr (9, fs1_53))]) hP hD [21] [0, 1, 2, 3, 4, 5, 6, 7, 8, 9, 10, 11, 12, 13, 14, 15, 16, 17, 18, 19, 20] rfl rfl (by decide) (by decide) hk1 hFc hP1 hD1
  generalize H1 = H at hP hS ⊢
  have hK := (hK.sub (tys' := [(cB, .byte), (cL, .long)]) [0, 1] rfl).app hK1
  have hK : va_K (dC, dI) vwCl [(cB, .byte), (cL, .long), (cI, .int)] s := hK
  have hP : va_P (dC, dI) vwCl [(h0, .inr (12, fs_47)), (q_1, .inl (cB, 4000, .inl (fun _ => 0))), (q_5, .inr (2, fs1_10)), (a1__11, .inl (cI, 4004, .inl (fun _ => 0))), (a2__12, .inl (cI, 4004, .inl (fun _ => 0))), (a3__13, .inl (cI, 4004, .inl (fun _ => 0))), (a4__14, .inl (cI, 4004, .inl (fun _ => 0))), (a5__15, .inl (cL, 2100, .inr (.inl (fun _ => 0)))), (a6__16, .inl (cL, 2100, .inr (.inl (fun _ => 0)))), (a7__17, .inl (cI, 8192, .inl (fun _ => 0))), (q_21, .inr (0, fs1_26)), (a1__27, .inl (cI, 2100, .inl (fun _ => 0))), (a2__28, .inl (cI, 2100, .inl (fun _ => 0))), (a3__29, .inl (cI, 2100, .inl (fun _ => 0))), (q_33, .inr (8, fs1_38)), (a1__39, .inl (cI, 2100, .inl (fun _ => 0))), (a2__40, .inl (cI, 2100, .inl (fun _ => 0))), (a3__41, .inl (cI, 2100, .inl (fun _ => 0))), (a4__42, .inl (cI, 2100, .inl (fun _ => 0))), (a5__43, .inl (cI, 2100, .inl (fun _ => 0))), (a6__44, .inl (cI, 2100, .inl (fun _ => 0))), (q_48, .inr (9, fs1_53))] H := hP
  have hD : va_D A [(h0, .inr (12, fs_47)), (q_1, .inl (cB, 4000, .inl (fun _ => 0))), (q_5, .inr (2, fs1_10)), (a1__11, .inl (cI, 4004, .inl (fun _ => 0))), (a2__12, .inl (cI, 4004, .inl (fun _ => 0))), (a3__13, .inl (cI, 4004, .inl (fun _ => 0))), (a4__14, .inl (cI, 4004, .inl (fun _ => 0))), (a5__15, .inl (cL, 2100, .inr (.inl (fun _ => 0)))), (a6__16, .inl (cL, 2100, .inr (.inl (fun _ => 0)))), (a7__17, .inl (cI, 8192, .inl (fun _ => 0))), (q_21, .inr (0, fs1_26)), (a1__27, .inl (cI, 2100, .inl (fun _ => 0))), (a2__28, .inl (cI, 2100, .inl (fun _ => 0))), (a3__29, .inl (cI, 2100, .inl (fun _ => 0))), (q_33, .inr (8, fs1_38)), (a1__39, .inl (cI, 2100, .inl (fun _ => 0))), (a2__40, .inl (cI, 2100, .inl (fun _ => 0))), (a3__41, .inl (cI, 2100, .inl (fun _ => 0))), (a4__42, .inl (cI, 2100, .inl (fun _ => 0))), (a5__43, .inl (cI, 2100, .inl (fun _ => 0))), (a6__44, .inl (cI, 2100, .inl (fun _ => 0))), (q_48, .inr (9, fs1_53))] := hD
  refine W.widen (k := 56) (n := 158974) (by decide) (by decide) ?_
  refine va_putF (D := (dC, dI)) (ci := 12) (v := .ref q_48) (ty := (.object "NeedHouse$Tree")) (C := RX12) (T := TX12) (N := 14) hx hb hts hin_X12 tyX12 tyX12_ok nmX12 hown hK hP hD hS 0 rfl rfl 4 (by decide) (hts (.fieldLink RX12 41 "NeedHouse" "tree" "LNeedHouse$Tree;") (List.mem_of_getElem? (i := 95) rfl)) (fun _ h9 => h9) rfl hin rfl (by decide +kernel) rfl rfl (by rw [hF_46.1]; decide) dX12_init_74 (fun H locs hP hD hS => ?_)
  have hP : va_P (dC, dI) vwCl [(h0, .inr (12, (fs_47.set 4 (.ref q_48)))), (q_1, .inl (cB, 4000, .inl (fun _ => 0))), (q_5, .inr (2, fs1_10)), (a1__11, .inl (cI, 4004, .inl (fun _ => 0))), (a2__12, .inl (cI, 4004, .inl (fun _ => 0))), (a3__13, .inl (cI, 4004, .inl (fun _ => 0))), (a4__14, .inl (cI, 4004, .inl (fun _ => 0))), (a5__15, .inl (cL, 2100, .inr (.inl (fun _ => 0)))), (a6__16, .inl (cL, 2100, .inr (.inl (fun _ => 0)))), (a7__17, .inl (cI, 8192, .inl (fun _ => 0))), (q_21, .inr (0, fs1_26)), (a1__27, .inl (cI, 2100, .inl (fun _ => 0))), (a2__28, .inl (cI, 2100, .inl (fun _ => 0))), (a3__29, .inl (cI, 2100, .inl (fun _ => 0))), (q_33, .inr (8, fs1_38)), (a1__39, .inl (cI, 2100, .inl (fun _ => 0))), (a2__40, .inl (cI, 2100, .inl (fun _ => 0))), (a3__41, .inl (cI, 2100, .inl (fun _ => 0))), (a4__42, .inl (cI, 2100, .inl (fun _ => 0))), (a5__43, .inl (cI, 2100, .inl (fun _ => 0))), (a6__44, .inl (cI, 2100, .inl (fun _ => 0))), (q_48, .inr (9, fs1_53))] H := hP
  have hD : va_D A [(h0, .inr (12, (fs_47.set 4 (.ref q_48)))), (q_1, .inl (cB, 4000, .inl (fun _ => 0))), (q_5, .inr (2, fs1_10)), (a1__11, .inl (cI, 4004, .inl (fun _ => 0))), (a2__12, .inl (cI, 4004, .inl (fun _ => 0))), (a3__13, .inl (cI, 4004, .inl (fun _ => 0))), (a4__14, .inl (cI, 4004, .inl (fun _ => 0))), (a5__15, .inl (cL, 2100, .inr (.inl (fun _ => 0)))), (a6__16, .inl (cL, 2100, .inr (.inl (fun _ => 0)))), (a7__17, .inl (cI, 8192, .inl (fun _ => 0))), (q_21, .inr (0, fs1_26)), (a1__27, .inl (cI, 2100, .inl (fun _ => 0))), (a2__28, .inl (cI, 2100, .inl (fun _ => 0))), (a3__29, .inl (cI, 2100, .inl (fun _ => 0))), (q_33, .inr (8, fs1_38)), (a1__39, .inl (cI, 2100, .inl (fun _ => 0))), (a2__40, .inl (cI, 2100, .inl (fun _ => 0))), (a3__41, .inl (cI, 2100, .inl (fun _ => 0))), (a4__42, .inl (cI, 2100, .inl (fun _ => 0))), (a5__43, .inl (cI, 2100, .inl (fun _ => 0))), (a6__44, .inl (cI, 2100, .inl (fun _ => 0))), (q_48, .inr (9, fs1_53))] := hD
  have hF_55 := hF_46.set 4 (.ref q_48) (l' := [(4, .ref q_48), (3, .ref q_33), (2, .ref q_21), (1, .ref q_5), (0, .ref q_1), (11, .int 0), (12, .int 0), (13, .int 0)]) (by decide) rfl
  generalize fs_47.set 4 (.ref q_48) = fs_56 at hP hD hF_55
  have hP : va_P (dC, dI) vwCl [(h0, .inr (12, fs_56)), (q_1, .inl (cB, 4000, .inl (fun _ => 0))), (q_5, .inr (2, fs1_10)), (a1__11, .inl (cI, 4004, .inl (fun _ => 0))), (a2__12, .inl (cI, 4004, .inl (fun _ => 0))), (a3__13, .inl (cI, 4004, .inl (fun _ => 0))), (a4__14, .inl (cI, 4004, .inl (fun _ => 0))), (a5__15, .inl (cL, 2100, .inr (.inl (fun _ => 0)))), (a6__16, .inl (cL, 2100, .inr (.inl (fun _ => 0)))), (a7__17, .inl (cI, 8192, .inl (fun _ => 0))), (q_21, .inr (0, fs1_26)), (a1__27, .inl (cI, 2100, .inl (fun _ => 0))), (a2__28, .inl (cI, 2100, .inl (fun _ => 0))), (a3__29, .inl (cI, 2100, .inl (fun _ => 0))), (q_33, .inr (8, fs1_38)), (a1__39, .inl (cI, 2100, .inl (fun _ => 0))), (a2__40, .inl (cI, 2100, .inl (fun _ => 0))), (a3__41, .inl (cI, 2100, .inl (fun _ => 0))), (a4__42, .inl (cI, 2100, .inl (fun _ => 0))), (a5__43, .inl (cI, 2100, .inl (fun _ => 0))), (a6__44, .inl (cI, 2100, .inl (fun _ => 0))), (q_48, .inr (9, fs1_53))] H := hP
  have hD : va_D A [(h0, .inr (12, fs_56)), (q_1, .inl (cB, 4000, .inl (fun _ => 0))), (q_5, .inr (2, fs1_10)), (a1__11, .inl (cI, 4004, .inl (fun _ => 0))), (a2__12, .inl (cI, 4004, .inl (fun _ => 0))), (a3__13, .inl (cI, 4004, .inl (fun _ => 0))), (a4__14, .inl (cI, 4004, .inl (fun _ => 0))), (a5__15, .inl (cL, 2100, .inr (.inl (fun _ => 0)))), (a6__16, .inl (cL, 2100, .inr (.inl (fun _ => 0)))), (a7__17, .inl (cI, 8192, .inl (fun _ => 0))), (q_21, .inr (0, fs1_26)), (a1__27, .inl (cI, 2100, .inl (fun _ => 0))), (a2__28, .inl (cI, 2100, .inl (fun _ => 0))), (a3__29, .inl (cI, 2100, .inl (fun _ => 0))), (q_33, .inr (8, fs1_38)), (a1__39, .inl (cI, 2100, .inl (fun _ => 0))), (a2__40, .inl (cI, 2100, .inl (fun _ => 0))), (a3__41, .inl (cI, 2100, .inl (fun _ => 0))), (a4__42, .inl (cI, 2100, .inl (fun _ => 0))), (a5__43, .inl (cI, 2100, .inl (fun _ => 0))), (a6__44, .inl (cI, 2100, .inl (fun _ => 0))), (q_48, .inr (9, fs1_53))] := hD
  refine lv_aload_n hx hb dX12_init_77 rfl (lv_at hl 0 rfl) ?_
  refine va_new (ci := 5) (fs := dfs 10 tyX5) (C := RX5) (T := TX5) (N := 10) hx hb hts hin_X5 tyX5 tyX5_ok hown (hts (.classLink RX12 45 RX5) (List.mem_of_getElem? (i := 96) rfl)) (hts (.instantiable RX5 10) (List.mem_of_getElem? (i := 97) rfl)) (hts (.initialized RX5) (List.mem_of_getElem? (i := 98) rfl)) hK hP hD hS hA rfl dfs_ok (show 56 + 1 ≤ 112 by decide) (show 158974 + 10 ≤ 370249 by decide) dX12_init_78 (fun q_57 H hP hD hS => ?_)
  have hP : va_P (dC, dI) vwCl [(h0, .inr (12, fs_56)), (q_1, .inl (cB, 4000, .inl (fun _ => 0))), (q_5, .inr (2, fs1_10)), (a1__11, .inl (cI, 4004, .inl (fun _ => 0))), (a2__12, .inl (cI, 4004, .inl (fun _ => 0))), (a3__13, .inl (cI, 4004, .inl (fun _ => 0))), (a4__14, .inl (cI, 4004, .inl (fun _ => 0))), (a5__15, .inl (cL, 2100, .inr (.inl (fun _ => 0)))), (a6__16, .inl (cL, 2100, .inr (.inl (fun _ => 0)))), (a7__17, .inl (cI, 8192, .inl (fun _ => 0))), (q_21, .inr (0, fs1_26)), (a1__27, .inl (cI, 2100, .inl (fun _ => 0))), (a2__28, .inl (cI, 2100, .inl (fun _ => 0))), (a3__29, .inl (cI, 2100, .inl (fun _ => 0))), (q_33, .inr (8, fs1_38)), (a1__39, .inl (cI, 2100, .inl (fun _ => 0))), (a2__40, .inl (cI, 2100, .inl (fun _ => 0))), (a3__41, .inl (cI, 2100, .inl (fun _ => 0))), (a4__42, .inl (cI, 2100, .inl (fun _ => 0))), (a5__43, .inl (cI, 2100, .inl (fun _ => 0))), (a6__44, .inl (cI, 2100, .inl (fun _ => 0))), (q_48, .inr (9, fs1_53)), (q_57, .inr (5, (dfs 10 tyX5)))] H := hP
  have hD : va_D A [(h0, .inr (12, fs_56)), (q_1, .inl (cB, 4000, .inl (fun _ => 0))), (q_5, .inr (2, fs1_10)), (a1__11, .inl (cI, 4004, .inl (fun _ => 0))), (a2__12, .inl (cI, 4004, .inl (fun _ => 0))), (a3__13, .inl (cI, 4004, .inl (fun _ => 0))), (a4__14, .inl (cI, 4004, .inl (fun _ => 0))), (a5__15, .inl (cL, 2100, .inr (.inl (fun _ => 0)))), (a6__16, .inl (cL, 2100, .inr (.inl (fun _ => 0)))), (a7__17, .inl (cI, 8192, .inl (fun _ => 0))), (q_21, .inr (0, fs1_26)), (a1__27, .inl (cI, 2100, .inl (fun _ => 0))), (a2__28, .inl (cI, 2100, .inl (fun _ => 0))), (a3__29, .inl (cI, 2100, .inl (fun _ => 0))), (q_33, .inr (8, fs1_38)), (a1__39, .inl (cI, 2100, .inl (fun _ => 0))), (a2__40, .inl (cI, 2100, .inl (fun _ => 0))), (a3__41, .inl (cI, 2100, .inl (fun _ => 0))), (a4__42, .inl (cI, 2100, .inl (fun _ => 0))), (a5__43, .inl (cI, 2100, .inl (fun _ => 0))), (a6__44, .inl (cI, 2100, .inl (fun _ => 0))), (q_48, .inr (9, fs1_53)), (q_57, .inr (5, (dfs 10 tyX5)))] := hD
  have hF_58 : hasF (dfs 10 tyX5) 10 [(8, .int 0), (9, .int 0)] := dfs_has (List.forall_mem_cons.mpr ⟨⟨by decide, rfl⟩, List.forall_mem_cons.mpr ⟨⟨by decide, rfl⟩, fun _ h => absurd h List.not_mem_nil⟩⟩)
  generalize dfs 10 tyX5 = fs_59 at hP hD hF_58
  have hP : va_P (dC, dI) vwCl [(h0, .inr (12, fs_56)), (q_1, .inl (cB, 4000, .inl (fun _ => 0))), (q_5, .inr (2, fs1_10)), (a1__11, .inl (cI, 4004, .inl (fun _ => 0))), (a2__12, .inl (cI, 4004, .inl (fun _ => 0))), (a3__13, .inl (cI, 4004, .inl (fun _ => 0))), (a4__14, .inl (cI, 4004, .inl (fun _ => 0))), (a5__15, .inl (cL, 2100, .inr (.inl (fun _ => 0)))), (a6__16, .inl (cL, 2100, .inr (.inl (fun _ => 0)))), (a7__17, .inl (cI, 8192, .inl (fun _ => 0))), (q_21, .inr (0, fs1_26)), (a1__27, .inl (cI, 2100, .inl (fun _ => 0))), (a2__28, .inl (cI, 2100, .inl (fun _ => 0))), (a3__29, .inl (cI, 2100, .inl (fun _ => 0))), (q_33, .inr (8, fs1_38)), (a1__39, .inl (cI, 2100, .inl (fun _ => 0))), (a2__40, .inl (cI, 2100, .inl (fun _ => 0))), (a3__41, .inl (cI, 2100, .inl (fun _ => 0))), (a4__42, .inl (cI, 2100, .inl (fun _ => 0))), (a5__43, .inl (cI, 2100, .inl (fun _ => 0))), (a6__44, .inl (cI, 2100, .inl (fun _ => 0))), (q_48, .inr (9, fs1_53)), (q_57, .inr (5, fs_59))] H := hP
  have hD : va_D A [(h0, .inr (12, fs_56)), (q_1, .inl (cB, 4000, .inl (fun _ => 0))), (q_5, .inr (2, fs1_10)), (a1__11, .inl (cI, 4004, .inl (fun _ => 0))), (a2__12, .inl (cI, 4004, .inl (fun _ => 0))), (a3__13, .inl (cI, 4004, .inl (fun _ => 0))), (a4__14, .inl (cI, 4004, .inl (fun _ => 0))), (a5__15, .inl (cL, 2100, .inr (.inl (fun _ => 0)))), (a6__16, .inl (cL, 2100, .inr (.inl (fun _ => 0)))), (a7__17, .inl (cI, 8192, .inl (fun _ => 0))), (q_21, .inr (0, fs1_26)), (a1__27, .inl (cI, 2100, .inl (fun _ => 0))), (a2__28, .inl (cI, 2100, .inl (fun _ => 0))), (a3__29, .inl (cI, 2100, .inl (fun _ => 0))), (q_33, .inr (8, fs1_38)), (a1__39, .inl (cI, 2100, .inl (fun _ => 0))), (a2__40, .inl (cI, 2100, .inl (fun _ => 0))), (a3__41, .inl (cI, 2100, .inl (fun _ => 0))), (a4__42, .inl (cI, 2100, .inl (fun _ => 0))), (a5__43, .inl (cI, 2100, .inl (fun _ => 0))), (a6__44, .inl (cI, 2100, .inl (fun _ => 0))), (q_48, .inr (9, fs1_53)), (q_57, .inr (5, fs_59))] := hD
  refine W.widen (k := 57) (n := 158984) (by decide) (by decide) ?_
  refine lv_dup hx hb dX12_init_81 rfl ?_
  refine lv_aload_n hx hb dX12_init_82 rfl (lv_at hl 0 rfl) ?_
  refine va_get (D := (dC, dI)) (ci := 12) (v := .ref q_5) (C := RX12) (T := TX12) (N := 14) hx hb hts hin_X12 hown hK hP 0 rfl rfl 1 (by decide) (hts (.fieldLink RX12 16 "NeedHouse" "lexemes" "LNeedHouse$Lexemes;") (List.mem_of_getElem? (i := 21) rfl)) (fun _ h9 => h9) (hF_55.at 3 rfl) dX12_init_83 ?_
  refine lv_aload_n hx hb dX12_init_86 rfl (lv_at hl 0 rfl) ?_
  refine va_get (D := (dC, dI)) (ci := 12) (v := .ref q_48) (C := RX12) (T := TX12) (N := 14) hx hb hts hin_X12 hown hK hP 0 rfl rfl 4 (by decide) (hts (.fieldLink RX12 41 "NeedHouse" "tree" "LNeedHouse$Tree;") (List.mem_of_getElem? (i := 95) rfl)) (fun _ h9 => h9) (hF_55.at 0 rfl) dX12_init_87 ?_
  refine lv_aload_n hx hb dX12_init_90 rfl (lv_at hl 0 rfl) ?_
  refine va_get (D := (dC, dI)) (ci := 12) (v := .ref q_33) (C := RX12) (T := TX12) (N := 14) hx hb hts hin_X12 hown hK hP 0 rfl rfl 3 (by decide) (hts (.fieldLink RX12 32 "NeedHouse" "told" "LNeedHouse$Told;") (List.mem_of_getElem? (i := 70) rfl)) (fun _ h9 => h9) (hF_55.at 1 rfl) dX12_init_91 ?_
  refine lv_aload_n hx hb dX12_init_94 rfl (lv_at hl 0 rfl) ?_
  refine va_get (D := (dC, dI)) (ci := 12) (v := .ref q_21) (C := RX12) (T := TX12) (N := 14) hx hb hts hin_X12 hown hK hP 0 rfl rfl 2 (by decide) (hts (.fieldLink RX12 25 "NeedHouse" "datas" "LNeedHouse$Datas;") (List.mem_of_getElem? (i := 46) rfl)) (fun _ h9 => h9) (hF_55.at 2 rfl) dX12_init_95 ?_
  have hPc := hP.sub (ws' := [(q_57, .inr (5, fs_59))]) [22] rfl
  have hDc := hD.sub (ws' := [(q_57, .inr (5, fs_59))]) [22] (by decide) rfl
  have hKc := hK.sub (tys' := [(cI, .int)]) [2] rfl
  have hFc := va_free (wc := [(q_57, .inr (5, fs_59))]) hD hS hA [22] rfl
  refine va_callv (va_runI (As := [.ref q_5, .ref q_48, .ref q_33, .ref q_21]) (rest := [.ref q_57, .ref h0]) ⟨hx, hb, hml, hown, hts⟩ (c_X5_init l dC dI H.size q_57 fs_59 cI q_5 q_48 q_33 q_21 (hF_58.sub [0, 1] rfl)) (cwI 4 hts g_c_X12_init_c_X5_init_98 rfl rfl rfl (hts (.initialized RX5) (List.mem_of_getElem? (i := 98) rfl)) (hts (.methodLink RX12 47 yX5_init) (List.mem_of_getElem? (i := 118) rfl)) (hts (.instanceMethod yX5_init) (List.mem_of_getElem? (i := 119) rfl)) rfl (by decide +kernel) ⟨Nat.le_of_ble_eq_true rfl, Nat.le_of_ble_eq_true rfl⟩) ⟨fun a U g mk q => by obtain ⟨q0, q1, qP, qK, qD⟩ := q; exact ⟨q0, q1, qP, va_K.moved (u := U) (U := U.calling g mk a) (Vm.Alike.refl U.vm) qK, qD⟩, fun U hU hW => ⟨rfl, by rw [hU], by rw [hU]; exact hPc, va_K.moved hW.alike hKc, hDc.weaken (fun _ _ _ _ => trivial)⟩⟩ rfl rfl hl.1 rfl (lv_room (Nat.le_of_ble_eq_true rfl)) dX12_init_98 ⟨show 57 + 5 ≤ 112 by decide, show 158984 + 16361 ≤ 370249 by decide⟩) hS (fun q _ h => hFc q h) hFc (fun u t H1 locs ht hvm hw hB hz1 hk1 hS => ?_)
  obtain ⟨fs1_62, a1__63, fs1__64, a2__65⟩ := u
  obtain ⟨hP1, hK1, hD1⟩ := hB
  rw [ht] at hP1
  have hK1 := va_K.moved hvm.symm hK1
  try dsimp only at hw hP1 hK1 hD1
  obtain ⟨hF_66, hF_67⟩ := hw
  obtain ⟨hP, hD⟩ := va_join (wr := [(h0, .inr (12, fs_56)), (q_1, .inl (cB, 4000, .inl (fun _ => 0))), (q_5, .inr (2, fs1_10)), (a1__11, .inl (cI, 4004, .inl (fun _ => 0))), (a2__12, .inl (cI, 4004, .inl (fun _ => 0))), (a3__13, .inl (cI, 4004, .inl (fun _ => 0))), (a4__14, .inl (cI, 4004, .inl (fun _ => 0))), (a5__15, .inl (cL, 2100, .inr (.inl (fun _ => 0)))), (a6__16, .inl (cL, 2100, .inr (.inl (fun _ => 0)))), (a7__17, .inl (cI, 8192, .inl (fun _ => 0))), (q_21, .inr (0, fs1_26)), (a1__27, .inl (cI, 2100, .inl (fun _ => 0))), (a2__28, .inl (cI, 2100, .inl (fun _ => 0))), (a3__29, .inl (cI, 2100, .inl (fun _ => 0))), (q_33, .inr (8, fs1_38)), (a1__39, .inl (cI, 2100, .inl (fun _ => 0))), (a2__40, .inl (cI, 2100, .inl (fun _ => 0))), (a3__41, .inl (cI, 2100, .inl (fun _ => 0))), (a4__42, .inl (cI, 2100, .inl (fun _ => 0))), (a5__43, .inl (cI, 2100, .inl (fun _ => 0))), (a6__44, .inl (cI, 2100, .inl (fun _ => 0))), (q_48, .inr (9, fs1_53))]) (w1 := [(q_57, .inr (5, fs1_62)), (a1__63, .inr (1, fs1__64)), (a2__65, .inl (cI, 8008, .inl (fun _ => 0)))]) hP hD [22] [0, 1, 2, 3, 4, 5, 6, 7, 8, 9, 10, 11, 12, 13, 14, 15, 16, 17, 18, 19, 20, 21] rfl rfl (by decide) (by decide) hk1 hFc hP1 hD1
  generalize H1 = H at hP hS ⊢
  have hK := (hK.sub (tys' := [(cB, .byte), (cL, .long)]) [0, 1] rfl).app hK1
  have hK : va_K (dC, dI) vwCl [(cB, .byte), (cL, .long), (cI, .int)] s := hK
  have hP : va_P (dC, dI) vwCl [(h0, .inr (12, fs_56)), (q_1, .inl (cB, 4000, .inl (fun _ => 0))), (q_5, .inr (2, fs1_10)), (a1__11, .inl (cI, 4004, .inl (fun _ => 0))), (a2__12, .inl (cI, 4004, .inl (fun _ => 0))), (a3__13, .inl (cI, 4004, .inl (fun _ => 0))), (a4__14, .inl (cI, 4004, .inl (fun _ => 0))), (a5__15, .inl (cL, 2100, .inr (.inl (fun _ => 0)))), (a6__16, .inl (cL, 2100, .inr (.inl (fun _ => 0)))), (a7__17, .inl (cI, 8192, .inl (fun _ => 0))), (q_21, .inr (0, fs1_26)), (a1__27, .inl (cI, 2100, .inl (fun _ => 0))), (a2__28, .inl (cI, 2100, .inl (fun _ => 0))), (a3__29, .inl (cI, 2100, .inl (fun _ => 0))), (q_33, .inr (8, fs1_38)), (a1__39, .inl (cI, 2100, .inl (fun _ => 0))), (a2__40, .inl (cI, 2100, .inl (fun _ => 0))), (a3__41, .inl (cI, 2100, .inl (fun _ => 0))), (a4__42, .inl (cI, 2100, .inl (fun _ => 0))), (a5__43, .inl (cI, 2100, .inl (fun _ => 0))), (a6__44, .inl (cI, 2100, .inl (fun _ => 0))), (q_48, .inr (9, fs1_53)), (q_57, .inr (5, fs1_62)), (a1__63, .inr (1, fs1__64)), (a2__65, .inl (cI, 8008, .inl (fun _ => 0)))] H := hP
  have hD : va_D A [(h0, .inr (12, fs_56)), (q_1, .inl (cB, 4000, .inl (fun _ => 0))), (q_5, .inr (2, fs1_10)), (a1__11, .inl (cI, 4004, .inl (fun _ => 0))), (a2__12, .inl (cI, 4004, .inl (fun _ => 0))), (a3__13, .inl (cI, 4004, .inl (fun _ => 0))), (a4__14, .inl (cI, 4004, .inl (fun _ => 0))), (a5__15, .inl (cL, 2100, .inr (.inl (fun _ => 0)))), (a6__16, .inl (cL, 2100, .inr (.inl (fun _ => 0)))), (a7__17, .inl (cI, 8192, .inl (fun _ => 0))), (q_21, .inr (0, fs1_26)), (a1__27, .inl (cI, 2100, .inl (fun _ => 0))), (a2__28, .inl (cI, 2100, .inl (fun _ => 0))), (a3__29, .inl (cI, 2100, .inl (fun _ => 0))), (q_33, .inr (8, fs1_38)), (a1__39, .inl (cI, 2100, .inl (fun _ => 0))), (a2__40, .inl (cI, 2100, .inl (fun _ => 0))), (a3__41, .inl (cI, 2100, .inl (fun _ => 0))), (a4__42, .inl (cI, 2100, .inl (fun _ => 0))), (a5__43, .inl (cI, 2100, .inl (fun _ => 0))), (a6__44, .inl (cI, 2100, .inl (fun _ => 0))), (q_48, .inr (9, fs1_53)), (q_57, .inr (5, fs1_62)), (a1__63, .inr (1, fs1__64)), (a2__65, .inl (cI, 8008, .inl (fun _ => 0)))] := hD
  refine W.widen (k := 62) (n := 175345) (by decide) (by decide) ?_
  refine va_putF (D := (dC, dI)) (ci := 12) (v := .ref q_57) (ty := (.object "NeedHouse$Parser")) (C := RX12) (T := TX12) (N := 14) hx hb hts hin_X12 tyX12 tyX12_ok nmX12 hown hK hP hD hS 0 rfl rfl 5 (by decide) (hts (.fieldLink RX12 50 "NeedHouse" "parser" "LNeedHouse$Parser;") (List.mem_of_getElem? (i := 120) rfl)) (fun _ h9 => h9) rfl hin rfl (by decide +kernel) rfl rfl (by rw [hF_55.1]; decide) dX12_init_101 (fun H locs hP hD hS => ?_)
  have hP : va_P (dC, dI) vwCl [(h0, .inr (12, (fs_56.set 5 (.ref q_57)))), (q_1, .inl (cB, 4000, .inl (fun _ => 0))), (q_5, .inr (2, fs1_10)), (a1__11, .inl (cI, 4004, .inl (fun _ => 0))), (a2__12, .inl (cI, 4004, .inl (fun _ => 0))), (a3__13, .inl (cI, 4004, .inl (fun _ => 0))), (a4__14, .inl (cI, 4004, .inl (fun _ => 0))), (a5__15, .inl (cL, 2100, .inr (.inl (fun _ => 0)))), (a6__16, .inl (cL, 2100, .inr (.inl (fun _ => 0)))), (a7__17, .inl (cI, 8192, .inl (fun _ => 0))), (q_21, .inr (0, fs1_26)), (a1__27, .inl (cI, 2100, .inl (fun _ => 0))), (a2__28, .inl (cI, 2100, .inl (fun _ => 0))), (a3__29, .inl (cI, 2100, .inl (fun _ => 0))), (q_33, .inr (8, fs1_38)), (a1__39, .inl (cI, 2100, .inl (fun _ => 0))), (a2__40, .inl (cI, 2100, .inl (fun _ => 0))), (a3__41, .inl (cI, 2100, .inl (fun _ => 0))), (a4__42, .inl (cI, 2100, .inl (fun _ => 0))), (a5__43, .inl (cI, 2100, .inl (fun _ => 0))), (a6__44, .inl (cI, 2100, .inl (fun _ => 0))), (q_48, .inr (9, fs1_53)), (q_57, .inr (5, fs1_62)), (a1__63, .inr (1, fs1__64)), (a2__65, .inl (cI, 8008, .inl (fun _ => 0)))] H := hP
  have hD : va_D A [(h0, .inr (12, (fs_56.set 5 (.ref q_57)))), (q_1, .inl (cB, 4000, .inl (fun _ => 0))), (q_5, .inr (2, fs1_10)), (a1__11, .inl (cI, 4004, .inl (fun _ => 0))), (a2__12, .inl (cI, 4004, .inl (fun _ => 0))), (a3__13, .inl (cI, 4004, .inl (fun _ => 0))), (a4__14, .inl (cI, 4004, .inl (fun _ => 0))), (a5__15, .inl (cL, 2100, .inr (.inl (fun _ => 0)))), (a6__16, .inl (cL, 2100, .inr (.inl (fun _ => 0)))), (a7__17, .inl (cI, 8192, .inl (fun _ => 0))), (q_21, .inr (0, fs1_26)), (a1__27, .inl (cI, 2100, .inl (fun _ => 0))), (a2__28, .inl (cI, 2100, .inl (fun _ => 0))), (a3__29, .inl (cI, 2100, .inl (fun _ => 0))), (q_33, .inr (8, fs1_38)), (a1__39, .inl (cI, 2100, .inl (fun _ => 0))), (a2__40, .inl (cI, 2100, .inl (fun _ => 0))), (a3__41, .inl (cI, 2100, .inl (fun _ => 0))), (a4__42, .inl (cI, 2100, .inl (fun _ => 0))), (a5__43, .inl (cI, 2100, .inl (fun _ => 0))), (a6__44, .inl (cI, 2100, .inl (fun _ => 0))), (q_48, .inr (9, fs1_53)), (q_57, .inr (5, fs1_62)), (a1__63, .inr (1, fs1__64)), (a2__65, .inl (cI, 8008, .inl (fun _ => 0)))] := hD
  have hF_68 := hF_55.set 5 (.ref q_57) (l' := [(5, .ref q_57), (4, .ref q_48), (3, .ref q_33), (2, .ref q_21), (1, .ref q_5), (0, .ref q_1), (11, .int 0), (12, .int 0), (13, .int 0)]) (by decide) rfl
  generalize fs_56.set 5 (.ref q_57) = fs_69 at hP hD hF_68
  have hP : va_P (dC, dI) vwCl [(h0, .inr (12, fs_69)), (q_1, .inl (cB, 4000, .inl (fun _ => 0))), (q_5, .inr (2, fs1_10)), (a1__11, .inl (cI, 4004, .inl (fun _ => 0))), (a2__12, .inl (cI, 4004, .inl (fun _ => 0))), (a3__13, .inl (cI, 4004, .inl (fun _ => 0))), (a4__14, .inl (cI, 4004, .inl (fun _ => 0))), (a5__15, .inl (cL, 2100, .inr (.inl (fun _ => 0)))), (a6__16, .inl (cL, 2100, .inr (.inl (fun _ => 0)))), (a7__17, .inl (cI, 8192, .inl (fun _ => 0))), (q_21, .inr (0, fs1_26)), (a1__27, .inl (cI, 2100, .inl (fun _ => 0))), (a2__28, .inl (cI, 2100, .inl (fun _ => 0))), (a3__29, .inl (cI, 2100, .inl (fun _ => 0))), (q_33, .inr (8, fs1_38)), (a1__39, .inl (cI, 2100, .inl (fun _ => 0))), (a2__40, .inl (cI, 2100, .inl (fun _ => 0))), (a3__41, .inl (cI, 2100, .inl (fun _ => 0))), (a4__42, .inl (cI, 2100, .inl (fun _ => 0))), (a5__43, .inl (cI, 2100, .inl (fun _ => 0))), (a6__44, .inl (cI, 2100, .inl (fun _ => 0))), (q_48, .inr (9, fs1_53)), (q_57, .inr (5, fs1_62)), (a1__63, .inr (1, fs1__64)), (a2__65, .inl (cI, 8008, .inl (fun _ => 0)))] H := hP
  have hD : va_D A [(h0, .inr (12, fs_69)), (q_1, .inl (cB, 4000, .inl (fun _ => 0))), (q_5, .inr (2, fs1_10)), (a1__11, .inl (cI, 4004, .inl (fun _ => 0))), (a2__12, .inl (cI, 4004, .inl (fun _ => 0))), (a3__13, .inl (cI, 4004, .inl (fun _ => 0))), (a4__14, .inl (cI, 4004, .inl (fun _ => 0))), (a5__15, .inl (cL, 2100, .inr (.inl (fun _ => 0)))), (a6__16, .inl (cL, 2100, .inr (.inl (fun _ => 0)))), (a7__17, .inl (cI, 8192, .inl (fun _ => 0))), (q_21, .inr (0, fs1_26)), (a1__27, .inl (cI, 2100, .inl (fun _ => 0))), (a2__28, .inl (cI, 2100, .inl (fun _ => 0))), (a3__29, .inl (cI, 2100, .inl (fun _ => 0))), (q_33, .inr (8, fs1_38)), (a1__39, .inl (cI, 2100, .inl (fun _ => 0))), (a2__40, .inl (cI, 2100, .inl (fun _ => 0))), (a3__41, .inl (cI, 2100, .inl (fun _ => 0))), (a4__42, .inl (cI, 2100, .inl (fun _ => 0))), (a5__43, .inl (cI, 2100, .inl (fun _ => 0))), (a6__44, .inl (cI, 2100, .inl (fun _ => 0))), (q_48, .inr (9, fs1_53)), (q_57, .inr (5, fs1_62)), (a1__63, .inr (1, fs1__64)), (a2__65, .inl (cI, 8008, .inl (fun _ => 0)))] := hD
  refine lv_aload_n hx hb dX12_init_104 rfl (lv_at hl 0 rfl) ?_
  refine va_new (ci := 11) (fs := dfs 18 tyX11) (C := RX11) (T := TX11) (N := 18) hx hb hts hin_X11 tyX11 tyX11_ok hown (hts (.classLink RX12 54 RX11) (List.mem_of_getElem? (i := 121) rfl)) (hts (.instantiable RX11 18) (List.mem_of_getElem? (i := 122) rfl)) (hts (.initialized RX11) (List.mem_of_getElem? (i := 123) rfl)) hK hP hD hS hA rfl dfs_ok (show 62 + 1 ≤ 112 by decide) (show 175345 + 18 ≤ 370249 by decide) dX12_init_105 (fun q_70 H hP hD hS => ?_)
  have hP : va_P (dC, dI) vwCl [(h0, .inr (12, fs_69)), (q_1, .inl (cB, 4000, .inl (fun _ => 0))), (q_5, .inr (2, fs1_10)), (a1__11, .inl (cI, 4004, .inl (fun _ => 0))), (a2__12, .inl (cI, 4004, .inl (fun _ => 0))), (a3__13, .inl (cI, 4004, .inl (fun _ => 0))), (a4__14, .inl (cI, 4004, .inl (fun _ => 0))), (a5__15, .inl (cL, 2100, .inr (.inl (fun _ => 0)))), (a6__16, .inl (cL, 2100, .inr (.inl (fun _ => 0)))), (a7__17, .inl (cI, 8192, .inl (fun _ => 0))), (q_21, .inr (0, fs1_26)), (a1__27, .inl (cI, 2100, .inl (fun _ => 0))), (a2__28, .inl (cI, 2100, .inl (fun _ => 0))), (a3__29, .inl (cI, 2100, .inl (fun _ => 0))), (q_33, .inr (8, fs1_38)), (a1__39, .inl (cI, 2100, .inl (fun _ => 0))), (a2__40, .inl (cI, 2100, .inl (fun _ => 0))), (a3__41, .inl (cI, 2100, .inl (fun _ => 0))), (a4__42, .inl (cI, 2100, .inl (fun _ => 0))), (a5__43, .inl (cI, 2100, .inl (fun _ => 0))), (a6__44, .inl (cI, 2100, .inl (fun _ => 0))), (q_48, .inr (9, fs1_53)), (q_57, .inr (5, fs1_62)), (a1__63, .inr (1, fs1__64)), (a2__65, .inl (cI, 8008, .inl (fun _ => 0))), (q_70, .inr (11, (dfs 18 tyX11)))] H := hP
  have hD : va_D A [(h0, .inr (12, fs_69)), (q_1, .inl (cB, 4000, .inl (fun _ => 0))), (q_5, .inr (2, fs1_10)), (a1__11, .inl (cI, 4004, .inl (fun _ => 0))), (a2__12, .inl (cI, 4004, .inl (fun _ => 0))), (a3__13, .inl (cI, 4004, .inl (fun _ => 0))), (a4__14, .inl (cI, 4004, .inl (fun _ => 0))), (a5__15, .inl (cL, 2100, .inr (.inl (fun _ => 0)))), (a6__16, .inl (cL, 2100, .inr (.inl (fun _ => 0)))), (a7__17, .inl (cI, 8192, .inl (fun _ => 0))), (q_21, .inr (0, fs1_26)), (a1__27, .inl (cI, 2100, .inl (fun _ => 0))), (a2__28, .inl (cI, 2100, .inl (fun _ => 0))), (a3__29, .inl (cI, 2100, .inl (fun _ => 0))), (q_33, .inr (8, fs1_38)), (a1__39, .inl (cI, 2100, .inl (fun _ => 0))), (a2__40, .inl (cI, 2100, .inl (fun _ => 0))), (a3__41, .inl (cI, 2100, .inl (fun _ => 0))), (a4__42, .inl (cI, 2100, .inl (fun _ => 0))), (a5__43, .inl (cI, 2100, .inl (fun _ => 0))), (a6__44, .inl (cI, 2100, .inl (fun _ => 0))), (q_48, .inr (9, fs1_53)), (q_57, .inr (5, fs1_62)), (a1__63, .inr (1, fs1__64)), (a2__65, .inl (cI, 8008, .inl (fun _ => 0))), (q_70, .inr (11, (dfs 18 tyX11)))] := hD
  have hF_71 : hasF (dfs 18 tyX11) 18 [(11, .int 0), (12, .int 0), (13, .int 0), (14, .int 0), (15, .int 0), (16, .int 0), (17, .int 0)] := dfs_has (List.forall_mem_cons.mpr ⟨⟨by decide, rfl⟩, List.forall_mem_cons.mpr ⟨⟨by decide, rfl⟩, List.forall_mem_cons.mpr ⟨⟨by decide, rfl⟩, List.forall_mem_cons.mpr ⟨⟨by decide, rfl⟩, List.forall_mem_cons.mpr ⟨⟨by decide, rfl⟩, List.forall_mem_cons.mpr ⟨⟨by decide, rfl⟩, List.forall_mem_cons.mpr ⟨⟨by decide, rfl⟩, fun _ h => absurd h List.not_mem_nil⟩⟩⟩⟩⟩⟩⟩)
  generalize dfs 18 tyX11 = fs_72 at hP hD hF_71
  have hP : va_P (dC, dI) vwCl [(h0, .inr (12, fs_69)), (q_1, .inl (cB, 4000, .inl (fun _ => 0))), (q_5, .inr (2, fs1_10)), (a1__11, .inl (cI, 4004, .inl (fun _ => 0))), (a2__12, .inl (cI, 4004, .inl (fun _ => 0))), (a3__13, .inl (cI, 4004, .inl (fun _ => 0))), (a4__14, .inl (cI, 4004, .inl (fun _ => 0))), (a5__15, .inl (cL, 2100, .inr (.inl (fun _ => 0)))), (a6__16, .inl (cL, 2100, .inr (.inl (fun _ => 0)))), (a7__17, .inl (cI, 8192, .inl (fun _ => 0))), (q_21, .inr (0, fs1_26)), (a1__27, .inl (cI, 2100, .inl (fun _ => 0))), (a2__28, .inl (cI, 2100, .inl (fun _ => 0))), (a3__29, .inl (cI, 2100, .inl (fun _ => 0))), (q_33, .inr (8, fs1_38)), (a1__39, .inl (cI, 2100, .inl (fun _ => 0))), (a2__40, .inl (cI, 2100, .inl (fun _ => 0))), (a3__41, .inl (cI, 2100, .inl (fun _ => 0))), (a4__42, .inl (cI, 2100, .inl (fun _ => 0))), (a5__43, .inl (cI, 2100, .inl (fun _ => 0))), (a6__44, .inl (cI, 2100, .inl (fun _ => 0))), (q_48, .inr (9, fs1_53)), (q_57, .inr (5, fs1_62)), (a1__63, .inr (1, fs1__64)), (a2__65, .inl (cI, 8008, .inl (fun _ => 0))), (q_70, .inr (11, fs_72))] H := hP
  have hD : va_D A [(h0, .inr (12, fs_69)), (q_1, .inl (cB, 4000, .inl (fun _ => 0))), (q_5, .inr (2, fs1_10)), (a1__11, .inl (cI, 4004, .inl (fun _ => 0))), (a2__12, .inl (cI, 4004, .inl (fun _ => 0))), (a3__13, .inl (cI, 4004, .inl (fun _ => 0))), (a4__14, .inl (cI, 4004, .inl (fun _ => 0))), (a5__15, .inl (cL, 2100, .inr (.inl (fun _ => 0)))), (a6__16, .inl (cL, 2100, .inr (.inl (fun _ => 0)))), (a7__17, .inl (cI, 8192, .inl (fun _ => 0))), (q_21, .inr (0, fs1_26)), (a1__27, .inl (cI, 2100, .inl (fun _ => 0))), (a2__28, .inl (cI, 2100, .inl (fun _ => 0))), (a3__29, .inl (cI, 2100, .inl (fun _ => 0))), (q_33, .inr (8, fs1_38)), (a1__39, .inl (cI, 2100, .inl (fun _ => 0))), (a2__40, .inl (cI, 2100, .inl (fun _ => 0))), (a3__41, .inl (cI, 2100, .inl (fun _ => 0))), (a4__42, .inl (cI, 2100, .inl (fun _ => 0))), (a5__43, .inl (cI, 2100, .inl (fun _ => 0))), (a6__44, .inl (cI, 2100, .inl (fun _ => 0))), (q_48, .inr (9, fs1_53)), (q_57, .inr (5, fs1_62)), (a1__63, .inr (1, fs1__64)), (a2__65, .inl (cI, 8008, .inl (fun _ => 0))), (q_70, .inr (11, fs_72))] := hD
  refine W.widen (k := 63) (n := 175363) (by decide) (by decide) ?_
  refine lv_dup hx hb dX12_init_108 rfl ?_
  refine lv_aload_n hx hb dX12_init_109 rfl (lv_at hl 0 rfl) ?_
  refine va_get (D := (dC, dI)) (ci := 12) (v := .ref q_21) (C := RX12) (T := TX12) (N := 14) hx hb hts hin_X12 hown hK hP 0 rfl rfl 2 (by decide) (hts (.fieldLink RX12 25 "NeedHouse" "datas" "LNeedHouse$Datas;") (List.mem_of_getElem? (i := 46) rfl)) (fun _ h9 => h9) (hF_68.at 3 rfl) dX12_init_110 ?_
  have hPc := hP.sub (ws' := [(q_70, .inr (11, fs_72))]) [25] rfl
  have hDc := hD.sub (ws' := [(q_70, .inr (11, fs_72))]) [25] (by decide) rfl
  have hKc := hK.sub (tys' := [(cI, .int), (cB, .byte)]) [2, 0] rfl
  have hFc := va_free (wc := [(q_70, .inr (11, fs_72))]) hD hS hA [25] rfl
  refine va_callv (va_runI (As := [.ref q_21]) (rest := [.ref q_70, .ref h0]) ⟨hx, hb, hml, hown, hts⟩ (c_X11_init l dC dI H.size q_70 fs_72 cI cB q_21 (hF_71.sub [0, 1, 2, 3, 4, 5, 6] rfl)) (cwI 1 hts g_c_X12_init_c_X11_init_113 rfl rfl rfl (hts (.initialized RX11) (List.mem_of_getElem? (i := 123) rfl)) (hts (.methodLink RX12 56 yX11_init) (List.mem_of_getElem? (i := 137) rfl)) (hts (.instanceMethod yX11_init) (List.mem_of_getElem? (i := 138) rfl)) rfl (by decide +kernel) ⟨Nat.le_of_ble_eq_true rfl, Nat.le_of_ble_eq_true rfl⟩) ⟨fun a U g mk q => by obtain ⟨q0, q1, qP, qK, qD⟩ := q; exact ⟨q0, q1, qP, va_K.moved (u := U) (U := U.calling g mk a) (Vm.Alike.refl U.vm) qK, qD⟩, fun U hU hW => ⟨rfl, by rw [hU], by rw [hU]; exact hPc, va_K.moved hW.alike hKc, hDc.weaken (fun _ _ _ _ => trivial)⟩⟩ rfl rfl hl.1 rfl (lv_room (Nat.le_of_ble_eq_true rfl)) dX12_init_113 ⟨show 63 + 10 ≤ 112 by decide, show 175363 + 42590 ≤ 370249 by decide⟩) hS (fun q _ h => hFc q h) hFc (fun u t H1 locs ht hvm hw hB hz1 hk1 hS => ?_)
  obtain ⟨fs1_75, rfl⟩ : ∃ z, z = u := ⟨_, rfl⟩
  obtain ⟨hP1, hK1, hD1⟩ := hB
  rw [ht] at hP1
  have hK1 := va_K.moved hvm.symm hK1
  try dsimp only at hw hP1 hK1 hD1
  have hF_76 := hw
  obtain ⟨hP, hD⟩ := va_join (wr := [(h0, .inr (12, fs_69)), (q_1, .inl (cB, 4000, .inl (fun _ => 0))), (q_5, .inr (2, fs1_10)), (a1__11, .inl (cI, 4004, .inl (fun _ => 0))), (a2__12, .inl (cI, 4004, .inl (fun _ => 0))), (a3__13, .inl (cI, 4004, .inl (fun _ => 0))), (a4__14, .inl (cI, 4004, .inl (fun _ => 0))), (a5__15, .inl (cL, 2100, .inr (.inl (fun _ => 0)))), (a6__16, .inl (cL, 2100, .inr (.inl (fun _ => 0)))), (a7__17, .inl (cI, 8192, .inl (fun _ => 0))), (q_21, .inr (0, fs1_26)), (a1__27, .inl (cI, 2100, .inl (fun _ => 0))), (a2__28, .inl (cI, 2100, .inl (fun _ => 0))), (a3__29, .inl (cI, 2100, .inl (fun _ => 0))), (q_33, .inr (8, fs1_38)), (a1__39, .inl (cI, 2100, .inl (fun _ => 0))), (a2__40, .inl (cI, 2100, .inl (fun _ => 0))), (a3__41, .inl (cI, 2100, .inl (fun _ => 0))), (a4__42, .inl (cI, 2100, .inl (fun _ => 0))), (a5__43, .inl (cI, 2100, .inl (fun _ => 0))), (a6__44, .inl (cI, 2100, .inl (fun _ => 0))), (q_48, .inr (9, fs1_53)), (q_57, .inr (5, fs1_62)), (a1__63, .inr (1, fs1__64)), (a2__65, .inl (cI, 8008, .inl (fun _ => 0)))]) (w1 := [(q_70, .inr (11, fs1_75))]) hP hD [25] [0, 1, 2, 3, 4, 5, 6, 7, 8, 9, 10, 11, 12, 13, 14, 15, 16, 17, 18, 19, 20, 21, 22, 23, 24] rfl rfl (by decide) (by decide) hk1 hFc hP1 hD1
  generalize H1 = H at hP hS ⊢
  have hK := (hK.sub (tys' := [(cL, .long)]) [1] rfl).app hK1
  have hK : va_K (dC, dI) vwCl [(cL, .long), (cI, .int), (cB, .byte)] s := hK
  have hP : va_P (dC, dI) vwCl [(h0, .inr (12, fs_69)), (q_1, .inl (cB, 4000, .inl (fun _ => 0))), (q_5, .inr (2, fs1_10)), (a1__11, .inl (cI, 4004, .inl (fun _ => 0))), (a2__12, .inl (cI, 4004, .inl (fun _ => 0))), (a3__13, .inl (cI, 4004, .inl (fun _ => 0))), (a4__14, .inl (cI, 4004, .inl (fun _ => 0))), (a5__15, .inl (cL, 2100, .inr (.inl (fun _ => 0)))), (a6__16, .inl (cL, 2100, .inr (.inl (fun _ => 0)))), (a7__17, .inl (cI, 8192, .inl (fun _ => 0))), (q_21, .inr (0, fs1_26)), (a1__27, .inl (cI, 2100, .inl (fun _ => 0))), (a2__28, .inl (cI, 2100, .inl (fun _ => 0))), (a3__29, .inl (cI, 2100, .inl (fun _ => 0))), (q_33, .inr (8, fs1_38)), (a1__39, .inl (cI, 2100, .inl (fun _ => 0))), (a2__40, .inl (cI, 2100, .inl (fun _ => 0))), (a3__41, .inl (cI, 2100, .inl (fun _ => 0))), (a4__42, .inl (cI, 2100, .inl (fun _ => 0))), (a5__43, .inl (cI, 2100, .inl (fun _ => 0))), (a6__44, .inl (cI, 2100, .inl (fun _ => 0))), (q_48, .inr (9, fs1_53)), (q_57, .inr (5, fs1_62)), (a1__63, .inr (1, fs1__64)), (a2__65, .inl (cI, 8008, .inl (fun _ => 0))), (q_70, .inr (11, fs1_75))] H := hP
  have hD : va_D A [(h0, .inr (12, fs_69)), (q_1, .inl (cB, 4000, .inl (fun _ => 0))), (q_5, .inr (2, fs1_10)), (a1__11, .inl (cI, 4004, .inl (fun _ => 0))), (a2__12, .inl (cI, 4004, .inl (fun _ => 0))), (a3__13, .inl (cI, 4004, .inl (fun _ => 0))), (a4__14, .inl (cI, 4004, .inl (fun _ => 0))), (a5__15, .inl (cL, 2100, .inr (.inl (fun _ => 0)))), (a6__16, .inl (cL, 2100, .inr (.inl (fun _ => 0)))), (a7__17, .inl (cI, 8192, .inl (fun _ => 0))), (q_21, .inr (0, fs1_26)), (a1__27, .inl (cI, 2100, .inl (fun _ => 0))), (a2__28, .inl (cI, 2100, .inl (fun _ => 0))), (a3__29, .inl (cI, 2100, .inl (fun _ => 0))), (q_33, .inr (8, fs1_38)), (a1__39, .inl (cI, 2100, .inl (fun _ => 0))), (a2__40, .inl (cI, 2100, .inl (fun _ => 0))), (a3__41, .inl (cI, 2100, .inl (fun _ => 0))), (a4__42, .inl (cI, 2100, .inl (fun _ => 0))), (a5__43, .inl (cI, 2100, .inl (fun _ => 0))), (a6__44, .inl (cI, 2100, .inl (fun _ => 0))), (q_48, .inr (9, fs1_53)), (q_57, .inr (5, fs1_62)), (a1__63, .inr (1, fs1__64)), (a2__65, .inl (cI, 8008, .inl (fun _ => 0))), (q_70, .inr (11, fs1_75))] := hD
  refine W.widen (k := 73) (n := 217953) (by decide) (by decide) ?_
  refine va_putF (D := (dC, dI)) (ci := 12) (v := .ref q_70) (ty := (.object "NeedHouse$Types")) (C := RX12) (T := TX12) (N := 14) hx hb hts hin_X12 tyX12 tyX12_ok nmX12 hown hK hP hD hS 0 rfl rfl 6 (by decide) (hts (.fieldLink RX12 59 "NeedHouse" "types" "LNeedHouse$Types;") (List.mem_of_getElem? (i := 139) rfl)) (fun _ h9 => h9) rfl hin rfl (by decide +kernel) rfl rfl (by rw [hF_68.1]; decide) dX12_init_116 (fun H locs hP hD hS => ?_)
  have hP : va_P (dC, dI) vwCl [(h0, .inr (12, (fs_69.set 6 (.ref q_70)))), (q_1, .inl (cB, 4000, .inl (fun _ => 0))), (q_5, .inr (2, fs1_10)), (a1__11, .inl (cI, 4004, .inl (fun _ => 0))), (a2__12, .inl (cI, 4004, .inl (fun _ => 0))), (a3__13, .inl (cI, 4004, .inl (fun _ => 0))), (a4__14, .inl (cI, 4004, .inl (fun _ => 0))), (a5__15, .inl (cL, 2100, .inr (.inl (fun _ => 0)))), (a6__16, .inl (cL, 2100, .inr (.inl (fun _ => 0)))), (a7__17, .inl (cI, 8192, .inl (fun _ => 0))), (q_21, .inr (0, fs1_26)), (a1__27, .inl (cI, 2100, .inl (fun _ => 0))), (a2__28, .inl (cI, 2100, .inl (fun _ => 0))), (a3__29, .inl (cI, 2100, .inl (fun _ => 0))), (q_33, .inr (8, fs1_38)), (a1__39, .inl (cI, 2100, .inl (fun _ => 0))), (a2__40, .inl (cI, 2100, .inl (fun _ => 0))), (a3__41, .inl (cI, 2100, .inl (fun _ => 0))), (a4__42, .inl (cI, 2100, .inl (fun _ => 0))), (a5__43, .inl (cI, 2100, .inl (fun _ => 0))), (a6__44, .inl (cI, 2100, .inl (fun _ => 0))), (q_48, .inr (9, fs1_53)), (q_57, .inr (5, fs1_62)), (a1__63, .inr (1, fs1__64)), (a2__65, .inl (cI, 8008, .inl (fun _ => 0))), (q_70, .inr (11, fs1_75))] H := hP
  have hD : va_D A [(h0, .inr (12, (fs_69.set 6 (.ref q_70)))), (q_1, .inl (cB, 4000, .inl (fun _ => 0))), (q_5, .inr (2, fs1_10)), (a1__11, .inl (cI, 4004, .inl (fun _ => 0))), (a2__12, .inl (cI, 4004, .inl (fun _ => 0))), (a3__13, .inl (cI, 4004, .inl (fun _ => 0))), (a4__14, .inl (cI, 4004, .inl (fun _ => 0))), (a5__15, .inl (cL, 2100, .inr (.inl (fun _ => 0)))), (a6__16, .inl (cL, 2100, .inr (.inl (fun _ => 0)))), (a7__17, .inl (cI, 8192, .inl (fun _ => 0))), (q_21, .inr (0, fs1_26)), (a1__27, .inl (cI, 2100, .inl (fun _ => 0))), (a2__28, .inl (cI, 2100, .inl (fun _ => 0))), (a3__29, .inl (cI, 2100, .inl (fun _ => 0))), (q_33, .inr (8, fs1_38)), (a1__39, .inl (cI, 2100, .inl (fun _ => 0))), (a2__40, .inl (cI, 2100, .inl (fun _ => 0))), (a3__41, .inl (cI, 2100, .inl (fun _ => 0))), (a4__42, .inl (cI, 2100, .inl (fun _ => 0))), (a5__43, .inl (cI, 2100, .inl (fun _ => 0))), (a6__44, .inl (cI, 2100, .inl (fun _ => 0))), (q_48, .inr (9, fs1_53)), (q_57, .inr (5, fs1_62)), (a1__63, .inr (1, fs1__64)), (a2__65, .inl (cI, 8008, .inl (fun _ => 0))), (q_70, .inr (11, fs1_75))] := hD
  have hF_77 := hF_68.set 6 (.ref q_70) (l' := [(6, .ref q_70), (5, .ref q_57), (4, .ref q_48), (3, .ref q_33), (2, .ref q_21), (1, .ref q_5), (0, .ref q_1), (11, .int 0), (12, .int 0), (13, .int 0)]) (by decide) rfl
  generalize fs_69.set 6 (.ref q_70) = fs_78 at hP hD hF_77
  have hP : va_P (dC, dI) vwCl [(h0, .inr (12, fs_78)), (q_1, .inl (cB, 4000, .inl (fun _ => 0))), (q_5, .inr (2, fs1_10)), (a1__11, .inl (cI, 4004, .inl (fun _ => 0))), (a2__12, .inl (cI, 4004, .inl (fun _ => 0))), (a3__13, .inl (cI, 4004, .inl (fun _ => 0))), (a4__14, .inl (cI, 4004, .inl (fun _ => 0))), (a5__15, .inl (cL, 2100, .inr (.inl (fun _ => 0)))), (a6__16, .inl (cL, 2100, .inr (.inl (fun _ => 0)))), (a7__17, .inl (cI, 8192, .inl (fun _ => 0))), (q_21, .inr (0, fs1_26)), (a1__27, .inl (cI, 2100, .inl (fun _ => 0))), (a2__28, .inl (cI, 2100, .inl (fun _ => 0))), (a3__29, .inl (cI, 2100, .inl (fun _ => 0))), (q_33, .inr (8, fs1_38)), (a1__39, .inl (cI, 2100, .inl (fun _ => 0))), (a2__40, .inl (cI, 2100, .inl (fun _ => 0))), (a3__41, .inl (cI, 2100, .inl (fun _ => 0))), (a4__42, .inl (cI, 2100, .inl (fun _ => 0))), (a5__43, .inl (cI, 2100, .inl (fun _ => 0))), (a6__44, .inl (cI, 2100, .inl (fun _ => 0))), (q_48, .inr (9, fs1_53)), (q_57, .inr (5, fs1_62)), (a1__63, .inr (1, fs1__64)), (a2__65, .inl (cI, 8008, .inl (fun _ => 0))), (q_70, .inr (11, fs1_75))] H := hP
  have hD : va_D A [(h0, .inr (12, fs_78)), (q_1, .inl (cB, 4000, .inl (fun _ => 0))), (q_5, .inr (2, fs1_10)), (a1__11, .inl (cI, 4004, .inl (fun _ => 0))), (a2__12, .inl (cI, 4004, .inl (fun _ => 0))), (a3__13, .inl (cI, 4004, .inl (fun _ => 0))), (a4__14, .inl (cI, 4004, .inl (fun _ => 0))), (a5__15, .inl (cL, 2100, .inr (.inl (fun _ => 0)))), (a6__16, .inl (cL, 2100, .inr (.inl (fun _ => 0)))), (a7__17, .inl (cI, 8192, .inl (fun _ => 0))), (q_21, .inr (0, fs1_26)), (a1__27, .inl (cI, 2100, .inl (fun _ => 0))), (a2__28, .inl (cI, 2100, .inl (fun _ => 0))), (a3__29, .inl (cI, 2100, .inl (fun _ => 0))), (q_33, .inr (8, fs1_38)), (a1__39, .inl (cI, 2100, .inl (fun _ => 0))), (a2__40, .inl (cI, 2100, .inl (fun _ => 0))), (a3__41, .inl (cI, 2100, .inl (fun _ => 0))), (a4__42, .inl (cI, 2100, .inl (fun _ => 0))), (a5__43, .inl (cI, 2100, .inl (fun _ => 0))), (a6__44, .inl (cI, 2100, .inl (fun _ => 0))), (q_48, .inr (9, fs1_53)), (q_57, .inr (5, fs1_62)), (a1__63, .inr (1, fs1__64)), (a2__65, .inl (cI, 8008, .inl (fun _ => 0))), (q_70, .inr (11, fs1_75))] := hD
  refine lv_aload_n hx hb dX12_init_119 rfl (lv_at hl 0 rfl) ?_
  refine va_new (ci := 10) (fs := dfs 17 tyX10) (C := RX10) (T := TX10) (N := 17) hx hb hts hin_X10 tyX10 tyX10_ok hown (hts (.classLink RX12 63 RX10) (List.mem_of_getElem? (i := 140) rfl)) (hts (.instantiable RX10 17) (List.mem_of_getElem? (i := 141) rfl)) (hts (.initialized RX10) (List.mem_of_getElem? (i := 142) rfl)) hK hP hD hS hA rfl dfs_ok (show 73 + 1 ≤ 112 by decide) (show 217953 + 17 ≤ 370249 by decide) dX12_init_120 (fun q_79 H hP hD hS => ?_)
  have hP : va_P (dC, dI) vwCl [(h0, .inr (12, fs_78)), (q_1, .inl (cB, 4000, .inl (fun _ => 0))), (q_5, .inr (2, fs1_10)), (a1__11, .inl (cI, 4004, .inl (fun _ => 0))), (a2__12, .inl (cI, 4004, .inl (fun _ => 0))), (a3__13, .inl (cI, 4004, .inl (fun _ => 0))), (a4__14, .inl (cI, 4004, .inl (fun _ => 0))), (a5__15, .inl (cL, 2100, .inr (.inl (fun _ => 0)))), (a6__16, .inl (cL, 2100, .inr (.inl (fun _ => 0)))), (a7__17, .inl (cI, 8192, .inl (fun _ => 0))), (q_21, .inr (0, fs1_26)), (a1__27, .inl (cI, 2100, .inl (fun _ => 0))), (a2__28, .inl (cI, 2100, .inl (fun _ => 0))), (a3__29, .inl (cI, 2100, .inl (fun _ => 0))), (q_33, .inr (8, fs1_38)), (a1__39, .inl (cI, 2100, .inl (fun _ => 0))), (a2__40, .inl (cI, 2100, .inl (fun _ => 0))), (a3__41, .inl (cI, 2100, .inl (fun _ => 0))), (a4__42, .inl (cI, 2100, .inl (fun _ => 0))), (a5__43, .inl (cI, 2100, .inl (fun _ => 0))), (a6__44, .inl (cI, 2100, .inl (fun _ => 0))), (q_48, .inr (9, fs1_53)), (q_57, .inr (5, fs1_62)), (a1__63, .inr (1, fs1__64)), (a2__65, .inl (cI, 8008, .inl (fun _ => 0))), (q_70, .inr (11, fs1_75)), (q_79, .inr (10, (dfs 17 tyX10)))] H := hP
  have hD : va_D A [(h0, .inr (12, fs_78)), (q_1, .inl (cB, 4000, .inl (fun _ => 0))), (q_5, .inr (2, fs1_10)), (a1__11, .inl (cI, 4004, .inl (fun _ => 0))), (a2__12, .inl (cI, 4004, .inl (fun _ => 0))), (a3__13, .inl (cI, 4004, .inl (fun _ => 0))), (a4__14, .inl (cI, 4004, .inl (fun _ => 0))), (a5__15, .inl (cL, 2100, .inr (.inl (fun _ => 0)))), (a6__16, .inl (cL, 2100, .inr (.inl (fun _ => 0)))), (a7__17, .inl (cI, 8192, .inl (fun _ => 0))), (q_21, .inr (0, fs1_26)), (a1__27, .inl (cI, 2100, .inl (fun _ => 0))), (a2__28, .inl (cI, 2100, .inl (fun _ => 0))), (a3__29, .inl (cI, 2100, .inl (fun _ => 0))), (q_33, .inr (8, fs1_38)), (a1__39, .inl (cI, 2100, .inl (fun _ => 0))), (a2__40, .inl (cI, 2100, .inl (fun _ => 0))), (a3__41, .inl (cI, 2100, .inl (fun _ => 0))), (a4__42, .inl (cI, 2100, .inl (fun _ => 0))), (a5__43, .inl (cI, 2100, .inl (fun _ => 0))), (a6__44, .inl (cI, 2100, .inl (fun _ => 0))), (q_48, .inr (9, fs1_53)), (q_57, .inr (5, fs1_62)), (a1__63, .inr (1, fs1__64)), (a2__65, .inl (cI, 8008, .inl (fun _ => 0))), (q_70, .inr (11, fs1_75)), (q_79, .inr (10, (dfs 17 tyX10)))] := hD
  have hF_80 : hasF (dfs 17 tyX10) 17 [(5, .int 0), (15, .int 0), (16, .int 0)] := dfs_has (List.forall_mem_cons.mpr ⟨⟨by decide, rfl⟩, List.forall_mem_cons.mpr ⟨⟨by decide, rfl⟩, List.forall_mem_cons.mpr ⟨⟨by decide, rfl⟩, fun _ h => absurd h List.not_mem_nil⟩⟩⟩)
  generalize dfs 17 tyX10 = fs_81 at hP hD hF_80
  have hP : va_P (dC, dI) vwCl [(h0, .inr (12, fs_78)), (q_1, .inl (cB, 4000, .inl (fun _ => 0))), (q_5, .inr (2, fs1_10)), (a1__11, .inl (cI, 4004, .inl (fun _ => 0))), (a2__12, .inl (cI, 4004, .inl (fun _ => 0))), (a3__13, .inl (cI, 4004, .inl (fun _ => 0))), (a4__14, .inl (cI, 4004, .inl (fun _ => 0))), (a5__15, .inl (cL, 2100, .inr (.inl (fun _ => 0)))), (a6__16, .inl (cL, 2100, .inr (.inl (fun _ => 0)))), (a7__17, .inl (cI, 8192, .inl (fun _ => 0))), (q_21, .inr (0, fs1_26)), (a1__27, .inl (cI, 2100, .inl (fun _ => 0))), (a2__28, .inl (cI, 2100, .inl (fun _ => 0))), (a3__29, .inl (cI, 2100, .inl (fun _ => 0))), (q_33, .inr (8, fs1_38)), (a1__39, .inl (cI, 2100, .inl (fun _ => 0))), (a2__40, .inl (cI, 2100, .inl (fun _ => 0))), (a3__41, .inl (cI, 2100, .inl (fun _ => 0))), (a4__42, .inl (cI, 2100, .inl (fun _ => 0))), (a5__43, .inl (cI, 2100, .inl (fun _ => 0))), (a6__44, .inl (cI, 2100, .inl (fun _ => 0))), (q_48, .inr (9, fs1_53)), (q_57, .inr (5, fs1_62)), (a1__63, .inr (1, fs1__64)), (a2__65, .inl (cI, 8008, .inl (fun _ => 0))), (q_70, .inr (11, fs1_75)), (q_79, .inr (10, fs_81))] H := hP
  have hD : va_D A [(h0, .inr (12, fs_78)), (q_1, .inl (cB, 4000, .inl (fun _ => 0))), (q_5, .inr (2, fs1_10)), (a1__11, .inl (cI, 4004, .inl (fun _ => 0))), (a2__12, .inl (cI, 4004, .inl (fun _ => 0))), (a3__13, .inl (cI, 4004, .inl (fun _ => 0))), (a4__14, .inl (cI, 4004, .inl (fun _ => 0))), (a5__15, .inl (cL, 2100, .inr (.inl (fun _ => 0)))), (a6__16, .inl (cL, 2100, .inr (.inl (fun _ => 0)))), (a7__17, .inl (cI, 8192, .inl (fun _ => 0))), (q_21, .inr (0, fs1_26)), (a1__27, .inl (cI, 2100, .inl (fun _ => 0))), (a2__28, .inl (cI, 2100, .inl (fun _ => 0))), (a3__29, .inl (cI, 2100, .inl (fun _ => 0))), (q_33, .inr (8, fs1_38)), (a1__39, .inl (cI, 2100, .inl (fun _ => 0))), (a2__40, .inl (cI, 2100, .inl (fun _ => 0))), (a3__41, .inl (cI, 2100, .inl (fun _ => 0))), (a4__42, .inl (cI, 2100, .inl (fun _ => 0))), (a5__43, .inl (cI, 2100, .inl (fun _ => 0))), (a6__44, .inl (cI, 2100, .inl (fun _ => 0))), (q_48, .inr (9, fs1_53)), (q_57, .inr (5, fs1_62)), (a1__63, .inr (1, fs1__64)), (a2__65, .inl (cI, 8008, .inl (fun _ => 0))), (q_70, .inr (11, fs1_75)), (q_79, .inr (10, fs_81))] := hD
  refine W.widen (k := 74) (n := 217970) (by decide) (by decide) ?_
  refine lv_dup hx hb dX12_init_123 rfl ?_
  refine lv_aload_n hx hb dX12_init_124 rfl (lv_at hl 0 rfl) ?_
  refine va_get (D := (dC, dI)) (ci := 12) (v := .ref q_5) (C := RX12) (T := TX12) (N := 14) hx hb hts hin_X12 hown hK hP 0 rfl rfl 1 (by decide) (hts (.fieldLink RX12 16 "NeedHouse" "lexemes" "LNeedHouse$Lexemes;") (List.mem_of_getElem? (i := 21) rfl)) (fun _ h9 => h9) (hF_77.at 5 rfl) dX12_init_125 ?_
  refine lv_aload_n hx hb dX12_init_128 rfl (lv_at hl 0 rfl) ?_
  refine va_get (D := (dC, dI)) (ci := 12) (v := .ref q_48) (C := RX12) (T := TX12) (N := 14) hx hb hts hin_X12 hown hK hP 0 rfl rfl 4 (by decide) (hts (.fieldLink RX12 41 "NeedHouse" "tree" "LNeedHouse$Tree;") (List.mem_of_getElem? (i := 95) rfl)) (fun _ h9 => h9) (hF_77.at 2 rfl) dX12_init_129 ?_
  refine lv_aload_n hx hb dX12_init_132 rfl (lv_at hl 0 rfl) ?_
  refine va_get (D := (dC, dI)) (ci := 12) (v := .ref q_33) (C := RX12) (T := TX12) (N := 14) hx hb hts hin_X12 hown hK hP 0 rfl rfl 3 (by decide) (hts (.fieldLink RX12 32 "NeedHouse" "told" "LNeedHouse$Told;") (List.mem_of_getElem? (i := 70) rfl)) (fun _ h9 => h9) (hF_77.at 3 rfl) dX12_init_133 ?_
  refine lv_aload_n hx hb dX12_init_136 rfl (lv_at hl 0 rfl) ?_
  refine va_get (D := (dC, dI)) (ci := 12) (v := .ref q_70) (C := RX12) (T := TX12) (N := 14) hx hb hts hin_X12 hown hK hP 0 rfl rfl 6 (by decide) (hts (.fieldLink RX12 59 "NeedHouse" "types" "LNeedHouse$Types;") (List.mem_of_getElem? (i := 139) rfl)) (fun _ h9 => h9) (hF_77.at 0 rfl) dX12_init_137 ?_
  have hPc := hP.sub (ws' := [(q_79, .inr (10, fs_81))]) [26] rfl
  have hDc := hD.sub (ws' := [(q_79, .inr (10, fs_81))]) [26] (by decide) rfl
  have hKc := hK.sub (tys' := [(cI, .int), (cL, .long)]) [1, 0] rfl
  have hFc := va_free (wc := [(q_79, .inr (10, fs_81))]) hD hS hA [26] rfl
  refine va_callv (va_runI (As := [.ref q_5, .ref q_48, .ref q_33, .ref q_70]) (rest := [.ref q_79, .ref h0]) ⟨hx, hb, hml, hown, hts⟩ (c_X10_init l dC dI H.size q_79 fs_81 cI cL q_5 q_48 q_33 q_70 (hF_80.sub [0, 1, 2] rfl)) (cwI 4 hts g_c_X12_init_c_X10_init_140 rfl rfl rfl (hts (.initialized RX10) (List.mem_of_getElem? (i := 142) rfl)) (hts (.methodLink RX12 65 yX10_init) (List.mem_of_getElem? (i := 159) rfl)) (hts (.instanceMethod yX10_init) (List.mem_of_getElem? (i := 160) rfl)) rfl (by decide +kernel) ⟨Nat.le_of_ble_eq_true rfl, Nat.le_of_ble_eq_true rfl⟩) ⟨fun a U g mk q => by obtain ⟨q0, q1, qP, qK, qD⟩ := q; exact ⟨q0, q1, qP, va_K.moved (u := U) (U := U.calling g mk a) (Vm.Alike.refl U.vm) qK, qD⟩, fun U hU hW => ⟨rfl, by rw [hU], by rw [hU]; exact hPc, va_K.moved hW.alike hKc, hDc.weaken (fun _ _ _ _ => trivial)⟩⟩ rfl rfl hl.1 rfl (lv_room (Nat.le_of_ble_eq_true rfl)) dX12_init_140 ⟨show 74 + 10 ≤ 112 by decide, show 217970 + 29185 ≤ 370249 by decide⟩) hS (fun q _ h => hFc q h) hFc (fun u t H1 locs ht hvm hw hB hz1 hk1 hS => ?_)
  obtain ⟨fs1_84, rfl⟩ : ∃ z, z = u := ⟨_, rfl⟩
  obtain ⟨hP1, hK1, hD1⟩ := hB
  rw [ht] at hP1
  have hK1 := va_K.moved hvm.symm hK1
  try dsimp only at hw hP1 hK1 hD1
  have hF_85 := hw
  obtain ⟨hP, hD⟩ := va_join (wr := [(h0, .inr (12, fs_78)), (q_1, .inl (cB, 4000, .inl (fun _ => 0))), (q_5, .inr (2, fs1_10)), (a1__11, .inl (cI, 4004, .inl (fun _ => 0))), (a2__12, .inl (cI, 4004, .inl (fun _ => 0))), (a3__13, .inl (cI, 4004, .inl (fun _ => 0))), (a4__14, .inl (cI, 4004, .inl (fun _ => 0))), (a5__15, .inl (cL, 2100, .inr (.inl (fun _ => 0)))), (a6__16, .inl (cL, 2100, .inr (.inl (fun _ => 0)))), (a7__17, .inl (cI, 8192, .inl (fun _ => 0))), (q_21, .inr (0, fs1_26)), (a1__27, .inl (cI, 2100, .inl (fun _ => 0))), (a2__28, .inl (cI, 2100, .inl (fun _ => 0))), (a3__29, .inl (cI, 2100, .inl (fun _ => 0))), (q_33, .inr (8, fs1_38)), (a1__39, .inl (cI, 2100, .inl (fun _ => 0))), (a2__40, .inl (cI, 2100, .inl (fun _ => 0))), (a3__41, .inl (cI, 2100, .inl (fun _ => 0))), (a4__42, .inl (cI, 2100, .inl (fun _ => 0))), (a5__43, .inl (cI, 2100, .inl (fun _ => 0))), (a6__44, .inl (cI, 2100, .inl (fun _ => 0))), (q_48, .inr (9, fs1_53)), (q_57, .inr (5, fs1_62)), (a1__63, .inr (1, fs1__64)), (a2__65, .inl (cI, 8008, .inl (fun _ => 0))), (q_70, .inr (11, fs1_75))]) (w1 := [(q_79, .inr (10, fs1_84))]) hP hD [26] [0, 1, 2, 3, 4, 5, 6, 7, 8, 9, 10, 11, 12, 13, 14, 15, 16, 17, 18, 19, 20, 21, 22, 23, 24, 25] rfl rfl (by decide) (by decide) hk1 hFc hP1 hD1
  generalize H1 = H at hP hS ⊢
  have hK := (hK.sub (tys' := [(cB, .byte)]) [2] rfl).app hK1
  have hK : va_K (dC, dI) vwCl [(cB, .byte), (cI, .int), (cL, .long)] s := hK
  have hP : va_P (dC, dI) vwCl [(h0, .inr (12, fs_78)), (q_1, .inl (cB, 4000, .inl (fun _ => 0))), (q_5, .inr (2, fs1_10)), (a1__11, .inl (cI, 4004, .inl (fun _ => 0))), (a2__12, .inl (cI, 4004, .inl (fun _ => 0))), (a3__13, .inl (cI, 4004, .inl (fun _ => 0))), (a4__14, .inl (cI, 4004, .inl (fun _ => 0))), (a5__15, .inl (cL, 2100, .inr (.inl (fun _ => 0)))), (a6__16, .inl (cL, 2100, .inr (.inl (fun _ => 0)))), (a7__17, .inl (cI, 8192, .inl (fun _ => 0))), (q_21, .inr (0, fs1_26)), (a1__27, .inl (cI, 2100, .inl (fun _ => 0))), (a2__28, .inl (cI, 2100, .inl (fun _ => 0))), (a3__29, .inl (cI, 2100, .inl (fun _ => 0))), (q_33, .inr (8, fs1_38)), (a1__39, .inl (cI, 2100, .inl (fun _ => 0))), (a2__40, .inl (cI, 2100, .inl (fun _ => 0))), (a3__41, .inl (cI, 2100, .inl (fun _ => 0))), (a4__42, .inl (cI, 2100, .inl (fun _ => 0))), (a5__43, .inl (cI, 2100, .inl (fun _ => 0))), (a6__44, .inl (cI, 2100, .inl (fun _ => 0))), (q_48, .inr (9, fs1_53)), (q_57, .inr (5, fs1_62)), (a1__63, .inr (1, fs1__64)), (a2__65, .inl (cI, 8008, .inl (fun _ => 0))), (q_70, .inr (11, fs1_75)), (q_79, .inr (10, fs1_84))] H := hP
  have hD : va_D A [(h0, .inr (12, fs_78)), (q_1, .inl (cB, 4000, .inl (fun _ => 0))), (q_5, .inr (2, fs1_10)), (a1__11, .inl (cI, 4004, .inl (fun _ => 0))), (a2__12, .inl (cI, 4004, .inl (fun _ => 0))), (a3__13, .inl (cI, 4004, .inl (fun _ => 0))), (a4__14, .inl (cI, 4004, .inl (fun _ => 0))), (a5__15, .inl (cL, 2100, .inr (.inl (fun _ => 0)))), (a6__16, .inl (cL, 2100, .inr (.inl (fun _ => 0)))), (a7__17, .inl (cI, 8192, .inl (fun _ => 0))), (q_21, .inr (0, fs1_26)), (a1__27, .inl (cI, 2100, .inl (fun _ => 0))), (a2__28, .inl (cI, 2100, .inl (fun _ => 0))), (a3__29, .inl (cI, 2100, .inl (fun _ => 0))), (q_33, .inr (8, fs1_38)), (a1__39, .inl (cI, 2100, .inl (fun _ => 0))), (a2__40, .inl (cI, 2100, .inl (fun _ => 0))), (a3__41, .inl (cI, 2100, .inl (fun _ => 0))), (a4__42, .inl (cI, 2100, .inl (fun _ => 0))), (a5__43, .inl (cI, 2100, .inl (fun _ => 0))), (a6__44, .inl (cI, 2100, .inl (fun _ => 0))), (q_48, .inr (9, fs1_53)), (q_57, .inr (5, fs1_62)), (a1__63, .inr (1, fs1__64)), (a2__65, .inl (cI, 8008, .inl (fun _ => 0))), (q_70, .inr (11, fs1_75)), (q_79, .inr (10, fs1_84))] := hD
  refine W.widen (k := 84) (n := 247155) (by decide) (by decide) ?_
  refine va_putF (D := (dC, dI)) (ci := 12) (v := .ref q_79) (ty := (.object "NeedHouse$Typer")) (C := RX12) (T := TX12) (N := 14) hx hb hts hin_X12 tyX12 tyX12_ok nmX12 hown hK hP hD hS 0 rfl rfl 7 (by decide) (hts (.fieldLink RX12 68 "NeedHouse" "typer" "LNeedHouse$Typer;") (List.mem_of_getElem? (i := 161) rfl)) (fun _ h9 => h9) rfl hin rfl (by decide +kernel) rfl rfl (by rw [hF_77.1]; decide) dX12_init_143 (fun H locs hP hD hS => ?_)
  have hP : va_P (dC, dI) vwCl [(h0, .inr (12, (fs_78.set 7 (.ref q_79)))), (q_1, .inl (cB, 4000, .inl (fun _ => 0))), (q_5, .inr (2, fs1_10)), (a1__11, .inl (cI, 4004, .inl (fun _ => 0))), (a2__12, .inl (cI, 4004, .inl (fun _ => 0))), (a3__13, .inl (cI, 4004, .inl (fun _ => 0))), (a4__14, .inl (cI, 4004, .inl (fun _ => 0))), (a5__15, .inl (cL, 2100, .inr (.inl (fun _ => 0)))), (a6__16, .inl (cL, 2100, .inr (.inl (fun _ => 0)))), (a7__17, .inl (cI, 8192, .inl (fun _ => 0))), (q_21, .inr (0, fs1_26)), (a1__27, .inl (cI, 2100, .inl (fun _ => 0))), (a2__28, .inl (cI, 2100, .inl (fun _ => 0))), (a3__29, .inl (cI, 2100, .inl (fun _ => 0))), (q_33, .inr (8, fs1_38)), (a1__39, .inl (cI, 2100, .inl (fun _ => 0))), (a2__40, .inl (cI, 2100, .inl (fun _ => 0))), (a3__41, .inl (cI, 2100, .inl (fun _ => 0))), (a4__42, .inl (cI, 2100, .inl (fun _ => 0))), (a5__43, .inl (cI, 2100, .inl (fun _ => 0))), (a6__44, .inl (cI, 2100, .inl (fun _ => 0))), (q_48, .inr (9, fs1_53)), (q_57, .inr (5, fs1_62)), (a1__63, .inr (1, fs1__64)), (a2__65, .inl (cI, 8008, .inl (fun _ => 0))), (q_70, .inr (11, fs1_75)), (q_79, .inr (10, fs1_84))] H := hP
  have hD : va_D A [(h0, .inr (12, (fs_78.set 7 (.ref q_79)))), (q_1, .inl (cB, 4000, .inl (fun _ => 0))), (q_5, .inr (2, fs1_10)), (a1__11, .inl (cI, 4004, .inl (fun _ => 0))), (a2__12, .inl (cI, 4004, .inl (fun _ => 0))), (a3__13, .inl (cI, 4004, .inl (fun _ => 0))), (a4__14, .inl (cI, 4004, .inl (fun _ => 0))), (a5__15, .inl (cL, 2100, .inr (.inl (fun _ => 0)))), (a6__16, .inl (cL, 2100, .inr (.inl (fun _ => 0)))), (a7__17, .inl (cI, 8192, .inl (fun _ => 0))), (q_21, .inr (0, fs1_26)), (a1__27, .inl (cI, 2100, .inl (fun _ => 0))), (a2__28, .inl (cI, 2100, .inl (fun _ => 0))), (a3__29, .inl (cI, 2100, .inl (fun _ => 0))), (q_33, .inr (8, fs1_38)), (a1__39, .inl (cI, 2100, .inl (fun _ => 0))), (a2__40, .inl (cI, 2100, .inl (fun _ => 0))), (a3__41, .inl (cI, 2100, .inl (fun _ => 0))), (a4__42, .inl (cI, 2100, .inl (fun _ => 0))), (a5__43, .inl (cI, 2100, .inl (fun _ => 0))), (a6__44, .inl (cI, 2100, .inl (fun _ => 0))), (q_48, .inr (9, fs1_53)), (q_57, .inr (5, fs1_62)), (a1__63, .inr (1, fs1__64)), (a2__65, .inl (cI, 8008, .inl (fun _ => 0))), (q_70, .inr (11, fs1_75)), (q_79, .inr (10, fs1_84))] := hD
  have hF_86 := hF_77.set 7 (.ref q_79) (l' := [(7, .ref q_79), (6, .ref q_70), (5, .ref q_57), (4, .ref q_48), (3, .ref q_33), (2, .ref q_21), (1, .ref q_5), (0, .ref q_1), (11, .int 0), (12, .int 0), (13, .int 0)]) (by decide) rfl
  generalize fs_78.set 7 (.ref q_79) = fs_87 at hP hD hF_86
  have hP : va_P (dC, dI) vwCl [(h0, .inr (12, fs_87)), (q_1, .inl (cB, 4000, .inl (fun _ => 0))), (q_5, .inr (2, fs1_10)), (a1__11, .inl (cI, 4004, .inl (fun _ => 0))), (a2__12, .inl (cI, 4004, .inl (fun _ => 0))), (a3__13, .inl (cI, 4004, .inl (fun _ => 0))), (a4__14, .inl (cI, 4004, .inl (fun _ => 0))), (a5__15, .inl (cL, 2100, .inr (.inl (fun _ => 0)))), (a6__16, .inl (cL, 2100, .inr (.inl (fun _ => 0)))), (a7__17, .inl (cI, 8192, .inl (fun _ => 0))), (q_21, .inr (0, fs1_26)), (a1__27, .inl (cI, 2100, .inl (fun _ => 0))), (a2__28, .inl (cI, 2100, .inl (fun _ => 0))), (a3__29, .inl (cI, 2100, .inl (fun _ => 0))), (q_33, .inr (8, fs1_38)), (a1__39, .inl (cI, 2100, .inl (fun _ => 0))), (a2__40, .inl (cI, 2100, .inl (fun _ => 0))), (a3__41, .inl (cI, 2100, .inl (fun _ => 0))), (a4__42, .inl (cI, 2100, .inl (fun _ => 0))), (a5__43, .inl (cI, 2100, .inl (fun _ => 0))), (a6__44, .inl (cI, 2100, .inl (fun _ => 0))), (q_48, .inr (9, fs1_53)), (q_57, .inr (5, fs1_62)), (a1__63, .inr (1, fs1__64)), (a2__65, .inl (cI, 8008, .inl (fun _ => 0))), (q_70, .inr (11, fs1_75)), (q_79, .inr (10, fs1_84))] H := hP
  have hD : va_D A [(h0, .inr (12, fs_87)), (q_1, .inl (cB, 4000, .inl (fun _ => 0))), (q_5, .inr (2, fs1_10)), (a1__11, .inl (cI, 4004, .inl (fun _ => 0))), (a2__12, .inl (cI, 4004, .inl (fun _ => 0))), (a3__13, .inl (cI, 4004, .inl (fun _ => 0))), (a4__14, .inl (cI, 4004, .inl (fun _ => 0))), (a5__15, .inl (cL, 2100, .inr (.inl (fun _ => 0)))), (a6__16, .inl (cL, 2100, .inr (.inl (fun _ => 0)))), (a7__17, .inl (cI, 8192, .inl (fun _ => 0))), (q_21, .inr (0, fs1_26)), (a1__27, .inl (cI, 2100, .inl (fun _ => 0))), (a2__28, .inl (cI, 2100, .inl (fun _ => 0))), (a3__29, .inl (cI, 2100, .inl (fun _ => 0))), (q_33, .inr (8, fs1_38)), (a1__39, .inl (cI, 2100, .inl (fun _ => 0))), (a2__40, .inl (cI, 2100, .inl (fun _ => 0))), (a3__41, .inl (cI, 2100, .inl (fun _ => 0))), (a4__42, .inl (cI, 2100, .inl (fun _ => 0))), (a5__43, .inl (cI, 2100, .inl (fun _ => 0))), (a6__44, .inl (cI, 2100, .inl (fun _ => 0))), (q_48, .inr (9, fs1_53)), (q_57, .inr (5, fs1_62)), (a1__63, .inr (1, fs1__64)), (a2__65, .inl (cI, 8008, .inl (fun _ => 0))), (q_70, .inr (11, fs1_75)), (q_79, .inr (10, fs1_84))] := hD
  refine lv_aload_n hx hb dX12_init_146 rfl (lv_at hl 0 rfl) ?_
  refine va_new (ci := 4) (fs := dfs 13 tyX4) (C := RX4) (T := TX4) (N := 13) hx hb hts hin_X4 tyX4 tyX4_ok hown (hts (.classLink RX12 72 RX4) (List.mem_of_getElem? (i := 162) rfl)) (hts (.instantiable RX4 13) (List.mem_of_getElem? (i := 163) rfl)) (hts (.initialized RX4) (List.mem_of_getElem? (i := 164) rfl)) hK hP hD hS hA rfl dfs_ok (show 84 + 1 ≤ 112 by decide) (show 247155 + 13 ≤ 370249 by decide) dX12_init_147 (fun q_88 H hP hD hS => ?_)
  have hP : va_P (dC, dI) vwCl [(h0, .inr (12, fs_87)), (q_1, .inl (cB, 4000, .inl (fun _ => 0))), (q_5, .inr (2, fs1_10)), (a1__11, .inl (cI, 4004, .inl (fun _ => 0))), (a2__12, .inl (cI, 4004, .inl (fun _ => 0))), (a3__13, .inl (cI, 4004, .inl (fun _ => 0))), (a4__14, .inl (cI, 4004, .inl (fun _ => 0))), (a5__15, .inl (cL, 2100, .inr (.inl (fun _ => 0)))), (a6__16, .inl (cL, 2100, .inr (.inl (fun _ => 0)))), (a7__17, .inl (cI, 8192, .inl (fun _ => 0))), (q_21, .inr (0, fs1_26)), (a1__27, .inl (cI, 2100, .inl (fun _ => 0))), (a2__28, .inl (cI, 2100, .inl (fun _ => 0))), (a3__29, .inl (cI, 2100, .inl (fun _ => 0))), (q_33, .inr (8, fs1_38)), (a1__39, .inl (cI, 2100, .inl (fun _ => 0))), (a2__40, .inl (cI, 2100, .inl (fun _ => 0))), (a3__41, .inl (cI, 2100, .inl (fun _ => 0))), (a4__42, .inl (cI, 2100, .inl (fun _ => 0))), (a5__43, .inl (cI, 2100, .inl (fun _ => 0))), (a6__44, .inl (cI, 2100, .inl (fun _ => 0))), (q_48, .inr (9, fs1_53)), (q_57, .inr (5, fs1_62)), (a1__63, .inr (1, fs1__64)), (a2__65, .inl (cI, 8008, .inl (fun _ => 0))), (q_70, .inr (11, fs1_75)), (q_79, .inr (10, fs1_84)), (q_88, .inr (4, (dfs 13 tyX4)))] H := hP
  have hD : va_D A [(h0, .inr (12, fs_87)), (q_1, .inl (cB, 4000, .inl (fun _ => 0))), (q_5, .inr (2, fs1_10)), (a1__11, .inl (cI, 4004, .inl (fun _ => 0))), (a2__12, .inl (cI, 4004, .inl (fun _ => 0))), (a3__13, .inl (cI, 4004, .inl (fun _ => 0))), (a4__14, .inl (cI, 4004, .inl (fun _ => 0))), (a5__15, .inl (cL, 2100, .inr (.inl (fun _ => 0)))), (a6__16, .inl (cL, 2100, .inr (.inl (fun _ => 0)))), (a7__17, .inl (cI, 8192, .inl (fun _ => 0))), (q_21, .inr (0, fs1_26)), (a1__27, .inl (cI, 2100, .inl (fun _ => 0))), (a2__28, .inl (cI, 2100, .inl (fun _ => 0))), (a3__29, .inl (cI, 2100, .inl (fun _ => 0))), (q_33, .inr (8, fs1_38)), (a1__39, .inl (cI, 2100, .inl (fun _ => 0))), (a2__40, .inl (cI, 2100, .inl (fun _ => 0))), (a3__41, .inl (cI, 2100, .inl (fun _ => 0))), (a4__42, .inl (cI, 2100, .inl (fun _ => 0))), (a5__43, .inl (cI, 2100, .inl (fun _ => 0))), (a6__44, .inl (cI, 2100, .inl (fun _ => 0))), (q_48, .inr (9, fs1_53)), (q_57, .inr (5, fs1_62)), (a1__63, .inr (1, fs1__64)), (a2__65, .inl (cI, 8008, .inl (fun _ => 0))), (q_70, .inr (11, fs1_75)), (q_79, .inr (10, fs1_84)), (q_88, .inr (4, (dfs 13 tyX4)))] := hD
  have hF_89 : hasF (dfs 13 tyX4) 13 [(8, .int 0)] := dfs_has (List.forall_mem_cons.mpr ⟨⟨by decide, rfl⟩, fun _ h => absurd h List.not_mem_nil⟩)
  generalize dfs 13 tyX4 = fs_90 at hP hD hF_89
  have hP : va_P (dC, dI) vwCl [(h0, .inr (12, fs_87)), (q_1, .inl (cB, 4000, .inl (fun _ => 0))), (q_5, .inr (2, fs1_10)), (a1__11, .inl (cI, 4004, .inl (fun _ => 0))), (a2__12, .inl (cI, 4004, .inl (fun _ => 0))), (a3__13, .inl (cI, 4004, .inl (fun _ => 0))), (a4__14, .inl (cI, 4004, .inl (fun _ => 0))), (a5__15, .inl (cL, 2100, .inr (.inl (fun _ => 0)))), (a6__16, .inl (cL, 2100, .inr (.inl (fun _ => 0)))), (a7__17, .inl (cI, 8192, .inl (fun _ => 0))), (q_21, .inr (0, fs1_26)), (a1__27, .inl (cI, 2100, .inl (fun _ => 0))), (a2__28, .inl (cI, 2100, .inl (fun _ => 0))), (a3__29, .inl (cI, 2100, .inl (fun _ => 0))), (q_33, .inr (8, fs1_38)), (a1__39, .inl (cI, 2100, .inl (fun _ => 0))), (a2__40, .inl (cI, 2100, .inl (fun _ => 0))), (a3__41, .inl (cI, 2100, .inl (fun _ => 0))), (a4__42, .inl (cI, 2100, .inl (fun _ => 0))), (a5__43, .inl (cI, 2100, .inl (fun _ => 0))), (a6__44, .inl (cI, 2100, .inl (fun _ => 0))), (q_48, .inr (9, fs1_53)), (q_57, .inr (5, fs1_62)), (a1__63, .inr (1, fs1__64)), (a2__65, .inl (cI, 8008, .inl (fun _ => 0))), (q_70, .inr (11, fs1_75)), (q_79, .inr (10, fs1_84)), (q_88, .inr (4, fs_90))] H := hP
  have hD : va_D A [(h0, .inr (12, fs_87)), (q_1, .inl (cB, 4000, .inl (fun _ => 0))), (q_5, .inr (2, fs1_10)), (a1__11, .inl (cI, 4004, .inl (fun _ => 0))), (a2__12, .inl (cI, 4004, .inl (fun _ => 0))), (a3__13, .inl (cI, 4004, .inl (fun _ => 0))), (a4__14, .inl (cI, 4004, .inl (fun _ => 0))), (a5__15, .inl (cL, 2100, .inr (.inl (fun _ => 0)))), (a6__16, .inl (cL, 2100, .inr (.inl (fun _ => 0)))), (a7__17, .inl (cI, 8192, .inl (fun _ => 0))), (q_21, .inr (0, fs1_26)), (a1__27, .inl (cI, 2100, .inl (fun _ => 0))), (a2__28, .inl (cI, 2100, .inl (fun _ => 0))), (a3__29, .inl (cI, 2100, .inl (fun _ => 0))), (q_33, .inr (8, fs1_38)), (a1__39, .inl (cI, 2100, .inl (fun _ => 0))), (a2__40, .inl (cI, 2100, .inl (fun _ => 0))), (a3__41, .inl (cI, 2100, .inl (fun _ => 0))), (a4__42, .inl (cI, 2100, .inl (fun _ => 0))), (a5__43, .inl (cI, 2100, .inl (fun _ => 0))), (a6__44, .inl (cI, 2100, .inl (fun _ => 0))), (q_48, .inr (9, fs1_53)), (q_57, .inr (5, fs1_62)), (a1__63, .inr (1, fs1__64)), (a2__65, .inl (cI, 8008, .inl (fun _ => 0))), (q_70, .inr (11, fs1_75)), (q_79, .inr (10, fs1_84)), (q_88, .inr (4, fs_90))] := hD
  refine W.widen (k := 85) (n := 247168) (by decide) (by decide) ?_
  refine lv_dup hx hb dX12_init_150 rfl ?_
  refine lv_aload_n hx hb dX12_init_151 rfl (lv_at hl 0 rfl) ?_
  refine va_get (D := (dC, dI)) (ci := 12) (v := .ref q_48) (C := RX12) (T := TX12) (N := 14) hx hb hts hin_X12 hown hK hP 0 rfl rfl 4 (by decide) (hts (.fieldLink RX12 41 "NeedHouse" "tree" "LNeedHouse$Tree;") (List.mem_of_getElem? (i := 95) rfl)) (fun _ h9 => h9) (hF_86.at 3 rfl) dX12_init_152 ?_
  refine lv_aload_n hx hb dX12_init_155 rfl (lv_at hl 0 rfl) ?_
  refine va_get (D := (dC, dI)) (ci := 12) (v := .ref q_33) (C := RX12) (T := TX12) (N := 14) hx hb hts hin_X12 hown hK hP 0 rfl rfl 3 (by decide) (hts (.fieldLink RX12 32 "NeedHouse" "told" "LNeedHouse$Told;") (List.mem_of_getElem? (i := 70) rfl)) (fun _ h9 => h9) (hF_86.at 4 rfl) dX12_init_156 ?_
  have hPc := hP.sub (ws' := [(q_88, .inr (4, fs_90))]) [27] rfl
  have hDc := hD.sub (ws' := [(q_88, .inr (4, fs_90))]) [27] (by decide) rfl
  have hKc := hK.sub (tys' := [(cI, .int), (cL, .long)]) [1, 2] rfl
  have hFc := va_free (wc := [(q_88, .inr (4, fs_90))]) hD hS hA [27] rfl
  refine va_callv (va_runI (As := [.ref q_48, .ref q_33]) (rest := [.ref q_88, .ref h0]) ⟨hx, hb, hml, hown, hts⟩ (c_X4_init l dC dI H.size q_88 fs_90 cI cL q_48 q_33 (hF_89.sub [0] rfl)) (cwI 2 hts g_c_X12_init_c_X4_init_159 rfl rfl rfl (hts (.initialized RX4) (List.mem_of_getElem? (i := 164) rfl)) (hts (.methodLink RX12 74 yX4_init) (List.mem_of_getElem? (i := 179) rfl)) (hts (.instanceMethod yX4_init) (List.mem_of_getElem? (i := 180) rfl)) rfl (by decide +kernel) ⟨Nat.le_of_ble_eq_true rfl, Nat.le_of_ble_eq_true rfl⟩) ⟨fun a U g mk q => by obtain ⟨q0, q1, qP, qK, qD⟩ := q; exact ⟨q0, q1, qP, va_K.moved (u := U) (U := U.calling g mk a) (Vm.Alike.refl U.vm) qK, qD⟩, fun U hU hW => ⟨rfl, by rw [hU], by rw [hU]; exact hPc, va_K.moved hW.alike hKc, hDc.weaken (fun _ _ _ _ => trivial)⟩⟩ rfl rfl hl.1 rfl (lv_room (Nat.le_of_ble_eq_true rfl)) dX12_init_159 ⟨show 85 + 10 ≤ 112 by decide, show 247168 + 93711 ≤ 370249 by decide⟩) hS (fun q _ h => hFc q h) hFc (fun u t H1 locs ht hvm hw hB hz1 hk1 hS => ?_)
  obtain ⟨fs1_93, rfl⟩ : ∃ z, z = u := ⟨_, rfl⟩
  obtain ⟨hP1, hK1, hD1⟩ := hB
  rw [ht] at hP1
  have hK1 := va_K.moved hvm.symm hK1
  try dsimp only at hw hP1 hK1 hD1
  have hF_94 := hw
  obtain ⟨hP, hD⟩ := va_join (wr := [(h0, .inr (12, fs_87)), (q_1, .inl (cB, 4000, .inl (fun _ => 0))), (q_5, .inr (2, fs1_10)), (a1__11, .inl (cI, 4004, .inl (fun _ => 0))), (a2__12, .inl (cI, 4004, .inl (fun _ => 0))), (a3__13, .inl (cI, 4004, .inl (fun _ => 0))), (a4__14, .inl (cI, 4004, .inl (fun _ => 0))), (a5__15, .inl (cL, 2100, .inr (.inl (fun _ => 0)))), (a6__16, .inl (cL, 2100, .inr (.inl (fun _ => 0)))), (a7__17, .inl (cI, 8192, .inl (fun _ => 0))), (q_21, .inr (0, fs1_26)), (a1__27, .inl (cI, 2100, .inl (fun _ => 0))), (a2__28, .inl (cI, 2100, .inl (fun _ => 0))), (a3__29, .inl (cI, 2100, .inl (fun _ => 0))), (q_33, .inr (8, fs1_38)), (a1__39, .inl (cI, 2100, .inl (fun _ => 0))), (a2__40, .inl (cI, 2100, .inl (fun _ => 0))), (a3__41, .inl (cI, 2100, .inl (fun _ => 0))), (a4__42, .inl (cI, 2100, .inl (fun _ => 0))), (a5__43, .inl (cI, 2100, .inl (fun _ => 0))), (a6__44, .inl (cI, 2100, .inl (fun _ => 0))), (q_48, .inr (9, fs1_53)), (q_57, .inr (5, fs1_62)), (a1__63, .inr (1, fs1__64)), (a2__65, .inl (cI, 8008, .inl (fun _ => 0))), (q_70, .inr (11, fs1_75)), (q_79, .inr (10, fs1_84))]) (w1 := [(q_88, .inr (4, fs1_93))]) hP hD [27] [0, 1, 2, 3, 4, 5, 6, 7, 8, 9, 10, 11, 12, 13, 14, 15, 16, 17, 18, 19, 20, 21, 22, 23, 24, 25, 26] rfl rfl (by decide) (by decide) hk1 hFc hP1 hD1
  generalize H1 = H at hP hS ⊢
  have hK := (hK.sub (tys' := [(cB, .byte)]) [0] rfl).app hK1
  have hK : va_K (dC, dI) vwCl [(cB, .byte), (cI, .int), (cL, .long)] s := hK
  have hP : va_P (dC, dI) vwCl [(h0, .inr (12, fs_87)), (q_1, .inl (cB, 4000, .inl (fun _ => 0))), (q_5, .inr (2, fs1_10)), (a1__11, .inl (cI, 4004, .inl (fun _ => 0))), (a2__12, .inl (cI, 4004, .inl (fun _ => 0))), (a3__13, .inl (cI, 4004, .inl (fun _ => 0))), (a4__14, .inl (cI, 4004, .inl (fun _ => 0))), (a5__15, .inl (cL, 2100, .inr (.inl (fun _ => 0)))), (a6__16, .inl (cL, 2100, .inr (.inl (fun _ => 0)))), (a7__17, .inl (cI, 8192, .inl (fun _ => 0))), (q_21, .inr (0, fs1_26)), (a1__27, .inl (cI, 2100, .inl (fun _ => 0))), (a2__28, .inl (cI, 2100, .inl (fun _ => 0))), (a3__29, .inl (cI, 2100, .inl (fun _ => 0))), (q_33, .inr (8, fs1_38)), (a1__39, .inl (cI, 2100, .inl (fun _ => 0))), (a2__40, .inl (cI, 2100, .inl (fun _ => 0))), (a3__41, .inl (cI, 2100, .inl (fun _ => 0))), (a4__42, .inl (cI, 2100, .inl (fun _ => 0))), (a5__43, .inl (cI, 2100, .inl (fun _ => 0))), (a6__44, .inl (cI, 2100, .inl (fun _ => 0))), (q_48, .inr (9, fs1_53)), (q_57, .inr (5, fs1_62)), (a1__63, .inr (1, fs1__64)), (a2__65, .inl (cI, 8008, .inl (fun _ => 0))), (q_70, .inr (11, fs1_75)), (q_79, .inr (10, fs1_84)), (q_88, .inr (4, fs1_93))] H := hP
  have hD : va_D A [(h0, .inr (12, fs_87)), (q_1, .inl (cB, 4000, .inl (fun _ => 0))), (q_5, .inr (2, fs1_10)), (a1__11, .inl (cI, 4004, .inl (fun _ => 0))), (a2__12, .inl (cI, 4004, .inl (fun _ => 0))), (a3__13, .inl (cI, 4004, .inl (fun _ => 0))), (a4__14, .inl (cI, 4004, .inl (fun _ => 0))), (a5__15, .inl (cL, 2100, .inr (.inl (fun _ => 0)))), (a6__16, .inl (cL, 2100, .inr (.inl (fun _ => 0)))), (a7__17, .inl (cI, 8192, .inl (fun _ => 0))), (q_21, .inr (0, fs1_26)), (a1__27, .inl (cI, 2100, .inl (fun _ => 0))), (a2__28, .inl (cI, 2100, .inl (fun _ => 0))), (a3__29, .inl (cI, 2100, .inl (fun _ => 0))), (q_33, .inr (8, fs1_38)), (a1__39, .inl (cI, 2100, .inl (fun _ => 0))), (a2__40, .inl (cI, 2100, .inl (fun _ => 0))), (a3__41, .inl (cI, 2100, .inl (fun _ => 0))), (a4__42, .inl (cI, 2100, .inl (fun _ => 0))), (a5__43, .inl (cI, 2100, .inl (fun _ => 0))), (a6__44, .inl (cI, 2100, .inl (fun _ => 0))), (q_48, .inr (9, fs1_53)), (q_57, .inr (5, fs1_62)), (a1__63, .inr (1, fs1__64)), (a2__65, .inl (cI, 8008, .inl (fun _ => 0))), (q_70, .inr (11, fs1_75)), (q_79, .inr (10, fs1_84)), (q_88, .inr (4, fs1_93))] := hD
  refine W.widen (k := 95) (n := 340879) (by decide) (by decide) ?_
  refine va_putF (D := (dC, dI)) (ci := 12) (v := .ref q_88) (ty := (.object "NeedHouse$Needs")) (C := RX12) (T := TX12) (N := 14) hx hb hts hin_X12 tyX12 tyX12_ok nmX12 hown hK hP hD hS 0 rfl rfl 8 (by decide) (hts (.fieldLink RX12 77 "NeedHouse" "needs" "LNeedHouse$Needs;") (List.mem_of_getElem? (i := 181) rfl)) (fun _ h9 => h9) rfl hin rfl (by decide +kernel) rfl rfl (by rw [hF_86.1]; decide) dX12_init_162 (fun H locs hP hD hS => ?_)
  have hP : va_P (dC, dI) vwCl [(h0, .inr (12, (fs_87.set 8 (.ref q_88)))), (q_1, .inl (cB, 4000, .inl (fun _ => 0))), (q_5, .inr (2, fs1_10)), (a1__11, .inl (cI, 4004, .inl (fun _ => 0))), (a2__12, .inl (cI, 4004, .inl (fun _ => 0))), (a3__13, .inl (cI, 4004, .inl (fun _ => 0))), (a4__14, .inl (cI, 4004, .inl (fun _ => 0))), (a5__15, .inl (cL, 2100, .inr (.inl (fun _ => 0)))), (a6__16, .inl (cL, 2100, .inr (.inl (fun _ => 0)))), (a7__17, .inl (cI, 8192, .inl (fun _ => 0))), (q_21, .inr (0, fs1_26)), (a1__27, .inl (cI, 2100, .inl (fun _ => 0))), (a2__28, .inl (cI, 2100, .inl (fun _ => 0))), (a3__29, .inl (cI, 2100, .inl (fun _ => 0))), (q_33, .inr (8, fs1_38)), (a1__39, .inl (cI, 2100, .inl (fun _ => 0))), (a2__40, .inl (cI, 2100, .inl (fun _ => 0))), (a3__41, .inl (cI, 2100, .inl (fun _ => 0))), (a4__42, .inl (cI, 2100, .inl (fun _ => 0))), (a5__43, .inl (cI, 2100, .inl (fun _ => 0))), (a6__44, .inl (cI, 2100, .inl (fun _ => 0))), (q_48, .inr (9, fs1_53)), (q_57, .inr (5, fs1_62)), (a1__63, .inr (1, fs1__64)), (a2__65, .inl (cI, 8008, .inl (fun _ => 0))), (q_70, .inr (11, fs1_75)), (q_79, .inr (10, fs1_84)), (q_88, .inr (4, fs1_93))] H := hP
  have hD : va_D A [(h0, .inr (12, (fs_87.set 8 (.ref q_88)))), (q_1, .inl (cB, 4000, .inl (fun _ => 0))), (q_5, .inr (2, fs1_10)), (a1__11, .inl (cI, 4004, .inl (fun _ => 0))), (a2__12, .inl (cI, 4004, .inl (fun _ => 0))), (a3__13, .inl (cI, 4004, .inl (fun _ => 0))), (a4__14, .inl (cI, 4004, .inl (fun _ => 0))), (a5__15, .inl (cL, 2100, .inr (.inl (fun _ => 0)))), (a6__16, .inl (cL, 2100, .inr (.inl (fun _ => 0)))), (a7__17, .inl (cI, 8192, .inl (fun _ => 0))), (q_21, .inr (0, fs1_26)), (a1__27, .inl (cI, 2100, .inl (fun _ => 0))), (a2__28, .inl (cI, 2100, .inl (fun _ => 0))), (a3__29, .inl (cI, 2100, .inl (fun _ => 0))), (q_33, .inr (8, fs1_38)), (a1__39, .inl (cI, 2100, .inl (fun _ => 0))), (a2__40, .inl (cI, 2100, .inl (fun _ => 0))), (a3__41, .inl (cI, 2100, .inl (fun _ => 0))), (a4__42, .inl (cI, 2100, .inl (fun _ => 0))), (a5__43, .inl (cI, 2100, .inl (fun _ => 0))), (a6__44, .inl (cI, 2100, .inl (fun _ => 0))), (q_48, .inr (9, fs1_53)), (q_57, .inr (5, fs1_62)), (a1__63, .inr (1, fs1__64)), (a2__65, .inl (cI, 8008, .inl (fun _ => 0))), (q_70, .inr (11, fs1_75)), (q_79, .inr (10, fs1_84)), (q_88, .inr (4, fs1_93))] := hD
  have hF_95 := hF_86.set 8 (.ref q_88) (l' := [(8, .ref q_88), (7, .ref q_79), (6, .ref q_70), (5, .ref q_57), (4, .ref q_48), (3, .ref q_33), (2, .ref q_21), (1, .ref q_5), (0, .ref q_1), (11, .int 0), (12, .int 0), (13, .int 0)]) (by decide) rfl
  generalize fs_87.set 8 (.ref q_88) = fs_96 at hP hD hF_95
  have hP : va_P (dC, dI) vwCl [(h0, .inr (12, fs_96)), (q_1, .inl (cB, 4000, .inl (fun _ => 0))), (q_5, .inr (2, fs1_10)), (a1__11, .inl (cI, 4004, .inl (fun _ => 0))), (a2__12, .inl (cI, 4004, .inl (fun _ => 0))), (a3__13, .inl (cI, 4004, .inl (fun _ => 0))), (a4__14, .inl (cI, 4004, .inl (fun _ => 0))), (a5__15, .inl (cL, 2100, .inr (.inl (fun _ => 0)))), (a6__16, .inl (cL, 2100, .inr (.inl (fun _ => 0)))), (a7__17, .inl (cI, 8192, .inl (fun _ => 0))), (q_21, .inr (0, fs1_26)), (a1__27, .inl (cI, 2100, .inl (fun _ => 0))), (a2__28, .inl (cI, 2100, .inl (fun _ => 0))), (a3__29, .inl (cI, 2100, .inl (fun _ => 0))), (q_33, .inr (8, fs1_38)), (a1__39, .inl (cI, 2100, .inl (fun _ => 0))), (a2__40, .inl (cI, 2100, .inl (fun _ => 0))), (a3__41, .inl (cI, 2100, .inl (fun _ => 0))), (a4__42, .inl (cI, 2100, .inl (fun _ => 0))), (a5__43, .inl (cI, 2100, .inl (fun _ => 0))), (a6__44, .inl (cI, 2100, .inl (fun _ => 0))), (q_48, .inr (9, fs1_53)), (q_57, .inr (5, fs1_62)), (a1__63, .inr (1, fs1__64)), (a2__65, .inl (cI, 8008, .inl (fun _ => 0))), (q_70, .inr (11, fs1_75)), (q_79, .inr (10, fs1_84)), (q_88, .inr (4, fs1_93))] H := hP
  have hD : va_D A [(h0, .inr (12, fs_96)), (q_1, .inl (cB, 4000, .inl (fun _ => 0))), (q_5, .inr (2, fs1_10)), (a1__11, .inl (cI, 4004, .inl (fun _ => 0))), (a2__12, .inl (cI, 4004, .inl (fun _ => 0))), (a3__13, .inl (cI, 4004, .inl (fun _ => 0))), (a4__14, .inl (cI, 4004, .inl (fun _ => 0))), (a5__15, .inl (cL, 2100, .inr (.inl (fun _ => 0)))), (a6__16, .inl (cL, 2100, .inr (.inl (fun _ => 0)))), (a7__17, .inl (cI, 8192, .inl (fun _ => 0))), (q_21, .inr (0, fs1_26)), (a1__27, .inl (cI, 2100, .inl (fun _ => 0))), (a2__28, .inl (cI, 2100, .inl (fun _ => 0))), (a3__29, .inl (cI, 2100, .inl (fun _ => 0))), (q_33, .inr (8, fs1_38)), (a1__39, .inl (cI, 2100, .inl (fun _ => 0))), (a2__40, .inl (cI, 2100, .inl (fun _ => 0))), (a3__41, .inl (cI, 2100, .inl (fun _ => 0))), (a4__42, .inl (cI, 2100, .inl (fun _ => 0))), (a5__43, .inl (cI, 2100, .inl (fun _ => 0))), (a6__44, .inl (cI, 2100, .inl (fun _ => 0))), (q_48, .inr (9, fs1_53)), (q_57, .inr (5, fs1_62)), (a1__63, .inr (1, fs1__64)), (a2__65, .inl (cI, 8008, .inl (fun _ => 0))), (q_70, .inr (11, fs1_75)), (q_79, .inr (10, fs1_84)), (q_88, .inr (4, fs1_93))] := hD
  refine lv_aload_n hx hb dX12_init_165 rfl (lv_at hl 0 rfl) ?_
  refine va_new (ci := 3) (fs := dfs 14 tyX3) (C := RX3) (T := TX3) (N := 14) hx hb hts hin_X3 tyX3 tyX3_ok hown (hts (.classLink RX12 81 RX3) (List.mem_of_getElem? (i := 182) rfl)) (hts (.instantiable RX3 14) (List.mem_of_getElem? (i := 183) rfl)) (hts (.initialized RX3) (List.mem_of_getElem? (i := 184) rfl)) hK hP hD hS hA rfl dfs_ok (show 95 + 1 ≤ 112 by decide) (show 340879 + 14 ≤ 370249 by decide) dX12_init_166 (fun q_97 H hP hD hS => ?_)
  have hP : va_P (dC, dI) vwCl [(h0, .inr (12, fs_96)), (q_1, .inl (cB, 4000, .inl (fun _ => 0))), (q_5, .inr (2, fs1_10)), (a1__11, .inl (cI, 4004, .inl (fun _ => 0))), (a2__12, .inl (cI, 4004, .inl (fun _ => 0))), (a3__13, .inl (cI, 4004, .inl (fun _ => 0))), (a4__14, .inl (cI, 4004, .inl (fun _ => 0))), (a5__15, .inl (cL, 2100, .inr (.inl (fun _ => 0)))), (a6__16, .inl (cL, 2100, .inr (.inl (fun _ => 0)))), (a7__17, .inl (cI, 8192, .inl (fun _ => 0))), (q_21, .inr (0, fs1_26)), (a1__27, .inl (cI, 2100, .inl (fun _ => 0))), (a2__28, .inl (cI, 2100, .inl (fun _ => 0))), (a3__29, .inl (cI, 2100, .inl (fun _ => 0))), (q_33, .inr (8, fs1_38)), (a1__39, .inl (cI, 2100, .inl (fun _ => 0))), (a2__40, .inl (cI, 2100, .inl (fun _ => 0))), (a3__41, .inl (cI, 2100, .inl (fun _ => 0))), (a4__42, .inl (cI, 2100, .inl (fun _ => 0))), (a5__43, .inl (cI, 2100, .inl (fun _ => 0))), (a6__44, .inl (cI, 2100, .inl (fun _ => 0))), (q_48, .inr (9, fs1_53)), (q_57, .inr (5, fs1_62)), (a1__63, .inr (1, fs1__64)), (a2__65, .inl (cI, 8008, .inl (fun _ => 0))), (q_70, .inr (11, fs1_75)), (q_79, .inr (10, fs1_84)), (q_88, .inr (4, fs1_93)), (q_97, .inr (3, (dfs 14 tyX3)))] H := hP
  have hD : va_D A [(h0, .inr (12, fs_96)), (q_1, .inl (cB, 4000, .inl (fun _ => 0))), (q_5, .inr (2, fs1_10)), (a1__11, .inl (cI, 4004, .inl (fun _ => 0))), (a2__12, .inl (cI, 4004, .inl (fun _ => 0))), (a3__13, .inl (cI, 4004, .inl (fun _ => 0))), (a4__14, .inl (cI, 4004, .inl (fun _ => 0))), (a5__15, .inl (cL, 2100, .inr (.inl (fun _ => 0)))), (a6__16, .inl (cL, 2100, .inr (.inl (fun _ => 0)))), (a7__17, .inl (cI, 8192, .inl (fun _ => 0))), (q_21, .inr (0, fs1_26)), (a1__27, .inl (cI, 2100, .inl (fun _ => 0))), (a2__28, .inl (cI, 2100, .inl (fun _ => 0))), (a3__29, .inl (cI, 2100, .inl (fun _ => 0))), (q_33, .inr (8, fs1_38)), (a1__39, .inl (cI, 2100, .inl (fun _ => 0))), (a2__40, .inl (cI, 2100, .inl (fun _ => 0))), (a3__41, .inl (cI, 2100, .inl (fun _ => 0))), (a4__42, .inl (cI, 2100, .inl (fun _ => 0))), (a5__43, .inl (cI, 2100, .inl (fun _ => 0))), (a6__44, .inl (cI, 2100, .inl (fun _ => 0))), (q_48, .inr (9, fs1_53)), (q_57, .inr (5, fs1_62)), (a1__63, .inr (1, fs1__64)), (a2__65, .inl (cI, 8008, .inl (fun _ => 0))), (q_70, .inr (11, fs1_75)), (q_79, .inr (10, fs1_84)), (q_88, .inr (4, fs1_93)), (q_97, .inr (3, (dfs 14 tyX3)))] := hD
  have hF_98 : hasF (dfs 14 tyX3) 14 [(7, .int 0), (8, .int 0), (9, .int 0), (10, .int 0), (11, .int 0), (12, .long 0), (13, .int 0)] := dfs_has (List.forall_mem_cons.mpr ⟨⟨by decide, rfl⟩, List.forall_mem_cons.mpr ⟨⟨by decide, rfl⟩, List.forall_mem_cons.mpr ⟨⟨by decide, rfl⟩, List.forall_mem_cons.mpr ⟨⟨by decide, rfl⟩, List.forall_mem_cons.mpr ⟨⟨by decide, rfl⟩, List.forall_mem_cons.mpr ⟨⟨by decide, rfl⟩, List.forall_mem_cons.mpr ⟨⟨by decide, rfl⟩, fun _ h => absurd h List.not_mem_nil⟩⟩⟩⟩⟩⟩⟩)
  generalize dfs 14 tyX3 = fs_99 at hP hD hF_98
  have hP : va_P (dC, dI) vwCl [(h0, .inr (12, fs_96)), (q_1, .inl (cB, 4000, .inl (fun _ => 0))), (q_5, .inr (2, fs1_10)), (a1__11, .inl (cI, 4004, .inl (fun _ => 0))), (a2__12, .inl (cI, 4004, .inl (fun _ => 0))), (a3__13, .inl (cI, 4004, .inl (fun _ => 0))), (a4__14, .inl (cI, 4004, .inl (fun _ => 0))), (a5__15, .inl (cL, 2100, .inr (.inl (fun _ => 0)))), (a6__16, .inl (cL, 2100, .inr (.inl (fun _ => 0)))), (a7__17, .inl (cI, 8192, .inl (fun _ => 0))), (q_21, .inr (0, fs1_26)), (a1__27, .inl (cI, 2100, .inl (fun _ => 0))), (a2__28, .inl (cI, 2100, .inl (fun _ => 0))), (a3__29, .inl (cI, 2100, .inl (fun _ => 0))), (q_33, .inr (8, fs1_38)), (a1__39, .inl (cI, 2100, .inl (fun _ => 0))), (a2__40, .inl (cI, 2100, .inl (fun _ => 0))), (a3__41, .inl (cI, 2100, .inl (fun _ => 0))), (a4__42, .inl (cI, 2100, .inl (fun _ => 0))), (a5__43, .inl (cI, 2100, .inl (fun _ => 0))), (a6__44, .inl (cI, 2100, .inl (fun _ => 0))), (q_48, .inr (9, fs1_53)), (q_57, .inr (5, fs1_62)), (a1__63, .inr (1, fs1__64)), (a2__65, .inl (cI, 8008, .inl (fun _ => 0))), (q_70, .inr (11, fs1_75)), (q_79, .inr (10, fs1_84)), (q_88, .inr (4, fs1_93)), (q_97, .inr (3, fs_99))] H := hP
  have hD : va_D A [(h0, .inr (12, fs_96)), (q_1, .inl (cB, 4000, .inl (fun _ => 0))), (q_5, .inr (2, fs1_10)), (a1__11, .inl (cI, 4004, .inl (fun _ => 0))), (a2__12, .inl (cI, 4004, .inl (fun _ => 0))), (a3__13, .inl (cI, 4004, .inl (fun _ => 0))), (a4__14, .inl (cI, 4004, .inl (fun _ => 0))), (a5__15, .inl (cL, 2100, .inr (.inl (fun _ => 0)))), (a6__16, .inl (cL, 2100, .inr (.inl (fun _ => 0)))), (a7__17, .inl (cI, 8192, .inl (fun _ => 0))), (q_21, .inr (0, fs1_26)), (a1__27, .inl (cI, 2100, .inl (fun _ => 0))), (a2__28, .inl (cI, 2100, .inl (fun _ => 0))), (a3__29, .inl (cI, 2100, .inl (fun _ => 0))), (q_33, .inr (8, fs1_38)), (a1__39, .inl (cI, 2100, .inl (fun _ => 0))), (a2__40, .inl (cI, 2100, .inl (fun _ => 0))), (a3__41, .inl (cI, 2100, .inl (fun _ => 0))), (a4__42, .inl (cI, 2100, .inl (fun _ => 0))), (a5__43, .inl (cI, 2100, .inl (fun _ => 0))), (a6__44, .inl (cI, 2100, .inl (fun _ => 0))), (q_48, .inr (9, fs1_53)), (q_57, .inr (5, fs1_62)), (a1__63, .inr (1, fs1__64)), (a2__65, .inl (cI, 8008, .inl (fun _ => 0))), (q_70, .inr (11, fs1_75)), (q_79, .inr (10, fs1_84)), (q_88, .inr (4, fs1_93)), (q_97, .inr (3, fs_99))] := hD
  refine W.widen (k := 96) (n := 340893) (by decide) (by decide) ?_
  refine lv_dup hx hb dX12_init_169 rfl ?_
  refine lv_aload_n hx hb dX12_init_170 rfl (lv_at hl 0 rfl) ?_
  refine va_get (D := (dC, dI)) (ci := 12) (v := .ref q_5) (C := RX12) (T := TX12) (N := 14) hx hb hts hin_X12 hown hK hP 0 rfl rfl 1 (by decide) (hts (.fieldLink RX12 16 "NeedHouse" "lexemes" "LNeedHouse$Lexemes;") (List.mem_of_getElem? (i := 21) rfl)) (fun _ h9 => h9) (hF_95.at 7 rfl) dX12_init_171 ?_
  refine lv_aload_n hx hb dX12_init_174 rfl (lv_at hl 0 rfl) ?_
  refine va_get (D := (dC, dI)) (ci := 12) (v := .ref q_48) (C := RX12) (T := TX12) (N := 14) hx hb hts hin_X12 hown hK hP 0 rfl rfl 4 (by decide) (hts (.fieldLink RX12 41 "NeedHouse" "tree" "LNeedHouse$Tree;") (List.mem_of_getElem? (i := 95) rfl)) (fun _ h9 => h9) (hF_95.at 4 rfl) dX12_init_175 ?_
  refine lv_aload_n hx hb dX12_init_178 rfl (lv_at hl 0 rfl) ?_
  refine va_get (D := (dC, dI)) (ci := 12) (v := .ref q_33) (C := RX12) (T := TX12) (N := 14) hx hb hts hin_X12 hown hK hP 0 rfl rfl 3 (by decide) (hts (.fieldLink RX12 32 "NeedHouse" "told" "LNeedHouse$Told;") (List.mem_of_getElem? (i := 70) rfl)) (fun _ h9 => h9) (hF_95.at 5 rfl) dX12_init_179 ?_
  refine lv_aload_n hx hb dX12_init_182 rfl (lv_at hl 0 rfl) ?_
  refine va_get (D := (dC, dI)) (ci := 12) (v := .ref q_21) (C := RX12) (T := TX12) (N := 14) hx hb hts hin_X12 hown hK hP 0 rfl rfl 2 (by decide) (hts (.fieldLink RX12 25 "NeedHouse" "datas" "LNeedHouse$Datas;") (List.mem_of_getElem? (i := 46) rfl)) (fun _ h9 => h9) (hF_95.at 6 rfl) dX12_init_183 ?_
  refine lv_aload_n hx hb dX12_init_186 rfl (lv_at hl 0 rfl) ?_
  refine va_get (D := (dC, dI)) (ci := 12) (v := .ref q_88) (C := RX12) (T := TX12) (N := 14) hx hb hts hin_X12 hown hK hP 0 rfl rfl 8 (by decide) (hts (.fieldLink RX12 77 "NeedHouse" "needs" "LNeedHouse$Needs;") (List.mem_of_getElem? (i := 181) rfl)) (fun _ h9 => h9) (hF_95.at 0 rfl) dX12_init_187 ?_
  have hPc := hP.sub (ws' := [(q_97, .inr (3, fs_99))]) [28] rfl
  have hDc := hD.sub (ws' := [(q_97, .inr (3, fs_99))]) [28] (by decide) rfl
  have hKc := hK.sub (tys' := [(cI, .int), (cL, .long), (cB, .byte)]) [1, 2, 0] rfl
  have hFc := va_free (wc := [(q_97, .inr (3, fs_99))]) hD hS hA [28] rfl
  refine va_callv (va_runI (As := [.ref q_5, .ref q_48, .ref q_33, .ref q_21, .ref q_88]) (rest := [.ref q_97, .ref h0]) ⟨hx, hb, hml, hown, hts⟩ (c_X3_init l dC dI H.size q_97 fs_99 cI cL cB q_5 q_48 q_33 q_21 q_88 (hF_98.sub [0, 1, 2, 3, 4, 5, 6] rfl)) (cwI 5 hts g_c_X12_init_c_X3_init_190 rfl rfl rfl (hts (.initialized RX3) (List.mem_of_getElem? (i := 184) rfl)) (hts (.methodLink RX12 83 yX3_init) (List.mem_of_getElem? (i := 225) rfl)) (hts (.instanceMethod yX3_init) (List.mem_of_getElem? (i := 226) rfl)) rfl (by decide +kernel) ⟨Nat.le_of_ble_eq_true rfl, Nat.le_of_ble_eq_true rfl⟩) ⟨fun a U g mk q => by obtain ⟨q0, q1, qP, qK, qD⟩ := q; exact ⟨q0, q1, qP, va_K.moved (u := U) (U := U.calling g mk a) (Vm.Alike.refl U.vm) qK, qD⟩, fun U hU hW => ⟨rfl, by rw [hU], by rw [hU]; exact hPc, va_K.moved hW.alike hKc, hDc.weaken (fun _ _ _ _ => trivial)⟩⟩ rfl rfl hl.1 rfl (lv_room (Nat.le_of_ble_eq_true rfl)) dX12_init_190 ⟨show 96 + 14 ≤ 112 by decide, show 340893 + 28153 ≤ 370249 by decide⟩) hS (fun q _ h => hFc q h) hFc (fun u t H1 locs ht hvm hw hB hz1 hk1 hS => ?_)
  obtain ⟨fs1_102, a1__103, fs1__104⟩ := u
  obtain ⟨hP1, hK1, hD1⟩ := hB
  rw [ht] at hP1
  have hK1 := va_K.moved hvm.symm hK1
  try dsimp only at hw hP1 hK1 hD1
  obtain ⟨hF_105, hF_106⟩ := hw
  obtain ⟨hP, hD⟩ := va_join (wr := [(h0, .inr (12, fs_96)), (q_1, .inl (cB, 4000, .inl (fun _ => 0))), (q_5, .inr (2, fs1_10)), (a1__11, .inl (cI, 4004, .inl (fun _ => 0))), (a2__12, .inl (cI, 4004, .inl (fun _ => 0))), (a3__13, .inl (cI, 4004, .inl (fun _ => 0))), (a4__14, .inl (cI, 4004, .inl (fun _ => 0))), (a5__15, .inl (cL, 2100, .inr (.inl (fun _ => 0)))), (a6__16, .inl (cL, 2100, .inr (.inl (fun _ => 0)))), (a7__17, .inl (cI, 8192, .inl (fun _ => 0))), (q_21, .inr (0, fs1_26)), (a1__27, .inl (cI, 2100, .inl (fun _ => 0))), (a2__28, .inl (cI, 2100, .inl (fun _ => 0))), (a3__29, .inl (cI, 2100, .inl (fun _ => 0))), (q_33, .inr (8, fs1_38)), (a1__39, .inl (cI, 2100, .inl (fun _ => 0))), (a2__40, .inl (cI, 2100, .inl (fun _ => 0))), (a3__41, .inl (cI, 2100, .inl (fun _ => 0))), (a4__42, .inl (cI, 2100, .inl (fun _ => 0))), (a5__43, .inl (cI, 2100, .inl (fun _ => 0))), (a6__44, .inl (cI, 2100, .inl (fun _ => 0))), (q_48, .inr (9, fs1_53)), (q_57, .inr (5, fs1_62)), (a1__63, .inr (1, fs1__64)), (a2__65, .inl (cI, 8008, .inl (fun _ => 0))), (q_70, .inr (11, fs1_75)), (q_79, .inr (10, fs1_84)), (q_88, .inr (4, fs1_93))]) (w1 := [(q_97, .inr (3, fs1_102)), (a1__103, .inr (6, fs1__104))]) hP hD [28] [0, 1, 2, 3, 4, 5, 6, 7, 8, 9, 10, 11, 12, 13, 14, 15, 16, 17, 18, 19, 20, 21, 22, 23, 24, 25, 26, 27] rfl rfl (by decide) (by decide) hk1 hFc hP1 hD1
  generalize H1 = H at hP hS ⊢
  have hK := (hK.sub (tys' := []) [] rfl).app hK1
  have hK : va_K (dC, dI) vwCl [(cI, .int), (cL, .long), (cB, .byte)] s := hK
  have hP : va_P (dC, dI) vwCl [(h0, .inr (12, fs_96)), (q_1, .inl (cB, 4000, .inl (fun _ => 0))), (q_5, .inr (2, fs1_10)), (a1__11, .inl (cI, 4004, .inl (fun _ => 0))), (a2__12, .inl (cI, 4004, .inl (fun _ => 0))), (a3__13, .inl (cI, 4004, .inl (fun _ => 0))), (a4__14, .inl (cI, 4004, .inl (fun _ => 0))), (a5__15, .inl (cL, 2100, .inr (.inl (fun _ => 0)))), (a6__16, .inl (cL, 2100, .inr (.inl (fun _ => 0)))), (a7__17, .inl (cI, 8192, .inl (fun _ => 0))), (q_21, .inr (0, fs1_26)), (a1__27, .inl (cI, 2100, .inl (fun _ => 0))), (a2__28, .inl (cI, 2100, .inl (fun _ => 0))), (a3__29, .inl (cI, 2100, .inl (fun _ => 0))), (q_33, .inr (8, fs1_38)), (a1__39, .inl (cI, 2100, .inl (fun _ => 0))), (a2__40, .inl (cI, 2100, .inl (fun _ => 0))), (a3__41, .inl (cI, 2100, .inl (fun _ => 0))), (a4__42, .inl (cI, 2100, .inl (fun _ => 0))), (a5__43, .inl (cI, 2100, .inl (fun _ => 0))), (a6__44, .inl (cI, 2100, .inl (fun _ => 0))), (q_48, .inr (9, fs1_53)), (q_57, .inr (5, fs1_62)), (a1__63, .inr (1, fs1__64)), (a2__65, .inl (cI, 8008, .inl (fun _ => 0))), (q_70, .inr (11, fs1_75)), (q_79, .inr (10, fs1_84)), (q_88, .inr (4, fs1_93)), (q_97, .inr (3, fs1_102)), (a1__103, .inr (6, fs1__104))] H := hP
  have hD : va_D A [(h0, .inr (12, fs_96)), (q_1, .inl (cB, 4000, .inl (fun _ => 0))), (q_5, .inr (2, fs1_10)), (a1__11, .inl (cI, 4004, .inl (fun _ => 0))), (a2__12, .inl (cI, 4004, .inl (fun _ => 0))), (a3__13, .inl (cI, 4004, .inl (fun _ => 0))), (a4__14, .inl (cI, 4004, .inl (fun _ => 0))), (a5__15, .inl (cL, 2100, .inr (.inl (fun _ => 0)))), (a6__16, .inl (cL, 2100, .inr (.inl (fun _ => 0)))), (a7__17, .inl (cI, 8192, .inl (fun _ => 0))), (q_21, .inr (0, fs1_26)), (a1__27, .inl (cI, 2100, .inl (fun _ => 0))), (a2__28, .inl (cI, 2100, .inl (fun _ => 0))), (a3__29, .inl (cI, 2100, .inl (fun _ => 0))), (q_33, .inr (8, fs1_38)), (a1__39, .inl (cI, 2100, .inl (fun _ => 0))), (a2__40, .inl (cI, 2100, .inl (fun _ => 0))), (a3__41, .inl (cI, 2100, .inl (fun _ => 0))), (a4__42, .inl (cI, 2100, .inl (fun _ => 0))), (a5__43, .inl (cI, 2100, .inl (fun _ => 0))), (a6__44, .inl (cI, 2100, .inl (fun _ => 0))), (q_48, .inr (9, fs1_53)), (q_57, .inr (5, fs1_62)), (a1__63, .inr (1, fs1__64)), (a2__65, .inl (cI, 8008, .inl (fun _ => 0))), (q_70, .inr (11, fs1_75)), (q_79, .inr (10, fs1_84)), (q_88, .inr (4, fs1_93)), (q_97, .inr (3, fs1_102)), (a1__103, .inr (6, fs1__104))] := hD
  refine W.widen (k := 110) (n := 369046) (by decide) (by decide) ?_
  refine va_putF (D := (dC, dI)) (ci := 12) (v := .ref q_97) (ty := (.object "NeedHouse$Machine")) (C := RX12) (T := TX12) (N := 14) hx hb hts hin_X12 tyX12 tyX12_ok nmX12 hown hK hP hD hS 0 rfl rfl 9 (by decide) (hts (.fieldLink RX12 86 "NeedHouse" "machine" "LNeedHouse$Machine;") (List.mem_of_getElem? (i := 227) rfl)) (fun _ h9 => h9) rfl hin rfl (by decide +kernel) rfl rfl (by rw [hF_95.1]; decide) dX12_init_193 (fun H locs hP hD hS => ?_)
  have hP : va_P (dC, dI) vwCl [(h0, .inr (12, (fs_96.set 9 (.ref q_97)))), (q_1, .inl (cB, 4000, .inl (fun _ => 0))), (q_5, .inr (2, fs1_10)), (a1__11, .inl (cI, 4004, .inl (fun _ => 0))), (a2__12, .inl (cI, 4004, .inl (fun _ => 0))), (a3__13, .inl (cI, 4004, .inl (fun _ => 0))), (a4__14, .inl (cI, 4004, .inl (fun _ => 0))), (a5__15, .inl (cL, 2100, .inr (.inl (fun _ => 0)))), (a6__16, .inl (cL, 2100, .inr (.inl (fun _ => 0)))), (a7__17, .inl (cI, 8192, .inl (fun _ => 0))), (q_21, .inr (0, fs1_26)), (a1__27, .inl (cI, 2100, .inl (fun _ => 0))), (a2__28, .inl (cI, 2100, .inl (fun _ => 0))), (a3__29, .inl (cI, 2100, .inl (fun _ => 0))), (q_33, .inr (8, fs1_38)), (a1__39, .inl (cI, 2100, .inl (fun _ => 0))), (a2__40, .inl (cI, 2100, .inl (fun _ => 0))), (a3__41, .inl (cI, 2100, .inl (fun _ => 0))), (a4__42, .inl (cI, 2100, .inl (fun _ => 0))), (a5__43, .inl (cI, 2100, .inl (fun _ => 0))), (a6__44, .inl (cI, 2100, .inl (fun _ => 0))), (q_48, .inr (9, fs1_53)), (q_57, .inr (5, fs1_62)), (a1__63, .inr (1, fs1__64)), (a2__65, .inl (cI, 8008, .inl (fun _ => 0))), (q_70, .inr (11, fs1_75)), (q_79, .inr (10, fs1_84)), (q_88, .inr (4, fs1_93)), (q_97, .inr (3, fs1_102)), (a1__103, .inr (6, fs1__104))] H := hP
  have hD : va_D A [(h0, .inr (12, (fs_96.set 9 (.ref q_97)))), (q_1, .inl (cB, 4000, .inl (fun _ => 0))), (q_5, .inr (2, fs1_10)), (a1__11, .inl (cI, 4004, .inl (fun _ => 0))), (a2__12, .inl (cI, 4004, .inl (fun _ => 0))), (a3__13, .inl (cI, 4004, .inl (fun _ => 0))), (a4__14, .inl (cI, 4004, .inl (fun _ => 0))), (a5__15, .inl (cL, 2100, .inr (.inl (fun _ => 0)))), (a6__16, .inl (cL, 2100, .inr (.inl (fun _ => 0)))), (a7__17, .inl (cI, 8192, .inl (fun _ => 0))), (q_21, .inr (0, fs1_26)), (a1__27, .inl (cI, 2100, .inl (fun _ => 0))), (a2__28, .inl (cI, 2100, .inl (fun _ => 0))), (a3__29, .inl (cI, 2100, .inl (fun _ => 0))), (q_33, .inr (8, fs1_38)), (a1__39, .inl (cI, 2100, .inl (fun _ => 0))), (a2__40, .inl (cI, 2100, .inl (fun _ => 0))), (a3__41, .inl (cI, 2100, .inl (fun _ => 0))), (a4__42, .inl (cI, 2100, .inl (fun _ => 0))), (a5__43, .inl (cI, 2100, .inl (fun _ => 0))), (a6__44, .inl (cI, 2100, .inl (fun _ => 0))), (q_48, .inr (9, fs1_53)), (q_57, .inr (5, fs1_62)), (a1__63, .inr (1, fs1__64)), (a2__65, .inl (cI, 8008, .inl (fun _ => 0))), (q_70, .inr (11, fs1_75)), (q_79, .inr (10, fs1_84)), (q_88, .inr (4, fs1_93)), (q_97, .inr (3, fs1_102)), (a1__103, .inr (6, fs1__104))] := hD
  have hF_107 := hF_95.set 9 (.ref q_97) (l' := [(9, .ref q_97), (8, .ref q_88), (7, .ref q_79), (6, .ref q_70), (5, .ref q_57), (4, .ref q_48), (3, .ref q_33), (2, .ref q_21), (1, .ref q_5), (0, .ref q_1), (11, .int 0), (12, .int 0), (13, .int 0)]) (by decide) rfl
  generalize fs_96.set 9 (.ref q_97) = fs_108 at hP hD hF_107
  have hP : va_P (dC, dI) vwCl [(h0, .inr (12, fs_108)), (q_1, .inl (cB, 4000, .inl (fun _ => 0))), (q_5, .inr (2, fs1_10)), (a1__11, .inl (cI, 4004, .inl (fun _ => 0))), (a2__12, .inl (cI, 4004, .inl (fun _ => 0))), (a3__13, .inl (cI, 4004, .inl (fun _ => 0))), (a4__14, .inl (cI, 4004, .inl (fun _ => 0))), (a5__15, .inl (cL, 2100, .inr (.inl (fun _ => 0)))), (a6__16, .inl (cL, 2100, .inr (.inl (fun _ => 0)))), (a7__17, .inl (cI, 8192, .inl (fun _ => 0))), (q_21, .inr (0, fs1_26)), (a1__27, .inl (cI, 2100, .inl (fun _ => 0))), (a2__28, .inl (cI, 2100, .inl (fun _ => 0))), (a3__29, .inl (cI, 2100, .inl (fun _ => 0))), (q_33, .inr (8, fs1_38)), (a1__39, .inl (cI, 2100, .inl (fun _ => 0))), (a2__40, .inl (cI, 2100, .inl (fun _ => 0))), (a3__41, .inl (cI, 2100, .inl (fun _ => 0))), (a4__42, .inl (cI, 2100, .inl (fun _ => 0))), (a5__43, .inl (cI, 2100, .inl (fun _ => 0))), (a6__44, .inl (cI, 2100, .inl (fun _ => 0))), (q_48, .inr (9, fs1_53)), (q_57, .inr (5, fs1_62)), (a1__63, .inr (1, fs1__64)), (a2__65, .inl (cI, 8008, .inl (fun _ => 0))), (q_70, .inr (11, fs1_75)), (q_79, .inr (10, fs1_84)), (q_88, .inr (4, fs1_93)), (q_97, .inr (3, fs1_102)), (a1__103, .inr (6, fs1__104))] H := hP
  have hD : va_D A [(h0, .inr (12, fs_108)), (q_1, .inl (cB, 4000, .inl (fun _ => 0))), (q_5, .inr (2, fs1_10)), (a1__11, .inl (cI, 4004, .inl (fun _ => 0))), (a2__12, .inl (cI, 4004, .inl (fun _ => 0))), (a3__13, .inl (cI, 4004, .inl (fun _ => 0))), (a4__14, .inl (cI, 4004, .inl (fun _ => 0))), (a5__15, .inl (cL, 2100, .inr (.inl (fun _ => 0)))), (a6__16, .inl (cL, 2100, .inr (.inl (fun _ => 0)))), (a7__17, .inl (cI, 8192, .inl (fun _ => 0))), (q_21, .inr (0, fs1_26)), (a1__27, .inl (cI, 2100, .inl (fun _ => 0))), (a2__28, .inl (cI, 2100, .inl (fun _ => 0))), (a3__29, .inl (cI, 2100, .inl (fun _ => 0))), (q_33, .inr (8, fs1_38)), (a1__39, .inl (cI, 2100, .inl (fun _ => 0))), (a2__40, .inl (cI, 2100, .inl (fun _ => 0))), (a3__41, .inl (cI, 2100, .inl (fun _ => 0))), (a4__42, .inl (cI, 2100, .inl (fun _ => 0))), (a5__43, .inl (cI, 2100, .inl (fun _ => 0))), (a6__44, .inl (cI, 2100, .inl (fun _ => 0))), (q_48, .inr (9, fs1_53)), (q_57, .inr (5, fs1_62)), (a1__63, .inr (1, fs1__64)), (a2__65, .inl (cI, 8008, .inl (fun _ => 0))), (q_70, .inr (11, fs1_75)), (q_79, .inr (10, fs1_84)), (q_88, .inr (4, fs1_93)), (q_97, .inr (3, fs1_102)), (a1__103, .inr (6, fs1__104))] := hD
  refine lv_aload_n hx hb dX12_init_196 rfl (lv_at hl 0 rfl) ?_
  refine va_new (ci := 6) (fs := dfs 3 tyX6) (C := RX6) (T := TX6) (N := 3) hx hb hts hin_X6 tyX6 tyX6_ok hown (hts (.classLink RX12 90 RX6) (List.mem_of_getElem? (i := 228) rfl)) (hts (.instantiable RX6 3) (List.mem_of_getElem? (i := 215) rfl)) (hts (.initialized RX6) (List.mem_of_getElem? (i := 216) rfl)) hK hP hD hS hA rfl dfs_ok (show 110 + 1 ≤ 112 by decide) (show 369046 + 3 ≤ 370249 by decide) dX12_init_197 (fun q_109 H hP hD hS => ?_)
  have hP : va_P (dC, dI) vwCl [(h0, .inr (12, fs_108)), (q_1, .inl (cB, 4000, .inl (fun _ => 0))), (q_5, .inr (2, fs1_10)), (a1__11, .inl (cI, 4004, .inl (fun _ => 0))), (a2__12, .inl (cI, 4004, .inl (fun _ => 0))), (a3__13, .inl (cI, 4004, .inl (fun _ => 0))), (a4__14, .inl (cI, 4004, .inl (fun _ => 0))), (a5__15, .inl (cL, 2100, .inr (.inl (fun _ => 0)))), (a6__16, .inl (cL, 2100, .inr (.inl (fun _ => 0)))), (a7__17, .inl (cI, 8192, .inl (fun _ => 0))), (q_21, .inr (0, fs1_26)), (a1__27, .inl (cI, 2100, .inl (fun _ => 0))), (a2__28, .inl (cI, 2100, .inl (fun _ => 0))), (a3__29, .inl (cI, 2100, .inl (fun _ => 0))), (q_33, .inr (8, fs1_38)), (a1__39, .inl (cI, 2100, .inl (fun _ => 0))), (a2__40, .inl (cI, 2100, .inl (fun _ => 0))), (a3__41, .inl (cI, 2100, .inl (fun _ => 0))), (a4__42, .inl (cI, 2100, .inl (fun _ => 0))), (a5__43, .inl (cI, 2100, .inl (fun _ => 0))), (a6__44, .inl (cI, 2100, .inl (fun _ => 0))), (q_48, .inr (9, fs1_53)), (q_57, .inr (5, fs1_62)), (a1__63, .inr (1, fs1__64)), (a2__65, .inl (cI, 8008, .inl (fun _ => 0))), (q_70, .inr (11, fs1_75)), (q_79, .inr (10, fs1_84)), (q_88, .inr (4, fs1_93)), (q_97, .inr (3, fs1_102)), (a1__103, .inr (6, fs1__104)), (q_109, .inr (6, (dfs 3 tyX6)))] H := hP
  have hD : va_D A [(h0, .inr (12, fs_108)), (q_1, .inl (cB, 4000, .inl (fun _ => 0))), (q_5, .inr (2, fs1_10)), (a1__11, .inl (cI, 4004, .inl (fun _ => 0))), (a2__12, .inl (cI, 4004, .inl (fun _ => 0))), (a3__13, .inl (cI, 4004, .inl (fun _ => 0))), (a4__14, .inl (cI, 4004, .inl (fun _ => 0))), (a5__15, .inl (cL, 2100, .inr (.inl (fun _ => 0)))), (a6__16, .inl (cL, 2100, .inr (.inl (fun _ => 0)))), (a7__17, .inl (cI, 8192, .inl (fun _ => 0))), (q_21, .inr (0, fs1_26)), (a1__27, .inl (cI, 2100, .inl (fun _ => 0))), (a2__28, .inl (cI, 2100, .inl (fun _ => 0))), (a3__29, .inl (cI, 2100, .inl (fun _ => 0))), (q_33, .inr (8, fs1_38)), (a1__39, .inl (cI, 2100, .inl (fun _ => 0))), (a2__40, .inl (cI, 2100, .inl (fun _ => 0))), (a3__41, .inl (cI, 2100, .inl (fun _ => 0))), (a4__42, .inl (cI, 2100, .inl (fun _ => 0))), (a5__43, .inl (cI, 2100, .inl (fun _ => 0))), (a6__44, .inl (cI, 2100, .inl (fun _ => 0))), (q_48, .inr (9, fs1_53)), (q_57, .inr (5, fs1_62)), (a1__63, .inr (1, fs1__64)), (a2__65, .inl (cI, 8008, .inl (fun _ => 0))), (q_70, .inr (11, fs1_75)), (q_79, .inr (10, fs1_84)), (q_88, .inr (4, fs1_93)), (q_97, .inr (3, fs1_102)), (a1__103, .inr (6, fs1__104)), (q_109, .inr (6, (dfs 3 tyX6)))] := hD
  have hF_110 : hasF (dfs 3 tyX6) 3 [(2, .int 0)] := dfs_has (List.forall_mem_cons.mpr ⟨⟨by decide, rfl⟩, fun _ h => absurd h List.not_mem_nil⟩)
  generalize dfs 3 tyX6 = fs_111 at hP hD hF_110
  have hP : va_P (dC, dI) vwCl [(h0, .inr (12, fs_108)), (q_1, .inl (cB, 4000, .inl (fun _ => 0))), (q_5, .inr (2, fs1_10)), (a1__11, .inl (cI, 4004, .inl (fun _ => 0))), (a2__12, .inl (cI, 4004, .inl (fun _ => 0))), (a3__13, .inl (cI, 4004, .inl (fun _ => 0))), (a4__14, .inl (cI, 4004, .inl (fun _ => 0))), (a5__15, .inl (cL, 2100, .inr (.inl (fun _ => 0)))), (a6__16, .inl (cL, 2100, .inr (.inl (fun _ => 0)))), (a7__17, .inl (cI, 8192, .inl (fun _ => 0))), (q_21, .inr (0, fs1_26)), (a1__27, .inl (cI, 2100, .inl (fun _ => 0))), (a2__28, .inl (cI, 2100, .inl (fun _ => 0))), (a3__29, .inl (cI, 2100, .inl (fun _ => 0))), (q_33, .inr (8, fs1_38)), (a1__39, .inl (cI, 2100, .inl (fun _ => 0))), (a2__40, .inl (cI, 2100, .inl (fun _ => 0))), (a3__41, .inl (cI, 2100, .inl (fun _ => 0))), (a4__42, .inl (cI, 2100, .inl (fun _ => 0))), (a5__43, .inl (cI, 2100, .inl (fun _ => 0))), (a6__44, .inl (cI, 2100, .inl (fun _ => 0))), (q_48, .inr (9, fs1_53)), (q_57, .inr (5, fs1_62)), (a1__63, .inr (1, fs1__64)), (a2__65, .inl (cI, 8008, .inl (fun _ => 0))), (q_70, .inr (11, fs1_75)), (q_79, .inr (10, fs1_84)), (q_88, .inr (4, fs1_93)), (q_97, .inr (3, fs1_102)), (a1__103, .inr (6, fs1__104)), (q_109, .inr (6, fs_111))] H := hP
  have hD : va_D A [(h0, .inr (12, fs_108)), (q_1, .inl (cB, 4000, .inl (fun _ => 0))), (q_5, .inr (2, fs1_10)), (a1__11, .inl (cI, 4004, .inl (fun _ => 0))), (a2__12, .inl (cI, 4004, .inl (fun _ => 0))), (a3__13, .inl (cI, 4004, .inl (fun _ => 0))), (a4__14, .inl (cI, 4004, .inl (fun _ => 0))), (a5__15, .inl (cL, 2100, .inr (.inl (fun _ => 0)))), (a6__16, .inl (cL, 2100, .inr (.inl (fun _ => 0)))), (a7__17, .inl (cI, 8192, .inl (fun _ => 0))), (q_21, .inr (0, fs1_26)), (a1__27, .inl (cI, 2100, .inl (fun _ => 0))), (a2__28, .inl (cI, 2100, .inl (fun _ => 0))), (a3__29, .inl (cI, 2100, .inl (fun _ => 0))), (q_33, .inr (8, fs1_38)), (a1__39, .inl (cI, 2100, .inl (fun _ => 0))), (a2__40, .inl (cI, 2100, .inl (fun _ => 0))), (a3__41, .inl (cI, 2100, .inl (fun _ => 0))), (a4__42, .inl (cI, 2100, .inl (fun _ => 0))), (a5__43, .inl (cI, 2100, .inl (fun _ => 0))), (a6__44, .inl (cI, 2100, .inl (fun _ => 0))), (q_48, .inr (9, fs1_53)), (q_57, .inr (5, fs1_62)), (a1__63, .inr (1, fs1__64)), (a2__65, .inl (cI, 8008, .inl (fun _ => 0))), (q_70, .inr (11, fs1_75)), (q_79, .inr (10, fs1_84)), (q_88, .inr (4, fs1_93)), (q_97, .inr (3, fs1_102)), (a1__103, .inr (6, fs1__104)), (q_109, .inr (6, fs_111))] := hD
  refine W.widen (k := 111) (n := 369049) (by decide) (by decide) ?_
  refine lv_dup hx hb dX12_init_200 rfl ?_
  refine lv_aload_n hx hb dX12_init_201 rfl (lv_at hl 0 rfl) ?_
  refine va_get (D := (dC, dI)) (ci := 12) (v := .ref q_5) (C := RX12) (T := TX12) (N := 14) hx hb hts hin_X12 hown hK hP 0 rfl rfl 1 (by decide) (hts (.fieldLink RX12 16 "NeedHouse" "lexemes" "LNeedHouse$Lexemes;") (List.mem_of_getElem? (i := 21) rfl)) (fun _ h9 => h9) (hF_107.at 8 rfl) dX12_init_202 ?_
  refine lv_sipush (v := 1200) hx hb dX12_init_205 (by decide) ?_
  have hPc := hP.sub (ws' := [(q_109, .inr (6, fs_111))]) [30] rfl
  have hDc := hD.sub (ws' := [(q_109, .inr (6, fs_111))]) [30] (by decide) rfl
  have hKc := hK.sub (tys' := [(cB, .byte)]) [2] rfl
  have hFc := va_free (wc := [(q_109, .inr (6, fs_111))]) hD hS hA [30] rfl
  refine va_callv (va_runI (As := [.ref q_5, .int 1200]) (rest := [.ref q_109, .ref h0]) ⟨hx, hb, hml, hown, hts⟩ (c_X6_init_1200 l dC dI H.size q_109 fs_111 cB q_5 (hF_110.sub [0] rfl)) (cwI 2 hts g_c_X12_init_c_X6_init_1200_208 rfl rfl rfl (hts (.initialized RX6) (List.mem_of_getElem? (i := 216) rfl)) (hts (.methodLink RX12 92 yX6_init) (List.mem_of_getElem? (i := 229) rfl)) (hts (.instanceMethod yX6_init) (List.mem_of_getElem? (i := 223) rfl)) rfl (by decide +kernel) ⟨Nat.le_of_ble_eq_true rfl, Nat.le_of_ble_eq_true rfl⟩) ⟨fun a U g mk q => by obtain ⟨q0, q1, qP, qK, qD⟩ := q; exact ⟨q0, q1, qP, va_K.moved (u := U) (U := U.calling g mk a) (Vm.Alike.refl U.vm) qK, qD⟩, fun U hU hW => ⟨rfl, by rw [hU], by rw [hU]; exact hPc, va_K.moved hW.alike hKc, hDc.weaken (fun _ _ _ _ => trivial)⟩⟩ rfl rfl hl.1 rfl (lv_room (Nat.le_of_ble_eq_true rfl)) dX12_init_208 ⟨show 111 + 1 ≤ 112 by decide, show 369049 + 1200 ≤ 370249 by decide⟩) hS (fun q _ h => hFc q h) hFc (fun u t H1 locs ht hvm hw hB hz1 hk1 hS => ?_)
  obtain ⟨fs1_114, rfl⟩ : ∃ z, z = u := ⟨_, rfl⟩
  obtain ⟨hP1, hK1, hD1⟩ := hB
  rw [ht] at hP1
  have hK1 := va_K.moved hvm.symm hK1
  try dsimp only at hw hP1 hK1 hD1
  have hF_115 := hw
  obtain ⟨hP, hD⟩ := va_join (wr := [(h0, .inr (12, fs_108)), (q_1, .inl (cB, 4000, .inl (fun _ => 0))), (q_5, .inr (2, fs1_10)), (a1__11, .inl (cI, 4004, .inl (fun _ => 0))), (a2__12, .inl (cI, 4004, .inl (fun _ => 0))), (a3__13, .inl (cI, 4004, .inl (fun _ => 0))), (a4__14, .inl (cI, 4004, .inl (fun _ => 0))), (a5__15, .inl (cL, 2100, .inr (.inl (fun _ => 0)))), (a6__16, .inl (cL, 2100, .inr (.inl (fun _ => 0)))), (a7__17, .inl (cI, 8192, .inl (fun _ => 0))), (q_21, .inr (0, fs1_26)), (a1__27, .inl (cI, 2100, .inl (fun _ => 0))), (a2__28, .inl (cI, 2100, .inl (fun _ => 0))), (a3__29, .inl (cI, 2100, .inl (fun _ => 0))), (q_33, .inr (8, fs1_38)), (a1__39, .inl (cI, 2100, .inl (fun _ => 0))), (a2__40, .inl (cI, 2100, .inl (fun _ => 0))), (a3__41, .inl (cI, 2100, .inl (fun _ => 0))), (a4__42, .inl (cI, 2100, .inl (fun _ => 0))), (a5__43, .inl (cI, 2100, .inl (fun _ => 0))), (a6__44, .inl (cI, 2100, .inl (fun _ => 0))), (q_48, .inr (9, fs1_53)), (q_57, .inr (5, fs1_62)), (a1__63, .inr (1, fs1__64)), (a2__65, .inl (cI, 8008, .inl (fun _ => 0))), (q_70, .inr (11, fs1_75)), (q_79, .inr (10, fs1_84)), (q_88, .inr (4, fs1_93)), (q_97, .inr (3, fs1_102)), (a1__103, .inr (6, fs1__104))]) (w1 := [(q_109, .inr (6, fs1_114))]) hP hD [30] [0, 1, 2, 3, 4, 5, 6, 7, 8, 9, 10, 11, 12, 13, 14, 15, 16, 17, 18, 19, 20, 21, 22, 23, 24, 25, 26, 27, 28, 29] rfl rfl (by decide) (by decide) hk1 hFc hP1 hD1
  generalize H1 = H at hP hS ⊢
  have hK := (hK.sub (tys' := [(cI, .int), (cL, .long)]) [0, 1] rfl).app hK1
  have hK : va_K (dC, dI) vwCl [(cI, .int), (cL, .long), (cB, .byte)] s := hK
  have hP : va_P (dC, dI) vwCl [(h0, .inr (12, fs_108)), (q_1, .inl (cB, 4000, .inl (fun _ => 0))), (q_5, .inr (2, fs1_10)), (a1__11, .inl (cI, 4004, .inl (fun _ => 0))), (a2__12, .inl (cI, 4004, .inl (fun _ => 0))), (a3__13, .inl (cI, 4004, .inl (fun _ => 0))), (a4__14, .inl (cI, 4004, .inl (fun _ => 0))), (a5__15, .inl (cL, 2100, .inr (.inl (fun _ => 0)))), (a6__16, .inl (cL, 2100, .inr (.inl (fun _ => 0)))), (a7__17, .inl (cI, 8192, .inl (fun _ => 0))), (q_21, .inr (0, fs1_26)), (a1__27, .inl (cI, 2100, .inl (fun _ => 0))), (a2__28, .inl (cI, 2100, .inl (fun _ => 0))), (a3__29, .inl (cI, 2100, .inl (fun _ => 0))), (q_33, .inr (8, fs1_38)), (a1__39, .inl (cI, 2100, .inl (fun _ => 0))), (a2__40, .inl (cI, 2100, .inl (fun _ => 0))), (a3__41, .inl (cI, 2100, .inl (fun _ => 0))), (a4__42, .inl (cI, 2100, .inl (fun _ => 0))), (a5__43, .inl (cI, 2100, .inl (fun _ => 0))), (a6__44, .inl (cI, 2100, .inl (fun _ => 0))), (q_48, .inr (9, fs1_53)), (q_57, .inr (5, fs1_62)), (a1__63, .inr (1, fs1__64)), (a2__65, .inl (cI, 8008, .inl (fun _ => 0))), (q_70, .inr (11, fs1_75)), (q_79, .inr (10, fs1_84)), (q_88, .inr (4, fs1_93)), (q_97, .inr (3, fs1_102)), (a1__103, .inr (6, fs1__104)), (q_109, .inr (6, fs1_114))] H := hP
  have hD : va_D A [(h0, .inr (12, fs_108)), (q_1, .inl (cB, 4000, .inl (fun _ => 0))), (q_5, .inr (2, fs1_10)), (a1__11, .inl (cI, 4004, .inl (fun _ => 0))), (a2__12, .inl (cI, 4004, .inl (fun _ => 0))), (a3__13, .inl (cI, 4004, .inl (fun _ => 0))), (a4__14, .inl (cI, 4004, .inl (fun _ => 0))), (a5__15, .inl (cL, 2100, .inr (.inl (fun _ => 0)))), (a6__16, .inl (cL, 2100, .inr (.inl (fun _ => 0)))), (a7__17, .inl (cI, 8192, .inl (fun _ => 0))), (q_21, .inr (0, fs1_26)), (a1__27, .inl (cI, 2100, .inl (fun _ => 0))), (a2__28, .inl (cI, 2100, .inl (fun _ => 0))), (a3__29, .inl (cI, 2100, .inl (fun _ => 0))), (q_33, .inr (8, fs1_38)), (a1__39, .inl (cI, 2100, .inl (fun _ => 0))), (a2__40, .inl (cI, 2100, .inl (fun _ => 0))), (a3__41, .inl (cI, 2100, .inl (fun _ => 0))), (a4__42, .inl (cI, 2100, .inl (fun _ => 0))), (a5__43, .inl (cI, 2100, .inl (fun _ => 0))), (a6__44, .inl (cI, 2100, .inl (fun _ => 0))), (q_48, .inr (9, fs1_53)), (q_57, .inr (5, fs1_62)), (a1__63, .inr (1, fs1__64)), (a2__65, .inl (cI, 8008, .inl (fun _ => 0))), (q_70, .inr (11, fs1_75)), (q_79, .inr (10, fs1_84)), (q_88, .inr (4, fs1_93)), (q_97, .inr (3, fs1_102)), (a1__103, .inr (6, fs1__104)), (q_109, .inr (6, fs1_114))] := hD
  refine W.widen (k := 112) (n := 370249) (by decide) (by decide) ?_
  refine va_putF (D := (dC, dI)) (ci := 12) (v := .ref q_109) (ty := (.object "NeedHouse$Sheet")) (C := RX12) (T := TX12) (N := 14) hx hb hts hin_X12 tyX12 tyX12_ok nmX12 hown hK hP hD hS 0 rfl rfl 10 (by decide) (hts (.fieldLink RX12 95 "NeedHouse" "signs" "LNeedHouse$Sheet;") (List.mem_of_getElem? (i := 230) rfl)) (fun _ h9 => h9) rfl hin rfl (by decide +kernel) rfl rfl (by rw [hF_107.1]; decide) dX12_init_211 (fun H locs hP hD hS => ?_)
  have hP : va_P (dC, dI) vwCl [(h0, .inr (12, (fs_108.set 10 (.ref q_109)))), (q_1, .inl (cB, 4000, .inl (fun _ => 0))), (q_5, .inr (2, fs1_10)), (a1__11, .inl (cI, 4004, .inl (fun _ => 0))), (a2__12, .inl (cI, 4004, .inl (fun _ => 0))), (a3__13, .inl (cI, 4004, .inl (fun _ => 0))), (a4__14, .inl (cI, 4004, .inl (fun _ => 0))), (a5__15, .inl (cL, 2100, .inr (.inl (fun _ => 0)))), (a6__16, .inl (cL, 2100, .inr (.inl (fun _ => 0)))), (a7__17, .inl (cI, 8192, .inl (fun _ => 0))), (q_21, .inr (0, fs1_26)), (a1__27, .inl (cI, 2100, .inl (fun _ => 0))), (a2__28, .inl (cI, 2100, .inl (fun _ => 0))), (a3__29, .inl (cI, 2100, .inl (fun _ => 0))), (q_33, .inr (8, fs1_38)), (a1__39, .inl (cI, 2100, .inl (fun _ => 0))), (a2__40, .inl (cI, 2100, .inl (fun _ => 0))), (a3__41, .inl (cI, 2100, .inl (fun _ => 0))), (a4__42, .inl (cI, 2100, .inl (fun _ => 0))), (a5__43, .inl (cI, 2100, .inl (fun _ => 0))), (a6__44, .inl (cI, 2100, .inl (fun _ => 0))), (q_48, .inr (9, fs1_53)), (q_57, .inr (5, fs1_62)), (a1__63, .inr (1, fs1__64)), (a2__65, .inl (cI, 8008, .inl (fun _ => 0))), (q_70, .inr (11, fs1_75)), (q_79, .inr (10, fs1_84)), (q_88, .inr (4, fs1_93)), (q_97, .inr (3, fs1_102)), (a1__103, .inr (6, fs1__104)), (q_109, .inr (6, fs1_114))] H := hP
  have hD : va_D A [(h0, .inr (12, (fs_108.set 10 (.ref q_109)))), (q_1, .inl (cB, 4000, .inl (fun _ => 0))), (q_5, .inr (2, fs1_10)), (a1__11, .inl (cI, 4004, .inl (fun _ => 0))), (a2__12, .inl (cI, 4004, .inl (fun _ => 0))), (a3__13, .inl (cI, 4004, .inl (fun _ => 0))), (a4__14, .inl (cI, 4004, .inl (fun _ => 0))), (a5__15, .inl (cL, 2100, .inr (.inl (fun _ => 0)))), (a6__16, .inl (cL, 2100, .inr (.inl (fun _ => 0)))), (a7__17, .inl (cI, 8192, .inl (fun _ => 0))), (q_21, .inr (0, fs1_26)), (a1__27, .inl (cI, 2100, .inl (fun _ => 0))), (a2__28, .inl (cI, 2100, .inl (fun _ => 0))), (a3__29, .inl (cI, 2100, .inl (fun _ => 0))), (q_33, .inr (8, fs1_38)), (a1__39, .inl (cI, 2100, .inl (fun _ => 0))), (a2__40, .inl (cI, 2100, .inl (fun _ => 0))), (a3__41, .inl (cI, 2100, .inl (fun _ => 0))), (a4__42, .inl (cI, 2100, .inl (fun _ => 0))), (a5__43, .inl (cI, 2100, .inl (fun _ => 0))), (a6__44, .inl (cI, 2100, .inl (fun _ => 0))), (q_48, .inr (9, fs1_53)), (q_57, .inr (5, fs1_62)), (a1__63, .inr (1, fs1__64)), (a2__65, .inl (cI, 8008, .inl (fun _ => 0))), (q_70, .inr (11, fs1_75)), (q_79, .inr (10, fs1_84)), (q_88, .inr (4, fs1_93)), (q_97, .inr (3, fs1_102)), (a1__103, .inr (6, fs1__104)), (q_109, .inr (6, fs1_114))] := hD
  have hF_116 := hF_107.set 10 (.ref q_109) (l' := [(10, .ref q_109), (9, .ref q_97), (8, .ref q_88), (7, .ref q_79), (6, .ref q_70), (5, .ref q_57), (4, .ref q_48), (3, .ref q_33), (2, .ref q_21), (1, .ref q_5), (0, .ref q_1), (11, .int 0), (12, .int 0), (13, .int 0)]) (by decide) rfl
  generalize fs_108.set 10 (.ref q_109) = fs_117 at hP hD hF_116
  have hP : va_P (dC, dI) vwCl [(h0, .inr (12, fs_117)), (q_1, .inl (cB, 4000, .inl (fun _ => 0))), (q_5, .inr (2, fs1_10)), (a1__11, .inl (cI, 4004, .inl (fun _ => 0))), (a2__12, .inl (cI, 4004, .inl (fun _ => 0))), (a3__13, .inl (cI, 4004, .inl (fun _ => 0))), (a4__14, .inl (cI, 4004, .inl (fun _ => 0))), (a5__15, .inl (cL, 2100, .inr (.inl (fun _ => 0)))), (a6__16, .inl (cL, 2100, .inr (.inl (fun _ => 0)))), (a7__17, .inl (cI, 8192, .inl (fun _ => 0))), (q_21, .inr (0, fs1_26)), (a1__27, .inl (cI, 2100, .inl (fun _ => 0))), (a2__28, .inl (cI, 2100, .inl (fun _ => 0))), (a3__29, .inl (cI, 2100, .inl (fun _ => 0))), (q_33, .inr (8, fs1_38)), (a1__39, .inl (cI, 2100, .inl (fun _ => 0))), (a2__40, .inl (cI, 2100, .inl (fun _ => 0))), (a3__41, .inl (cI, 2100, .inl (fun _ => 0))), (a4__42, .inl (cI, 2100, .inl (fun _ => 0))), (a5__43, .inl (cI, 2100, .inl (fun _ => 0))), (a6__44, .inl (cI, 2100, .inl (fun _ => 0))), (q_48, .inr (9, fs1_53)), (q_57, .inr (5, fs1_62)), (a1__63, .inr (1, fs1__64)), (a2__65, .inl (cI, 8008, .inl (fun _ => 0))), (q_70, .inr (11, fs1_75)), (q_79, .inr (10, fs1_84)), (q_88, .inr (4, fs1_93)), (q_97, .inr (3, fs1_102)), (a1__103, .inr (6, fs1__104)), (q_109, .inr (6, fs1_114))] H := hP
  have hD : va_D A [(h0, .inr (12, fs_117)), (q_1, .inl (cB, 4000, .inl (fun _ => 0))), (q_5, .inr (2, fs1_10)), (a1__11, .inl (cI, 4004, .inl (fun _ => 0))), (a2__12, .inl (cI, 4004, .inl (fun _ => 0))), (a3__13, .inl (cI, 4004, .inl (fun _ => 0))), (a4__14, .inl (cI, 4004, .inl (fun _ => 0))), (a5__15, .inl (cL, 2100, .inr (.inl (fun _ => 0)))), (a6__16, .inl (cL, 2100, .inr (.inl (fun _ => 0)))), (a7__17, .inl (cI, 8192, .inl (fun _ => 0))), (q_21, .inr (0, fs1_26)), (a1__27, .inl (cI, 2100, .inl (fun _ => 0))), (a2__28, .inl (cI, 2100, .inl (fun _ => 0))), (a3__29, .inl (cI, 2100, .inl (fun _ => 0))), (q_33, .inr (8, fs1_38)), (a1__39, .inl (cI, 2100, .inl (fun _ => 0))), (a2__40, .inl (cI, 2100, .inl (fun _ => 0))), (a3__41, .inl (cI, 2100, .inl (fun _ => 0))), (a4__42, .inl (cI, 2100, .inl (fun _ => 0))), (a5__43, .inl (cI, 2100, .inl (fun _ => 0))), (a6__44, .inl (cI, 2100, .inl (fun _ => 0))), (q_48, .inr (9, fs1_53)), (q_57, .inr (5, fs1_62)), (a1__63, .inr (1, fs1__64)), (a2__65, .inl (cI, 8008, .inl (fun _ => 0))), (q_70, .inr (11, fs1_75)), (q_79, .inr (10, fs1_84)), (q_88, .inr (4, fs1_93)), (q_97, .inr (3, fs1_102)), (a1__103, .inr (6, fs1__104)), (q_109, .inr (6, fs1_114))] := hD
  refine lv_aload_n hx hb dX12_init_214 rfl (lv_at hl 0 rfl) ?_
  refine lv_iconst (v := 0) hx hb dX12_init_215 (by decide) ?_
  refine va_put (D := (dC, dI)) (ci := 12) (v := .int 0) (ty := .int) (C := RX12) (T := TX12) (N := 14) hx hb hts hin_X12 tyX12 tyX12_ok nmX12 hown hK hP hD hS 0 rfl rfl 11 (by decide) (hts (.fieldLink RX12 99 "NeedHouse" "length" "I") (List.mem_of_getElem? (i := 231) rfl)) (fun _ h9 => h9) rfl (by decide +kernel) rfl rfl (by rw [hF_116.1]; decide) dX12_init_216 (fun H locs hP hD hS => ?_)
  have hP : va_P (dC, dI) vwCl [(h0, .inr (12, (fs_117.set 11 (.int 0)))), (q_1, .inl (cB, 4000, .inl (fun _ => 0))), (q_5, .inr (2, fs1_10)), (a1__11, .inl (cI, 4004, .inl (fun _ => 0))), (a2__12, .inl (cI, 4004, .inl (fun _ => 0))), (a3__13, .inl (cI, 4004, .inl (fun _ => 0))), (a4__14, .inl (cI, 4004, .inl (fun _ => 0))), (a5__15, .inl (cL, 2100, .inr (.inl (fun _ => 0)))), (a6__16, .inl (cL, 2100, .inr (.inl (fun _ => 0)))), (a7__17, .inl (cI, 8192, .inl (fun _ => 0))), (q_21, .inr (0, fs1_26)), (a1__27, .inl (cI, 2100, .inl (fun _ => 0))), (a2__28, .inl (cI, 2100, .inl (fun _ => 0))), (a3__29, .inl (cI, 2100, .inl (fun _ => 0))), (q_33, .inr (8, fs1_38)), (a1__39, .inl (cI, 2100, .inl (fun _ => 0))), (a2__40, .inl (cI, 2100, .inl (fun _ => 0))), (a3__41, .inl (cI, 2100, .inl (fun _ => 0))), (a4__42, .inl (cI, 2100, .inl (fun _ => 0))), (a5__43, .inl (cI, 2100, .inl (fun _ => 0))), (a6__44, .inl (cI, 2100, .inl (fun _ => 0))), (q_48, .inr (9, fs1_53)), (q_57, .inr (5, fs1_62)), (a1__63, .inr (1, fs1__64)), (a2__65, .inl (cI, 8008, .inl (fun _ => 0))), (q_70, .inr (11, fs1_75)), (q_79, .inr (10, fs1_84)), (q_88, .inr (4, fs1_93)), (q_97, .inr (3, fs1_102)), (a1__103, .inr (6, fs1__104)), (q_109, .inr (6, fs1_114))] H := hP
  have hD : va_D A [(h0, .inr (12, (fs_117.set 11 (.int 0)))), (q_1, .inl (cB, 4000, .inl (fun _ => 0))), (q_5, .inr (2, fs1_10)), (a1__11, .inl (cI, 4004, .inl (fun _ => 0))), (a2__12, .inl (cI, 4004, .inl (fun _ => 0))), (a3__13, .inl (cI, 4004, .inl (fun _ => 0))), (a4__14, .inl (cI, 4004, .inl (fun _ => 0))), (a5__15, .inl (cL, 2100, .inr (.inl (fun _ => 0)))), (a6__16, .inl (cL, 2100, .inr (.inl (fun _ => 0)))), (a7__17, .inl (cI, 8192, .inl (fun _ => 0))), (q_21, .inr (0, fs1_26)), (a1__27, .inl (cI, 2100, .inl (fun _ => 0))), (a2__28, .inl (cI, 2100, .inl (fun _ => 0))), (a3__29, .inl (cI, 2100, .inl (fun _ => 0))), (q_33, .inr (8, fs1_38)), (a1__39, .inl (cI, 2100, .inl (fun _ => 0))), (a2__40, .inl (cI, 2100, .inl (fun _ => 0))), (a3__41, .inl (cI, 2100, .inl (fun _ => 0))), (a4__42, .inl (cI, 2100, .inl (fun _ => 0))), (a5__43, .inl (cI, 2100, .inl (fun _ => 0))), (a6__44, .inl (cI, 2100, .inl (fun _ => 0))), (q_48, .inr (9, fs1_53)), (q_57, .inr (5, fs1_62)), (a1__63, .inr (1, fs1__64)), (a2__65, .inl (cI, 8008, .inl (fun _ => 0))), (q_70, .inr (11, fs1_75)), (q_79, .inr (10, fs1_84)), (q_88, .inr (4, fs1_93)), (q_97, .inr (3, fs1_102)), (a1__103, .inr (6, fs1__104)), (q_109, .inr (6, fs1_114))] := hD
  have hF_118 := hF_116.set 11 (.int 0) (l' := [(11, .int 0), (10, .ref q_109), (9, .ref q_97), (8, .ref q_88), (7, .ref q_79), (6, .ref q_70), (5, .ref q_57), (4, .ref q_48), (3, .ref q_33), (2, .ref q_21), (1, .ref q_5), (0, .ref q_1), (12, .int 0), (13, .int 0)]) (by decide) rfl
  generalize fs_117.set 11 (.int 0) = fs_119 at hP hD hF_118
  have hP : va_P (dC, dI) vwCl [(h0, .inr (12, fs_119)), (q_1, .inl (cB, 4000, .inl (fun _ => 0))), (q_5, .inr (2, fs1_10)), (a1__11, .inl (cI, 4004, .inl (fun _ => 0))), (a2__12, .inl (cI, 4004, .inl (fun _ => 0))), (a3__13, .inl (cI, 4004, .inl (fun _ => 0))), (a4__14, .inl (cI, 4004, .inl (fun _ => 0))), (a5__15, .inl (cL, 2100, .inr (.inl (fun _ => 0)))), (a6__16, .inl (cL, 2100, .inr (.inl (fun _ => 0)))), (a7__17, .inl (cI, 8192, .inl (fun _ => 0))), (q_21, .inr (0, fs1_26)), (a1__27, .inl (cI, 2100, .inl (fun _ => 0))), (a2__28, .inl (cI, 2100, .inl (fun _ => 0))), (a3__29, .inl (cI, 2100, .inl (fun _ => 0))), (q_33, .inr (8, fs1_38)), (a1__39, .inl (cI, 2100, .inl (fun _ => 0))), (a2__40, .inl (cI, 2100, .inl (fun _ => 0))), (a3__41, .inl (cI, 2100, .inl (fun _ => 0))), (a4__42, .inl (cI, 2100, .inl (fun _ => 0))), (a5__43, .inl (cI, 2100, .inl (fun _ => 0))), (a6__44, .inl (cI, 2100, .inl (fun _ => 0))), (q_48, .inr (9, fs1_53)), (q_57, .inr (5, fs1_62)), (a1__63, .inr (1, fs1__64)), (a2__65, .inl (cI, 8008, .inl (fun _ => 0))), (q_70, .inr (11, fs1_75)), (q_79, .inr (10, fs1_84)), (q_88, .inr (4, fs1_93)), (q_97, .inr (3, fs1_102)), (a1__103, .inr (6, fs1__104)), (q_109, .inr (6, fs1_114))] H := hP
  have hD : va_D A [(h0, .inr (12, fs_119)), (q_1, .inl (cB, 4000, .inl (fun _ => 0))), (q_5, .inr (2, fs1_10)), (a1__11, .inl (cI, 4004, .inl (fun _ => 0))), (a2__12, .inl (cI, 4004, .inl (fun _ => 0))), (a3__13, .inl (cI, 4004, .inl (fun _ => 0))), (a4__14, .inl (cI, 4004, .inl (fun _ => 0))), (a5__15, .inl (cL, 2100, .inr (.inl (fun _ => 0)))), (a6__16, .inl (cL, 2100, .inr (.inl (fun _ => 0)))), (a7__17, .inl (cI, 8192, .inl (fun _ => 0))), (q_21, .inr (0, fs1_26)), (a1__27, .inl (cI, 2100, .inl (fun _ => 0))), (a2__28, .inl (cI, 2100, .inl (fun _ => 0))), (a3__29, .inl (cI, 2100, .inl (fun _ => 0))), (q_33, .inr (8, fs1_38)), (a1__39, .inl (cI, 2100, .inl (fun _ => 0))), (a2__40, .inl (cI, 2100, .inl (fun _ => 0))), (a3__41, .inl (cI, 2100, .inl (fun _ => 0))), (a4__42, .inl (cI, 2100, .inl (fun _ => 0))), (a5__43, .inl (cI, 2100, .inl (fun _ => 0))), (a6__44, .inl (cI, 2100, .inl (fun _ => 0))), (q_48, .inr (9, fs1_53)), (q_57, .inr (5, fs1_62)), (a1__63, .inr (1, fs1__64)), (a2__65, .inl (cI, 8008, .inl (fun _ => 0))), (q_70, .inr (11, fs1_75)), (q_79, .inr (10, fs1_84)), (q_88, .inr (4, fs1_93)), (q_97, .inr (3, fs1_102)), (a1__103, .inr (6, fs1__104)), (q_109, .inr (6, fs1_114))] := hD
  refine lv_aload_n hx hb dX12_init_219 rfl (lv_at hl 0 rfl) ?_
  refine lv_iconst (v := (-1)) hx hb dX12_init_220 (by decide) ?_
  refine va_put (D := (dC, dI)) (ci := 12) (v := .int (-1)) (ty := .int) (C := RX12) (T := TX12) (N := 14) hx hb hts hin_X12 tyX12 tyX12_ok nmX12 hown hK hP hD hS 0 rfl rfl 12 (by decide) (hts (.fieldLink RX12 103 "NeedHouse" "signsOf" "I") (List.mem_of_getElem? (i := 232) rfl)) (fun _ h9 => h9) rfl (by decide +kernel) rfl rfl (by rw [hF_118.1]; decide) dX12_init_221 (fun H locs hP hD hS => ?_)
  have hP : va_P (dC, dI) vwCl [(h0, .inr (12, (fs_119.set 12 (.int (-1))))), (q_1, .inl (cB, 4000, .inl (fun _ => 0))), (q_5, .inr (2, fs1_10)), (a1__11, .inl (cI, 4004, .inl (fun _ => 0))), (a2__12, .inl (cI, 4004, .inl (fun _ => 0))), (a3__13, .inl (cI, 4004, .inl (fun _ => 0))), (a4__14, .inl (cI, 4004, .inl (fun _ => 0))), (a5__15, .inl (cL, 2100, .inr (.inl (fun _ => 0)))), (a6__16, .inl (cL, 2100, .inr (.inl (fun _ => 0)))), (a7__17, .inl (cI, 8192, .inl (fun _ => 0))), (q_21, .inr (0, fs1_26)), (a1__27, .inl (cI, 2100, .inl (fun _ => 0))), (a2__28, .inl (cI, 2100, .inl (fun _ => 0))), (a3__29, .inl (cI, 2100, .inl (fun _ => 0))), (q_33, .inr (8, fs1_38)), (a1__39, .inl (cI, 2100, .inl (fun _ => 0))), (a2__40, .inl (cI, 2100, .inl (fun _ => 0))), (a3__41, .inl (cI, 2100, .inl (fun _ => 0))), (a4__42, .inl (cI, 2100, .inl (fun _ => 0))), (a5__43, .inl (cI, 2100, .inl (fun _ => 0))), (a6__44, .inl (cI, 2100, .inl (fun _ => 0))), (q_48, .inr (9, fs1_53)), (q_57, .inr (5, fs1_62)), (a1__63, .inr (1, fs1__64)), (a2__65, .inl (cI, 8008, .inl (fun _ => 0))), (q_70, .inr (11, fs1_75)), (q_79, .inr (10, fs1_84)), (q_88, .inr (4, fs1_93)), (q_97, .inr (3, fs1_102)), (a1__103, .inr (6, fs1__104)), (q_109, .inr (6, fs1_114))] H := hP
  have hD : va_D A [(h0, .inr (12, (fs_119.set 12 (.int (-1))))), (q_1, .inl (cB, 4000, .inl (fun _ => 0))), (q_5, .inr (2, fs1_10)), (a1__11, .inl (cI, 4004, .inl (fun _ => 0))), (a2__12, .inl (cI, 4004, .inl (fun _ => 0))), (a3__13, .inl (cI, 4004, .inl (fun _ => 0))), (a4__14, .inl (cI, 4004, .inl (fun _ => 0))), (a5__15, .inl (cL, 2100, .inr (.inl (fun _ => 0)))), (a6__16, .inl (cL, 2100, .inr (.inl (fun _ => 0)))), (a7__17, .inl (cI, 8192, .inl (fun _ => 0))), (q_21, .inr (0, fs1_26)), (a1__27, .inl (cI, 2100, .inl (fun _ => 0))), (a2__28, .inl (cI, 2100, .inl (fun _ => 0))), (a3__29, .inl (cI, 2100, .inl (fun _ => 0))), (q_33, .inr (8, fs1_38)), (a1__39, .inl (cI, 2100, .inl (fun _ => 0))), (a2__40, .inl (cI, 2100, .inl (fun _ => 0))), (a3__41, .inl (cI, 2100, .inl (fun _ => 0))), (a4__42, .inl (cI, 2100, .inl (fun _ => 0))), (a5__43, .inl (cI, 2100, .inl (fun _ => 0))), (a6__44, .inl (cI, 2100, .inl (fun _ => 0))), (q_48, .inr (9, fs1_53)), (q_57, .inr (5, fs1_62)), (a1__63, .inr (1, fs1__64)), (a2__65, .inl (cI, 8008, .inl (fun _ => 0))), (q_70, .inr (11, fs1_75)), (q_79, .inr (10, fs1_84)), (q_88, .inr (4, fs1_93)), (q_97, .inr (3, fs1_102)), (a1__103, .inr (6, fs1__104)), (q_109, .inr (6, fs1_114))] := hD
  have hF_120 := hF_118.set 12 (.int (-1)) (l' := [(12, .int (-1)), (11, .int 0), (10, .ref q_109), (9, .ref q_97), (8, .ref q_88), (7, .ref q_79), (6, .ref q_70), (5, .ref q_57), (4, .ref q_48), (3, .ref q_33), (2, .ref q_21), (1, .ref q_5), (0, .ref q_1), (13, .int 0)]) (by decide) rfl
  generalize fs_119.set 12 (.int (-1)) = fs_121 at hP hD hF_120
  have hP : va_P (dC, dI) vwCl [(h0, .inr (12, fs_121)), (q_1, .inl (cB, 4000, .inl (fun _ => 0))), (q_5, .inr (2, fs1_10)), (a1__11, .inl (cI, 4004, .inl (fun _ => 0))), (a2__12, .inl (cI, 4004, .inl (fun _ => 0))), (a3__13, .inl (cI, 4004, .inl (fun _ => 0))), (a4__14, .inl (cI, 4004, .inl (fun _ => 0))), (a5__15, .inl (cL, 2100, .inr (.inl (fun _ => 0)))), (a6__16, .inl (cL, 2100, .inr (.inl (fun _ => 0)))), (a7__17, .inl (cI, 8192, .inl (fun _ => 0))), (q_21, .inr (0, fs1_26)), (a1__27, .inl (cI, 2100, .inl (fun _ => 0))), (a2__28, .inl (cI, 2100, .inl (fun _ => 0))), (a3__29, .inl (cI, 2100, .inl (fun _ => 0))), (q_33, .inr (8, fs1_38)), (a1__39, .inl (cI, 2100, .inl (fun _ => 0))), (a2__40, .inl (cI, 2100, .inl (fun _ => 0))), (a3__41, .inl (cI, 2100, .inl (fun _ => 0))), (a4__42, .inl (cI, 2100, .inl (fun _ => 0))), (a5__43, .inl (cI, 2100, .inl (fun _ => 0))), (a6__44, .inl (cI, 2100, .inl (fun _ => 0))), (q_48, .inr (9, fs1_53)), (q_57, .inr (5, fs1_62)), (a1__63, .inr (1, fs1__64)), (a2__65, .inl (cI, 8008, .inl (fun _ => 0))), (q_70, .inr (11, fs1_75)), (q_79, .inr (10, fs1_84)), (q_88, .inr (4, fs1_93)), (q_97, .inr (3, fs1_102)), (a1__103, .inr (6, fs1__104)), (q_109, .inr (6, fs1_114))] H := hP
  have hD : va_D A [(h0, .inr (12, fs_121)), (q_1, .inl (cB, 4000, .inl (fun _ => 0))), (q_5, .inr (2, fs1_10)), (a1__11, .inl (cI, 4004, .inl (fun _ => 0))), (a2__12, .inl (cI, 4004, .inl (fun _ => 0))), (a3__13, .inl (cI, 4004, .inl (fun _ => 0))), (a4__14, .inl (cI, 4004, .inl (fun _ => 0))), (a5__15, .inl (cL, 2100, .inr (.inl (fun _ => 0)))), (a6__16, .inl (cL, 2100, .inr (.inl (fun _ => 0)))), (a7__17, .inl (cI, 8192, .inl (fun _ => 0))), (q_21, .inr (0, fs1_26)), (a1__27, .inl (cI, 2100, .inl (fun _ => 0))), (a2__28, .inl (cI, 2100, .inl (fun _ => 0))), (a3__29, .inl (cI, 2100, .inl (fun _ => 0))), (q_33, .inr (8, fs1_38)), (a1__39, .inl (cI, 2100, .inl (fun _ => 0))), (a2__40, .inl (cI, 2100, .inl (fun _ => 0))), (a3__41, .inl (cI, 2100, .inl (fun _ => 0))), (a4__42, .inl (cI, 2100, .inl (fun _ => 0))), (a5__43, .inl (cI, 2100, .inl (fun _ => 0))), (a6__44, .inl (cI, 2100, .inl (fun _ => 0))), (q_48, .inr (9, fs1_53)), (q_57, .inr (5, fs1_62)), (a1__63, .inr (1, fs1__64)), (a2__65, .inl (cI, 8008, .inl (fun _ => 0))), (q_70, .inr (11, fs1_75)), (q_79, .inr (10, fs1_84)), (q_88, .inr (4, fs1_93)), (q_97, .inr (3, fs1_102)), (a1__103, .inr (6, fs1__104)), (q_109, .inr (6, fs1_114))] := hD
  refine lv_aload_n hx hb dX12_init_224 rfl (lv_at hl 0 rfl) ?_
  refine lv_iconst (v := 0) hx hb dX12_init_225 (by decide) ?_
  refine va_put (D := (dC, dI)) (ci := 12) (v := .int 0) (ty := .boolean) (C := RX12) (T := TX12) (N := 14) hx hb hts hin_X12 tyX12 tyX12_ok nmX12 hown hK hP hD hS 0 rfl rfl 13 (by decide) (hts (.fieldLink RX12 106 "NeedHouse" "ready" "Z") (List.mem_of_getElem? (i := 233) rfl)) (fun _ h9 => h9) rfl (by decide +kernel) rfl rfl (by rw [hF_120.1]; decide) dX12_init_226 (fun H locs hP hD hS => ?_)
  have hP : va_P (dC, dI) vwCl [(h0, .inr (12, (fs_121.set 13 (.int 0)))), (q_1, .inl (cB, 4000, .inl (fun _ => 0))), (q_5, .inr (2, fs1_10)), (a1__11, .inl (cI, 4004, .inl (fun _ => 0))), (a2__12, .inl (cI, 4004, .inl (fun _ => 0))), (a3__13, .inl (cI, 4004, .inl (fun _ => 0))), (a4__14, .inl (cI, 4004, .inl (fun _ => 0))), (a5__15, .inl (cL, 2100, .inr (.inl (fun _ => 0)))), (a6__16, .inl (cL, 2100, .inr (.inl (fun _ => 0)))), (a7__17, .inl (cI, 8192, .inl (fun _ => 0))), (q_21, .inr (0, fs1_26)), (a1__27, .inl (cI, 2100, .inl (fun _ => 0))), (a2__28, .inl (cI, 2100, .inl (fun _ => 0))), (a3__29, .inl (cI, 2100, .inl (fun _ => 0))), (q_33, .inr (8, fs1_38)), (a1__39, .inl (cI, 2100, .inl (fun _ => 0))), (a2__40, .inl (cI, 2100, .inl (fun _ => 0))), (a3__41, .inl (cI, 2100, .inl (fun _ => 0))), (a4__42, .inl (cI, 2100, .inl (fun _ => 0))), (a5__43, .inl (cI, 2100, .inl (fun _ => 0))), (a6__44, .inl (cI, 2100, .inl (fun _ => 0))), (q_48, .inr (9, fs1_53)), (q_57, .inr (5, fs1_62)), (a1__63, .inr (1, fs1__64)), (a2__65, .inl (cI, 8008, .inl (fun _ => 0))), (q_70, .inr (11, fs1_75)), (q_79, .inr (10, fs1_84)), (q_88, .inr (4, fs1_93)), (q_97, .inr (3, fs1_102)), (a1__103, .inr (6, fs1__104)), (q_109, .inr (6, fs1_114))] H := hP
  have hD : va_D A [(h0, .inr (12, (fs_121.set 13 (.int 0)))), (q_1, .inl (cB, 4000, .inl (fun _ => 0))), (q_5, .inr (2, fs1_10)), (a1__11, .inl (cI, 4004, .inl (fun _ => 0))), (a2__12, .inl (cI, 4004, .inl (fun _ => 0))), (a3__13, .inl (cI, 4004, .inl (fun _ => 0))), (a4__14, .inl (cI, 4004, .inl (fun _ => 0))), (a5__15, .inl (cL, 2100, .inr (.inl (fun _ => 0)))), (a6__16, .inl (cL, 2100, .inr (.inl (fun _ => 0)))), (a7__17, .inl (cI, 8192, .inl (fun _ => 0))), (q_21, .inr (0, fs1_26)), (a1__27, .inl (cI, 2100, .inl (fun _ => 0))), (a2__28, .inl (cI, 2100, .inl (fun _ => 0))), (a3__29, .inl (cI, 2100, .inl (fun _ => 0))), (q_33, .inr (8, fs1_38)), (a1__39, .inl (cI, 2100, .inl (fun _ => 0))), (a2__40, .inl (cI, 2100, .inl (fun _ => 0))), (a3__41, .inl (cI, 2100, .inl (fun _ => 0))), (a4__42, .inl (cI, 2100, .inl (fun _ => 0))), (a5__43, .inl (cI, 2100, .inl (fun _ => 0))), (a6__44, .inl (cI, 2100, .inl (fun _ => 0))), (q_48, .inr (9, fs1_53)), (q_57, .inr (5, fs1_62)), (a1__63, .inr (1, fs1__64)), (a2__65, .inl (cI, 8008, .inl (fun _ => 0))), (q_70, .inr (11, fs1_75)), (q_79, .inr (10, fs1_84)), (q_88, .inr (4, fs1_93)), (q_97, .inr (3, fs1_102)), (a1__103, .inr (6, fs1__104)), (q_109, .inr (6, fs1_114))] := hD
  have hF_122 := hF_120.set 13 (.int 0) (l' := [(13, .int 0), (12, .int (-1)), (11, .int 0), (10, .ref q_109), (9, .ref q_97), (8, .ref q_88), (7, .ref q_79), (6, .ref q_70), (5, .ref q_57), (4, .ref q_48), (3, .ref q_33), (2, .ref q_21), (1, .ref q_5), (0, .ref q_1)]) (by decide) rfl
  generalize fs_121.set 13 (.int 0) = fs_123 at hP hD hF_122
  have hP : va_P (dC, dI) vwCl [(h0, .inr (12, fs_123)), (q_1, .inl (cB, 4000, .inl (fun _ => 0))), (q_5, .inr (2, fs1_10)), (a1__11, .inl (cI, 4004, .inl (fun _ => 0))), (a2__12, .inl (cI, 4004, .inl (fun _ => 0))), (a3__13, .inl (cI, 4004, .inl (fun _ => 0))), (a4__14, .inl (cI, 4004, .inl (fun _ => 0))), (a5__15, .inl (cL, 2100, .inr (.inl (fun _ => 0)))), (a6__16, .inl (cL, 2100, .inr (.inl (fun _ => 0)))), (a7__17, .inl (cI, 8192, .inl (fun _ => 0))), (q_21, .inr (0, fs1_26)), (a1__27, .inl (cI, 2100, .inl (fun _ => 0))), (a2__28, .inl (cI, 2100, .inl (fun _ => 0))), (a3__29, .inl (cI, 2100, .inl (fun _ => 0))), (q_33, .inr (8, fs1_38)), (a1__39, .inl (cI, 2100, .inl (fun _ => 0))), (a2__40, .inl (cI, 2100, .inl (fun _ => 0))), (a3__41, .inl (cI, 2100, .inl (fun _ => 0))), (a4__42, .inl (cI, 2100, .inl (fun _ => 0))), (a5__43, .inl (cI, 2100, .inl (fun _ => 0))), (a6__44, .inl (cI, 2100, .inl (fun _ => 0))), (q_48, .inr (9, fs1_53)), (q_57, .inr (5, fs1_62)), (a1__63, .inr (1, fs1__64)), (a2__65, .inl (cI, 8008, .inl (fun _ => 0))), (q_70, .inr (11, fs1_75)), (q_79, .inr (10, fs1_84)), (q_88, .inr (4, fs1_93)), (q_97, .inr (3, fs1_102)), (a1__103, .inr (6, fs1__104)), (q_109, .inr (6, fs1_114))] H := hP
  have hD : va_D A [(h0, .inr (12, fs_123)), (q_1, .inl (cB, 4000, .inl (fun _ => 0))), (q_5, .inr (2, fs1_10)), (a1__11, .inl (cI, 4004, .inl (fun _ => 0))), (a2__12, .inl (cI, 4004, .inl (fun _ => 0))), (a3__13, .inl (cI, 4004, .inl (fun _ => 0))), (a4__14, .inl (cI, 4004, .inl (fun _ => 0))), (a5__15, .inl (cL, 2100, .inr (.inl (fun _ => 0)))), (a6__16, .inl (cL, 2100, .inr (.inl (fun _ => 0)))), (a7__17, .inl (cI, 8192, .inl (fun _ => 0))), (q_21, .inr (0, fs1_26)), (a1__27, .inl (cI, 2100, .inl (fun _ => 0))), (a2__28, .inl (cI, 2100, .inl (fun _ => 0))), (a3__29, .inl (cI, 2100, .inl (fun _ => 0))), (q_33, .inr (8, fs1_38)), (a1__39, .inl (cI, 2100, .inl (fun _ => 0))), (a2__40, .inl (cI, 2100, .inl (fun _ => 0))), (a3__41, .inl (cI, 2100, .inl (fun _ => 0))), (a4__42, .inl (cI, 2100, .inl (fun _ => 0))), (a5__43, .inl (cI, 2100, .inl (fun _ => 0))), (a6__44, .inl (cI, 2100, .inl (fun _ => 0))), (q_48, .inr (9, fs1_53)), (q_57, .inr (5, fs1_62)), (a1__63, .inr (1, fs1__64)), (a2__65, .inl (cI, 8008, .inl (fun _ => 0))), (q_70, .inr (11, fs1_75)), (q_79, .inr (10, fs1_84)), (q_88, .inr (4, fs1_93)), (q_97, .inr (3, fs1_102)), (a1__103, .inr (6, fs1__104)), (q_109, .inr (6, fs1_114))] := hD
  have hP9 := hP.sub (ws' := [(h0, .inr (12, fs_123)), (q_1, .inl (cB, 4000, .inl (fun _ => 0))), (q_5, .inr (2, fs1_10)), (a1__11, .inl (cI, 4004, .inl (fun _ => 0))), (a2__12, .inl (cI, 4004, .inl (fun _ => 0))), (a3__13, .inl (cI, 4004, .inl (fun _ => 0))), (a4__14, .inl (cI, 4004, .inl (fun _ => 0))), (a5__15, .inl (cL, 2100, .inr (.inl (fun _ => 0)))), (a6__16, .inl (cL, 2100, .inr (.inl (fun _ => 0)))), (a7__17, .inl (cI, 8192, .inl (fun _ => 0))), (q_21, .inr (0, fs1_26)), (a1__27, .inl (cI, 2100, .inl (fun _ => 0))), (a2__28, .inl (cI, 2100, .inl (fun _ => 0))), (a3__29, .inl (cI, 2100, .inl (fun _ => 0))), (q_33, .inr (8, fs1_38)), (a1__39, .inl (cI, 2100, .inl (fun _ => 0))), (a2__40, .inl (cI, 2100, .inl (fun _ => 0))), (a3__41, .inl (cI, 2100, .inl (fun _ => 0))), (a4__42, .inl (cI, 2100, .inl (fun _ => 0))), (a5__43, .inl (cI, 2100, .inl (fun _ => 0))), (a6__44, .inl (cI, 2100, .inl (fun _ => 0))), (q_48, .inr (9, fs1_53)), (q_57, .inr (5, fs1_62)), (a1__63, .inr (1, fs1__64)), (a2__65, .inl (cI, 8008, .inl (fun _ => 0))), (q_97, .inr (3, fs1_102)), (a1__103, .inr (6, fs1__104))]) [0, 1, 2, 3, 4, 5, 6, 7, 8, 9, 10, 11, 12, 13, 14, 15, 16, 17, 18, 19, 20, 21, 22, 23, 24, 28, 29] rfl
  have hD9 := hD.sub (ws' := [(h0, .inr (12, fs_123)), (q_1, .inl (cB, 4000, .inl (fun _ => 0))), (q_5, .inr (2, fs1_10)), (a1__11, .inl (cI, 4004, .inl (fun _ => 0))), (a2__12, .inl (cI, 4004, .inl (fun _ => 0))), (a3__13, .inl (cI, 4004, .inl (fun _ => 0))), (a4__14, .inl (cI, 4004, .inl (fun _ => 0))), (a5__15, .inl (cL, 2100, .inr (.inl (fun _ => 0)))), (a6__16, .inl (cL, 2100, .inr (.inl (fun _ => 0)))), (a7__17, .inl (cI, 8192, .inl (fun _ => 0))), (q_21, .inr (0, fs1_26)), (a1__27, .inl (cI, 2100, .inl (fun _ => 0))), (a2__28, .inl (cI, 2100, .inl (fun _ => 0))), (a3__29, .inl (cI, 2100, .inl (fun _ => 0))), (q_33, .inr (8, fs1_38)), (a1__39, .inl (cI, 2100, .inl (fun _ => 0))), (a2__40, .inl (cI, 2100, .inl (fun _ => 0))), (a3__41, .inl (cI, 2100, .inl (fun _ => 0))), (a4__42, .inl (cI, 2100, .inl (fun _ => 0))), (a5__43, .inl (cI, 2100, .inl (fun _ => 0))), (a6__44, .inl (cI, 2100, .inl (fun _ => 0))), (q_48, .inr (9, fs1_53)), (q_57, .inr (5, fs1_62)), (a1__63, .inr (1, fs1__64)), (a2__65, .inl (cI, 8008, .inl (fun _ => 0))), (q_97, .inr (3, fs1_102)), (a1__103, .inr (6, fs1__104))]) [0, 1, 2, 3, 4, 5, 6, 7, 8, 9, 10, 11, 12, 13, 14, 15, 16, 17, 18, 19, 20, 21, 22, 23, 24, 28, 29] (by decide) rfl
  have hK9 := hK.sub (tys' := [(cI, .int), (cL, .long), (cB, .byte)]) [0, 1, 2] rfl
  exact W.vret hx hb hr (fun t ht hW => ⟨⟨((fs_123, q_1, q_5, fs1_10, a1__11, a2__12, a3__13, a4__14, a5__15, a6__16, a7__17, q_21, fs1_26, a1__27, a2__28, a3__29, q_33, fs1_38, a1__39, a2__40, a3__41, a4__42, a5__43, a6__44, q_48, fs1_53, q_57, fs1_62, a1__63, fs1__64, a2__65, q_97, fs1_102, a1__103, fs1__104)), rfl, ⟨hF_122.sub [13, 12, 11, 10, 9, 8, 4, 2, 1, 0] rfl, hF_18.sub [0, 1, 2, 3, 4, 5, 6, 7, 8, 9, 10, 11] rfl, hF_30.sub [0, 1, 2, 3, 4, 5, 6, 7] rfl, hF_45.sub [0, 1, 2, 3, 4, 5, 6, 7, 8] rfl, hF_54.sub [0, 1, 2, 3, 4, 5] rfl, hF_66.sub [0, 1, 2, 3, 4, 5, 6] rfl, hF_67.sub [0, 1, 2, 3, 4, 5, 6, 7, 8] rfl, hF_105.sub [0, 1, 2, 4, 5, 6, 7, 8, 9, 10, 11] rfl, hF_106.sub [0, 1] rfl⟩, by rw [ht]; exact hP9, va_K.moved hW.alike hK9, hD9⟩, hS.F ht⟩) hS.2.2 dX12_init_229
end
