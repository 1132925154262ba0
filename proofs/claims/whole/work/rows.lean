section
/-! ===== BEGIN words of one list among another's, by their places ===== -/
theorem goodIn_r {big : List Cond} (ws : List Cond) (ps : List Nat) (hp : ws = ps.filterMap (fun i => big[i]?)) (h : ws.all goodWord = true) : GoodIn big ws := by
  intro w hw
  have h1 := List.all_eq_true.mp h w hw
  rw [hp] at hw
  obtain ⟨i, -, hi⟩ := List.mem_filterMap.mp hw
  have hm : w ∈ big := by first | exact List.mem_of_getElem? hi | exact List.getElem?_mem hi
  exact ⟨hm, good_of_word h1⟩
theorem goodIn_app {big a b : List Cond} (ha : GoodIn big a) (hb : GoodIn big b) : GoodIn big (a ++ b) := fun w h => (List.mem_append.mp h).elim (ha w) (hb w)
theorem goodIn_ca {big a b : List Cond} {c : Cond} (ha : GoodIn big (c :: a)) (hb : GoodIn big b) : GoodIn big (c :: (a ++ b)) := fun w h => (List.mem_cons.mp h).elim (fun e => ha w (List.mem_cons.mpr (Or.inl e))) (fun h => (List.mem_append.mp h).elim (fun h => ha w (List.mem_cons.mpr (Or.inr h))) (hb w))
theorem goodIn_sub {big ws : List Cond} (hm : ∀ w ∈ ws, w ∈ big) (h : ws.all goodWord = true) : GoodIn big ws := fun w hw => ⟨hm w hw, good_of_word (List.all_eq_true.mp h w hw)⟩
/-! ===== END ===== -/

/-! names, printed -/
def RL : String := "NeedHouseLaw"
def RX0 : String := "NeedHouse$Datas"
def TX0 : u_T := fun k => match k with
  | 0 => ("NeedHouse$Datas", "lexemes", "LNeedHouse$Lexemes;", true)
  | 1 => ("NeedHouse$Datas", "dataToken", "[I", true)
  | 2 => ("NeedHouse$Datas", "firstName", "[I", true)
  | 3 => ("NeedHouse$Datas", "nameCount", "[I", true)
  | 4 => ("NeedHouse$Datas", "nameToken", "[I", true)
  | 5 => ("NeedHouse$Datas", "conToken", "[I", true)
  | 6 => ("NeedHouse$Datas", "conData", "[I", true)
  | 7 => ("NeedHouse$Datas", "conFields", "[I", true)
  | 8 => ("NeedHouse$Datas", "conCode", "[I", true)
  | 9 => ("NeedHouse$Datas", "conCodes", "[I", true)
  | 10 => ("NeedHouse$Datas", "code", "[I", true)
  | 11 => ("NeedHouse$Datas", "codeToken", "[I", true)
  | 12 => ("NeedHouse$Datas", "codeParts", "[I", true)
  | 13 => ("NeedHouse$Datas", "typeOf", "[I", true)
  | 14 => ("NeedHouse$Datas", "conOf", "[I", true)
  | 15 => ("NeedHouse$Datas", "mark", "[I", true)
  | 16 => ("NeedHouse$Datas", "size", "I", false)
  | 17 => ("NeedHouse$Datas", "cons", "I", false)
  | 18 => ("NeedHouse$Datas", "codes", "I", false)
  | _ => ("NeedHouse$Datas", "names", "I", false)
def tyX0 : Nat → FieldType := fun k => match k with
  | 0 => .object "NeedHouse$Lexemes"
  | 1 => .array .int
  | 2 => .array .int
  | 3 => .array .int
  | 4 => .array .int
  | 5 => .array .int
  | 6 => .array .int
  | 7 => .array .int
  | 8 => .array .int
  | 9 => .array .int
  | 10 => .array .int
  | 11 => .array .int
  | 12 => .array .int
  | 13 => .array .int
  | 14 => .array .int
  | 15 => .array .int
  | 16 => .int
  | 17 => .int
  | 18 => .int
  | _ => .int
abbrev wsX00 : List Cond := u_ws RX0 TX0 20
theorem nmX0 : ∀ a, a < 20 → ∀ b, b < 20 → a ≠ b → (TX0 a).2.1 ≠ (TX0 b).2.1 := by decide +kernel
theorem tyX0_ok : ∀ k, k < 20 → parseFieldDescriptor (TX0 k).2.2.1 = some (tyX0 k) := by decide +kernel
def RX1 : String := "NeedHouse$Layout"
def TX1 : u_T := fun k => match k with
  | 0 => ("NeedHouse$Layout", "lexemes", "LNeedHouse$Lexemes;", true)
  | 1 => ("NeedHouse$Layout", "stack", "[I", true)
  | 2 => ("NeedHouse$Layout", "depth", "I", false)
  | 3 => ("NeedHouse$Layout", "endsAhead", "I", false)
  | 4 => ("NeedHouse$Layout", "endsBehind", "I", false)
  | 5 => ("NeedHouse$Layout", "itemEnds", "Z", false)
  | 6 => ("NeedHouse$Layout", "misplaced", "Z", false)
  | 7 => ("NeedHouse$Layout", "token", "I", false)
  | _ => ("NeedHouse$Layout", "now", "I", false)
def tyX1 : Nat → FieldType := fun k => match k with
  | 0 => .object "NeedHouse$Lexemes"
  | 1 => .array .int
  | 2 => .int
  | 3 => .int
  | 4 => .int
  | 5 => .boolean
  | 6 => .boolean
  | 7 => .int
  | _ => .int
abbrev wsX10 : List Cond := u_ws RX1 TX1 9
theorem nmX1 : ∀ a, a < 9 → ∀ b, b < 9 → a ≠ b → (TX1 a).2.1 ≠ (TX1 b).2.1 := by decide +kernel
theorem tyX1_ok : ∀ k, k < 9 → parseFieldDescriptor (TX1 k).2.2.1 = some (tyX1 k) := by decide +kernel
def RX2 : String := "NeedHouse$Lexemes"
def TX2 : u_T := fun k => match k with
  | 0 => ("NeedHouse$Lexemes", "kind", "[I", true)
  | 1 => ("NeedHouse$Lexemes", "line", "[I", true)
  | 2 => ("NeedHouse$Lexemes", "column", "[I", true)
  | 3 => ("NeedHouse$Lexemes", "value", "[I", true)
  | 4 => ("NeedHouse$Lexemes", "head", "[J", true)
  | 5 => ("NeedHouse$Lexemes", "tail", "[J", true)
  | 6 => ("NeedHouse$Lexemes", "table", "[I", true)
  | 7 => ("NeedHouse$Lexemes", "size", "I", false)
  | 8 => ("NeedHouse$Lexemes", "answer", "I", false)
  | 9 => ("NeedHouse$Lexemes", "symbols", "I", false)
  | 10 => ("NeedHouse$Lexemes", "faultKind", "I", false)
  | _ => ("NeedHouse$Lexemes", "faultToken", "I", false)
def tyX2 : Nat → FieldType := fun k => match k with
  | 0 => .array .int
  | 1 => .array .int
  | 2 => .array .int
  | 3 => .array .int
  | 4 => .array .long
  | 5 => .array .long
  | 6 => .array .int
  | 7 => .int
  | 8 => .int
  | 9 => .int
  | 10 => .int
  | _ => .int
abbrev wsX20 : List Cond := u_ws RX2 TX2 12
theorem nmX2 : ∀ a, a < 12 → ∀ b, b < 12 → a ≠ b → (TX2 a).2.1 ≠ (TX2 b).2.1 := by decide +kernel
theorem tyX2_ok : ∀ k, k < 12 → parseFieldDescriptor (TX2 k).2.2.1 = some (tyX2 k) := by decide +kernel
def RX3 : String := "NeedHouse$Machine"
def TX3 : u_T := fun k => match k with
  | 0 => ("NeedHouse$Machine", "tree", "LNeedHouse$Tree;", true)
  | 1 => ("NeedHouse$Machine", "told", "LNeedHouse$Told;", true)
  | 2 => ("NeedHouse$Machine", "datas", "LNeedHouse$Datas;", true)
  | 3 => ("NeedHouse$Machine", "needs", "LNeedHouse$Needs;", true)
  | 4 => ("NeedHouse$Machine", "store", "LNeedHouse$Store;", true)
  | 5 => ("NeedHouse$Machine", "text", "LNeedHouse$Sheet;", true)
  | 6 => ("NeedHouse$Machine", "output", "[I", true)
  | 7 => ("NeedHouse$Machine", "outputs", "I", false)
  | 8 => ("NeedHouse$Machine", "state", "I", false)
  | 9 => ("NeedHouse$Machine", "steps", "I", false)
  | 10 => ("NeedHouse$Machine", "made", "I", false)
  | 11 => ("NeedHouse$Machine", "got", "I", false)
  | 12 => ("NeedHouse$Machine", "value", "J", false)
  | _ => ("NeedHouse$Machine", "giving", "Z", false)
def tyX3 : Nat → FieldType := fun k => match k with
  | 0 => .object "NeedHouse$Tree"
  | 1 => .object "NeedHouse$Told"
  | 2 => .object "NeedHouse$Datas"
  | 3 => .object "NeedHouse$Needs"
  | 4 => .object "NeedHouse$Store"
  | 5 => .object "NeedHouse$Sheet"
  | 6 => .array .int
  | 7 => .int
  | 8 => .int
  | 9 => .int
  | 10 => .int
  | 11 => .int
  | 12 => .long
  | _ => .boolean
abbrev wsX30 : List Cond := u_ws RX3 TX3 14
theorem nmX3 : ∀ a, a < 14 → ∀ b, b < 14 → a ≠ b → (TX3 a).2.1 ≠ (TX3 b).2.1 := by decide +kernel
theorem tyX3_ok : ∀ k, k < 14 → parseFieldDescriptor (TX3 k).2.2.1 = some (tyX3 k) := by decide +kernel
def RX4 : String := "NeedHouse$Needs"
def TX4 : u_T := fun k => match k with
  | 0 => ("NeedHouse$Needs", "tree", "LNeedHouse$Tree;", true)
  | 1 => ("NeedHouse$Needs", "told", "LNeedHouse$Told;", true)
  | 2 => ("NeedHouse$Needs", "free", "[J", true)
  | 3 => ("NeedHouse$Needs", "need", "[J", true)
  | 4 => ("NeedHouse$Needs", "strictOnes", "[J", true)
  | 5 => ("NeedHouse$Needs", "freeFrom", "[I", true)
  | 6 => ("NeedHouse$Needs", "freeMany", "[I", true)
  | 7 => ("NeedHouse$Needs", "freeName", "[I", false)
  | 8 => ("NeedHouse$Needs", "freeSize", "I", false)
  | 9 => ("NeedHouse$Needs", "cells", "[I", true)
  | 10 => ("NeedHouse$Needs", "thunks", "[I", true)
  | 11 => ("NeedHouse$Needs", "madeCells", "[I", true)
  | _ => ("NeedHouse$Needs", "madeThunks", "[I", true)
def tyX4 : Nat → FieldType := fun k => match k with
  | 0 => .object "NeedHouse$Tree"
  | 1 => .object "NeedHouse$Told"
  | 2 => .array .long
  | 3 => .array .long
  | 4 => .array .long
  | 5 => .array .int
  | 6 => .array .int
  | 7 => .array .int
  | 8 => .int
  | 9 => .array .int
  | 10 => .array .int
  | 11 => .array .int
  | _ => .array .int
abbrev wsX40 : List Cond := u_ws RX4 TX4 13
theorem nmX4 : ∀ a, a < 13 → ∀ b, b < 13 → a ≠ b → (TX4 a).2.1 ≠ (TX4 b).2.1 := by decide +kernel
theorem tyX4_ok : ∀ k, k < 13 → parseFieldDescriptor (TX4 k).2.2.1 = some (tyX4 k) := by decide +kernel
def RX5 : String := "NeedHouse$Parser"
def TX5 : u_T := fun k => match k with
  | 0 => ("NeedHouse$Parser", "lexemes", "LNeedHouse$Lexemes;", true)
  | 1 => ("NeedHouse$Parser", "layout", "LNeedHouse$Layout;", true)
  | 2 => ("NeedHouse$Parser", "tree", "LNeedHouse$Tree;", true)
  | 3 => ("NeedHouse$Parser", "told", "LNeedHouse$Told;", true)
  | 4 => ("NeedHouse$Parser", "datas", "LNeedHouse$Datas;", true)
  | 5 => ("NeedHouse$Parser", "held", "[I", true)
  | 6 => ("NeedHouse$Parser", "signs", "[I", true)
  | 7 => ("NeedHouse$Parser", "operands", "[I", true)
  | 8 => ("NeedHouse$Parser", "heldSize", "I", false)
  | _ => ("NeedHouse$Parser", "signSize", "I", false)
def tyX5 : Nat → FieldType := fun k => match k with
  | 0 => .object "NeedHouse$Lexemes"
  | 1 => .object "NeedHouse$Layout"
  | 2 => .object "NeedHouse$Tree"
  | 3 => .object "NeedHouse$Told"
  | 4 => .object "NeedHouse$Datas"
  | 5 => .array .int
  | 6 => .array .int
  | 7 => .array .int
  | 8 => .int
  | _ => .int
abbrev wsX50 : List Cond := u_ws RX5 TX5 10
theorem nmX5 : ∀ a, a < 10 → ∀ b, b < 10 → a ≠ b → (TX5 a).2.1 ≠ (TX5 b).2.1 := by decide +kernel
theorem tyX5_ok : ∀ k, k < 10 → parseFieldDescriptor (TX5 k).2.2.1 = some (tyX5 k) := by decide +kernel
def RX6 : String := "NeedHouse$Sheet"
def TX6 : u_T := fun k => match k with
  | 0 => ("NeedHouse$Sheet", "lexemes", "LNeedHouse$Lexemes;", true)
  | 1 => ("NeedHouse$Sheet", "row", "[B", true)
  | _ => ("NeedHouse$Sheet", "size", "I", false)
def tyX6 : Nat → FieldType := fun k => match k with
  | 0 => .object "NeedHouse$Lexemes"
  | 1 => .array .byte
  | _ => .int
abbrev wsX60 : List Cond := u_ws RX6 TX6 3
theorem nmX6 : ∀ a, a < 3 → ∀ b, b < 3 → a ≠ b → (TX6 a).2.1 ≠ (TX6 b).2.1 := by decide +kernel
theorem tyX6_ok : ∀ k, k < 3 → parseFieldDescriptor (TX6 k).2.2.1 = some (tyX6 k) := by decide +kernel
def RX7 : String := "NeedHouse$Store"
def TX7 : u_T := fun k => match k with
  | 0 => ("NeedHouse$Store", "tree", "LNeedHouse$Tree;", true)
  | 1 => ("NeedHouse$Store", "told", "LNeedHouse$Told;", true)
  | 2 => ("NeedHouse$Store", "datas", "LNeedHouse$Datas;", true)
  | 3 => ("NeedHouse$Store", "needs", "LNeedHouse$Needs;", true)
  | 4 => ("NeedHouse$Store", "heap", "[J", false)
  | 5 => ("NeedHouse$Store", "spare", "[J", false)
  | 6 => ("NeedHouse$Store", "used", "I", false)
  | 7 => ("NeedHouse$Store", "spareUsed", "I", false)
  | 8 => ("NeedHouse$Store", "variable", "[J", true)
  | 9 => ("NeedHouse$Store", "argument", "[J", true)
  | 10 => ("NeedHouse$Store", "arguments", "I", false)
  | 11 => ("NeedHouse$Store", "frame", "[I", true)
  | 12 => ("NeedHouse$Store", "frameFrom", "[I", true)
  | 13 => ("NeedHouse$Store", "frames", "I", false)
  | 14 => ("NeedHouse$Store", "saved", "[J", false)
  | 15 => ("NeedHouse$Store", "savedSize", "I", false)
  | 16 => ("NeedHouse$Store", "globalState", "[I", true)
  | 17 => ("NeedHouse$Store", "globalValue", "[J", true)
  | 18 => ("NeedHouse$Store", "unfilled", "[I", true)
  | 19 => ("NeedHouse$Store", "unfilledSize", "I", false)
  | 20 => ("NeedHouse$Store", "nextNode", "I", false)
  | _ => ("NeedHouse$Store", "nextThing", "J", false)
def tyX7 : Nat → FieldType := fun k => match k with
  | 0 => .object "NeedHouse$Tree"
  | 1 => .object "NeedHouse$Told"
  | 2 => .object "NeedHouse$Datas"
  | 3 => .object "NeedHouse$Needs"
  | 4 => .array .long
  | 5 => .array .long
  | 6 => .int
  | 7 => .int
  | 8 => .array .long
  | 9 => .array .long
  | 10 => .int
  | 11 => .array .int
  | 12 => .array .int
  | 13 => .int
  | 14 => .array .long
  | 15 => .int
  | 16 => .array .int
  | 17 => .array .long
  | 18 => .array .int
  | 19 => .int
  | 20 => .int
  | _ => .long
abbrev wsX70 : List Cond := u_ws RX7 TX7 22
theorem nmX7 : ∀ a, a < 22 → ∀ b, b < 22 → a ≠ b → (TX7 a).2.1 ≠ (TX7 b).2.1 := by decide +kernel
theorem tyX7_ok : ∀ k, k < 22 → parseFieldDescriptor (TX7 k).2.2.1 = some (tyX7 k) := by decide +kernel
def RX8 : String := "NeedHouse$Told"
def TX8 : u_T := fun k => match k with
  | 0 => ("NeedHouse$Told", "lexemes", "LNeedHouse$Lexemes;", true)
  | 1 => ("NeedHouse$Told", "symbol", "[I", true)
  | 2 => ("NeedHouse$Told", "token", "[I", true)
  | 3 => ("NeedHouse$Told", "scope", "[I", true)
  | 4 => ("NeedHouse$Told", "place", "[I", true)
  | 5 => ("NeedHouse$Told", "next", "[I", true)
  | 6 => ("NeedHouse$Told", "row", "[I", true)
  | 7 => ("NeedHouse$Told", "body", "[I", true)
  | 8 => ("NeedHouse$Told", "maker", "[I", true)
  | 9 => ("NeedHouse$Told", "parent", "[I", true)
  | 10 => ("NeedHouse$Told", "owner", "[I", true)
  | 11 => ("NeedHouse$Told", "first", "[I", true)
  | 12 => ("NeedHouse$Told", "last", "[I", true)
  | 13 => ("NeedHouse$Told", "width", "[I", true)
  | 14 => ("NeedHouse$Told", "globals", "[I", true)
  | 15 => ("NeedHouse$Told", "mark", "[I", true)
  | 16 => ("NeedHouse$Told", "size", "I", false)
  | _ => ("NeedHouse$Told", "scopes", "I", false)
def tyX8 : Nat → FieldType := fun k => match k with
  | 0 => .object "NeedHouse$Lexemes"
  | 1 => .array .int
  | 2 => .array .int
  | 3 => .array .int
  | 4 => .array .int
  | 5 => .array .int
  | 6 => .array .int
  | 7 => .array .int
  | 8 => .array .int
  | 9 => .array .int
  | 10 => .array .int
  | 11 => .array .int
  | 12 => .array .int
  | 13 => .array .int
  | 14 => .array .int
  | 15 => .array .int
  | 16 => .int
  | _ => .int
abbrev wsX80 : List Cond := u_ws RX8 TX8 18
theorem nmX8 : ∀ a, a < 18 → ∀ b, b < 18 → a ≠ b → (TX8 a).2.1 ≠ (TX8 b).2.1 := by decide +kernel
theorem tyX8_ok : ∀ k, k < 18 → parseFieldDescriptor (TX8 k).2.2.1 = some (tyX8 k) := by decide +kernel
def RX9 : String := "NeedHouse$Tree"
def TX9 : u_T := fun k => match k with
  | 0 => ("NeedHouse$Tree", "lexemes", "LNeedHouse$Lexemes;", true)
  | 1 => ("NeedHouse$Tree", "told", "LNeedHouse$Told;", true)
  | 2 => ("NeedHouse$Tree", "datas", "LNeedHouse$Datas;", true)
  | 3 => ("NeedHouse$Tree", "kind", "[I", true)
  | 4 => ("NeedHouse$Tree", "first", "[I", true)
  | 5 => ("NeedHouse$Tree", "a", "[I", true)
  | 6 => ("NeedHouse$Tree", "b", "[I", true)
  | 7 => ("NeedHouse$Tree", "c", "[I", true)
  | 8 => ("NeedHouse$Tree", "part", "[I", true)
  | 9 => ("NeedHouse$Tree", "partOwner", "[I", true)
  | 10 => ("NeedHouse$Tree", "itemKind", "[I", true)
  | 11 => ("NeedHouse$Tree", "itemToken", "[I", true)
  | 12 => ("NeedHouse$Tree", "itemWant", "[I", true)
  | 13 => ("NeedHouse$Tree", "itemRow", "[I", true)
  | 14 => ("NeedHouse$Tree", "itemBody", "[I", true)
  | 15 => ("NeedHouse$Tree", "itemNext", "[I", true)
  | 16 => ("NeedHouse$Tree", "itemOwner", "[I", true)
  | 17 => ("NeedHouse$Tree", "size", "I", false)
  | 18 => ("NeedHouse$Tree", "parts", "I", false)
  | _ => ("NeedHouse$Tree", "items", "I", false)
def tyX9 : Nat → FieldType := fun k => match k with
  | 0 => .object "NeedHouse$Lexemes"
  | 1 => .object "NeedHouse$Told"
  | 2 => .object "NeedHouse$Datas"
  | 3 => .array .int
  | 4 => .array .int
  | 5 => .array .int
  | 6 => .array .int
  | 7 => .array .int
  | 8 => .array .int
  | 9 => .array .int
  | 10 => .array .int
  | 11 => .array .int
  | 12 => .array .int
  | 13 => .array .int
  | 14 => .array .int
  | 15 => .array .int
  | 16 => .array .int
  | 17 => .int
  | 18 => .int
  | _ => .int
abbrev wsX90 : List Cond := u_ws RX9 TX9 20
theorem nmX9 : ∀ a, a < 20 → ∀ b, b < 20 → a ≠ b → (TX9 a).2.1 ≠ (TX9 b).2.1 := by decide +kernel
theorem tyX9_ok : ∀ k, k < 20 → parseFieldDescriptor (TX9 k).2.2.1 = some (tyX9 k) := by decide +kernel
def RX10 : String := "NeedHouse$Typer"
def TX10 : u_T := fun k => match k with
  | 0 => ("NeedHouse$Typer", "lexemes", "LNeedHouse$Lexemes;", true)
  | 1 => ("NeedHouse$Typer", "tree", "LNeedHouse$Tree;", true)
  | 2 => ("NeedHouse$Typer", "told", "LNeedHouse$Told;", true)
  | 3 => ("NeedHouse$Typer", "types", "LNeedHouse$Types;", true)
  | 4 => ("NeedHouse$Typer", "work", "[I", true)
  | 5 => ("NeedHouse$Typer", "workSize", "I", false)
  | 6 => ("NeedHouse$Typer", "typeOf", "[I", true)
  | 7 => ("NeedHouse$Typer", "nameType", "[I", true)
  | 8 => ("NeedHouse$Typer", "settled", "[I", true)
  | 9 => ("NeedHouse$Typer", "uses", "[J", true)
  | 10 => ("NeedHouse$Typer", "numberOf", "[I", true)
  | 11 => ("NeedHouse$Typer", "firstGroup", "[I", true)
  | 12 => ("NeedHouse$Typer", "groupsOf", "[I", true)
  | 13 => ("NeedHouse$Typer", "groupStart", "[I", true)
  | 14 => ("NeedHouse$Typer", "members", "[I", true)
  | 15 => ("NeedHouse$Typer", "groups", "I", false)
  | _ => ("NeedHouse$Typer", "memberSize", "I", false)
def tyX10 : Nat → FieldType := fun k => match k with
  | 0 => .object "NeedHouse$Lexemes"
  | 1 => .object "NeedHouse$Tree"
  | 2 => .object "NeedHouse$Told"
  | 3 => .object "NeedHouse$Types"
  | 4 => .array .int
  | 5 => .int
  | 6 => .array .int
  | 7 => .array .int
  | 8 => .array .int
  | 9 => .array .long
  | 10 => .array .int
  | 11 => .array .int
  | 12 => .array .int
  | 13 => .array .int
  | 14 => .array .int
  | 15 => .int
  | _ => .int
abbrev wsX100 : List Cond := u_ws RX10 TX10 17
theorem nmX10 : ∀ a, a < 17 → ∀ b, b < 17 → a ≠ b → (TX10 a).2.1 ≠ (TX10 b).2.1 := by decide +kernel
theorem tyX10_ok : ∀ k, k < 17 → parseFieldDescriptor (TX10 k).2.2.1 = some (tyX10 k) := by decide +kernel
def RX11 : String := "NeedHouse$Types"
def TX11 : u_T := fun k => match k with
  | 0 => ("NeedHouse$Types", "datas", "LNeedHouse$Datas;", true)
  | 1 => ("NeedHouse$Types", "kind", "[B", false)
  | 2 => ("NeedHouse$Types", "info", "[I", false)
  | 3 => ("NeedHouse$Types", "stamp", "[I", false)
  | 4 => ("NeedHouse$Types", "parts", "[I", false)
  | 5 => ("NeedHouse$Types", "pairs", "[I", false)
  | 6 => ("NeedHouse$Types", "walk", "[I", false)
  | 7 => ("NeedHouse$Types", "codes", "[I", true)
  | 8 => ("NeedHouse$Types", "codeSize", "[I", true)
  | 9 => ("NeedHouse$Types", "free", "[I", true)
  | 10 => ("NeedHouse$Types", "around", "[I", true)
  | 11 => ("NeedHouse$Types", "aroundSize", "I", false)
  | 12 => ("NeedHouse$Types", "size", "I", false)
  | 13 => ("NeedHouse$Types", "partSize", "I", false)
  | 14 => ("NeedHouse$Types", "pairSize", "I", false)
  | 15 => ("NeedHouse$Types", "walkSize", "I", false)
  | 16 => ("NeedHouse$Types", "stampNow", "I", false)
  | _ => ("NeedHouse$Types", "freeSize", "I", false)
def tyX11 : Nat → FieldType := fun k => match k with
  | 0 => .object "NeedHouse$Datas"
  | 1 => .array .byte
  | 2 => .array .int
  | 3 => .array .int
  | 4 => .array .int
  | 5 => .array .int
  | 6 => .array .int
  | 7 => .array .int
  | 8 => .array .int
  | 9 => .array .int
  | 10 => .array .int
  | 11 => .int
  | 12 => .int
  | 13 => .int
  | 14 => .int
  | 15 => .int
  | 16 => .int
  | _ => .int
abbrev wsX110 : List Cond := u_ws RX11 TX11 18
theorem nmX11 : ∀ a, a < 18 → ∀ b, b < 18 → a ≠ b → (TX11 a).2.1 ≠ (TX11 b).2.1 := by decide +kernel
theorem tyX11_ok : ∀ k, k < 18 → parseFieldDescriptor (TX11 k).2.2.1 = some (tyX11 k) := by decide +kernel
def RX12 : String := "NeedHouse"
def TX12 : u_T := fun k => match k with
  | 0 => ("NeedHouse", "tape", "[B", true)
  | 1 => ("NeedHouse", "lexemes", "LNeedHouse$Lexemes;", true)
  | 2 => ("NeedHouse", "datas", "LNeedHouse$Datas;", true)
  | 3 => ("NeedHouse", "told", "LNeedHouse$Told;", true)
  | 4 => ("NeedHouse", "tree", "LNeedHouse$Tree;", true)
  | 5 => ("NeedHouse", "parser", "LNeedHouse$Parser;", true)
  | 6 => ("NeedHouse", "types", "LNeedHouse$Types;", true)
  | 7 => ("NeedHouse", "typer", "LNeedHouse$Typer;", true)
  | 8 => ("NeedHouse", "needs", "LNeedHouse$Needs;", true)
  | 9 => ("NeedHouse", "machine", "LNeedHouse$Machine;", true)
  | 10 => ("NeedHouse", "signs", "LNeedHouse$Sheet;", true)
  | 11 => ("NeedHouse", "length", "I", false)
  | 12 => ("NeedHouse", "signsOf", "I", false)
  | _ => ("NeedHouse", "ready", "Z", false)
def tyX12 : Nat → FieldType := fun k => match k with
  | 0 => .array .byte
  | 1 => .object "NeedHouse$Lexemes"
  | 2 => .object "NeedHouse$Datas"
  | 3 => .object "NeedHouse$Told"
  | 4 => .object "NeedHouse$Tree"
  | 5 => .object "NeedHouse$Parser"
  | 6 => .object "NeedHouse$Types"
  | 7 => .object "NeedHouse$Typer"
  | 8 => .object "NeedHouse$Needs"
  | 9 => .object "NeedHouse$Machine"
  | 10 => .object "NeedHouse$Sheet"
  | 11 => .int
  | 12 => .int
  | _ => .boolean
abbrev wsX120 : List Cond := u_ws RX12 TX12 14
theorem nmX12 : ∀ a, a < 14 → ∀ b, b < 14 → a ≠ b → (TX12 a).2.1 ≠ (TX12 b).2.1 := by decide +kernel
theorem tyX12_ok : ∀ k, k < 14 → parseFieldDescriptor (TX12 k).2.2.1 = some (tyX12 k) := by decide +kernel
def RX13 : String := "NeedHouseModel$Halt"
def TX13 : u_T := fun k => match k with
  | 0 => ("java/lang/Throwable", "cause", "Ljava/lang/Throwable;", false)
  | 1 => ("java/lang/Throwable", "stackTrace", "[Ljava/lang/StackTraceElement;", false)
  | 2 => ("java/lang/Throwable", "suppressedExceptions", "Ljava/util/List;", false)
  | 3 => ("java/lang/Throwable", "detailMessage", "Ljava/lang/String;", false)
  | 4 => ("java/lang/Throwable", "backtrace", "Ljava/lang/Object;", false)
  | _ => ("java/lang/Throwable", "depth", "I", false)
def tyX13 : Nat → FieldType := fun k => match k with
  | 0 => .object "java/lang/Throwable"
  | 1 => .array (.object "java/lang/StackTraceElement")
  | 2 => .object "java/util/List"
  | 3 => .object "java/lang/String"
  | 4 => .object "java/lang/Object"
  | _ => .int
abbrev wsX130 : List Cond := u_ws RX13 TX13 6
theorem nmX13 : ∀ a, a < 6 → ∀ b, b < 6 → a ≠ b → (TX13 a).2.1 ≠ (TX13 b).2.1 := by decide +kernel
theorem tyX13_ok : ∀ k, k < 6 → parseFieldDescriptor (TX13 k).2.2.1 = some (tyX13 k) := by decide +kernel
def RX14 : String := "NeedHouseModel"
def TX14 : u_T := fun k => match k with
  | 0 => ("NeedHouseModel", "halt", "LNeedHouseModel$Halt;", true)
  | 1 => ("NeedHouseModel", "thrown", "I", false)
  | 2 => ("NeedHouseModel", "tape", "[I", true)
  | 3 => ("NeedHouseModel", "taped", "I", false)
  | 4 => ("NeedHouseModel", "words", "[Ljava/lang/String;", true)
  | 5 => ("NeedHouseModel", "signs", "[Ljava/lang/String;", true)
  | 6 => ("NeedHouseModel", "tSort", "[I", true)
  | 7 => ("NeedHouseModel", "tValue", "[I", true)
  | 8 => ("NeedHouseModel", "tLine", "[I", true)
  | 9 => ("NeedHouseModel", "tColumn", "[I", true)
  | 10 => ("NeedHouseModel", "tokens", "I", false)
  | 11 => ("NeedHouseModel", "letters", "[I", true)
  | 12 => ("NeedHouseModel", "nameFrom", "[I", true)
  | 13 => ("NeedHouseModel", "names", "I", false)
  | 14 => ("NeedHouseModel", "small", "[I", true)
  | 15 => ("NeedHouseModel", "t", "I", false)
  | 16 => ("NeedHouseModel", "openSort", "[I", true)
  | 17 => ("NeedHouseModel", "opens", "I", false)
  | 18 => ("NeedHouseModel", "blockColumn", "[I", true)
  | 19 => ("NeedHouseModel", "blockOpens", "[I", true)
  | 20 => ("NeedHouseModel", "blocks", "I", false)
  | 21 => ("NeedHouseModel", "endsDue", "I", false)
  | 22 => ("NeedHouseModel", "itemDue", "Z", false)
  | 23 => ("NeedHouseModel", "blockDue", "Z", false)
  | 24 => ("NeedHouseModel", "isLow", "Z", false)
  | 25 => ("NeedHouseModel", "fault", "I", false)
  | 26 => ("NeedHouseModel", "kind", "[I", true)
  | 27 => ("NeedHouseModel", "tok", "[I", true)
  | 28 => ("NeedHouseModel", "a", "[I", true)
  | 29 => ("NeedHouseModel", "b", "[I", true)
  | 30 => ("NeedHouseModel", "c", "[I", true)
  | 31 => ("NeedHouseModel", "next", "[I", true)
  | 32 => ("NeedHouseModel", "sym", "[I", true)
  | 33 => ("NeedHouseModel", "nodes", "I", false)
  | 34 => ("NeedHouseModel", "program", "I", false)
  | 35 => ("NeedHouseModel", "depth", "I", false)
  | 36 => ("NeedHouseModel", "sName", "[I", true)
  | 37 => ("NeedHouseModel", "sNode", "[I", true)
  | 38 => ("NeedHouseModel", "sGlobal", "[I", true)
  | 39 => ("NeedHouseModel", "told", "I", false)
  | 40 => ("NeedHouseModel", "scope", "[I", true)
  | 41 => ("NeedHouseModel", "scopes", "I", false)
  | 42 => ("NeedHouseModel", "dName", "[I", true)
  | 43 => ("NeedHouseModel", "dNode", "[I", true)
  | 44 => ("NeedHouseModel", "dMany", "[I", true)
  | 45 => ("NeedHouseModel", "datas", "I", false)
  | 46 => ("NeedHouseModel", "cName", "[I", true)
  | 47 => ("NeedHouseModel", "cNode", "[I", true)
  | 48 => ("NeedHouseModel", "cData", "[I", true)
  | 49 => ("NeedHouseModel", "cMany", "[I", true)
  | 50 => ("NeedHouseModel", "cons", "I", false)
  | 51 => ("NeedHouseModel", "definitions", "I", false)
  | 52 => ("NeedHouseModel", "globalSymbol", "[I", true)
  | 53 => ("NeedHouseModel", "bestToken", "I", false)
  | 54 => ("NeedHouseModel", "bestKind", "I", false)
  | 55 => ("NeedHouseModel", "tooMuch", "Z", false)
  | 56 => ("NeedHouseModel", "intName", "I", false)
  | 57 => ("NeedHouseModel", "sayName", "I", false)
  | 58 => ("NeedHouseModel", "mainName", "I", false)
  | 59 => ("NeedHouseModel", "free", "[J", true)
  | 60 => ("NeedHouseModel", "rest", "[J", true)
  | 61 => ("NeedHouseModel", "yKind", "[I", true)
  | 62 => ("NeedHouseModel", "yFrom", "[I", true)
  | 63 => ("NeedHouseModel", "yLike", "[I", true)
  | 64 => ("NeedHouseModel", "ySeen", "[I", true)
  | 65 => ("NeedHouseModel", "yCopy", "[I", true)
  | 66 => ("NeedHouseModel", "yFree", "[Z", true)
  | 67 => ("NeedHouseModel", "yPart", "[I", true)
  | 68 => ("NeedHouseModel", "types", "I", false)
  | 69 => ("NeedHouseModel", "partsUsed", "I", false)
  | 70 => ("NeedHouseModel", "stamp", "I", false)
  | 71 => ("NeedHouseModel", "trail", "[I", false)
  | 72 => ("NeedHouseModel", "closed", "[I", true)
  | 73 => ("NeedHouseModel", "sType", "[I", true)
  | 74 => ("NeedHouseModel", "sDone", "[Z", true)
  | 75 => ("NeedHouseModel", "sLooked", "[Z", true)
  | 76 => ("NeedHouseModel", "sGroup", "[I", true)
  | 77 => ("NeedHouseModel", "uses", "[J", true)
  | 78 => ("NeedHouseModel", "around", "[I", true)
  | 79 => ("NeedHouseModel", "arounds", "I", false)
  | 80 => ("NeedHouseModel", "groups", "I", false)
  | 81 => ("NeedHouseModel", "made", "[I", true)
  | 82 => ("NeedHouseModel", "made1", "I", false)
  | 83 => ("NeedHouseModel", "wasClosed", "Z", false)
  | 84 => ("NeedHouseModel", "fieldTypes", "[I", true)
  | 85 => ("NeedHouseModel", "conType", "I", false)
  | 86 => ("NeedHouseModel", "isMember", "[I", true)
  | 87 => ("NeedHouseModel", "member", "I", false)
  | 88 => ("NeedHouseModel", "said", "[B", true)
  | 89 => ("NeedHouseModel", "saidFrom", "[I", true)
  | 90 => ("NeedHouseModel", "saidTop", "I", false)
  | 91 => ("NeedHouseModel", "lettersOf", "[I", true)
  | 92 => ("NeedHouseModel", "lettersMany", "I", false)
  | 93 => ("NeedHouseModel", "strict", "[Z", true)
  | 94 => ("NeedHouseModel", "need", "[J", false)
  | 95 => ("NeedHouseModel", "isThere", "Z", false)
  | 96 => ("NeedHouseModel", "lexemesMany", "I", false)
  | 97 => ("NeedHouseModel", "hKind", "[I", true)
  | 98 => ("NeedHouseModel", "hSub", "[I", true)
  | 99 => ("NeedHouseModel", "hFrom", "[I", true)
  | 100 => ("NeedHouseModel", "hMany", "[I", true)
  | 101 => ("NeedHouseModel", "hState", "[I", true)
  | 102 => ("NeedHouseModel", "hValue", "[J", true)
  | 103 => ("NeedHouseModel", "hSeen", "[Z", true)
  | 104 => ("NeedHouseModel", "spare", "[I", true)
  | 105 => ("NeedHouseModel", "toSee", "[I", true)
  | 106 => ("NeedHouseModel", "spares", "I", false)
  | 107 => ("NeedHouseModel", "things", "I", false)
  | 108 => ("NeedHouseModel", "held", "[J", false)
  | 109 => ("NeedHouseModel", "other", "[J", false)
  | 110 => ("NeedHouseModel", "heldTop", "I", false)
  | 111 => ("NeedHouseModel", "bound", "I", false)
  | 112 => ("NeedHouseModel", "how", "I", false)
  | 113 => ("NeedHouseModel", "steps", "I", false)
  | 114 => ("NeedHouseModel", "thunksMade", "I", false)
  | 115 => ("NeedHouseModel", "gotValue", "I", false)
  | 116 => ("NeedHouseModel", "gState", "[I", true)
  | 117 => ("NeedHouseModel", "gValue", "[J", true)
  | 118 => ("NeedHouseModel", "now", "[J", true)
  | 119 => ("NeedHouseModel", "at", "I", false)
  | 120 => ("NeedHouseModel", "coming", "Z", false)
  | 121 => ("NeedHouseModel", "comes", "J", false)
  | 122 => ("NeedHouseModel", "wKind", "[I", true)
  | 123 => ("NeedHouseModel", "wNode", "[I", true)
  | 124 => ("NeedHouseModel", "wFrom", "[I", true)
  | 125 => ("NeedHouseModel", "wCon", "[I", true)
  | 126 => ("NeedHouseModel", "waits", "I", false)
  | 127 => ("NeedHouseModel", "kept", "[J", false)
  | 128 => ("NeedHouseModel", "given", "[J", true)
  | 129 => ("NeedHouseModel", "givens", "I", false)
  | 130 => ("NeedHouseModel", "giver", "J", false)
  | 131 => ("NeedHouseModel", "text", "[B", true)
  | 132 => ("NeedHouseModel", "textTop", "I", false)
  | 133 => ("NeedHouseModel", "output", "[I", true)
  | 134 => ("NeedHouseModel", "outputs", "I", false)
  | _ => ("NeedHouseModel", "seen", "I", false)
def tyX14 : Nat → FieldType := fun k => match k with
  | 0 => .object "NeedHouseModel$Halt"
  | 1 => .int
  | 2 => .array .int
  | 3 => .int
  | 4 => .array (.object "java/lang/String")
  | 5 => .array (.object "java/lang/String")
  | 6 => .array .int
  | 7 => .array .int
  | 8 => .array .int
  | 9 => .array .int
  | 10 => .int
  | 11 => .array .int
  | 12 => .array .int
  | 13 => .int
  | 14 => .array .int
  | 15 => .int
  | 16 => .array .int
  | 17 => .int
  | 18 => .array .int
  | 19 => .array .int
  | 20 => .int
  | 21 => .int
  | 22 => .boolean
  | 23 => .boolean
  | 24 => .boolean
  | 25 => .int
  | 26 => .array .int
  | 27 => .array .int
  | 28 => .array .int
  | 29 => .array .int
  | 30 => .array .int
  | 31 => .array .int
  | 32 => .array .int
  | 33 => .int
  | 34 => .int
  | 35 => .int
  | 36 => .array .int
  | 37 => .array .int
  | 38 => .array .int
  | 39 => .int
  | 40 => .array .int
  | 41 => .int
  | 42 => .array .int
  | 43 => .array .int
  | 44 => .array .int
  | 45 => .int
  | 46 => .array .int
  | 47 => .array .int
  | 48 => .array .int
  | 49 => .array .int
  | 50 => .int
  | 51 => .int
  | 52 => .array .int
  | 53 => .int
  | 54 => .int
  | 55 => .boolean
  | 56 => .int
  | 57 => .int
  | 58 => .int
  | 59 => .array .long
  | 60 => .array .long
  | 61 => .array .int
  | 62 => .array .int
  | 63 => .array .int
  | 64 => .array .int
  | 65 => .array .int
  | 66 => .array .boolean
  | 67 => .array .int
  | 68 => .int
  | 69 => .int
  | 70 => .int
  | 71 => .array .int
  | 72 => .array .int
  | 73 => .array .int
  | 74 => .array .boolean
  | 75 => .array .boolean
  | 76 => .array .int
  | 77 => .array .long
  | 78 => .array .int
  | 79 => .int
  | 80 => .int
  | 81 => .array .int
  | 82 => .int
  | 83 => .boolean
  | 84 => .array .int
  | 85 => .int
  | 86 => .array .int
  | 87 => .int
  | 88 => .array .byte
  | 89 => .array .int
  | 90 => .int
  | 91 => .array .int
  | 92 => .int
  | 93 => .array .boolean
  | 94 => .array .long
  | 95 => .boolean
  | 96 => .int
  | 97 => .array .int
  | 98 => .array .int
  | 99 => .array .int
  | 100 => .array .int
  | 101 => .array .int
  | 102 => .array .long
  | 103 => .array .boolean
  | 104 => .array .int
  | 105 => .array .int
  | 106 => .int
  | 107 => .int
  | 108 => .array .long
  | 109 => .array .long
  | 110 => .int
  | 111 => .int
  | 112 => .int
  | 113 => .int
  | 114 => .int
  | 115 => .int
  | 116 => .array .int
  | 117 => .array .long
  | 118 => .array .long
  | 119 => .int
  | 120 => .boolean
  | 121 => .long
  | 122 => .array .int
  | 123 => .array .int
  | 124 => .array .int
  | 125 => .array .int
  | 126 => .int
  | 127 => .array .long
  | 128 => .array .long
  | 129 => .int
  | 130 => .long
  | 131 => .array .byte
  | 132 => .int
  | 133 => .array .int
  | 134 => .int
  | _ => .int
abbrev wsX140 : List Cond := u_ws RX14 TX14 136
theorem nmX14 : ∀ a, a < 136 → ∀ b, b < 136 → a ≠ b → (TX14 a).2.1 ≠ (TX14 b).2.1 := by decide +kernel
theorem tyX14_ok : ∀ k, k < 136 → parseFieldDescriptor (TX14 k).2.2.1 = some (tyX14 k) := by decide +kernel
def RJ11 : String := "java/lang/Character"
def TJ11 : u_T := fun k => match k with
  | _ => ("", "", "", false)
def tyJ11 : Nat → FieldType := fun k => match k with
  | _ => .int
abbrev wsJ110 : List Cond := u_ws RJ11 TJ11 0
theorem nmJ11 : ∀ a, a < 0 → ∀ b, b < 0 → a ≠ b → (TJ11 a).2.1 ≠ (TJ11 b).2.1 := by decide +kernel
theorem tyJ11_ok : ∀ k, k < 0 → parseFieldDescriptor (TJ11 k).2.2.1 = some (tyJ11 k) := by decide +kernel
def RJ13 : String := "java/lang/Long"
def TJ13 : u_T := fun k => match k with
  | _ => ("", "", "", false)
def tyJ13 : Nat → FieldType := fun k => match k with
  | _ => .int
abbrev wsJ130 : List Cond := u_ws RJ13 TJ13 0
theorem nmJ13 : ∀ a, a < 0 → ∀ b, b < 0 → a ≠ b → (TJ13 a).2.1 ≠ (TJ13 b).2.1 := by decide +kernel
theorem tyJ13_ok : ∀ k, k < 0 → parseFieldDescriptor (TJ13 k).2.2.1 = some (tyJ13 k) := by decide +kernel
def RJ9 : String := "java/lang/Math"
def TJ9 : u_T := fun k => match k with
  | _ => ("", "", "", false)
def tyJ9 : Nat → FieldType := fun k => match k with
  | _ => .int
abbrev wsJ90 : List Cond := u_ws RJ9 TJ9 0
theorem nmJ9 : ∀ a, a < 0 → ∀ b, b < 0 → a ≠ b → (TJ9 a).2.1 ≠ (TJ9 b).2.1 := by decide +kernel
theorem tyJ9_ok : ∀ k, k < 0 → parseFieldDescriptor (TJ9 k).2.2.1 = some (tyJ9 k) := by decide +kernel
def RJ0 : String := "java/lang/String"
def TJ0 : u_T := fun k => match k with
  | _ => ("", "", "", false)
def tyJ0 : Nat → FieldType := fun k => match k with
  | _ => .int
abbrev wsJ00 : List Cond := u_ws RJ0 TJ0 0
theorem nmJ0 : ∀ a, a < 0 → ∀ b, b < 0 → a ≠ b → (TJ0 a).2.1 ≠ (TJ0 b).2.1 := by decide +kernel
theorem tyJ0_ok : ∀ k, k < 0 → parseFieldDescriptor (TJ0 k).2.2.1 = some (tyJ0 k) := by decide +kernel
def RJ1 : String := "java/lang/StringLatin1"
def TJ1 : u_T := fun k => match k with
  | _ => ("", "", "", false)
def tyJ1 : Nat → FieldType := fun k => match k with
  | _ => .int
abbrev wsJ10 : List Cond := u_ws RJ1 TJ1 0
theorem nmJ1 : ∀ a, a < 0 → ∀ b, b < 0 → a ≠ b → (TJ1 a).2.1 ≠ (TJ1 b).2.1 := by decide +kernel
theorem tyJ1_ok : ∀ k, k < 0 → parseFieldDescriptor (TJ1 k).2.2.1 = some (tyJ1 k) := by decide +kernel
def RJ2 : String := "java/lang/StringUTF16"
def TJ2 : u_T := fun k => match k with
  | _ => ("", "", "", false)
def tyJ2 : Nat → FieldType := fun k => match k with
  | _ => .int
abbrev wsJ20 : List Cond := u_ws RJ2 TJ2 0
theorem nmJ2 : ∀ a, a < 0 → ∀ b, b < 0 → a ≠ b → (TJ2 a).2.1 ≠ (TJ2 b).2.1 := by decide +kernel
theorem tyJ2_ok : ∀ k, k < 0 → parseFieldDescriptor (TJ2 k).2.2.1 = some (tyJ2 k) := by decide +kernel
def RJ10 : String := "java/lang/System"
def TJ10 : u_T := fun k => match k with
  | _ => ("", "", "", false)
def tyJ10 : Nat → FieldType := fun k => match k with
  | _ => .int
abbrev wsJ100 : List Cond := u_ws RJ10 TJ10 0
theorem nmJ10 : ∀ a, a < 0 → ∀ b, b < 0 → a ≠ b → (TJ10 a).2.1 ≠ (TJ10 b).2.1 := by decide +kernel
theorem tyJ10_ok : ∀ k, k < 0 → parseFieldDescriptor (TJ10 k).2.2.1 = some (tyJ10 k) := by decide +kernel
def RJ7 : String := "java/util/Arrays"
def TJ7 : u_T := fun k => match k with
  | _ => ("", "", "", false)
def tyJ7 : Nat → FieldType := fun k => match k with
  | _ => .int
abbrev wsJ70 : List Cond := u_ws RJ7 TJ7 0
theorem nmJ7 : ∀ a, a < 0 → ∀ b, b < 0 → a ≠ b → (TJ7 a).2.1 ≠ (TJ7 b).2.1 := by decide +kernel
theorem tyJ7_ok : ∀ k, k < 0 → parseFieldDescriptor (TJ7 k).2.2.1 = some (tyJ7 k) := by decide +kernel
def RJ3 : String := "jdk/internal/util/Preconditions"
def TJ3 : u_T := fun k => match k with
  | _ => ("", "", "", false)
def tyJ3 : Nat → FieldType := fun k => match k with
  | _ => .int
abbrev wsJ30 : List Cond := u_ws RJ3 TJ3 0
theorem nmJ3 : ∀ a, a < 0 → ∀ b, b < 0 → a ≠ b → (TJ3 a).2.1 ≠ (TJ3 b).2.1 := by decide +kernel
theorem tyJ3_ok : ∀ k, k < 0 → parseFieldDescriptor (TJ3 k).2.2.1 = some (tyJ3 k) := by decide +kernel
abbrev cX0_init : ByteArray := prog_2_method_1_code
def yX0_init : MethodName := ⟨RX0, "<init>", "(LNeedHouse$Lexemes;)V"⟩
abbrev cX0_clear : ByteArray := prog_2_method_2_code
def yX0_clear : MethodName := ⟨RX0, "clear", "()V"⟩
abbrev cX0_tellData : ByteArray := prog_2_method_3_code
def yX0_tellData : MethodName := ⟨RX0, "tellData", "(I)V"⟩
abbrev cX0_tellName : ByteArray := prog_2_method_4_code
def yX0_tellName : MethodName := ⟨RX0, "tellName", "(I)V"⟩
abbrev cX0_tellCon : ByteArray := prog_2_method_5_code
def yX0_tellCon : MethodName := ⟨RX0, "tellCon", "(I)V"⟩
abbrev cX0_tellField : ByteArray := prog_2_method_6_code
def yX0_tellField : MethodName := ⟨RX0, "tellField", "()V"⟩
abbrev cX0_addCode : ByteArray := prog_2_method_7_code
def yX0_addCode : MethodName := ⟨RX0, "addCode", "(II)V"⟩
abbrev cX0_addName : ByteArray := prog_2_method_8_code
def yX0_addName : MethodName := ⟨RX0, "addName", "(I)V"⟩
abbrev cX0_addCon : ByteArray := prog_2_method_9_code
def yX0_addCon : MethodName := ⟨RX0, "addCon", "(I)V"⟩
abbrev cX0_setParts : ByteArray := prog_2_method_10_code
def yX0_setParts : MethodName := ⟨RX0, "setParts", "(II)V"⟩
abbrev cX0_insertCode : ByteArray := prog_2_method_11_code
def yX0_insertCode : MethodName := ⟨RX0, "insertCode", "(II)V"⟩
abbrev cX0_check : ByteArray := prog_2_method_12_code
def yX0_check : MethodName := ⟨RX0, "check", "()V"⟩
abbrev cX0_checkData : ByteArray := prog_2_method_13_code
def yX0_checkData : MethodName := ⟨RX0, "checkData", "(I)V"⟩
abbrev cX0_checkFields : ByteArray := prog_2_method_14_code
def yX0_checkFields : MethodName := ⟨RX0, "checkFields", "(I)V"⟩
abbrev cX0_lookUpName : ByteArray := prog_2_method_15_code
def yX0_lookUpName : MethodName := ⟨RX0, "lookUpName", "(II)V"⟩
abbrev cX0_lookUpType : ByteArray := prog_2_method_16_code
def yX0_lookUpType : MethodName := ⟨RX0, "lookUpType", "(I)V"⟩
abbrev cX0_partsOf : ByteArray := prog_2_method_17_code
def yX0_partsOf : MethodName := ⟨RX0, "partsOf", "(I)I"⟩
abbrev cX0_conNamed : ByteArray := prog_2_method_18_code
def yX0_conNamed : MethodName := ⟨RX0, "conNamed", "(I)I"⟩
abbrev cX0_symbolOfCon : ByteArray := prog_2_method_19_code
def yX0_symbolOfCon : MethodName := ⟨RX0, "symbolOfCon", "(I)I"⟩
abbrev cX0_symbolOfData : ByteArray := prog_2_method_20_code
def yX0_symbolOfData : MethodName := ⟨RX0, "symbolOfData", "(I)I"⟩
abbrev cX0_beyondLimits : ByteArray := prog_2_method_21_code
def yX0_beyondLimits : MethodName := ⟨RX0, "beyondLimits", "()Z"⟩
abbrev cX1_init : ByteArray := prog_3_method_1_code
def yX1_init : MethodName := ⟨RX1, "<init>", "(LNeedHouse$Lexemes;)V"⟩
abbrev cX1_open : ByteArray := prog_3_method_2_code
def yX1_open : MethodName := ⟨RX1, "open", "()V"⟩
abbrev cX1_advance : ByteArray := prog_3_method_3_code
def yX1_advance : MethodName := ⟨RX1, "advance", "()V"⟩
abbrev cX1_refuse : ByteArray := prog_3_method_4_code
def yX1_refuse : MethodName := ⟨RX1, "refuse", "(I)V"⟩
abbrev cX1_arrive : ByteArray := prog_3_method_5_code
def yX1_arrive : MethodName := ⟨RX1, "arrive", "()V"⟩
abbrev cX1_push : ByteArray := prog_3_method_6_code
def yX1_push : MethodName := ⟨RX1, "push", "(I)V"⟩
abbrev cX1_beginLine : ByteArray := prog_3_method_7_code
def yX1_beginLine : MethodName := ⟨RX1, "beginLine", "()Z"⟩
abbrev cX1_lastBlock : ByteArray := prog_3_method_8_code
def yX1_lastBlock : MethodName := ⟨RX1, "lastBlock", "()I"⟩
abbrev cX1_close : ByteArray := prog_3_method_9_code
def yX1_close : MethodName := ⟨RX1, "close", "(II)Z"⟩
abbrev cX1_closes : ByteArray := prog_3_method_10_code
def yX1_closes : MethodName := ⟨RX1, "closes", "(I)I"⟩
abbrev cX1_opens : ByteArray := prog_3_method_11_code
def yX1_opens : MethodName := ⟨RX1, "opens", "(I)Z"⟩
abbrev cX2_init : ByteArray := prog_4_method_1_code
def yX2_init : MethodName := ⟨RX2, "<init>", "()V"⟩
abbrev cX2_scan : ByteArray := prog_4_method_2_code
def yX2_scan : MethodName := ⟨RX2, "scan", "([BI)V"⟩
abbrev cX2_isPair : ByteArray := prog_4_method_3_code
def yX2_isPair : MethodName := ⟨RX2, "isPair", "([BIIII)Z"⟩
abbrev cX2_lineEnd : ByteArray := prog_4_method_4_code
def yX2_lineEnd : MethodName := ⟨RX2, "lineEnd", "([BII)I"⟩
abbrev cX2_lexeme : ByteArray := prog_4_method_5_code
def yX2_lexeme : MethodName := ⟨RX2, "lexeme", "([BII)I"⟩
abbrev cX2_word : ByteArray := prog_4_method_6_code
def yX2_word : MethodName := ⟨RX2, "word", "([BII)I"⟩
abbrev cX2_number : ByteArray := prog_4_method_7_code
def yX2_number : MethodName := ⟨RX2, "number", "([BII)I"⟩
abbrev cX2_isSmall : ByteArray := prog_4_method_8_code
def yX2_isSmall : MethodName := ⟨RX2, "isSmall", "(I)Z"⟩
abbrev cX2_isGreat : ByteArray := prog_4_method_9_code
def yX2_isGreat : MethodName := ⟨RX2, "isGreat", "(I)Z"⟩
abbrev cX2_isDigit : ByteArray := prog_4_method_10_code
def yX2_isDigit : MethodName := ⟨RX2, "isDigit", "(I)Z"⟩
abbrev cX2_isInWord : ByteArray := prog_4_method_11_code
def yX2_isInWord : MethodName := ⟨RX2, "isInWord", "(I)Z"⟩
abbrev cX2_learnKnown : ByteArray := prog_4_method_12_code
def yX2_learnKnown : MethodName := ⟨RX2, "learnKnown", "()V"⟩
abbrev cX2_symbolOf : ByteArray := prog_4_method_13_code
def yX2_symbolOf : MethodName := ⟨RX2, "symbolOf", "(JJ)I"⟩
abbrev cX2_newSymbol : ByteArray := prog_4_method_14_code
def yX2_newSymbol : MethodName := ⟨RX2, "newSymbol", "(IJJ)I"⟩
abbrev cX2_letter : ByteArray := prog_4_method_15_code
def yX2_letter : MethodName := ⟨RX2, "letter", "(II)I"⟩
abbrev cX2_fail : ByteArray := prog_4_method_16_code
def yX2_fail : MethodName := ⟨RX2, "fail", "(II)V"⟩
abbrev cX2_failWhole : ByteArray := prog_4_method_17_code
def yX2_failWhole : MethodName := ⟨RX2, "failWhole", "()V"⟩
abbrev cX2_note : ByteArray := prog_4_method_18_code
def yX2_note : MethodName := ⟨RX2, "note", "(II)V"⟩
abbrev cX2_settle : ByteArray := prog_4_method_19_code
def yX2_settle : MethodName := ⟨RX2, "settle", "()V"⟩
abbrev cX3_init : ByteArray := prog_5_method_1_code
def yX3_init : MethodName := ⟨RX3, "<init>", "(LNeedHouse$Lexemes;LNeedHouse$Tree;LNeedHouse$Told;LNeedHouse$Datas;LNeedHouse$Needs;)V"⟩
abbrev cX3_forget : ByteArray := prog_5_method_2_code
def yX3_forget : MethodName := ⟨RX3, "forget", "()V"⟩
abbrev cX3_begun : ByteArray := prog_5_method_3_code
def yX3_begun : MethodName := ⟨RX3, "begun", "()Z"⟩
abbrev cX3_goesOn : ByteArray := prog_5_method_4_code
def yX3_goesOn : MethodName := ⟨RX3, "goesOn", "()Z"⟩
abbrev cX3_start : ByteArray := prog_5_method_5_code
def yX3_start : MethodName := ⟨RX3, "start", "()V"⟩
abbrev cX3_isValue : ByteArray := prog_5_method_6_code
def yX3_isValue : MethodName := ⟨RX3, "isValue", "(I)Z"⟩
abbrev cX3_go : ByteArray := prog_5_method_7_code
def yX3_go : MethodName := ⟨RX3, "go", "(I)I"⟩
abbrev cX3_counted : ByteArray := prog_5_method_8_code
def yX3_counted : MethodName := ⟨RX3, "counted", "(I)I"⟩
abbrev cX3_outputAt : ByteArray := prog_5_method_9_code
def yX3_outputAt : MethodName := ⟨RX3, "outputAt", "(I)I"⟩
abbrev cX3_globalIs : ByteArray := prog_5_method_10_code
def yX3_globalIs : MethodName := ⟨RX3, "globalIs", "(II)I"⟩
abbrev cX3_step : ByteArray := prog_5_method_11_code
def yX3_step : MethodName := ⟨RX3, "step", "()V"⟩
abbrev cX3_waitFor : ByteArray := prog_5_method_12_code
def yX3_waitFor : MethodName := ⟨RX3, "waitFor", "(II)V"⟩
abbrev cX3_canMake : ByteArray := prog_5_method_13_code
def yX3_canMake : MethodName := ⟨RX3, "canMake", "(I)Z"⟩
abbrev cX3_build : ByteArray := prog_5_method_14_code
def yX3_build : MethodName := ⟨RX3, "build", "(I)V"⟩
abbrev cX3_call : ByteArray := prog_5_method_15_code
def yX3_call : MethodName := ⟨RX3, "call", "(I)V"⟩
abbrev cX3_let : ByteArray := prog_5_method_16_code
def yX3_let : MethodName := ⟨RX3, "let", "(I)V"⟩
abbrev cX3_ask : ByteArray := prog_5_method_17_code
def yX3_ask : MethodName := ⟨RX3, "ask", "(J)V"⟩
abbrev cX3_askGlobal : ByteArray := prog_5_method_18_code
def yX3_askGlobal : MethodName := ⟨RX3, "askGlobal", "(J)V"⟩
abbrev cX3_waitForThunk : ByteArray := prog_5_method_19_code
def yX3_waitForThunk : MethodName := ⟨RX3, "waitForThunk", "(J)Z"⟩
abbrev cX3_give : ByteArray := prog_5_method_20_code
def yX3_give : MethodName := ⟨RX3, "give", "(J)V"⟩
abbrev cX3_handOn : ByteArray := prog_5_method_21_code
def yX3_handOn : MethodName := ⟨RX3, "handOn", "()Z"⟩
abbrev cX3_isTrue : ByteArray := prog_5_method_22_code
def yX3_isTrue : MethodName := ⟨RX3, "isTrue", "()Z"⟩
abbrev cX3_putOutput : ByteArray := prog_5_method_23_code
def yX3_putOutput : MethodName := ⟨RX3, "putOutput", "(I)V"⟩
abbrev cX3_settle : ByteArray := prog_5_method_24_code
def yX3_settle : MethodName := ⟨RX3, "settle", "()Z"⟩
abbrev cX3_choose : ByteArray := prog_5_method_25_code
def yX3_choose : MethodName := ⟨RX3, "choose", "(I)Z"⟩
abbrev cX3_fits : ByteArray := prog_5_method_26_code
def yX3_fits : MethodName := ⟨RX3, "fits", "(I)Z"⟩
abbrev cX3_nameFields : ByteArray := prog_5_method_27_code
def yX3_nameFields : MethodName := ⟨RX3, "nameFields", "(I)V"⟩
abbrev cX3_decide : ByteArray := prog_5_method_28_code
def yX3_decide : MethodName := ⟨RX3, "decide", "(I)Z"⟩
abbrev cX3_reckon : ByteArray := prog_5_method_29_code
def yX3_reckon : MethodName := ⟨RX3, "reckon", "(I)Z"⟩
abbrev cX3_isNumber : ByteArray := prog_5_method_30_code
def yX3_isNumber : MethodName := ⟨RX3, "isNumber", "(I)Z"⟩
abbrev cX3_isBool : ByteArray := prog_5_method_31_code
def yX3_isBool : MethodName := ⟨RX3, "isBool", "(Z)Z"⟩
abbrev cX3_held : ByteArray := prog_5_method_32_code
def yX3_held : MethodName := ⟨RX3, "held", "(J)I"⟩
abbrev cX3_functionOf : ByteArray := prog_5_method_33_code
def yX3_functionOf : MethodName := ⟨RX3, "functionOf", "(J)J"⟩
abbrev cX3_wants : ByteArray := prog_5_method_34_code
def yX3_wants : MethodName := ⟨RX3, "wants", "(J)I"⟩
abbrev cX3_given : ByteArray := prog_5_method_35_code
def yX3_given : MethodName := ⟨RX3, "given", "(I)J"⟩
abbrev cX3_apply : ByteArray := prog_5_method_36_code
def yX3_apply : MethodName := ⟨RX3, "apply", "()Z"⟩
abbrev cX3_gather : ByteArray := prog_5_method_37_code
def yX3_gather : MethodName := ⟨RX3, "gather", "(IZ)Z"⟩
abbrev cX3_say : ByteArray := prog_5_method_38_code
def yX3_say : MethodName := ⟨RX3, "say", "()Z"⟩
abbrev cX3_enter : ByteArray := prog_5_method_39_code
def yX3_enter : MethodName := ⟨RX3, "enter", "(J)V"⟩
abbrev cX3_show : ByteArray := prog_5_method_40_code
def yX3_show : MethodName := ⟨RX3, "show", "()V"⟩
abbrev cX3_showFields : ByteArray := prog_5_method_41_code
def yX3_showFields : MethodName := ⟨RX3, "showFields", "(I)V"⟩
abbrev cX3_showRest : ByteArray := prog_5_method_42_code
def yX3_showRest : MethodName := ⟨RX3, "showRest", "()V"⟩
abbrev cX3_goOn : ByteArray := prog_5_method_43_code
def yX3_goOn : MethodName := ⟨RX3, "goOn", "()V"⟩
abbrev cX4_init : ByteArray := prog_6_method_1_code
def yX4_init : MethodName := ⟨RX4, "<init>", "(LNeedHouse$Tree;LNeedHouse$Told;)V"⟩
abbrev cX4_find : ByteArray := prog_6_method_2_code
def yX4_find : MethodName := ⟨RX4, "find", "()V"⟩
abbrev cX4_unite : ByteArray := prog_6_method_3_code
def yX4_unite : MethodName := ⟨RX4, "unite", "([JII)V"⟩
abbrev cX4_meet : ByteArray := prog_6_method_4_code
def yX4_meet : MethodName := ⟨RX4, "meet", "([JII)V"⟩
abbrev cX4_empty : ByteArray := prog_6_method_5_code
def yX4_empty : MethodName := ⟨RX4, "empty", "([JI)V"⟩
abbrev cX4_include : ByteArray := prog_6_method_6_code
def yX4_include : MethodName := ⟨RX4, "include", "([JII)V"⟩
abbrev cX4_includes : ByteArray := prog_6_method_7_code
def yX4_includes : MethodName := ⟨RX4, "includes", "([JII)Z"⟩
abbrev cX4_excludeScope : ByteArray := prog_6_method_8_code
def yX4_excludeScope : MethodName := ⟨RX4, "excludeScope", "([JII)V"⟩
abbrev cX4_findFree : ByteArray := prog_6_method_9_code
def yX4_findFree : MethodName := ⟨RX4, "findFree", "(I)V"⟩
abbrev cX4_findFreeOfRest : ByteArray := prog_6_method_10_code
def yX4_findFreeOfRest : MethodName := ⟨RX4, "findFreeOfRest", "(I)V"⟩
abbrev cX4_findFreeOfParts : ByteArray := prog_6_method_11_code
def yX4_findFreeOfParts : MethodName := ⟨RX4, "findFreeOfParts", "(I)V"⟩
abbrev cX4_listFree : ByteArray := prog_6_method_12_code
def yX4_listFree : MethodName := ⟨RX4, "listFree", "(I)V"⟩
abbrev cX4_nodeOf : ByteArray := prog_6_method_13_code
def yX4_nodeOf : MethodName := ⟨RX4, "nodeOf", "(I)I"⟩
abbrev cX4_findCells : ByteArray := prog_6_method_14_code
def yX4_findCells : MethodName := ⟨RX4, "findCells", "(I)V"⟩
abbrev cX4_addParts : ByteArray := prog_6_method_15_code
def yX4_addParts : MethodName := ⟨RX4, "addParts", "(I)V"⟩
abbrev cX4_addDefinitions : ByteArray := prog_6_method_16_code
def yX4_addDefinitions : MethodName := ⟨RX4, "addDefinitions", "(I)V"⟩
abbrev cX4_findStrict : ByteArray := prog_6_method_17_code
def yX4_findStrict : MethodName := ⟨RX4, "findStrict", "()V"⟩
abbrev cX4_dropUnneeded : ByteArray := prog_6_method_18_code
def yX4_dropUnneeded : MethodName := ⟨RX4, "dropUnneeded", "()Z"⟩
abbrev cX4_isStrict : ByteArray := prog_6_method_19_code
def yX4_isStrict : MethodName := ⟨RX4, "isStrict", "(I)Z"⟩
abbrev cX4_findNeed : ByteArray := prog_6_method_20_code
def yX4_findNeed : MethodName := ⟨RX4, "findNeed", "(I)V"⟩
abbrev cX4_findNeedOfLet : ByteArray := prog_6_method_21_code
def yX4_findNeedOfLet : MethodName := ⟨RX4, "findNeedOfLet", "(I)V"⟩
abbrev cX4_findNeedOfRest : ByteArray := prog_6_method_22_code
def yX4_findNeedOfRest : MethodName := ⟨RX4, "findNeedOfRest", "(I)V"⟩
abbrev cX4_findNeedOfCall : ByteArray := prog_6_method_23_code
def yX4_findNeedOfCall : MethodName := ⟨RX4, "findNeedOfCall", "(I)V"⟩
abbrev cX5_init : ByteArray := prog_7_method_1_code
def yX5_init : MethodName := ⟨RX5, "<init>", "(LNeedHouse$Lexemes;LNeedHouse$Tree;LNeedHouse$Told;LNeedHouse$Datas;)V"⟩
abbrev cX5_program : ByteArray := prog_7_method_2_code
def yX5_program : MethodName := ⟨RX5, "program", "()V"⟩
abbrev cX5_endItem : ByteArray := prog_7_method_3_code
def yX5_endItem : MethodName := ⟨RX5, "endItem", "()V"⟩
abbrev cX5_expect : ByteArray := prog_7_method_4_code
def yX5_expect : MethodName := ⟨RX5, "expect", "(I)V"⟩
abbrev cX5_data : ByteArray := prog_7_method_5_code
def yX5_data : MethodName := ⟨RX5, "data", "()V"⟩
abbrev cX5_beginsTypeAtom : ByteArray := prog_7_method_6_code
def yX5_beginsTypeAtom : MethodName := ⟨RX5, "beginsTypeAtom", "()Z"⟩
abbrev cX5_type : ByteArray := prog_7_method_7_code
def yX5_type : MethodName := ⟨RX5, "type", "(I)V"⟩
abbrev cX5_typeCall : ByteArray := prog_7_method_8_code
def yX5_typeCall : MethodName := ⟨RX5, "typeCall", "(I)V"⟩
abbrev cX5_typeAtom : ByteArray := prog_7_method_9_code
def yX5_typeAtom : MethodName := ⟨RX5, "typeAtom", "(I)V"⟩
abbrev cX5_definition : ByteArray := prog_7_method_10_code
def yX5_definition : MethodName := ⟨RX5, "definition", "(II)V"⟩
abbrev cX5_names : ByteArray := prog_7_method_11_code
def yX5_names : MethodName := ⟨RX5, "names", "(I)V"⟩
abbrev cX5_beginsAtom : ByteArray := prog_7_method_12_code
def yX5_beginsAtom : MethodName := ⟨RX5, "beginsAtom", "()Z"⟩
abbrev cX5_expression : ByteArray := prog_7_method_13_code
def yX5_expression : MethodName := ⟨RX5, "expression", "(II)I"⟩
abbrev cX5_lambda : ByteArray := prog_7_method_14_code
def yX5_lambda : MethodName := ⟨RX5, "lambda", "(II)I"⟩
abbrev cX5_let : ByteArray := prog_7_method_15_code
def yX5_let : MethodName := ⟨RX5, "let", "(II)I"⟩
abbrev cX5_choice : ByteArray := prog_7_method_16_code
def yX5_choice : MethodName := ⟨RX5, "choice", "(II)I"⟩
abbrev cX5_cases : ByteArray := prog_7_method_17_code
def yX5_cases : MethodName := ⟨RX5, "cases", "(II)I"⟩
abbrev cX5_pattern : ByteArray := prog_7_method_18_code
def yX5_pattern : MethodName := ⟨RX5, "pattern", "(I)I"⟩
abbrev cX5_beginsPlace : ByteArray := prog_7_method_19_code
def yX5_beginsPlace : MethodName := ⟨RX5, "beginsPlace", "()Z"⟩
abbrev cX5_place : ByteArray := prog_7_method_20_code
def yX5_place : MethodName := ⟨RX5, "place", "(I)V"⟩
abbrev cX5_chain : ByteArray := prog_7_method_21_code
def yX5_chain : MethodName := ⟨RX5, "chain", "(II)I"⟩
abbrev cX5_hold : ByteArray := prog_7_method_22_code
def yX5_hold : MethodName := ⟨RX5, "hold", "(I)V"⟩
abbrev cX5_holdSign : ByteArray := prog_7_method_23_code
def yX5_holdSign : MethodName := ⟨RX5, "holdSign", "(I)V"⟩
abbrev cX5_tie : ByteArray := prog_7_method_24_code
def yX5_tie : MethodName := ⟨RX5, "tie", "(II)V"⟩
abbrev cX5_call : ByteArray := prog_7_method_25_code
def yX5_call : MethodName := ⟨RX5, "call", "(II)I"⟩
abbrev cX5_atom : ByteArray := prog_7_method_26_code
def yX5_atom : MethodName := ⟨RX5, "atom", "(II)I"⟩
abbrev cX5_brackets : ByteArray := prog_7_method_27_code
def yX5_brackets : MethodName := ⟨RX5, "brackets", "(III)I"⟩
abbrev cX5_list : ByteArray := prog_7_method_28_code
def yX5_list : MethodName := ⟨RX5, "list", "(III)I"⟩
abbrev cX6_init : ByteArray := prog_8_method_1_code
def yX6_init : MethodName := ⟨RX6, "<init>", "(LNeedHouse$Lexemes;I)V"⟩
abbrev cX6_clear : ByteArray := prog_8_method_2_code
def yX6_clear : MethodName := ⟨RX6, "clear", "()V"⟩
abbrev cX6_size : ByteArray := prog_8_method_3_code
def yX6_size : MethodName := ⟨RX6, "size", "()I"⟩
abbrev cX6_at : ByteArray := prog_8_method_4_code
def yX6_at : MethodName := ⟨RX6, "at", "(I)I"⟩
abbrev cX6_put : ByteArray := prog_8_method_5_code
def yX6_put : MethodName := ⟨RX6, "put", "(I)V"⟩
abbrev cX6_putWord : ByteArray := prog_8_method_6_code
def yX6_putWord : MethodName := ⟨RX6, "putWord", "(Ljava/lang/String;)V"⟩
abbrev cX6_putSymbol : ByteArray := prog_8_method_7_code
def yX6_putSymbol : MethodName := ⟨RX6, "putSymbol", "(I)V"⟩
abbrev cX6_putNumber : ByteArray := prog_8_method_8_code
def yX6_putNumber : MethodName := ⟨RX6, "putNumber", "(I)V"⟩
abbrev cX7_init : ByteArray := prog_9_method_1_code
def yX7_init : MethodName := ⟨RX7, "<init>", "(LNeedHouse$Tree;LNeedHouse$Told;LNeedHouse$Datas;LNeedHouse$Needs;)V"⟩
abbrev cX7_valueOf : ByteArray := prog_9_method_2_code
def yX7_valueOf : MethodName := ⟨RX7, "valueOf", "(II)J"⟩
abbrev cX7_kindOf : ByteArray := prog_9_method_3_code
def yX7_kindOf : MethodName := ⟨RX7, "kindOf", "(J)I"⟩
abbrev cX7_whichOf : ByteArray := prog_9_method_4_code
def yX7_whichOf : MethodName := ⟨RX7, "whichOf", "(J)I"⟩
abbrev cX7_clear : ByteArray := prog_9_method_5_code
def yX7_clear : MethodName := ⟨RX7, "clear", "()V"⟩
abbrev cX7_nextThingIs : ByteArray := prog_9_method_6_code
def yX7_nextThingIs : MethodName := ⟨RX7, "nextThingIs", "(J)V"⟩
abbrev cX7_objectKind : ByteArray := prog_9_method_7_code
def yX7_objectKind : MethodName := ⟨RX7, "objectKind", "(J)I"⟩
abbrev cX7_objectOf : ByteArray := prog_9_method_8_code
def yX7_objectOf : MethodName := ⟨RX7, "objectOf", "(J)I"⟩
abbrev cX7_field : ByteArray := prog_9_method_9_code
def yX7_field : MethodName := ⟨RX7, "field", "(JI)J"⟩
abbrev cX7_setField : ByteArray := prog_9_method_10_code
def yX7_setField : MethodName := ⟨RX7, "setField", "(JIJ)V"⟩
abbrev cX7_setKind : ByteArray := prog_9_method_11_code
def yX7_setKind : MethodName := ⟨RX7, "setKind", "(JI)V"⟩
abbrev cX7_cellsThere : ByteArray := prog_9_method_12_code
def yX7_cellsThere : MethodName := ⟨RX7, "cellsThere", "()I"⟩
abbrev cX7_make : ByteArray := prog_9_method_13_code
def yX7_make : MethodName := ⟨RX7, "make", "(III)J"⟩
abbrev cX7_hasRoom : ByteArray := prog_9_method_14_code
def yX7_hasRoom : MethodName := ⟨RX7, "hasRoom", "(I)Z"⟩
abbrev cX7_moved : ByteArray := prog_9_method_15_code
def yX7_moved : MethodName := ⟨RX7, "moved", "(J)J"⟩
abbrev cX7_sizeOf : ByteArray := prog_9_method_16_code
def yX7_sizeOf : MethodName := ⟨RX7, "sizeOf", "(J)I"⟩
abbrev cX7_named : ByteArray := prog_9_method_17_code
def yX7_named : MethodName := ⟨RX7, "named", "(I)J"⟩
abbrev cX7_globalThing : ByteArray := prog_9_method_18_code
def yX7_globalThing : MethodName := ⟨RX7, "globalThing", "(I)J"⟩
abbrev cX7_constructor : ByteArray := prog_9_method_19_code
def yX7_constructor : MethodName := ⟨RX7, "constructor", "(I)J"⟩
abbrev cX7_conOf : ByteArray := prog_9_method_20_code
def yX7_conOf : MethodName := ⟨RX7, "conOf", "(J)I"⟩
abbrev cX7_thing : ByteArray := prog_9_method_21_code
def yX7_thing : MethodName := ⟨RX7, "thing", "(I)J"⟩
abbrev cX7_thunk : ByteArray := prog_9_method_22_code
def yX7_thunk : MethodName := ⟨RX7, "thunk", "(I)J"⟩
abbrev cX7_list : ByteArray := prog_9_method_23_code
def yX7_list : MethodName := ⟨RX7, "list", "(II)J"⟩
abbrev cX7_definitionThing : ByteArray := prog_9_method_24_code
def yX7_definitionThing : MethodName := ⟨RX7, "definitionThing", "(I)J"⟩
abbrev cX7_later : ByteArray := prog_9_method_25_code
def yX7_later : MethodName := ⟨RX7, "later", "(JI)J"⟩
abbrev cX7_fill : ByteArray := prog_9_method_26_code
def yX7_fill : MethodName := ⟨RX7, "fill", "()V"⟩
abbrev cX7_release : ByteArray := prog_9_method_27_code
def yX7_release : MethodName := ⟨RX7, "release", "(JII)V"⟩
abbrev cX7_push : ByteArray := prog_9_method_28_code
def yX7_push : MethodName := ⟨RX7, "push", "(II)Z"⟩
abbrev cX7_topKind : ByteArray := prog_9_method_29_code
def yX7_topKind : MethodName := ⟨RX7, "topKind", "()I"⟩
abbrev cX7_topNode : ByteArray := prog_9_method_30_code
def yX7_topNode : MethodName := ⟨RX7, "topNode", "()I"⟩
abbrev cX7_setTopKind : ByteArray := prog_9_method_31_code
def yX7_setTopKind : MethodName := ⟨RX7, "setTopKind", "(I)V"⟩
abbrev cX7_pop : ByteArray := prog_9_method_32_code
def yX7_pop : MethodName := ⟨RX7, "pop", "()V"⟩
abbrev cX7_topHolds : ByteArray := prog_9_method_33_code
def yX7_topHolds : MethodName := ⟨RX7, "topHolds", "()I"⟩
abbrev cX7_keep : ByteArray := prog_9_method_34_code
def yX7_keep : MethodName := ⟨RX7, "keep", "(J)V"⟩
abbrev cX7_drop : ByteArray := prog_9_method_35_code
def yX7_drop : MethodName := ⟨RX7, "drop", "()J"⟩
abbrev cX7_keepFree : ByteArray := prog_9_method_36_code
def yX7_keepFree : MethodName := ⟨RX7, "keepFree", "(I)V"⟩
abbrev cX7_popFree : ByteArray := prog_9_method_37_code
def yX7_popFree : MethodName := ⟨RX7, "popFree", "(I)V"⟩
abbrev cX7_popArguments : ByteArray := prog_9_method_38_code
def yX7_popArguments : MethodName := ⟨RX7, "popArguments", "()V"⟩
abbrev cX8_init : ByteArray := prog_10_method_1_code
def yX8_init : MethodName := ⟨RX8, "<init>", "(LNeedHouse$Lexemes;)V"⟩
abbrev cX8_clear : ByteArray := prog_10_method_2_code
def yX8_clear : MethodName := ⟨RX8, "clear", "()V"⟩
abbrev cX8_openScope : ByteArray := prog_10_method_3_code
def yX8_openScope : MethodName := ⟨RX8, "openScope", "(II)I"⟩
abbrev cX8_tell : ByteArray := prog_10_method_4_code
def yX8_tell : MethodName := ⟨RX8, "tell", "(II)I"⟩
abbrev cX8_tellNothing : ByteArray := prog_10_method_5_code
def yX8_tellNothing : MethodName := ⟨RX8, "tellNothing", "(I)V"⟩
abbrev cX8_meaning : ByteArray := prog_10_method_6_code
def yX8_meaning : MethodName := ⟨RX8, "meaning", "(II)I"⟩
abbrev cX8_named : ByteArray := prog_10_method_7_code
def yX8_named : MethodName := ⟨RX8, "named", "(II)I"⟩
abbrev cX8_isDefinition : ByteArray := prog_10_method_8_code
def yX8_isDefinition : MethodName := ⟨RX8, "isDefinition", "(I)Z"⟩
abbrev cX8_isLocal : ByteArray := prog_10_method_9_code
def yX8_isLocal : MethodName := ⟨RX8, "isLocal", "(I)Z"⟩
abbrev cX8_check : ByteArray := prog_10_method_10_code
def yX8_check : MethodName := ⟨RX8, "check", "()V"⟩
abbrev cX8_mainOf : ByteArray := prog_10_method_11_code
def yX8_mainOf : MethodName := ⟨RX8, "mainOf", "()I"⟩
abbrev cX9_init : ByteArray := prog_11_method_1_code
def yX9_init : MethodName := ⟨RX9, "<init>", "(LNeedHouse$Lexemes;LNeedHouse$Told;LNeedHouse$Datas;)V"⟩
abbrev cX9_clear : ByteArray := prog_11_method_2_code
def yX9_clear : MethodName := ⟨RX9, "clear", "()V"⟩
abbrev cX9_add : ByteArray := prog_11_method_3_code
def yX9_add : MethodName := ⟨RX9, "add", "(IIIII)I"⟩
abbrev cX9_addWhole : ByteArray := prog_11_method_4_code
def yX9_addWhole : MethodName := ⟨RX9, "addWhole", "(III[III)I"⟩
abbrev cX9_addItem : ByteArray := prog_11_method_5_code
def yX9_addItem : MethodName := ⟨RX9, "addItem", "(IIII)I"⟩
abbrev cX9_check : ByteArray := prog_11_method_6_code
def yX9_check : MethodName := ⟨RX9, "check", "()V"⟩
abbrev cX9_conAt : ByteArray := prog_11_method_7_code
def yX9_conAt : MethodName := ⟨RX9, "conAt", "(I)I"⟩
abbrev cX9_beyondLimits : ByteArray := prog_11_method_8_code
def yX9_beyondLimits : MethodName := ⟨RX9, "beyondLimits", "()Z"⟩
abbrev cX9_findBuilt : ByteArray := prog_11_method_9_code
def yX9_findBuilt : MethodName := ⟨RX9, "findBuilt", "()V"⟩
abbrev cX9_isBuilt : ByteArray := prog_11_method_10_code
def yX9_isBuilt : MethodName := ⟨RX9, "isBuilt", "(I)Z"⟩
abbrev cX10_init : ByteArray := prog_12_method_1_code
def yX10_init : MethodName := ⟨RX10, "<init>", "(LNeedHouse$Lexemes;LNeedHouse$Tree;LNeedHouse$Told;LNeedHouse$Types;)V"⟩
abbrev cX10_findGroups : ByteArray := prog_12_method_2_code
def yX10_findGroups : MethodName := ⟨RX10, "findGroups", "()V"⟩
abbrev cX10_findUses : ByteArray := prog_12_method_3_code
def yX10_findUses : MethodName := ⟨RX10, "findUses", "()V"⟩
abbrev cX10_noteUse : ByteArray := prog_12_method_4_code
def yX10_noteUse : MethodName := ⟨RX10, "noteUse", "(II)V"⟩
abbrev cX10_isUsed : ByteArray := prog_12_method_5_code
def yX10_isUsed : MethodName := ⟨RX10, "isUsed", "(II)Z"⟩
abbrev cX10_isTogether : ByteArray := prog_12_method_6_code
def yX10_isTogether : MethodName := ⟨RX10, "isTogether", "(II)Z"⟩
abbrev cX10_findGroupsOf : ByteArray := prog_12_method_7_code
def yX10_findGroupsOf : MethodName := ⟨RX10, "findGroupsOf", "(I)V"⟩
abbrev cX10_isReady : ByteArray := prog_12_method_8_code
def yX10_isReady : MethodName := ⟨RX10, "isReady", "(II)Z"⟩
abbrev cX10_takeGroup : ByteArray := prog_12_method_9_code
def yX10_takeGroup : MethodName := ⟨RX10, "takeGroup", "(II)V"⟩
abbrev cX10_push : ByteArray := prog_12_method_10_code
def yX10_push : MethodName := ⟨RX10, "push", "(II)V"⟩
abbrev cX10_pushGroups : ByteArray := prog_12_method_11_code
def yX10_pushGroups : MethodName := ⟨RX10, "pushGroups", "(I)V"⟩
abbrev cX10_work : ByteArray := prog_12_method_12_code
def yX10_work : MethodName := ⟨RX10, "work", "()V"⟩
abbrev cX10_want : ByteArray := prog_12_method_13_code
def yX10_want : MethodName := ⟨RX10, "want", "(II)V"⟩
abbrev cX10_visit : ByteArray := prog_12_method_14_code
def yX10_visit : MethodName := ⟨RX10, "visit", "(I)V"⟩
abbrev cX10_isTest : ByteArray := prog_12_method_15_code
def yX10_isTest : MethodName := ⟨RX10, "isTest", "(I)Z"⟩
abbrev cX10_typeOfName : ByteArray := prog_12_method_16_code
def yX10_typeOfName : MethodName := ⟨RX10, "typeOfName", "(I)I"⟩
abbrev cX10_visitOperands : ByteArray := prog_12_method_17_code
def yX10_visitOperands : MethodName := ⟨RX10, "visitOperands", "(II)V"⟩
abbrev cX10_visitIf : ByteArray := prog_12_method_18_code
def yX10_visitIf : MethodName := ⟨RX10, "visitIf", "(I)V"⟩
abbrev cX10_visitWhole : ByteArray := prog_12_method_19_code
def yX10_visitWhole : MethodName := ⟨RX10, "visitWhole", "(I)V"⟩
abbrev cX10_partOf : ByteArray := prog_12_method_20_code
def yX10_partOf : MethodName := ⟨RX10, "partOf", "(II)I"⟩
abbrev cX10_endRow : ByteArray := prog_12_method_21_code
def yX10_endRow : MethodName := ⟨RX10, "endRow", "(I)V"⟩
abbrev cX10_giveArgument : ByteArray := prog_12_method_22_code
def yX10_giveArgument : MethodName := ⟨RX10, "giveArgument", "(I)V"⟩
abbrev cX10_addName : ByteArray := prog_12_method_23_code
def yX10_addName : MethodName := ⟨RX10, "addName", "(II)V"⟩
abbrev cX10_addNames : ByteArray := prog_12_method_24_code
def yX10_addNames : MethodName := ⟨RX10, "addNames", "(I)V"⟩
abbrev cX10_dropNames : ByteArray := prog_12_method_25_code
def yX10_dropNames : MethodName := ⟨RX10, "dropNames", "(I)V"⟩
abbrev cX10_functionOf : ByteArray := prog_12_method_26_code
def yX10_functionOf : MethodName := ⟨RX10, "functionOf", "(II)I"⟩
abbrev cX10_choose : ByteArray := prog_12_method_27_code
def yX10_choose : MethodName := ⟨RX10, "choose", "(I)V"⟩
abbrev cX10_openCase : ByteArray := prog_12_method_28_code
def yX10_openCase : MethodName := ⟨RX10, "openCase", "(I)V"⟩
abbrev cX10_openItem : ByteArray := prog_12_method_29_code
def yX10_openItem : MethodName := ⟨RX10, "openItem", "(I)V"⟩
abbrev cX10_endItem : ByteArray := prog_12_method_30_code
def yX10_endItem : MethodName := ⟨RX10, "endItem", "(I)V"⟩
abbrev cX10_openGroup : ByteArray := prog_12_method_31_code
def yX10_openGroup : MethodName := ⟨RX10, "openGroup", "(I)V"⟩
abbrev cX10_openDefinition : ByteArray := prog_12_method_32_code
def yX10_openDefinition : MethodName := ⟨RX10, "openDefinition", "(I)V"⟩
abbrev cX10_endDefinition : ByteArray := prog_12_method_33_code
def yX10_endDefinition : MethodName := ⟨RX10, "endDefinition", "(I)V"⟩
abbrev cX10_endGroup : ByteArray := prog_12_method_34_code
def yX10_endGroup : MethodName := ⟨RX10, "endGroup", "(I)V"⟩
abbrev cX11_init : ByteArray := prog_13_method_1_code
def yX11_init : MethodName := ⟨RX11, "<init>", "(LNeedHouse$Datas;)V"⟩
abbrev cX11_clear : ByteArray := prog_13_method_2_code
def yX11_clear : MethodName := ⟨RX11, "clear", "()V"⟩
abbrev cX11_intType : ByteArray := prog_13_method_3_code
def yX11_intType : MethodName := ⟨RX11, "intType", "()I"⟩
abbrev cX11_boolType : ByteArray := prog_13_method_4_code
def yX11_boolType : MethodName := ⟨RX11, "boolType", "()I"⟩
abbrev cX11_unknown : ByteArray := prog_13_method_5_code
def yX11_unknown : MethodName := ⟨RX11, "unknown", "()I"⟩
abbrev cX11_list : ByteArray := prog_13_method_6_code
def yX11_list : MethodName := ⟨RX11, "list", "(I)I"⟩
abbrev cX11_pair : ByteArray := prog_13_method_7_code
def yX11_pair : MethodName := ⟨RX11, "pair", "(II)I"⟩
abbrev cX11_function : ByteArray := prog_13_method_8_code
def yX11_function : MethodName := ⟨RX11, "function", "(II)I"⟩
abbrev cX11_make : ByteArray := prog_13_method_9_code
def yX11_make : MethodName := ⟨RX11, "make", "(I)I"⟩
abbrev cX11_addPart : ByteArray := prog_13_method_10_code
def yX11_addPart : MethodName := ⟨RX11, "addPart", "(I)V"⟩
abbrev cX11_partOf : ByteArray := prog_13_method_11_code
def yX11_partOf : MethodName := ⟨RX11, "partOf", "(II)I"⟩
abbrev cX11_find : ByteArray := prog_13_method_12_code
def yX11_find : MethodName := ⟨RX11, "find", "(I)I"⟩
abbrev cX11_link : ByteArray := prog_13_method_13_code
def yX11_link : MethodName := ⟨RX11, "link", "(II)V"⟩
abbrev cX11_addAround : ByteArray := prog_13_method_14_code
def yX11_addAround : MethodName := ⟨RX11, "addAround", "(I)V"⟩
abbrev cX11_alike : ByteArray := prog_13_method_15_code
def yX11_alike : MethodName := ⟨RX11, "alike", "(II)Z"⟩
abbrev cX11_addPair : ByteArray := prog_13_method_16_code
def yX11_addPair : MethodName := ⟨RX11, "addPair", "(III)V"⟩
abbrev cX11_stampAll : ByteArray := prog_13_method_17_code
def yX11_stampAll : MethodName := ⟨RX11, "stampAll", "(I)V"⟩
abbrev cX11_addWalk : ByteArray := prog_13_method_18_code
def yX11_addWalk : MethodName := ⟨RX11, "addWalk", "(I)V"⟩
abbrev cX11_stampAround : ByteArray := prog_13_method_19_code
def yX11_stampAround : MethodName := ⟨RX11, "stampAround", "()V"⟩
abbrev cX11_settle : ByteArray := prog_13_method_20_code
def yX11_settle : MethodName := ⟨RX11, "settle", "(II)Z"⟩
abbrev cX11_codeOf : ByteArray := prog_13_method_21_code
def yX11_codeOf : MethodName := ⟨RX11, "codeOf", "(I)I"⟩
abbrev cX11_instance : ByteArray := prog_13_method_22_code
def yX11_instance : MethodName := ⟨RX11, "instance", "(I)I"⟩
abbrev cX11_freeOne : ByteArray := prog_13_method_23_code
def yX11_freeOne : MethodName := ⟨RX11, "freeOne", "(I)I"⟩
abbrev cX11_isFunction : ByteArray := prog_13_method_24_code
def yX11_isFunction : MethodName := ⟨RX11, "isFunction", "(I)Z"⟩
abbrev cX11_tellConstructors : ByteArray := prog_13_method_25_code
def yX11_tellConstructors : MethodName := ⟨RX11, "tellConstructors", "()V"⟩
abbrev cX11_tellRow : ByteArray := prog_13_method_26_code
def yX11_tellRow : MethodName := ⟨RX11, "tellRow", "(IIIIII)V"⟩
abbrev cX11_addCode : ByteArray := prog_13_method_27_code
def yX11_addCode : MethodName := ⟨RX11, "addCode", "(II)V"⟩
abbrev cX11_tellConstructor : ByteArray := prog_13_method_28_code
def yX11_tellConstructor : MethodName := ⟨RX11, "tellConstructor", "(I)V"⟩
abbrev cX11_write : ByteArray := prog_13_method_29_code
def yX11_write : MethodName := ⟨RX11, "write", "(LNeedHouse$Sheet;I)V"⟩
abbrev cX11_writeFrom : ByteArray := prog_13_method_30_code
def yX11_writeFrom : MethodName := ⟨RX11, "writeFrom", "(LNeedHouse$Sheet;IIII)I"⟩
abbrev cX11_writePlain : ByteArray := prog_13_method_31_code
def yX11_writePlain : MethodName := ⟨RX11, "writePlain", "(LNeedHouse$Sheet;I)V"⟩
abbrev cX12_init : ByteArray := prog_1_method_1_code
def yX12_init : MethodName := ⟨RX12, "<init>", "()V"⟩
abbrev cX12_feed : ByteArray := prog_1_method_2_code
def yX12_feed : MethodName := ⟨RX12, "feed", "(IIIII)I"⟩
abbrev cX12_put : ByteArray := prog_1_method_3_code
def yX12_put : MethodName := ⟨RX12, "put", "(I)V"⟩
abbrev cX12_back : ByteArray := prog_1_method_4_code
def yX12_back : MethodName := ⟨RX12, "back", "(I)I"⟩
abbrev cX12_read : ByteArray := prog_1_method_5_code
def yX12_read : MethodName := ⟨RX12, "read", "()I"⟩
abbrev cX12_checkLimits : ByteArray := prog_1_method_6_code
def yX12_checkLimits : MethodName := ⟨RX12, "checkLimits", "()V"⟩
abbrev cX12_count : ByteArray := prog_1_method_7_code
def yX12_count : MethodName := ⟨RX12, "count", "(I)I"⟩
abbrev cX12_definition : ByteArray := prog_1_method_8_code
def yX12_definition : MethodName := ⟨RX12, "definition", "(I)I"⟩
abbrev cX12_sign : ByteArray := prog_1_method_9_code
def yX12_sign : MethodName := ⟨RX12, "sign", "(II)I"⟩
abbrev cX12_strict : ByteArray := prog_1_method_10_code
def yX12_strict : MethodName := ⟨RX12, "strict", "(II)I"⟩
abbrev cX12_group : ByteArray := prog_1_method_11_code
def yX12_group : MethodName := ⟨RX12, "group", "(I)I"⟩
abbrev cX12_begin : ByteArray := prog_1_method_12_code
def yX12_begin : MethodName := ⟨RX12, "begin", "()V"⟩
abbrev cX12_run : ByteArray := prog_1_method_13_code
def yX12_run : MethodName := ⟨RX12, "run", "(I)I"⟩
abbrev cX12_global : ByteArray := prog_1_method_14_code
def yX12_global : MethodName := ⟨RX12, "global", "(II)I"⟩
abbrev cX12_shown : ByteArray := prog_1_method_15_code
def yX12_shown : MethodName := ⟨RX12, "shown", "(I)I"⟩
abbrev cX12_said : ByteArray := prog_1_method_16_code
def yX12_said : MethodName := ⟨RX12, "said", "(I)I"⟩
abbrev cX13_init : ByteArray := prog_16_method_1_code
def yX13_init : MethodName := ⟨RX13, "<init>", "()V"⟩
abbrev cX14_init : ByteArray := prog_15_method_1_code
def yX14_init : MethodName := ⟨RX14, "<init>", "()V"⟩
abbrev cX14_thrown : ByteArray := prog_15_method_2_code
def yX14_thrown : MethodName := ⟨RX14, "thrown", "()I"⟩
abbrev cX14_feed : ByteArray := prog_15_method_3_code
def yX14_feed : MethodName := ⟨RX14, "feed", "(IIIII)I"⟩
abbrev cX14_put : ByteArray := prog_15_method_4_code
def yX14_put : MethodName := ⟨RX14, "put", "(I)V"⟩
abbrev cX14_back : ByteArray := prog_15_method_5_code
def yX14_back : MethodName := ⟨RX14, "back", "(I)I"⟩
abbrev cX14_byteAt : ByteArray := prog_15_method_6_code
def yX14_byteAt : MethodName := ⟨RX14, "byteAt", "(I)I"⟩
abbrev cX14_isSmall : ByteArray := prog_15_method_7_code
def yX14_isSmall : MethodName := ⟨RX14, "isSmall", "(I)Z"⟩
abbrev cX14_isGreat : ByteArray := prog_15_method_8_code
def yX14_isGreat : MethodName := ⟨RX14, "isGreat", "(I)Z"⟩
abbrev cX14_isDigit : ByteArray := prog_15_method_9_code
def yX14_isDigit : MethodName := ⟨RX14, "isDigit", "(I)Z"⟩
abbrev cX14_isInner : ByteArray := prog_15_method_10_code
def yX14_isInner : MethodName := ⟨RX14, "isInner", "(I)Z"⟩
abbrev cX14_nameOf : ByteArray := prog_15_method_11_code
def yX14_nameOf : MethodName := ⟨RX14, "nameOf", "([III)I"⟩
abbrev cX14_nameOf_ : ByteArray := prog_15_method_12_code
def yX14_nameOf_ : MethodName := ⟨RX14, "nameOf", "(Ljava/lang/String;)I"⟩
abbrev cX14_wordAt : ByteArray := prog_15_method_13_code
def yX14_wordAt : MethodName := ⟨RX14, "wordAt", "(II)I"⟩
abbrev cX14_signAt : ByteArray := prog_15_method_14_code
def yX14_signAt : MethodName := ⟨RX14, "signAt", "(I)I"⟩
abbrev cX14_token : ByteArray := prog_15_method_15_code
def yX14_token : MethodName := ⟨RX14, "token", "(IIII)V"⟩
abbrev cX14_lexemes : ByteArray := prog_15_method_16_code
def yX14_lexemes : MethodName := ⟨RX14, "lexemes", "()V"⟩
abbrev cX14_lexeme : ByteArray := prog_15_method_17_code
def yX14_lexeme : MethodName := ⟨RX14, "lexeme", "(III)I"⟩
abbrev cX14_stop : ByteArray := prog_15_method_18_code
def yX14_stop : MethodName := ⟨RX14, "stop", "(I)LNeedHouseModel$Halt;"⟩
abbrev cX14_endBlock : ByteArray := prog_15_method_19_code
def yX14_endBlock : MethodName := ⟨RX14, "endBlock", "()V"⟩
abbrev cX14_layout : ByteArray := prog_15_method_20_code
def yX14_layout : MethodName := ⟨RX14, "layout", "()V"⟩
abbrev cX14_column : ByteArray := prog_15_method_21_code
def yX14_column : MethodName := ⟨RX14, "column", "()V"⟩
abbrev cX14_itemEnds : ByteArray := prog_15_method_22_code
def yX14_itemEnds : MethodName := ⟨RX14, "itemEnds", "()V"⟩
abbrev cX14_closers : ByteArray := prog_15_method_23_code
def yX14_closers : MethodName := ⟨RX14, "closers", "(I)V"⟩
abbrev cX14_openers : ByteArray := prog_15_method_24_code
def yX14_openers : MethodName := ⟨RX14, "openers", "(I)V"⟩
abbrev cX14_next : ByteArray := prog_15_method_25_code
def yX14_next : MethodName := ⟨RX14, "next", "()V"⟩
abbrev cX14_sort : ByteArray := prog_15_method_26_code
def yX14_sort : MethodName := ⟨RX14, "sort", "()I"⟩
abbrev cX14_is : ByteArray := prog_15_method_27_code
def yX14_is : MethodName := ⟨RX14, "is", "(I)Z"⟩
abbrev cX14_may : ByteArray := prog_15_method_28_code
def yX14_may : MethodName := ⟨RX14, "may", "(I)Z"⟩
abbrev cX14_must : ByteArray := prog_15_method_29_code
def yX14_must : MethodName := ⟨RX14, "must", "(I)V"⟩
abbrev cX14_node : ByteArray := prog_15_method_30_code
def yX14_node : MethodName := ⟨RX14, "node", "(II)I"⟩
abbrev cX14_node_ : ByteArray := prog_15_method_31_code
def yX14_node_ : MethodName := ⟨RX14, "node", "(IIII)I"⟩
abbrev cX14_many : ByteArray := prog_15_method_32_code
def yX14_many : MethodName := ⟨RX14, "many", "(I)I"⟩
abbrev cX14_items : ByteArray := prog_15_method_33_code
def yX14_items : MethodName := ⟨RX14, "items", "(I)I"⟩
abbrev cX14_data : ByteArray := prog_15_method_34_code
def yX14_data : MethodName := ⟨RX14, "data", "()I"⟩
abbrev cX14_names : ByteArray := prog_15_method_35_code
def yX14_names : MethodName := ⟨RX14, "names", "()I"⟩
abbrev cX14_alternative : ByteArray := prog_15_method_36_code
def yX14_alternative : MethodName := ⟨RX14, "alternative", "()I"⟩
abbrev cX14_isTypeAtom : ByteArray := prog_15_method_37_code
def yX14_isTypeAtom : MethodName := ⟨RX14, "isTypeAtom", "()Z"⟩
abbrev cX14_typeAtoms : ByteArray := prog_15_method_38_code
def yX14_typeAtoms : MethodName := ⟨RX14, "typeAtoms", "()I"⟩
abbrev cX14_deeper : ByteArray := prog_15_method_39_code
def yX14_deeper : MethodName := ⟨RX14, "deeper", "()V"⟩
abbrev cX14_type : ByteArray := prog_15_method_40_code
def yX14_type : MethodName := ⟨RX14, "type", "()I"⟩
abbrev cX14_typeAtom : ByteArray := prog_15_method_41_code
def yX14_typeAtom : MethodName := ⟨RX14, "typeAtom", "()I"⟩
abbrev cX14_definition : ByteArray := prog_15_method_42_code
def yX14_definition : MethodName := ⟨RX14, "definition", "()I"⟩
abbrev cX14_item : ByteArray := prog_15_method_43_code
def yX14_item : MethodName := ⟨RX14, "item", "()I"⟩
abbrev cX14_patternName : ByteArray := prog_15_method_44_code
def yX14_patternName : MethodName := ⟨RX14, "patternName", "()I"⟩
abbrev cX14_pattern : ByteArray := prog_15_method_45_code
def yX14_pattern : MethodName := ⟨RX14, "pattern", "()I"⟩
abbrev cX14_isAtom : ByteArray := prog_15_method_46_code
def yX14_isAtom : MethodName := ⟨RX14, "isAtom", "()Z"⟩
abbrev cX14_e : ByteArray := prog_15_method_47_code
def yX14_e : MethodName := ⟨RX14, "e", "()I"⟩
abbrev cX14_special : ByteArray := prog_15_method_48_code
def yX14_special : MethodName := ⟨RX14, "special", "(I)I"⟩
abbrev cX14_chain : ByteArray := prog_15_method_49_code
def yX14_chain : MethodName := ⟨RX14, "chain", "(I)I"⟩
abbrev cX14_isSign : ByteArray := prog_15_method_50_code
def yX14_isSign : MethodName := ⟨RX14, "isSign", "(I)Z"⟩
abbrev cX14_call : ByteArray := prog_15_method_51_code
def yX14_call : MethodName := ⟨RX14, "call", "()I"⟩
abbrev cX14_atom : ByteArray := prog_15_method_52_code
def yX14_atom : MethodName := ⟨RX14, "atom", "()I"⟩
abbrev cX14_tells : ByteArray := prog_15_method_53_code
def yX14_tells : MethodName := ⟨RX14, "tells", "(II)V"⟩
abbrev cX14_text : ByteArray := prog_15_method_54_code
def yX14_text : MethodName := ⟨RX14, "text", "(I)I"⟩
abbrev cX14_con : ByteArray := prog_15_method_55_code
def yX14_con : MethodName := ⟨RX14, "con", "(IIII)V"⟩
abbrev cX14_symbol : ByteArray := prog_15_method_56_code
def yX14_symbol : MethodName := ⟨RX14, "symbol", "(III)I"⟩
abbrev cX14_enter : ByteArray := prog_15_method_57_code
def yX14_enter : MethodName := ⟨RX14, "enter", "(I)V"⟩
abbrev cX14_typeNamed : ByteArray := prog_15_method_58_code
def yX14_typeNamed : MethodName := ⟨RX14, "typeNamed", "(I)I"⟩
abbrev cX14_conNamed : ByteArray := prog_15_method_59_code
def yX14_conNamed : MethodName := ⟨RX14, "conNamed", "(I)I"⟩
abbrev cX14_meaning : ByteArray := prog_15_method_60_code
def yX14_meaning : MethodName := ⟨RX14, "meaning", "(I)I"⟩
abbrev cX14_isRow : ByteArray := prog_15_method_61_code
def yX14_isRow : MethodName := ⟨RX14, "isRow", "(I)V"⟩
abbrev cX14_limit : ByteArray := prog_15_method_62_code
def yX14_limit : MethodName := ⟨RX14, "limit", "(Z)V"⟩
abbrev cX14_firstRound : ByteArray := prog_15_method_63_code
def yX14_firstRound : MethodName := ⟨RX14, "firstRound", "()V"⟩
abbrev cX14_tell : ByteArray := prog_15_method_64_code
def yX14_tell : MethodName := ⟨RX14, "tell", "(I)V"⟩
abbrev cX14_written : ByteArray := prog_15_method_65_code
def yX14_written : MethodName := ⟨RX14, "written", "(I)I"⟩
abbrev cX14_dataNames : ByteArray := prog_15_method_66_code
def yX14_dataNames : MethodName := ⟨RX14, "dataNames", "(I)V"⟩
abbrev cX14_typeNames : ByteArray := prog_15_method_67_code
def yX14_typeNames : MethodName := ⟨RX14, "typeNames", "(II)V"⟩
abbrev cX14_row : ByteArray := prog_15_method_68_code
def yX14_row : MethodName := ⟨RX14, "row", "(I)V"⟩
abbrev cX14_definitionNames : ByteArray := prog_15_method_69_code
def yX14_definitionNames : MethodName := ⟨RX14, "definitionNames", "(I)V"⟩
abbrev cX14_exprNames : ByteArray := prog_15_method_70_code
def yX14_exprNames : MethodName := ⟨RX14, "exprNames", "(I)V"⟩
abbrev cX14_itemNames : ByteArray := prog_15_method_71_code
def yX14_itemNames : MethodName := ⟨RX14, "itemNames", "(I)V"⟩
abbrev cX14_clearBits : ByteArray := prog_15_method_72_code
def yX14_clearBits : MethodName := ⟨RX14, "clearBits", "([JI)V"⟩
abbrev cX14_addBits : ByteArray := prog_15_method_73_code
def yX14_addBits : MethodName := ⟨RX14, "addBits", "([JII)V"⟩
abbrev cX14_dropRow : ByteArray := prog_15_method_74_code
def yX14_dropRow : MethodName := ⟨RX14, "dropRow", "([JII)V"⟩
abbrev cX14_freeOf : ByteArray := prog_15_method_75_code
def yX14_freeOf : MethodName := ⟨RX14, "freeOf", "(I)V"⟩
abbrev cX14_freeRow : ByteArray := prog_15_method_76_code
def yX14_freeRow : MethodName := ⟨RX14, "freeRow", "(II)V"⟩
abbrev cX14_longer : ByteArray := prog_15_method_77_code
def yX14_longer : MethodName := ⟨RX14, "longer", "([I)[I"⟩
abbrev cX14_newType : ByteArray := prog_15_method_78_code
def yX14_newType : MethodName := ⟨RX14, "newType", "(II)I"⟩
abbrev cX14_unknown : ByteArray := prog_15_method_79_code
def yX14_unknown : MethodName := ⟨RX14, "unknown", "()I"⟩
abbrev cX14_fun : ByteArray := prog_15_method_80_code
def yX14_fun : MethodName := ⟨RX14, "fun", "(II)I"⟩
abbrev cX14_listOf : ByteArray := prog_15_method_81_code
def yX14_listOf : MethodName := ⟨RX14, "listOf", "(I)I"⟩
abbrev cX14_pairOf : ByteArray := prog_15_method_82_code
def yX14_pairOf : MethodName := ⟨RX14, "pairOf", "(II)I"⟩
abbrev cX14_partsOf : ByteArray := prog_15_method_83_code
def yX14_partsOf : MethodName := ⟨RX14, "partsOf", "(I)I"⟩
abbrev cX14_find : ByteArray := prog_15_method_84_code
def yX14_find : MethodName := ⟨RX14, "find", "(I)I"⟩
abbrev cX14_standsIn : ByteArray := prog_15_method_85_code
def yX14_standsIn : MethodName := ⟨RX14, "standsIn", "(II)Z"⟩
abbrev cX14_alike : ByteArray := prog_15_method_86_code
def yX14_alike : MethodName := ⟨RX14, "alike", "(II)Z"⟩
abbrev cX14_wantAlike : ByteArray := prog_15_method_87_code
def yX14_wantAlike : MethodName := ⟨RX14, "wantAlike", "(III)V"⟩
abbrev cX14_typeFault : ByteArray := prog_15_method_88_code
def yX14_typeFault : MethodName := ⟨RX14, "typeFault", "(II)LNeedHouseModel$Halt;"⟩
abbrev cX14_copied : ByteArray := prog_15_method_89_code
def yX14_copied : MethodName := ⟨RX14, "copied", "(I)I"⟩
abbrev cX14_copy : ByteArray := prog_15_method_90_code
def yX14_copy : MethodName := ⟨RX14, "copy", "(I)I"⟩
abbrev cX14_treeOf : ByteArray := prog_15_method_91_code
def yX14_treeOf : MethodName := ⟨RX14, "treeOf", "(II)I"⟩
abbrev cX14_fieldType : ByteArray := prog_15_method_92_code
def yX14_fieldType : MethodName := ⟨RX14, "fieldType", "(II)I"⟩
abbrev cX14_instance : ByteArray := prog_15_method_93_code
def yX14_instance : MethodName := ⟨RX14, "instance", "(I)V"⟩
abbrev cX14_bool : ByteArray := prog_15_method_94_code
def yX14_bool : MethodName := ⟨RX14, "bool", "()I"⟩
abbrev cX14_typeOf : ByteArray := prog_15_method_95_code
def yX14_typeOf : MethodName := ⟨RX14, "typeOf", "(I)I"⟩
abbrev cX14_function : ByteArray := prog_15_method_96_code
def yX14_function : MethodName := ⟨RX14, "function", "(I)I"⟩
abbrev cX14_variable : ByteArray := prog_15_method_97_code
def yX14_variable : MethodName := ⟨RX14, "variable", "(II)V"⟩
abbrev cX14_itemType : ByteArray := prog_15_method_98_code
def yX14_itemType : MethodName := ⟨RX14, "itemType", "(III)V"⟩
abbrev cX14_usesOf : ByteArray := prog_15_method_99_code
def yX14_usesOf : MethodName := ⟨RX14, "usesOf", "(II)Z"⟩
abbrev cX14_gather : ByteArray := prog_15_method_100_code
def yX14_gather : MethodName := ⟨RX14, "gather", "(II)V"⟩
abbrev cX14_block : ByteArray := prog_15_method_101_code
def yX14_block : MethodName := ⟨RX14, "block", "(I)V"⟩
abbrev cX14_inGroup : ByteArray := prog_15_method_102_code
def yX14_inGroup : MethodName := ⟨RX14, "inGroup", "(II)Z"⟩
abbrev cX14_ready : ByteArray := prog_15_method_103_code
def yX14_ready : MethodName := ⟨RX14, "ready", "(I)I"⟩
abbrev cX14_lookAt : ByteArray := prog_15_method_104_code
def yX14_lookAt : MethodName := ⟨RX14, "lookAt", "(II)V"⟩
abbrev cX14_marked : ByteArray := prog_15_method_105_code
def yX14_marked : MethodName := ⟨RX14, "marked", "(IZ)V"⟩
abbrev cX14_secondRound : ByteArray := prog_15_method_106_code
def yX14_secondRound : MethodName := ⟨RX14, "secondRound", "()V"⟩
abbrev cX14_globalOf : ByteArray := prog_15_method_107_code
def yX14_globalOf : MethodName := ⟨RX14, "globalOf", "(I)I"⟩
abbrev cX14_sayText : ByteArray := prog_15_method_108_code
def yX14_sayText : MethodName := ⟨RX14, "sayText", "(Ljava/lang/String;)V"⟩
abbrev cX14_sayByte : ByteArray := prog_15_method_109_code
def yX14_sayByte : MethodName := ⟨RX14, "sayByte", "(I)V"⟩
abbrev cX14_sayName : ByteArray := prog_15_method_110_code
def yX14_sayName : MethodName := ⟨RX14, "sayName", "(I)V"⟩
abbrev cX14_sayNumber : ByteArray := prog_15_method_111_code
def yX14_sayNumber : MethodName := ⟨RX14, "sayNumber", "(I)V"⟩
abbrev cX14_tellTypes : ByteArray := prog_15_method_112_code
def yX14_tellTypes : MethodName := ⟨RX14, "tellTypes", "()V"⟩
abbrev cX14_sayType : ByteArray := prog_15_method_113_code
def yX14_sayType : MethodName := ⟨RX14, "sayType", "(II)V"⟩
abbrev cX14_bare : ByteArray := prog_15_method_114_code
def yX14_bare : MethodName := ⟨RX14, "bare", "(I)I"⟩
abbrev cX14_room : ByteArray := prog_15_method_115_code
def yX14_room : MethodName := ⟨RX14, "room", "(I)V"⟩
abbrev cX14_drop : ByteArray := prog_15_method_116_code
def yX14_drop : MethodName := ⟨RX14, "drop", "(II)V"⟩
abbrev cX14_needs : ByteArray := prog_15_method_117_code
def yX14_needs : MethodName := ⟨RX14, "needs", "(II)Z"⟩
abbrev cX14_join : ByteArray := prog_15_method_118_code
def yX14_join : MethodName := ⟨RX14, "join", "(II)V"⟩
abbrev cX14_needOf : ByteArray := prog_15_method_119_code
def yX14_needOf : MethodName := ⟨RX14, "needOf", "(II)V"⟩
abbrev cX14_meet : ByteArray := prog_15_method_120_code
def yX14_meet : MethodName := ⟨RX14, "meet", "(III)V"⟩
abbrev cX14_needOfCall : ByteArray := prog_15_method_121_code
def yX14_needOfCall : MethodName := ⟨RX14, "needOfCall", "(II)V"⟩
abbrev cX14_needOfLet : ByteArray := prog_15_method_122_code
def yX14_needOfLet : MethodName := ⟨RX14, "needOfLet", "(II)V"⟩
abbrev cX14_thirdRound : ByteArray := prog_15_method_123_code
def yX14_thirdRound : MethodName := ⟨RX14, "thirdRound", "()V"⟩
abbrev cX14_read : ByteArray := prog_15_method_124_code
def yX14_read : MethodName := ⟨RX14, "read", "()I"⟩
abbrev cX14_wholeText : ByteArray := prog_15_method_125_code
def yX14_wholeText : MethodName := ⟨RX14, "wholeText", "()V"⟩
abbrev cX14_value : ByteArray := prog_15_method_126_code
def yX14_value : MethodName := ⟨RX14, "value", "(II)J"⟩
abbrev cX14_sortOf : ByteArray := prog_15_method_127_code
def yX14_sortOf : MethodName := ⟨RX14, "sortOf", "(J)I"⟩
abbrev cX14_plain : ByteArray := prog_15_method_128_code
def yX14_plain : MethodName := ⟨RX14, "plain", "(J)J"⟩
abbrev cX14_bits : ByteArray := prog_15_method_129_code
def yX14_bits : MethodName := ⟨RX14, "bits", "([JI)I"⟩
abbrev cX14_isWhole : ByteArray := prog_15_method_130_code
def yX14_isWhole : MethodName := ⟨RX14, "isWhole", "(I)Z"⟩
abbrev cX14_cellsOf : ByteArray := prog_15_method_131_code
def yX14_cellsOf : MethodName := ⟨RX14, "cellsOf", "(I)I"⟩
abbrev cX14_fits : ByteArray := prog_15_method_132_code
def yX14_fits : MethodName := ⟨RX14, "fits", "(II)Z"⟩
abbrev cX14_see : ByteArray := prog_15_method_133_code
def yX14_see : MethodName := ⟨RX14, "see", "(J)V"⟩
abbrev cX14_collect : ByteArray := prog_15_method_134_code
def yX14_collect : MethodName := ⟨RX14, "collect", "(IZ)V"⟩
abbrev cX14_make : ByteArray := prog_15_method_135_code
def yX14_make : MethodName := ⟨RX14, "make", "(III)I"⟩
abbrev cX14_variable_ : ByteArray := prog_15_method_136_code
def yX14_variable_ : MethodName := ⟨RX14, "variable", "(I)J"⟩
abbrev cX14_fillFree : ByteArray := prog_15_method_137_code
def yX14_fillFree : MethodName := ⟨RX14, "fillFree", "(II)V"⟩
abbrev cX14_begun : ByteArray := prog_15_method_138_code
def yX14_begun : MethodName := ⟨RX14, "begun", "(I)J"⟩
abbrev cX14_fill : ByteArray := prog_15_method_139_code
def yX14_fill : MethodName := ⟨RX14, "fill", "(JI)V"⟩
abbrev cX14_field : ByteArray := prog_15_method_140_code
def yX14_field : MethodName := ⟨RX14, "field", "(III)V"⟩
abbrev cX14_fillRow : ByteArray := prog_15_method_141_code
def yX14_fillRow : MethodName := ⟨RX14, "fillRow", "(II)V"⟩
abbrev cX14_thing : ByteArray := prog_15_method_142_code
def yX14_thing : MethodName := ⟨RX14, "thing", "(I)J"⟩
abbrev cX14_waitFor : ByteArray := prog_15_method_143_code
def yX14_waitFor : MethodName := ⟨RX14, "waitFor", "(II)Z"⟩
abbrev cX14_keep : ByteArray := prog_15_method_144_code
def yX14_keep : MethodName := ⟨RX14, "keep", "(J)V"⟩
abbrev cX14_keepBits : ByteArray := prog_15_method_145_code
def yX14_keepBits : MethodName := ⟨RX14, "keepBits", "([JI)V"⟩
abbrev cX14_takeBits : ByteArray := prog_15_method_146_code
def yX14_takeBits : MethodName := ⟨RX14, "takeBits", "([JI)V"⟩
abbrev cX14_begin : ByteArray := prog_15_method_147_code
def yX14_begin : MethodName := ⟨RX14, "begin", "()V"⟩
abbrev cX14_isValue : ByteArray := prog_15_method_148_code
def yX14_isValue : MethodName := ⟨RX14, "isValue", "(I)Z"⟩
abbrev cX14_run : ByteArray := prog_15_method_149_code
def yX14_run : MethodName := ⟨RX14, "run", "(I)I"⟩
abbrev cX14_asked : ByteArray := prog_15_method_150_code
def yX14_asked : MethodName := ⟨RX14, "asked", "(J)V"⟩
abbrev cX14_takeFree : ByteArray := prog_15_method_151_code
def yX14_takeFree : MethodName := ⟨RX14, "takeFree", "(II)V"⟩
abbrev cX14_step : ByteArray := prog_15_method_152_code
def yX14_step : MethodName := ⟨RX14, "step", "(I)V"⟩
abbrev cX14_made : ByteArray := prog_15_method_153_code
def yX14_made : MethodName := ⟨RX14, "made", "(I)V"⟩
abbrev cX14_call_ : ByteArray := prog_15_method_154_code
def yX14_call_ : MethodName := ⟨RX14, "call", "(I)V"⟩
abbrev cX14_let : ByteArray := prog_15_method_155_code
def yX14_let : MethodName := ⟨RX14, "let", "(I)V"⟩
abbrev cX14_deliver : ByteArray := prog_15_method_156_code
def yX14_deliver : MethodName := ⟨RX14, "deliver", "(J)V"⟩
abbrev cX14_come : ByteArray := prog_15_method_157_code
def yX14_come : MethodName := ⟨RX14, "come", "(J)V"⟩
abbrev cX14_became : ByteArray := prog_15_method_158_code
def yX14_became : MethodName := ⟨RX14, "became", "(JJ)V"⟩
abbrev cX14_truth : ByteArray := prog_15_method_159_code
def yX14_truth : MethodName := ⟨RX14, "truth", "(Z)J"⟩
abbrev cX14_worked : ByteArray := prog_15_method_160_code
def yX14_worked : MethodName := ⟨RX14, "worked", "(III)J"⟩
abbrev cX14_branch : ByteArray := prog_15_method_161_code
def yX14_branch : MethodName := ⟨RX14, "branch", "(IJ)Z"⟩
abbrev cX14_conOf : ByteArray := prog_15_method_162_code
def yX14_conOf : MethodName := ⟨RX14, "conOf", "(J)I"⟩
abbrev cX14_isMatch : ByteArray := prog_15_method_163_code
def yX14_isMatch : MethodName := ⟨RX14, "isMatch", "(IJ)Z"⟩
abbrev cX14_wants : ByteArray := prog_15_method_164_code
def yX14_wants : MethodName := ⟨RX14, "wants", "(J)I"⟩
abbrev cX14_gets : ByteArray := prog_15_method_165_code
def yX14_gets : MethodName := ⟨RX14, "gets", "(J)Z"⟩
abbrev cX14_give : ByteArray := prog_15_method_166_code
def yX14_give : MethodName := ⟨RX14, "give", "(J)V"⟩
abbrev cX14_isGiven : ByteArray := prog_15_method_167_code
def yX14_isGiven : MethodName := ⟨RX14, "isGiven", "(J)Z"⟩
abbrev cX14_isMade : ByteArray := prog_15_method_168_code
def yX14_isMade : MethodName := ⟨RX14, "isMade", "(I)Z"⟩
abbrev cX14_show : ByteArray := prog_15_method_169_code
def yX14_show : MethodName := ⟨RX14, "show", "(I)V"⟩
abbrev cX14_show_ : ByteArray := prog_15_method_170_code
def yX14_show_ : MethodName := ⟨RX14, "show", "(Ljava/lang/String;)V"⟩
abbrev cX14_showNumber : ByteArray := prog_15_method_171_code
def yX14_showNumber : MethodName := ⟨RX14, "showNumber", "(I)V"⟩
abbrev cX14_showCon : ByteArray := prog_15_method_172_code
def yX14_showCon : MethodName := ⟨RX14, "showCon", "(I)V"⟩
abbrev cX14_shows : ByteArray := prog_15_method_173_code
def yX14_shows : MethodName := ⟨RX14, "shows", "(J)Z"⟩
abbrev cX14_element : ByteArray := prog_15_method_174_code
def yX14_element : MethodName := ⟨RX14, "element", "(I)V"⟩
abbrev cX14_complete : ByteArray := prog_15_method_175_code
def yX14_complete : MethodName := ⟨RX14, "complete", "()V"⟩
abbrev cX14_count : ByteArray := prog_15_method_176_code
def yX14_count : MethodName := ⟨RX14, "count", "(I)I"⟩
abbrev cX14_isDefinition : ByteArray := prog_15_method_177_code
def yX14_isDefinition : MethodName := ⟨RX14, "isDefinition", "(I)Z"⟩
abbrev cX14_sign : ByteArray := prog_15_method_178_code
def yX14_sign : MethodName := ⟨RX14, "sign", "(II)I"⟩
abbrev cX14_strict : ByteArray := prog_15_method_179_code
def yX14_strict : MethodName := ⟨RX14, "strict", "(II)I"⟩
abbrev cX14_group : ByteArray := prog_15_method_180_code
def yX14_group : MethodName := ⟨RX14, "group", "(I)I"⟩
abbrev cX14_global : ByteArray := prog_15_method_181_code
def yX14_global : MethodName := ⟨RX14, "global", "(II)I"⟩
abbrev cX14_shown : ByteArray := prog_15_method_182_code
def yX14_shown : MethodName := ⟨RX14, "shown", "(I)I"⟩
abbrev cX14_said : ByteArray := prog_15_method_183_code
def yX14_said : MethodName := ⟨RX14, "said", "(I)I"⟩
abbrev cJ11_isValidCodePoint_9a6ad : ByteArray := prog_17_method_11_code
def yJ11_isValidCodePoint_9a6ad : MethodName := ⟨RJ11, "isValidCodePoint", "(I)Z"⟩
abbrev cJ11_highSurrogate_5068e : ByteArray := prog_17_method_28_code
def yJ11_highSurrogate_5068e : MethodName := ⟨RJ11, "highSurrogate", "(I)C"⟩
abbrev cJ11_lowSurrogate_5068e : ByteArray := prog_17_method_29_code
def yJ11_lowSurrogate_5068e : MethodName := ⟨RJ11, "lowSurrogate", "(I)C"⟩
abbrev cJ13_bitCount_95d88 : ByteArray := prog_22_method_50_code
def yJ13_bitCount_95d88 : MethodName := ⟨RJ13, "bitCount", "(J)I"⟩
abbrev cJ9_abs_0f7a4 : ByteArray := prog_23_method_59_code
def yJ9_abs_0f7a4 : MethodName := ⟨RJ9, "abs", "(I)I"⟩
abbrev cJ9_max_7cf53 : ByteArray := prog_23_method_65_code
def yJ9_max_7cf53 : MethodName := ⟨RJ9, "max", "(II)I"⟩
abbrev cJ9_min_7cf53 : ByteArray := prog_23_method_69_code
def yJ9_min_7cf53 : MethodName := ⟨RJ9, "min", "(II)I"⟩
abbrev cJ9_min_f86c9 : ByteArray := prog_23_method_70_code
def yJ9_min_f86c9 : MethodName := ⟨RJ9, "min", "(JJ)J"⟩
abbrev cJ0_length_8abf5 : ByteArray := prog_25_method_54_code
def yJ0_length_8abf5 : MethodName := ⟨RJ0, "length", "()I"⟩
abbrev cJ0_charAt_5068e : ByteArray := prog_25_method_56_code
def yJ0_charAt_5068e : MethodName := ⟨RJ0, "charAt", "(I)C"⟩
abbrev cJ0_indexOf_0f7a4 : ByteArray := prog_25_method_79_code
def yJ0_indexOf_0f7a4 : MethodName := ⟨RJ0, "indexOf", "(I)I"⟩
abbrev cJ0_indexOf_7cf53 : ByteArray := prog_25_method_80_code
def yJ0_indexOf_7cf53 : MethodName := ⟨RJ0, "indexOf", "(II)I"⟩
abbrev cJ0_coder_7d493 : ByteArray := prog_25_method_152_code
def yJ0_coder_7d493 : MethodName := ⟨RJ0, "coder", "()B"⟩
abbrev cJ0_isLatin1_aae02 : ByteArray := prog_25_method_154_code
def yJ0_isLatin1_aae02 : MethodName := ⟨RJ0, "isLatin1", "()Z"⟩
abbrev cJ0_checkIndex_df160 : ByteArray := prog_25_method_155_code
def yJ0_checkIndex_df160 : MethodName := ⟨RJ0, "checkIndex", "(II)V"⟩
abbrev cJ0_checkBoundsBeginEnd_23922 : ByteArray := prog_25_method_158_code
def yJ0_checkBoundsBeginEnd_23922 : MethodName := ⟨RJ0, "checkBoundsBeginEnd", "(III)V"⟩
abbrev cJ1_charAt_3b067 : ByteArray := prog_26_method_2_code
def yJ1_charAt_3b067 : MethodName := ⟨RJ1, "charAt", "([BI)C"⟩
abbrev cJ1_canEncode_9a6ad : ByteArray := prog_26_method_4_code
def yJ1_canEncode_9a6ad : MethodName := ⟨RJ1, "canEncode", "(I)Z"⟩
abbrev cJ1_indexOf_4cfef : ByteArray := prog_26_method_22_code
def yJ1_indexOf_4cfef : MethodName := ⟨RJ1, "indexOf", "([BIII)I"⟩
abbrev cJ1_indexOfChar_4cfef : ByteArray := prog_26_method_23_code
def yJ1_indexOfChar_4cfef : MethodName := ⟨RJ1, "indexOfChar", "([BIII)I"⟩
abbrev cJ2_getChar_3b067 : ByteArray := prog_27_method_5_code
def yJ2_getChar_3b067 : MethodName := ⟨RJ2, "getChar", "([BI)C"⟩
abbrev cJ2_length_9d52b : ByteArray := prog_27_method_6_code
def yJ2_length_9d52b : MethodName := ⟨RJ2, "length", "([B)I"⟩
abbrev cJ2_indexOf_4cfef : ByteArray := prog_27_method_40_code
def yJ2_indexOf_4cfef : MethodName := ⟨RJ2, "indexOf", "([BIII)I"⟩
abbrev cJ2_indexOfChar_4cfef : ByteArray := prog_27_method_47_code
def yJ2_indexOfChar_4cfef : MethodName := ⟨RJ2, "indexOfChar", "([BIII)I"⟩
abbrev cJ2_indexOfCharUnsafe_4cfef : ByteArray := prog_27_method_48_code
def yJ2_indexOfCharUnsafe_4cfef : MethodName := ⟨RJ2, "indexOfCharUnsafe", "([BIII)I"⟩
abbrev cJ2_indexOfSupplementary_4cfef : ByteArray := prog_27_method_49_code
def yJ2_indexOfSupplementary_4cfef : MethodName := ⟨RJ2, "indexOfSupplementary", "([BIII)I"⟩
abbrev cJ2_charAt_3b067 : ByteArray := prog_27_method_83_code
def yJ2_charAt_3b067 : MethodName := ⟨RJ2, "charAt", "([BI)C"⟩
abbrev cJ2_checkIndex_2214a : ByteArray := prog_27_method_91_code
def yJ2_checkIndex_2214a : MethodName := ⟨RJ2, "checkIndex", "(I[B)V"⟩
abbrev cJ2_checkBoundsBeginEnd_d044e : ByteArray := prog_27_method_93_code
def yJ2_checkBoundsBeginEnd_d044e : MethodName := ⟨RJ2, "checkBoundsBeginEnd", "(II[B)V"⟩
abbrev cJ7_fill_d0a16 : ByteArray := prog_30_method_101_code
def yJ7_fill_d0a16 : MethodName := ⟨RJ7, "fill", "([JJ)V"⟩
abbrev cJ7_fill_53178 : ByteArray := prog_30_method_103_code
def yJ7_fill_53178 : MethodName := ⟨RJ7, "fill", "([II)V"⟩
abbrev cJ7_copyOf_9075b : ByteArray := prog_30_method_121_code
def yJ7_copyOf_9075b : MethodName := ⟨RJ7, "copyOf", "([BI)[B"⟩
abbrev cJ7_copyOf_59c91 : ByteArray := prog_30_method_123_code
def yJ7_copyOf_59c91 : MethodName := ⟨RJ7, "copyOf", "([II)[I"⟩
abbrev cJ7_copyOf_c38d5 : ByteArray := prog_30_method_124_code
def yJ7_copyOf_c38d5 : MethodName := ⟨RJ7, "copyOf", "([JI)[J"⟩
abbrev cJ3_checkIndex_8e157 : ByteArray := prog_31_method_11_code
def yJ3_checkIndex_8e157 : MethodName := ⟨RJ3, "checkIndex", "(IILjava/util/function/BiFunction;)I"⟩
abbrev cJ3_checkFromToIndex_8c36e : ByteArray := prog_31_method_12_code
def yJ3_checkFromToIndex_8c36e : MethodName := ⟨RJ3, "checkFromToIndex", "(IIILjava/util/function/BiFunction;)I"⟩
abbrev cL_begin : ByteArray := method_3_code
def yL_begin : MethodName := ⟨RL, "begin", "(LNeedHouse;)I"⟩
abbrev cL_run : ByteArray := method_4_code
def yL_run : MethodName := ⟨RL, "run", "(LNeedHouse;I[J)I"⟩
abbrev cL_law : ByteArray := code
def yL_law : MethodName := ⟨RL, "law", "([I)Z"⟩
abbrev vwCl : List vw_C := [(RX0, TX0, 20), (RX1, TX1, 9), (RX2, TX2, 12), (RX3, TX3, 14), (RX4, TX4, 13), (RX5, TX5, 10), (RX6, TX6, 3), (RX7, TX7, 22), (RX8, TX8, 18), (RX9, TX9, 20), (RX10, TX10, 17), (RX11, TX11, 18), (RX12, TX12, 14), (RX13, TX13, 6), (RX14, TX14, 136)]
end
section
/-- what a row of fields holds at some places; the rest is not told -/
def hasF (fs : List Value) (n : Nat) (l : List (Nat × Value)) : Prop := fs.length = n ∧ ∀ q ∈ l, fs[q.1]? = some q.2
theorem hasF.at {fs : List Value} {n : Nat} {l : List (Nat × Value)} (h : hasF fs n l) (k : Nat) {i : Nat} {v : Value} (hk : l[k]? = some (i, v)) : fs[i]? = some v := h.2 _ (List.mem_of_getElem? hk)
theorem hasF.sub {fs : List Value} {n : Nat} {l l' : List (Nat × Value)} (h : hasF fs n l) (ks : List Nat) (hl : lv_pick l ks = l') : hasF fs n l' := by
  refine ⟨h.1, fun q hq => ?_⟩
  subst hl
  obtain ⟨i, -, hi⟩ := List.mem_filterMap.mp hq
  exact h.2 q (List.mem_of_getElem? hi)
theorem hasF.app {fs : List Value} {n : Nat} {l l' : List (Nat × Value)} (h : hasF fs n l) (h' : hasF fs n l') : hasF fs n (l ++ l') := ⟨h.1, fun q hq => (List.mem_append.mp hq).elim (h.2 q) (h'.2 q)⟩
theorem hasF.set {fs : List Value} {n : Nat} {l l' : List (Nat × Value)} (h : hasF fs n l) (i : Nat) (v : Value) (hi : i < n) (hl : (i, v) :: l.filter (fun q => !(q.1 == i)) = l') : hasF (fs.set i v) n l' := by
  refine ⟨by rw [List.length_set]; exact h.1, fun q hq => ?_⟩
  subst hl
  rcases List.mem_cons.mp hq with rfl | hq
  · exact List.getElem?_set_self (by rw [h.1]; exact hi)
  · obtain ⟨h1, h2⟩ := List.mem_filter.mp hq
    have hne : ¬ q.1 = i := by simpa using h2
    rw [List.getElem?_set_ne (fun z => hne z.symm)]
    exact h.2 q h1
/-- two rows of fields that are the same but at some places -/
def sameF (f g : List Value) (ks : List Nat) : Prop := g.length = f.length ∧ ∀ j : Nat, j ∉ ks → g[j]? = f[j]?
theorem sameF.rf {f : List Value} : sameF f f [] := ⟨rfl, fun _ _ => rfl⟩
theorem sameF.set {f g : List Value} {ks : List Nat} (h : sameF f g ks) (i : Nat) (v : Value) : sameF f (g.set i v) (i :: ks) := by
  refine ⟨by rw [List.length_set]; exact h.1, fun j hj => ?_⟩
  rw [List.getElem?_set_ne (fun z => hj (by rw [z]; exact List.mem_cons_self))]
  exact h.2 j (fun z => hj (List.mem_cons_of_mem _ z))
theorem sameF.mono {f g : List Value} {ks ks' : List Nat} (h : sameF f g ks) (hk : ∀ x ∈ ks, x ∈ ks') : sameF f g ks' := ⟨h.1, fun j hj => h.2 j (fun z => hj (hk j z))⟩
theorem sameF.trans {f g k : List Value} {a b : List Nat} (h : sameF f g a) (h' : sameF g k b) : sameF f k (b ++ a) :=
  ⟨h'.1.trans h.1, fun j hj => (h'.2 j (fun z => hj (List.mem_append_left _ z))).trans (h.2 j (fun z => hj (List.mem_append_right _ z)))⟩
theorem hasF.same {f g : List Value} {n : Nat} {l l' : List (Nat × Value)} {ks : List Nat} (h : hasF f n l) (hs : sameF f g ks) (hl : l.filter (fun q => !(ks.contains q.1)) = l') : hasF g n l' := by
  refine ⟨hs.1.trans h.1, fun q hq => ?_⟩
  subst hl
  obtain ⟨h1, h2⟩ := List.mem_filter.mp hq
  rw [hs.2 q.1 (by simpa using h2)]
  exact h.2 q h1
end
section
theorem dX14_put_0 : decode cX14_put 0 = .ok (.bipush 24, 2) := by decide +kernel
theorem dX14_put_2 : decode cX14_put 2 = .ok (.istore_n 2, 1) := by decide +kernel
theorem dX14_put_3 : decode cX14_put 3 = .ok (.iload_n 2, 1) := by decide +kernel
theorem dX14_put_4 : decode cX14_put 4 = .ok (.ifCond .lt 35, 3) := by decide +kernel
theorem dX14_put_7 : decode cX14_put 7 = .ok (.aload_n 0, 1) := by decide +kernel
theorem dX14_put_8 : decode cX14_put 8 = .ok (.getfield 16, 3) := by decide +kernel
theorem dX14_put_11 : decode cX14_put 11 = .ok (.aload_n 0, 1) := by decide +kernel
theorem dX14_put_12 : decode cX14_put 12 = .ok (.getfield 333, 3) := by decide +kernel
theorem dX14_put_15 : decode cX14_put 15 = .ok (.iload_n 1, 1) := by decide +kernel
theorem dX14_put_16 : decode cX14_put 16 = .ok (.iload_n 2, 1) := by decide +kernel
theorem dX14_put_17 : decode cX14_put 17 = .ok (.ishr, 1) := by decide +kernel
theorem dX14_put_18 : decode cX14_put 18 = .ok (.sipush 255, 3) := by decide +kernel
theorem dX14_put_21 : decode cX14_put 21 = .ok (.iand, 1) := by decide +kernel
theorem dX14_put_22 : decode cX14_put 22 = .ok (.iastore, 1) := by decide +kernel
theorem dX14_put_23 : decode cX14_put 23 = .ok (.aload_n 0, 1) := by decide +kernel
theorem dX14_put_24 : decode cX14_put 24 = .ok (.dup, 1) := by decide +kernel
theorem dX14_put_25 : decode cX14_put 25 = .ok (.getfield 333, 3) := by decide +kernel
theorem dX14_put_28 : decode cX14_put 28 = .ok (.iconst 1, 1) := by decide +kernel
theorem dX14_put_29 : decode cX14_put 29 = .ok (.iadd, 1) := by decide +kernel
theorem dX14_put_30 : decode cX14_put 30 = .ok (.putfield 333, 3) := by decide +kernel
theorem dX14_put_33 : decode cX14_put 33 = .ok (.iinc 2 (-8), 3) := by decide +kernel
theorem dX14_put_36 : decode cX14_put 36 = .ok (.goto (-33), 3) := by decide +kernel
theorem dX14_put_39 : decode cX14_put 39 = .ok (.return_, 1) := by decide +kernel
theorem dX14_feed_0 : decode cX14_feed 0 = .ok (.aload_n 0, 1) := by decide +kernel
theorem dX14_feed_1 : decode cX14_feed 1 = .ok (.iconst 0, 1) := by decide +kernel
theorem dX14_feed_2 : decode cX14_feed 2 = .ok (.putfield 329, 3) := by decide +kernel
theorem dX14_feed_5 : decode cX14_feed 5 = .ok (.aload_n 0, 1) := by decide +kernel
theorem dX14_feed_6 : decode cX14_feed 6 = .ok (.getfield 333, 3) := by decide +kernel
theorem dX14_feed_9 : decode cX14_feed 9 = .ok (.bipush 20, 2) := by decide +kernel
theorem dX14_feed_11 : decode cX14_feed 11 = .ok (.iadd, 1) := by decide +kernel
theorem dX14_feed_12 : decode cX14_feed 12 = .ok (.sipush 4000, 3) := by decide +kernel
theorem dX14_feed_15 : decode cX14_feed 15 = .ok (.if_icmp .le 5, 3) := by decide +kernel
theorem dX14_feed_18 : decode cX14_feed 18 = .ok (.iconst (-1), 1) := by decide +kernel
theorem dX14_feed_19 : decode cX14_feed 19 = .ok (.ireturn, 1) := by decide +kernel
theorem dX14_feed_20 : decode cX14_feed 20 = .ok (.aload_n 0, 1) := by decide +kernel
theorem dX14_feed_21 : decode cX14_feed 21 = .ok (.iload_n 1, 1) := by decide +kernel
theorem dX14_feed_22 : decode cX14_feed 22 = .ok (.invokevirtual 336, 3) := by decide +kernel
theorem dX14_feed_25 : decode cX14_feed 25 = .ok (.aload_n 0, 1) := by decide +kernel
theorem dX14_feed_26 : decode cX14_feed 26 = .ok (.iload_n 2, 1) := by decide +kernel
theorem dX14_feed_27 : decode cX14_feed 27 = .ok (.invokevirtual 336, 3) := by decide +kernel
theorem dX14_feed_30 : decode cX14_feed 30 = .ok (.aload_n 0, 1) := by decide +kernel
theorem dX14_feed_31 : decode cX14_feed 31 = .ok (.iload_n 3, 1) := by decide +kernel
theorem dX14_feed_32 : decode cX14_feed 32 = .ok (.invokevirtual 336, 3) := by decide +kernel
theorem dX14_feed_35 : decode cX14_feed 35 = .ok (.aload_n 0, 1) := by decide +kernel
theorem dX14_feed_36 : decode cX14_feed 36 = .ok (.iload 4, 2) := by decide +kernel
theorem dX14_feed_38 : decode cX14_feed 38 = .ok (.invokevirtual 336, 3) := by decide +kernel
theorem dX14_feed_41 : decode cX14_feed 41 = .ok (.aload_n 0, 1) := by decide +kernel
theorem dX14_feed_42 : decode cX14_feed 42 = .ok (.iload 5, 2) := by decide +kernel
theorem dX14_feed_44 : decode cX14_feed 44 = .ok (.invokevirtual 336, 3) := by decide +kernel
theorem dX14_feed_47 : decode cX14_feed 47 = .ok (.aload_n 0, 1) := by decide +kernel
theorem dX14_feed_48 : decode cX14_feed 48 = .ok (.getfield 333, 3) := by decide +kernel
theorem dX14_feed_51 : decode cX14_feed 51 = .ok (.ireturn, 1) := by decide +kernel
theorem dX14_back_0 : decode cX14_back 0 = .ok (.aload_n 0, 1) := by decide +kernel
theorem dX14_back_1 : decode cX14_back 1 = .ok (.iconst 0, 1) := by decide +kernel
theorem dX14_back_2 : decode cX14_back 2 = .ok (.putfield 329, 3) := by decide +kernel
theorem dX14_back_5 : decode cX14_back 5 = .ok (.iload_n 1, 1) := by decide +kernel
theorem dX14_back_6 : decode cX14_back 6 = .ok (.ifCond .lt 11, 3) := by decide +kernel
theorem dX14_back_9 : decode cX14_back 9 = .ok (.iload_n 1, 1) := by decide +kernel
theorem dX14_back_10 : decode cX14_back 10 = .ok (.aload_n 0, 1) := by decide +kernel
theorem dX14_back_11 : decode cX14_back 11 = .ok (.getfield 333, 3) := by decide +kernel
theorem dX14_back_14 : decode cX14_back 14 = .ok (.if_icmp .le 5, 3) := by decide +kernel
theorem dX14_back_17 : decode cX14_back 17 = .ok (.iconst (-1), 1) := by decide +kernel
theorem dX14_back_18 : decode cX14_back 18 = .ok (.ireturn, 1) := by decide +kernel
theorem dX14_back_19 : decode cX14_back 19 = .ok (.aload_n 0, 1) := by decide +kernel
theorem dX14_back_20 : decode cX14_back 20 = .ok (.dup, 1) := by decide +kernel
theorem dX14_back_21 : decode cX14_back 21 = .ok (.getfield 333, 3) := by decide +kernel
theorem dX14_back_24 : decode cX14_back 24 = .ok (.iload_n 1, 1) := by decide +kernel
theorem dX14_back_25 : decode cX14_back 25 = .ok (.isub, 1) := by decide +kernel
theorem dX14_back_26 : decode cX14_back 26 = .ok (.putfield 333, 3) := by decide +kernel
theorem dX14_back_29 : decode cX14_back 29 = .ok (.aload_n 0, 1) := by decide +kernel
theorem dX14_back_30 : decode cX14_back 30 = .ok (.getfield 333, 3) := by decide +kernel
theorem dX14_back_33 : decode cX14_back 33 = .ok (.ireturn, 1) := by decide +kernel
theorem dX14_thrown_0 : decode cX14_thrown 0 = .ok (.aload_n 0, 1) := by decide +kernel
theorem dX14_thrown_1 : decode cX14_thrown 1 = .ok (.getfield 329, 3) := by decide +kernel
theorem dX14_thrown_4 : decode cX14_thrown 4 = .ok (.ireturn, 1) := by decide +kernel
theorem dX14_count_0 : decode cX14_count 0 = .ok (.aload_n 0, 1) := by decide +kernel
theorem dX14_count_1 : decode cX14_count 1 = .ok (.iconst 0, 1) := by decide +kernel
theorem dX14_count_2 : decode cX14_count 2 = .ok (.putfield 329, 3) := by decide +kernel
theorem dX14_count_5 : decode cX14_count 5 = .ok (.iload_n 1, 1) := by decide +kernel
theorem dX14_count_6 : decode cX14_count 6 = .ok (.ifCond .lt 9, 3) := by decide +kernel
theorem dX14_count_9 : decode cX14_count 9 = .ok (.iload_n 1, 1) := by decide +kernel
theorem dX14_count_10 : decode cX14_count 10 = .ok (.bipush 12, 2) := by decide +kernel
theorem dX14_count_12 : decode cX14_count 12 = .ok (.if_icmp .le 5, 3) := by decide +kernel
theorem dX14_count_15 : decode cX14_count 15 = .ok (.iconst (-1), 1) := by decide +kernel
theorem dX14_count_16 : decode cX14_count 16 = .ok (.ireturn, 1) := by decide +kernel
theorem dX14_count_17 : decode cX14_count 17 = .ok (.aload_n 0, 1) := by decide +kernel
theorem dX14_count_18 : decode cX14_count 18 = .ok (.getfield 844, 3) := by decide +kernel
theorem dX14_count_21 : decode cX14_count 21 = .ok (.ifCond .eq 15, 3) := by decide +kernel
theorem dX14_count_24 : decode cX14_count 24 = .ok (.iload_n 1, 1) := by decide +kernel
theorem dX14_count_25 : decode cX14_count 25 = .ok (.iconst 4, 1) := by decide +kernel
theorem dX14_count_26 : decode cX14_count 26 = .ok (.if_icmp .le 12, 3) := by decide +kernel
theorem dX14_count_29 : decode cX14_count 29 = .ok (.aload_n 0, 1) := by decide +kernel
theorem dX14_count_30 : decode cX14_count 30 = .ok (.getfield 847, 3) := by decide +kernel
theorem dX14_count_33 : decode cX14_count 33 = .ok (.ifCond .ne 5, 3) := by decide +kernel
theorem dX14_count_36 : decode cX14_count 36 = .ok (.iconst 0, 1) := by decide +kernel
theorem dX14_count_37 : decode cX14_count 37 = .ok (.ireturn, 1) := by decide +kernel
theorem dX14_count_38 : decode cX14_count 38 = .ok (.iload_n 1, 1) := by decide +kernel
theorem dX14_count_39 : decode cX14_count 39 = .ok (.tableswitch 165 0 11 #[61, 66, 71, 76, 83, 88, 93, 98, 103, 108, 143, 160], 61) := by decide +kernel
theorem dX14_count_100 : decode cX14_count 100 = .ok (.aload_n 0, 1) := by decide +kernel
theorem dX14_count_101 : decode cX14_count 101 = .ok (.getfield 853, 3) := by decide +kernel
theorem dX14_count_104 : decode cX14_count 104 = .ok (.ireturn, 1) := by decide +kernel
theorem dX14_count_105 : decode cX14_count 105 = .ok (.aload_n 0, 1) := by decide +kernel
theorem dX14_count_106 : decode cX14_count 106 = .ok (.getfield 571, 3) := by decide +kernel
theorem dX14_count_109 : decode cX14_count 109 = .ok (.ireturn, 1) := by decide +kernel
theorem dX14_count_110 : decode cX14_count 110 = .ok (.aload_n 0, 1) := by decide +kernel
theorem dX14_count_111 : decode cX14_count 111 = .ok (.getfield 547, 3) := by decide +kernel
theorem dX14_count_114 : decode cX14_count 114 = .ok (.ireturn, 1) := by decide +kernel
theorem dX14_count_115 : decode cX14_count 115 = .ok (.aload_n 0, 1) := by decide +kernel
theorem dX14_count_116 : decode cX14_count 116 = .ok (.getfield 544, 3) := by decide +kernel
theorem dX14_count_119 : decode cX14_count 119 = .ok (.iconst 5, 1) := by decide +kernel
theorem dX14_count_120 : decode cX14_count 120 = .ok (.isub, 1) := by decide +kernel
theorem dX14_count_121 : decode cX14_count 121 = .ok (.ireturn, 1) := by decide +kernel
theorem dX14_count_122 : decode cX14_count 122 = .ok (.aload_n 0, 1) := by decide +kernel
theorem dX14_count_123 : decode cX14_count 123 = .ok (.getfield 783, 3) := by decide +kernel
theorem dX14_count_126 : decode cX14_count 126 = .ok (.ireturn, 1) := by decide +kernel
theorem dX14_count_127 : decode cX14_count 127 = .ok (.aload_n 0, 1) := by decide +kernel
theorem dX14_count_128 : decode cX14_count 128 = .ok (.getfield 847, 3) := by decide +kernel
theorem dX14_count_131 : decode cX14_count 131 = .ok (.ireturn, 1) := by decide +kernel
theorem dX14_count_132 : decode cX14_count 132 = .ok (.aload_n 0, 1) := by decide +kernel
theorem dX14_count_133 : decode cX14_count 133 = .ok (.getfield 966, 3) := by decide +kernel
theorem dX14_count_136 : decode cX14_count 136 = .ok (.ireturn, 1) := by decide +kernel
theorem dX14_count_137 : decode cX14_count 137 = .ok (.aload_n 0, 1) := by decide +kernel
theorem dX14_count_138 : decode cX14_count 138 = .ok (.getfield 934, 3) := by decide +kernel
theorem dX14_count_141 : decode cX14_count 141 = .ok (.ireturn, 1) := by decide +kernel
theorem dX14_count_142 : decode cX14_count 142 = .ok (.aload_n 0, 1) := by decide +kernel
theorem dX14_count_143 : decode cX14_count 143 = .ok (.getfield 969, 3) := by decide +kernel
theorem dX14_count_146 : decode cX14_count 146 = .ok (.ireturn, 1) := by decide +kernel
theorem dX14_count_147 : decode cX14_count 147 = .ok (.aload_n 0, 1) := by decide +kernel
theorem dX14_count_148 : decode cX14_count 148 = .ok (.getfield 847, 3) := by decide +kernel
theorem dX14_count_151 : decode cX14_count 151 = .ok (.iconst 1, 1) := by decide +kernel
theorem dX14_count_152 : decode cX14_count 152 = .ok (.if_icmp .eq 5, 3) := by decide +kernel
theorem dX14_count_155 : decode cX14_count 155 = .ok (.iconst 0, 1) := by decide +kernel
theorem dX14_count_156 : decode cX14_count 156 = .ok (.ireturn, 1) := by decide +kernel
theorem dX14_count_157 : decode cX14_count 157 = .ok (.aload_n 0, 1) := by decide +kernel
theorem dX14_count_158 : decode cX14_count 158 = .ok (.aload_n 0, 1) := by decide +kernel
theorem dX14_count_159 : decode cX14_count 159 = .ok (.getfield 919, 3) := by decide +kernel
theorem dX14_count_162 : decode cX14_count 162 = .ok (.ifCond .eq 7, 3) := by decide +kernel
theorem dX14_count_165 : decode cX14_count 165 = .ok (.iconst (-1), 1) := by decide +kernel
theorem dX14_count_166 : decode cX14_count 166 = .ok (.goto 7, 3) := by decide +kernel
theorem dX14_count_169 : decode cX14_count 169 = .ok (.aload_n 0, 1) := by decide +kernel
theorem dX14_count_170 : decode cX14_count 170 = .ok (.getfield 984, 3) := by decide +kernel
theorem dX14_count_173 : decode cX14_count 173 = .ok (.iconst 0, 1) := by decide +kernel
theorem dX14_count_174 : decode cX14_count 174 = .ok (.invokevirtual 898, 3) := by decide +kernel
theorem dX14_count_177 : decode cX14_count 177 = .ok (.aload_n 0, 1) := by decide +kernel
theorem dX14_count_178 : decode cX14_count 178 = .ok (.getfield 892, 3) := by decide +kernel
theorem dX14_count_181 : decode cX14_count 181 = .ok (.ireturn, 1) := by decide +kernel
theorem dX14_count_182 : decode cX14_count 182 = .ok (.aload_n 0, 1) := by decide +kernel
theorem dX14_count_183 : decode cX14_count 183 = .ok (.getfield 847, 3) := by decide +kernel
theorem dX14_count_186 : decode cX14_count 186 = .ok (.iconst 1, 1) := by decide +kernel
theorem dX14_count_187 : decode cX14_count 187 = .ok (.if_icmp .ne 10, 3) := by decide +kernel
theorem dX14_count_190 : decode cX14_count 190 = .ok (.aload_n 0, 1) := by decide +kernel
theorem dX14_count_191 : decode cX14_count 191 = .ok (.getfield 925, 3) := by decide +kernel
theorem dX14_count_194 : decode cX14_count 194 = .ok (.goto 4, 3) := by decide +kernel
theorem dX14_count_197 : decode cX14_count 197 = .ok (.iconst 0, 1) := by decide +kernel
theorem dX14_count_198 : decode cX14_count 198 = .ok (.ireturn, 1) := by decide +kernel
theorem dX14_count_199 : decode cX14_count 199 = .ok (.aload_n 0, 1) := by decide +kernel
theorem dX14_count_200 : decode cX14_count 200 = .ok (.getfield 972, 3) := by decide +kernel
theorem dX14_count_203 : decode cX14_count 203 = .ok (.ireturn, 1) := by decide +kernel
theorem dX14_count_204 : decode cX14_count 204 = .ok (.aload_n 0, 1) := by decide +kernel
theorem dX14_count_205 : decode cX14_count 205 = .ok (.getfield 975, 3) := by decide +kernel
theorem dX14_count_208 : decode cX14_count 208 = .ok (.ireturn, 1) := by decide +kernel
theorem dX14_isDefinition_0 : decode cX14_isDefinition 0 = .ok (.aload_n 0, 1) := by decide +kernel
theorem dX14_isDefinition_1 : decode cX14_isDefinition 1 = .ok (.getfield 844, 3) := by decide +kernel
theorem dX14_isDefinition_4 : decode cX14_isDefinition 4 = .ok (.ifCond .eq 19, 3) := by decide +kernel
theorem dX14_isDefinition_7 : decode cX14_isDefinition 7 = .ok (.iload_n 1, 1) := by decide +kernel
theorem dX14_isDefinition_8 : decode cX14_isDefinition 8 = .ok (.ifCond .lt 15, 3) := by decide +kernel
theorem dX14_isDefinition_11 : decode cX14_isDefinition 11 = .ok (.iload_n 1, 1) := by decide +kernel
theorem dX14_isDefinition_12 : decode cX14_isDefinition 12 = .ok (.aload_n 0, 1) := by decide +kernel
theorem dX14_isDefinition_13 : decode cX14_isDefinition 13 = .ok (.getfield 571, 3) := by decide +kernel
theorem dX14_isDefinition_16 : decode cX14_isDefinition 16 = .ok (.if_icmp .ge 7, 3) := by decide +kernel
theorem dX14_isDefinition_19 : decode cX14_isDefinition 19 = .ok (.iconst 1, 1) := by decide +kernel
theorem dX14_isDefinition_20 : decode cX14_isDefinition 20 = .ok (.goto 4, 3) := by decide +kernel
theorem dX14_isDefinition_23 : decode cX14_isDefinition 23 = .ok (.iconst 0, 1) := by decide +kernel
theorem dX14_isDefinition_24 : decode cX14_isDefinition 24 = .ok (.ireturn, 1) := by decide +kernel
theorem dX14_sign_0 : decode cX14_sign 0 = .ok (.aload_n 0, 1) := by decide +kernel
theorem dX14_sign_1 : decode cX14_sign 1 = .ok (.iconst 0, 1) := by decide +kernel
theorem dX14_sign_2 : decode cX14_sign 2 = .ok (.putfield 329, 3) := by decide +kernel
theorem dX14_sign_5 : decode cX14_sign 5 = .ok (.aload_n 0, 1) := by decide +kernel
theorem dX14_sign_6 : decode cX14_sign 6 = .ok (.iload_n 1, 1) := by decide +kernel
theorem dX14_sign_7 : decode cX14_sign 7 = .ok (.invokevirtual 1084, 3) := by decide +kernel
theorem dX14_sign_10 : decode cX14_sign 10 = .ok (.ifCond .eq 26, 3) := by decide +kernel
theorem dX14_sign_13 : decode cX14_sign 13 = .ok (.iload_n 2, 1) := by decide +kernel
theorem dX14_sign_14 : decode cX14_sign 14 = .ok (.ifCond .lt 22, 3) := by decide +kernel
theorem dX14_sign_17 : decode cX14_sign 17 = .ok (.iload_n 2, 1) := by decide +kernel
theorem dX14_sign_18 : decode cX14_sign 18 = .ok (.aload_n 0, 1) := by decide +kernel
theorem dX14_sign_19 : decode cX14_sign 19 = .ok (.getfield 251, 3) := by decide +kernel
theorem dX14_sign_22 : decode cX14_sign 22 = .ok (.iload_n 1, 1) := by decide +kernel
theorem dX14_sign_23 : decode cX14_sign 23 = .ok (.iconst 1, 1) := by decide +kernel
theorem dX14_sign_24 : decode cX14_sign 24 = .ok (.iadd, 1) := by decide +kernel
theorem dX14_sign_25 : decode cX14_sign 25 = .ok (.iaload, 1) := by decide +kernel
theorem dX14_sign_26 : decode cX14_sign 26 = .ok (.aload_n 0, 1) := by decide +kernel
theorem dX14_sign_27 : decode cX14_sign 27 = .ok (.getfield 251, 3) := by decide +kernel
theorem dX14_sign_30 : decode cX14_sign 30 = .ok (.iload_n 1, 1) := by decide +kernel
theorem dX14_sign_31 : decode cX14_sign 31 = .ok (.iaload, 1) := by decide +kernel
theorem dX14_sign_32 : decode cX14_sign 32 = .ok (.isub, 1) := by decide +kernel
theorem dX14_sign_33 : decode cX14_sign 33 = .ok (.if_icmp .lt 7, 3) := by decide +kernel
theorem dX14_sign_36 : decode cX14_sign 36 = .ok (.iconst (-1), 1) := by decide +kernel
theorem dX14_sign_37 : decode cX14_sign 37 = .ok (.goto 16, 3) := by decide +kernel
theorem dX14_sign_40 : decode cX14_sign 40 = .ok (.aload_n 0, 1) := by decide +kernel
theorem dX14_sign_41 : decode cX14_sign 41 = .ok (.getfield 247, 3) := by decide +kernel
theorem dX14_sign_44 : decode cX14_sign 44 = .ok (.aload_n 0, 1) := by decide +kernel
theorem dX14_sign_45 : decode cX14_sign 45 = .ok (.getfield 251, 3) := by decide +kernel
theorem dX14_sign_48 : decode cX14_sign 48 = .ok (.iload_n 1, 1) := by decide +kernel
theorem dX14_sign_49 : decode cX14_sign 49 = .ok (.iaload, 1) := by decide +kernel
theorem dX14_sign_50 : decode cX14_sign 50 = .ok (.iload_n 2, 1) := by decide +kernel
theorem dX14_sign_51 : decode cX14_sign 51 = .ok (.iadd, 1) := by decide +kernel
theorem dX14_sign_52 : decode cX14_sign 52 = .ok (.baload, 1) := by decide +kernel
theorem dX14_sign_53 : decode cX14_sign 53 = .ok (.ireturn, 1) := by decide +kernel
theorem dX14_strict_0 : decode cX14_strict 0 = .ok (.aload_n 0, 1) := by decide +kernel
theorem dX14_strict_1 : decode cX14_strict 1 = .ok (.iconst 0, 1) := by decide +kernel
theorem dX14_strict_2 : decode cX14_strict 2 = .ok (.putfield 329, 3) := by decide +kernel
theorem dX14_strict_5 : decode cX14_strict 5 = .ok (.aload_n 0, 1) := by decide +kernel
theorem dX14_strict_6 : decode cX14_strict 6 = .ok (.iload_n 1, 1) := by decide +kernel
theorem dX14_strict_7 : decode cX14_strict 7 = .ok (.invokevirtual 1084, 3) := by decide +kernel
theorem dX14_strict_10 : decode cX14_strict 10 = .ok (.ifCond .eq 7, 3) := by decide +kernel
theorem dX14_strict_13 : decode cX14_strict 13 = .ok (.iload_n 2, 1) := by decide +kernel
theorem dX14_strict_14 : decode cX14_strict 14 = .ok (.ifCond .ge 5, 3) := by decide +kernel
theorem dX14_strict_17 : decode cX14_strict 17 = .ok (.iconst (-1), 1) := by decide +kernel
theorem dX14_strict_18 : decode cX14_strict 18 = .ok (.ireturn, 1) := by decide +kernel
theorem dX14_strict_19 : decode cX14_strict 19 = .ok (.aload_n 0, 1) := by decide +kernel
theorem dX14_strict_20 : decode cX14_strict 20 = .ok (.getfield 131, 3) := by decide +kernel
theorem dX14_strict_23 : decode cX14_strict 23 = .ok (.aload_n 0, 1) := by decide +kernel
theorem dX14_strict_24 : decode cX14_strict 24 = .ok (.getfield 149, 3) := by decide +kernel
theorem dX14_strict_27 : decode cX14_strict 27 = .ok (.aload_n 0, 1) := by decide +kernel
theorem dX14_strict_28 : decode cX14_strict 28 = .ok (.getfield 179, 3) := by decide +kernel
theorem dX14_strict_31 : decode cX14_strict 31 = .ok (.iload_n 1, 1) := by decide +kernel
theorem dX14_strict_32 : decode cX14_strict 32 = .ok (.iaload, 1) := by decide +kernel
theorem dX14_strict_33 : decode cX14_strict 33 = .ok (.iaload, 1) := by decide +kernel
theorem dX14_strict_34 : decode cX14_strict 34 = .ok (.iaload, 1) := by decide +kernel
theorem dX14_strict_35 : decode cX14_strict 35 = .ok (.istore_n 3, 1) := by decide +kernel
theorem dX14_strict_36 : decode cX14_strict 36 = .ok (.iconst 0, 1) := by decide +kernel
theorem dX14_strict_37 : decode cX14_strict 37 = .ok (.istore 4, 2) := by decide +kernel
theorem dX14_strict_39 : decode cX14_strict 39 = .ok (.iload 4, 2) := by decide +kernel
theorem dX14_strict_41 : decode cX14_strict 41 = .ok (.iload_n 2, 1) := by decide +kernel
theorem dX14_strict_42 : decode cX14_strict 42 = .ok (.if_icmp .ge 20, 3) := by decide +kernel
theorem dX14_strict_45 : decode cX14_strict 45 = .ok (.iload_n 3, 1) := by decide +kernel
theorem dX14_strict_46 : decode cX14_strict 46 = .ok (.ifCond .lt 16, 3) := by decide +kernel
theorem dX14_strict_49 : decode cX14_strict 49 = .ok (.aload_n 0, 1) := by decide +kernel
theorem dX14_strict_50 : decode cX14_strict 50 = .ok (.getfield 140, 3) := by decide +kernel
theorem dX14_strict_53 : decode cX14_strict 53 = .ok (.iload_n 3, 1) := by decide +kernel
theorem dX14_strict_54 : decode cX14_strict 54 = .ok (.iaload, 1) := by decide +kernel
theorem dX14_strict_55 : decode cX14_strict 55 = .ok (.istore_n 3, 1) := by decide +kernel
theorem dX14_strict_56 : decode cX14_strict 56 = .ok (.iinc 4 1, 3) := by decide +kernel
theorem dX14_strict_59 : decode cX14_strict 59 = .ok (.goto (-20), 3) := by decide +kernel
theorem dX14_strict_62 : decode cX14_strict 62 = .ok (.iload_n 3, 1) := by decide +kernel
theorem dX14_strict_63 : decode cX14_strict 63 = .ok (.ifCond .ge 7, 3) := by decide +kernel
theorem dX14_strict_66 : decode cX14_strict 66 = .ok (.iconst (-1), 1) := by decide +kernel
theorem dX14_strict_67 : decode cX14_strict 67 = .ok (.goto 22, 3) := by decide +kernel
theorem dX14_strict_70 : decode cX14_strict 70 = .ok (.aload_n 0, 1) := by decide +kernel
theorem dX14_strict_71 : decode cX14_strict 71 = .ok (.getfield 257, 3) := by decide +kernel
theorem dX14_strict_74 : decode cX14_strict 74 = .ok (.aload_n 0, 1) := by decide +kernel
theorem dX14_strict_75 : decode cX14_strict 75 = .ok (.getfield 143, 3) := by decide +kernel
theorem dX14_strict_78 : decode cX14_strict 78 = .ok (.iload_n 3, 1) := by decide +kernel
theorem dX14_strict_79 : decode cX14_strict 79 = .ok (.iaload, 1) := by decide +kernel
theorem dX14_strict_80 : decode cX14_strict 80 = .ok (.baload, 1) := by decide +kernel
theorem dX14_strict_81 : decode cX14_strict 81 = .ok (.ifCond .eq 7, 3) := by decide +kernel
theorem dX14_strict_84 : decode cX14_strict 84 = .ok (.iconst 1, 1) := by decide +kernel
theorem dX14_strict_85 : decode cX14_strict 85 = .ok (.goto 4, 3) := by decide +kernel
theorem dX14_strict_88 : decode cX14_strict 88 = .ok (.iconst 0, 1) := by decide +kernel
theorem dX14_strict_89 : decode cX14_strict 89 = .ok (.ireturn, 1) := by decide +kernel
theorem dX14_group_0 : decode cX14_group 0 = .ok (.aload_n 0, 1) := by decide +kernel
theorem dX14_group_1 : decode cX14_group 1 = .ok (.iconst 0, 1) := by decide +kernel
theorem dX14_group_2 : decode cX14_group 2 = .ok (.putfield 329, 3) := by decide +kernel
theorem dX14_group_5 : decode cX14_group 5 = .ok (.aload_n 0, 1) := by decide +kernel
theorem dX14_group_6 : decode cX14_group 6 = .ok (.iload_n 1, 1) := by decide +kernel
theorem dX14_group_7 : decode cX14_group 7 = .ok (.invokevirtual 1084, 3) := by decide +kernel
theorem dX14_group_10 : decode cX14_group 10 = .ok (.ifCond .eq 17, 3) := by decide +kernel
theorem dX14_group_13 : decode cX14_group 13 = .ok (.aload_n 0, 1) := by decide +kernel
theorem dX14_group_14 : decode cX14_group 14 = .ok (.getfield 228, 3) := by decide +kernel
theorem dX14_group_17 : decode cX14_group 17 = .ok (.aload_n 0, 1) := by decide +kernel
theorem dX14_group_18 : decode cX14_group 18 = .ok (.getfield 179, 3) := by decide +kernel
theorem dX14_group_21 : decode cX14_group 21 = .ok (.iload_n 1, 1) := by decide +kernel
theorem dX14_group_22 : decode cX14_group 22 = .ok (.iaload, 1) := by decide +kernel
theorem dX14_group_23 : decode cX14_group 23 = .ok (.iaload, 1) := by decide +kernel
theorem dX14_group_24 : decode cX14_group 24 = .ok (.goto 4, 3) := by decide +kernel
theorem dX14_group_27 : decode cX14_group 27 = .ok (.iconst (-1), 1) := by decide +kernel
theorem dX14_group_28 : decode cX14_group 28 = .ok (.ireturn, 1) := by decide +kernel
theorem dX14_global_0 : decode cX14_global 0 = .ok (.aload_n 0, 1) := by decide +kernel
theorem dX14_global_1 : decode cX14_global 1 = .ok (.iconst 0, 1) := by decide +kernel
theorem dX14_global_2 : decode cX14_global 2 = .ok (.putfield 329, 3) := by decide +kernel
theorem dX14_global_5 : decode cX14_global 5 = .ok (.aload_n 0, 1) := by decide +kernel
theorem dX14_global_6 : decode cX14_global 6 = .ok (.iload_n 1, 1) := by decide +kernel
theorem dX14_global_7 : decode cX14_global 7 = .ok (.invokevirtual 1084, 3) := by decide +kernel
theorem dX14_global_10 : decode cX14_global 10 = .ok (.ifCond .eq 19, 3) := by decide +kernel
theorem dX14_global_13 : decode cX14_global 13 = .ok (.aload_n 0, 1) := by decide +kernel
theorem dX14_global_14 : decode cX14_global 14 = .ok (.getfield 847, 3) := by decide +kernel
theorem dX14_global_17 : decode cX14_global 17 = .ok (.ifCond .eq 12, 3) := by decide +kernel
theorem dX14_global_20 : decode cX14_global 20 = .ok (.iload_n 2, 1) := by decide +kernel
theorem dX14_global_21 : decode cX14_global 21 = .ok (.ifCond .lt 8, 3) := by decide +kernel
theorem dX14_global_24 : decode cX14_global 24 = .ok (.iload_n 2, 1) := by decide +kernel
theorem dX14_global_25 : decode cX14_global 25 = .ok (.iconst 2, 1) := by decide +kernel
theorem dX14_global_26 : decode cX14_global 26 = .ok (.if_icmp .le 5, 3) := by decide +kernel
theorem dX14_global_29 : decode cX14_global 29 = .ok (.iconst (-1), 1) := by decide +kernel
theorem dX14_global_30 : decode cX14_global 30 = .ok (.ireturn, 1) := by decide +kernel
theorem dX14_global_31 : decode cX14_global 31 = .ok (.iload_n 2, 1) := by decide +kernel
theorem dX14_global_32 : decode cX14_global 32 = .ok (.ifCond .ne 10, 3) := by decide +kernel
theorem dX14_global_35 : decode cX14_global 35 = .ok (.aload_n 0, 1) := by decide +kernel
theorem dX14_global_36 : decode cX14_global 36 = .ok (.getfield 296, 3) := by decide +kernel
theorem dX14_global_39 : decode cX14_global 39 = .ok (.iload_n 1, 1) := by decide +kernel
theorem dX14_global_40 : decode cX14_global 40 = .ok (.iaload, 1) := by decide +kernel
theorem dX14_global_41 : decode cX14_global 41 = .ok (.ireturn, 1) := by decide +kernel
theorem dX14_global_42 : decode cX14_global 42 = .ok (.aload_n 0, 1) := by decide +kernel
theorem dX14_global_43 : decode cX14_global 43 = .ok (.getfield 296, 3) := by decide +kernel
theorem dX14_global_46 : decode cX14_global 46 = .ok (.iload_n 1, 1) := by decide +kernel
theorem dX14_global_47 : decode cX14_global 47 = .ok (.iaload, 1) := by decide +kernel
theorem dX14_global_48 : decode cX14_global 48 = .ok (.iconst 2, 1) := by decide +kernel
theorem dX14_global_49 : decode cX14_global 49 = .ok (.if_icmp .eq 5, 3) := by decide +kernel
theorem dX14_global_52 : decode cX14_global 52 = .ok (.iconst (-1), 1) := by decide +kernel
theorem dX14_global_53 : decode cX14_global 53 = .ok (.ireturn, 1) := by decide +kernel
theorem dX14_global_54 : decode cX14_global 54 = .ok (.aload_n 0, 1) := by decide +kernel
theorem dX14_global_55 : decode cX14_global 55 = .ok (.getfield 299, 3) := by decide +kernel
theorem dX14_global_58 : decode cX14_global 58 = .ok (.iload_n 1, 1) := by decide +kernel
theorem dX14_global_59 : decode cX14_global 59 = .ok (.laload, 1) := by decide +kernel
theorem dX14_global_60 : decode cX14_global 60 = .ok (.lstore_n 3, 1) := by decide +kernel
theorem dX14_global_61 : decode cX14_global 61 = .ok (.lload_n 3, 1) := by decide +kernel
theorem dX14_global_62 : decode cX14_global 62 = .ok (.invokestatic 873, 3) := by decide +kernel
theorem dX14_global_65 : decode cX14_global 65 = .ok (.ifCond .ne 7, 3) := by decide +kernel
theorem dX14_global_68 : decode cX14_global 68 = .ok (.iconst 1, 1) := by decide +kernel
theorem dX14_global_69 : decode cX14_global 69 = .ok (.goto 4, 3) := by decide +kernel
theorem dX14_global_72 : decode cX14_global 72 = .ok (.iconst 0, 1) := by decide +kernel
theorem dX14_global_73 : decode cX14_global 73 = .ok (.istore 5, 2) := by decide +kernel
theorem dX14_global_75 : decode cX14_global 75 = .ok (.lload_n 3, 1) := by decide +kernel
theorem dX14_global_76 : decode cX14_global 76 = .ok (.invokestatic 873, 3) := by decide +kernel
theorem dX14_global_79 : decode cX14_global 79 = .ok (.iconst 1, 1) := by decide +kernel
theorem dX14_global_80 : decode cX14_global 80 = .ok (.if_icmp .ne 13, 3) := by decide +kernel
theorem dX14_global_83 : decode cX14_global 83 = .ok (.aload_n 0, 1) := by decide +kernel
theorem dX14_global_84 : decode cX14_global 84 = .ok (.getfield 176, 3) := by decide +kernel
theorem dX14_global_87 : decode cX14_global 87 = .ok (.lload_n 3, 1) := by decide +kernel
theorem dX14_global_88 : decode cX14_global 88 = .ok (.l2i, 1) := by decide +kernel
theorem dX14_global_89 : decode cX14_global 89 = .ok (.iaload, 1) := by decide +kernel
theorem dX14_global_90 : decode cX14_global 90 = .ok (.ifCond .eq 22, 3) := by decide +kernel
theorem dX14_global_93 : decode cX14_global 93 = .ok (.lload_n 3, 1) := by decide +kernel
theorem dX14_global_94 : decode cX14_global 94 = .ok (.invokestatic 873, 3) := by decide +kernel
theorem dX14_global_97 : decode cX14_global 97 = .ok (.iconst 4, 1) := by decide +kernel
theorem dX14_global_98 : decode cX14_global 98 = .ok (.if_icmp .ne 18, 3) := by decide +kernel
theorem dX14_global_101 : decode cX14_global 101 = .ok (.aload_n 0, 1) := by decide +kernel
theorem dX14_global_102 : decode cX14_global 102 = .ok (.getfield 263, 3) := by decide +kernel
theorem dX14_global_105 : decode cX14_global 105 = .ok (.lload_n 3, 1) := by decide +kernel
theorem dX14_global_106 : decode cX14_global 106 = .ok (.l2i, 1) := by decide +kernel
theorem dX14_global_107 : decode cX14_global 107 = .ok (.iaload, 1) := by decide +kernel
theorem dX14_global_108 : decode cX14_global 108 = .ok (.iconst 1, 1) := by decide +kernel
theorem dX14_global_109 : decode cX14_global 109 = .ok (.if_icmp .ne 7, 3) := by decide +kernel
theorem dX14_global_112 : decode cX14_global 112 = .ok (.iconst 1, 1) := by decide +kernel
theorem dX14_global_113 : decode cX14_global 113 = .ok (.goto 4, 3) := by decide +kernel
theorem dX14_global_116 : decode cX14_global 116 = .ok (.iconst 0, 1) := by decide +kernel
theorem dX14_global_117 : decode cX14_global 117 = .ok (.istore 6, 2) := by decide +kernel
theorem dX14_global_119 : decode cX14_global 119 = .ok (.iload_n 2, 1) := by decide +kernel
theorem dX14_global_120 : decode cX14_global 120 = .ok (.iconst 1, 1) := by decide +kernel
theorem dX14_global_121 : decode cX14_global 121 = .ok (.if_icmp .ne 23, 3) := by decide +kernel
theorem dX14_global_124 : decode cX14_global 124 = .ok (.iload 5, 2) := by decide +kernel
theorem dX14_global_126 : decode cX14_global 126 = .ok (.ifCond .eq 7, 3) := by decide +kernel
theorem dX14_global_129 : decode cX14_global 129 = .ok (.iconst 0, 1) := by decide +kernel
theorem dX14_global_130 : decode cX14_global 130 = .ok (.goto 13, 3) := by decide +kernel
theorem dX14_global_133 : decode cX14_global 133 = .ok (.iload 6, 2) := by decide +kernel
theorem dX14_global_135 : decode cX14_global 135 = .ok (.ifCond .eq 7, 3) := by decide +kernel
theorem dX14_global_138 : decode cX14_global 138 = .ok (.iconst 1, 1) := by decide +kernel
theorem dX14_global_139 : decode cX14_global 139 = .ok (.goto 4, 3) := by decide +kernel
theorem dX14_global_142 : decode cX14_global 142 = .ok (.iconst 2, 1) := by decide +kernel
theorem dX14_global_143 : decode cX14_global 143 = .ok (.ireturn, 1) := by decide +kernel
theorem dX14_global_144 : decode cX14_global 144 = .ok (.iload 5, 2) := by decide +kernel
theorem dX14_global_146 : decode cX14_global 146 = .ok (.ifCond .eq 8, 3) := by decide +kernel
theorem dX14_global_149 : decode cX14_global 149 = .ok (.lload_n 3, 1) := by decide +kernel
theorem dX14_global_150 : decode cX14_global 150 = .ok (.l2i, 1) := by decide +kernel
theorem dX14_global_151 : decode cX14_global 151 = .ok (.goto 21, 3) := by decide +kernel
theorem dX14_global_154 : decode cX14_global 154 = .ok (.iload 6, 2) := by decide +kernel
theorem dX14_global_156 : decode cX14_global 156 = .ok (.ifCond .eq 11, 3) := by decide +kernel
theorem dX14_global_159 : decode cX14_global 159 = .ok (.aload_n 0, 1) := by decide +kernel
theorem dX14_global_160 : decode cX14_global 160 = .ok (.lload_n 3, 1) := by decide +kernel
theorem dX14_global_161 : decode cX14_global 161 = .ok (.invokevirtual 1055, 3) := by decide +kernel
theorem dX14_global_164 : decode cX14_global 164 = .ok (.goto 8, 3) := by decide +kernel
theorem dX14_global_167 : decode cX14_global 167 = .ok (.aload_n 0, 1) := by decide +kernel
theorem dX14_global_168 : decode cX14_global 168 = .ok (.lload_n 3, 1) := by decide +kernel
theorem dX14_global_169 : decode cX14_global 169 = .ok (.invokevirtual 1058, 3) := by decide +kernel
theorem dX14_global_172 : decode cX14_global 172 = .ok (.ireturn, 1) := by decide +kernel
theorem dX14_shown_0 : decode cX14_shown 0 = .ok (.aload_n 0, 1) := by decide +kernel
theorem dX14_shown_1 : decode cX14_shown 1 = .ok (.iconst 0, 1) := by decide +kernel
theorem dX14_shown_2 : decode cX14_shown 2 = .ok (.putfield 329, 3) := by decide +kernel
theorem dX14_shown_5 : decode cX14_shown 5 = .ok (.aload_n 0, 1) := by decide +kernel
theorem dX14_shown_6 : decode cX14_shown 6 = .ok (.getfield 847, 3) := by decide +kernel
theorem dX14_shown_9 : decode cX14_shown 9 = .ok (.ifCond .eq 15, 3) := by decide +kernel
theorem dX14_shown_12 : decode cX14_shown 12 = .ok (.iload_n 1, 1) := by decide +kernel
theorem dX14_shown_13 : decode cX14_shown 13 = .ok (.ifCond .lt 11, 3) := by decide +kernel
theorem dX14_shown_16 : decode cX14_shown 16 = .ok (.iload_n 1, 1) := by decide +kernel
theorem dX14_shown_17 : decode cX14_shown 17 = .ok (.aload_n 0, 1) := by decide +kernel
theorem dX14_shown_18 : decode cX14_shown 18 = .ok (.getfield 972, 3) := by decide +kernel
theorem dX14_shown_21 : decode cX14_shown 21 = .ok (.if_icmp .lt 7, 3) := by decide +kernel
theorem dX14_shown_24 : decode cX14_shown 24 = .ok (.iconst (-1), 1) := by decide +kernel
theorem dX14_shown_25 : decode cX14_shown 25 = .ok (.goto 9, 3) := by decide +kernel
theorem dX14_shown_28 : decode cX14_shown 28 = .ok (.aload_n 0, 1) := by decide +kernel
theorem dX14_shown_29 : decode cX14_shown 29 = .ok (.getfield 323, 3) := by decide +kernel
theorem dX14_shown_32 : decode cX14_shown 32 = .ok (.iload_n 1, 1) := by decide +kernel
theorem dX14_shown_33 : decode cX14_shown 33 = .ok (.baload, 1) := by decide +kernel
theorem dX14_shown_34 : decode cX14_shown 34 = .ok (.ireturn, 1) := by decide +kernel
theorem dX14_said_0 : decode cX14_said 0 = .ok (.aload_n 0, 1) := by decide +kernel
theorem dX14_said_1 : decode cX14_said 1 = .ok (.iconst 0, 1) := by decide +kernel
theorem dX14_said_2 : decode cX14_said 2 = .ok (.putfield 329, 3) := by decide +kernel
theorem dX14_said_5 : decode cX14_said 5 = .ok (.aload_n 0, 1) := by decide +kernel
theorem dX14_said_6 : decode cX14_said 6 = .ok (.getfield 847, 3) := by decide +kernel
theorem dX14_said_9 : decode cX14_said 9 = .ok (.ifCond .eq 15, 3) := by decide +kernel
theorem dX14_said_12 : decode cX14_said 12 = .ok (.iload_n 1, 1) := by decide +kernel
theorem dX14_said_13 : decode cX14_said 13 = .ok (.ifCond .lt 11, 3) := by decide +kernel
theorem dX14_said_16 : decode cX14_said 16 = .ok (.iload_n 1, 1) := by decide +kernel
theorem dX14_said_17 : decode cX14_said 17 = .ok (.aload_n 0, 1) := by decide +kernel
theorem dX14_said_18 : decode cX14_said 18 = .ok (.getfield 975, 3) := by decide +kernel
theorem dX14_said_21 : decode cX14_said 21 = .ok (.if_icmp .lt 7, 3) := by decide +kernel
theorem dX14_said_24 : decode cX14_said 24 = .ok (.iconst 0, 1) := by decide +kernel
theorem dX14_said_25 : decode cX14_said 25 = .ok (.goto 9, 3) := by decide +kernel
theorem dX14_said_28 : decode cX14_said 28 = .ok (.aload_n 0, 1) := by decide +kernel
theorem dX14_said_29 : decode cX14_said 29 = .ok (.getfield 326, 3) := by decide +kernel
theorem dX14_said_32 : decode cX14_said 32 = .ok (.iload_n 1, 1) := by decide +kernel
theorem dX14_said_33 : decode cX14_said 33 = .ok (.iaload, 1) := by decide +kernel
theorem dX14_said_34 : decode cX14_said 34 = .ok (.ireturn, 1) := by decide +kernel
theorem dX14_begin_0 : decode cX14_begin 0 = .ok (.aload_n 0, 1) := by decide +kernel
theorem dX14_begin_1 : decode cX14_begin 1 = .ok (.aload_n 0, 1) := by decide +kernel
theorem dX14_begin_2 : decode cX14_begin 2 = .ok (.getfield 844, 3) := by decide +kernel
theorem dX14_begin_5 : decode cX14_begin 5 = .ok (.ifCond .eq 7, 3) := by decide +kernel
theorem dX14_begin_8 : decode cX14_begin 8 = .ok (.iconst 0, 1) := by decide +kernel
theorem dX14_begin_9 : decode cX14_begin 9 = .ok (.goto 4, 3) := by decide +kernel
theorem dX14_begin_12 : decode cX14_begin 12 = .ok (.iconst 1, 1) := by decide +kernel
theorem dX14_begin_13 : decode cX14_begin 13 = .ok (.putfield 329, 3) := by decide +kernel
theorem dX14_begin_16 : decode cX14_begin 16 = .ok (.aload_n 0, 1) := by decide +kernel
theorem dX14_begin_17 : decode cX14_begin 17 = .ok (.getfield 329, 3) := by decide +kernel
theorem dX14_begin_20 : decode cX14_begin 20 = .ok (.iconst 1, 1) := by decide +kernel
theorem dX14_begin_21 : decode cX14_begin 21 = .ok (.if_icmp .ne 4, 3) := by decide +kernel
theorem dX14_begin_24 : decode cX14_begin 24 = .ok (.return_, 1) := by decide +kernel
theorem dX14_begin_25 : decode cX14_begin 25 = .ok (.aload_n 0, 1) := by decide +kernel
theorem dX14_begin_26 : decode cX14_begin 26 = .ok (.iconst 1, 1) := by decide +kernel
theorem dX14_begin_27 : decode cX14_begin 27 = .ok (.putfield 847, 3) := by decide +kernel
theorem dX14_begin_30 : decode cX14_begin 30 = .ok (.aload_n 0, 1) := by decide +kernel
theorem dX14_begin_31 : decode cX14_begin 31 = .ok (.iconst 0, 1) := by decide +kernel
theorem dX14_begin_32 : decode cX14_begin 32 = .ok (.putfield 966, 3) := by decide +kernel
theorem dX14_begin_35 : decode cX14_begin 35 = .ok (.aload_n 0, 1) := by decide +kernel
theorem dX14_begin_36 : decode cX14_begin 36 = .ok (.iconst 0, 1) := by decide +kernel
theorem dX14_begin_37 : decode cX14_begin 37 = .ok (.putfield 934, 3) := by decide +kernel
theorem dX14_begin_40 : decode cX14_begin 40 = .ok (.aload_n 0, 1) := by decide +kernel
theorem dX14_begin_41 : decode cX14_begin 41 = .ok (.iconst 0, 1) := by decide +kernel
theorem dX14_begin_42 : decode cX14_begin 42 = .ok (.putfield 969, 3) := by decide +kernel
theorem dX14_begin_45 : decode cX14_begin 45 = .ok (.aload_n 0, 1) := by decide +kernel
theorem dX14_begin_46 : decode cX14_begin 46 = .ok (.iconst 0, 1) := by decide +kernel
theorem dX14_begin_47 : decode cX14_begin 47 = .ok (.putfield 908, 3) := by decide +kernel
theorem dX14_begin_50 : decode cX14_begin 50 = .ok (.aload_n 0, 1) := by decide +kernel
theorem dX14_begin_51 : decode cX14_begin 51 = .ok (.iconst 0, 1) := by decide +kernel
theorem dX14_begin_52 : decode cX14_begin 52 = .ok (.putfield 931, 3) := by decide +kernel
theorem dX14_begin_55 : decode cX14_begin 55 = .ok (.aload_n 0, 1) := by decide +kernel
theorem dX14_begin_56 : decode cX14_begin 56 = .ok (.iconst 0, 1) := by decide +kernel
theorem dX14_begin_57 : decode cX14_begin 57 = .ok (.putfield 928, 3) := by decide +kernel
theorem dX14_begin_60 : decode cX14_begin 60 = .ok (.aload_n 0, 1) := by decide +kernel
theorem dX14_begin_61 : decode cX14_begin 61 = .ok (.iconst 0, 1) := by decide +kernel
theorem dX14_begin_62 : decode cX14_begin 62 = .ok (.putfield 892, 3) := by decide +kernel
theorem dX14_begin_65 : decode cX14_begin 65 = .ok (.aload_n 0, 1) := by decide +kernel
theorem dX14_begin_66 : decode cX14_begin 66 = .ok (.iconst 0, 1) := by decide +kernel
theorem dX14_begin_67 : decode cX14_begin 67 = .ok (.putfield 925, 3) := by decide +kernel
theorem dX14_begin_70 : decode cX14_begin 70 = .ok (.aload_n 0, 1) := by decide +kernel
theorem dX14_begin_71 : decode cX14_begin 71 = .ok (.getfield 311, 3) := by decide +kernel
theorem dX14_begin_74 : decode cX14_begin 74 = .ok (.iconst 0, 1) := by decide +kernel
theorem dX14_begin_75 : decode cX14_begin 75 = .ok (.iconst 0, 1) := by decide +kernel
theorem dX14_begin_76 : decode cX14_begin 76 = .ok (.iastore, 1) := by decide +kernel
theorem dX14_begin_77 : decode cX14_begin 77 = .ok (.aload_n 0, 1) := by decide +kernel
theorem dX14_begin_78 : decode cX14_begin 78 = .ok (.iconst 0, 1) := by decide +kernel
theorem dX14_begin_79 : decode cX14_begin 79 = .ok (.putfield 972, 3) := by decide +kernel
theorem dX14_begin_82 : decode cX14_begin 82 = .ok (.aload_n 0, 1) := by decide +kernel
theorem dX14_begin_83 : decode cX14_begin 83 = .ok (.iconst 0, 1) := by decide +kernel
theorem dX14_begin_84 : decode cX14_begin 84 = .ok (.putfield 975, 3) := by decide +kernel
theorem dX14_begin_87 : decode cX14_begin 87 = .ok (.aload_n 0, 1) := by decide +kernel
theorem dX14_begin_88 : decode cX14_begin 88 = .ok (.iconst 1, 1) := by decide +kernel
theorem dX14_begin_89 : decode cX14_begin 89 = .ok (.putfield 919, 3) := by decide +kernel
theorem dX14_begin_92 : decode cX14_begin 92 = .ok (.aload_n 0, 1) := by decide +kernel
theorem dX14_begin_93 : decode cX14_begin 93 = .ok (.iconst 0, 1) := by decide +kernel
theorem dX14_begin_94 : decode cX14_begin 94 = .ok (.putfield 895, 3) := by decide +kernel
theorem dX14_begin_97 : decode cX14_begin 97 = .ok (.iconst 0, 1) := by decide +kernel
theorem dX14_begin_98 : decode cX14_begin 98 = .ok (.istore_n 1, 1) := by decide +kernel
theorem dX14_begin_99 : decode cX14_begin 99 = .ok (.iconst 0, 1) := by decide +kernel
theorem dX14_begin_100 : decode cX14_begin 100 = .ok (.istore_n 2, 1) := by decide +kernel
theorem dX14_begin_101 : decode cX14_begin 101 = .ok (.iload_n 2, 1) := by decide +kernel
theorem dX14_begin_102 : decode cX14_begin 102 = .ok (.aload_n 0, 1) := by decide +kernel
theorem dX14_begin_103 : decode cX14_begin 103 = .ok (.getfield 571, 3) := by decide +kernel
theorem dX14_begin_106 : decode cX14_begin 106 = .ok (.if_icmp .ge 87, 3) := by decide +kernel
theorem dX14_begin_109 : decode cX14_begin 109 = .ok (.aload_n 0, 1) := by decide +kernel
theorem dX14_begin_110 : decode cX14_begin 110 = .ok (.getfield 149, 3) := by decide +kernel
theorem dX14_begin_113 : decode cX14_begin 113 = .ok (.aload_n 0, 1) := by decide +kernel
theorem dX14_begin_114 : decode cX14_begin 114 = .ok (.getfield 179, 3) := by decide +kernel
theorem dX14_begin_117 : decode cX14_begin 117 = .ok (.iload_n 2, 1) := by decide +kernel
theorem dX14_begin_118 : decode cX14_begin 118 = .ok (.iaload, 1) := by decide +kernel
theorem dX14_begin_119 : decode cX14_begin 119 = .ok (.iaload, 1) := by decide +kernel
theorem dX14_begin_120 : decode cX14_begin 120 = .ok (.istore_n 3, 1) := by decide +kernel
theorem dX14_begin_121 : decode cX14_begin 121 = .ok (.aload_n 0, 1) := by decide +kernel
theorem dX14_begin_122 : decode cX14_begin 122 = .ok (.getfield 296, 3) := by decide +kernel
theorem dX14_begin_125 : decode cX14_begin 125 = .ok (.iload_n 2, 1) := by decide +kernel
theorem dX14_begin_126 : decode cX14_begin 126 = .ok (.aload_n 0, 1) := by decide +kernel
theorem dX14_begin_127 : decode cX14_begin 127 = .ok (.getfield 131, 3) := by decide +kernel
theorem dX14_begin_130 : decode cX14_begin 130 = .ok (.iload_n 3, 1) := by decide +kernel
theorem dX14_begin_131 : decode cX14_begin 131 = .ok (.iaload, 1) := by decide +kernel
theorem dX14_begin_132 : decode cX14_begin 132 = .ok (.ifCond .lt 7, 3) := by decide +kernel
theorem dX14_begin_135 : decode cX14_begin 135 = .ok (.iconst 2, 1) := by decide +kernel
theorem dX14_begin_136 : decode cX14_begin 136 = .ok (.goto 4, 3) := by decide +kernel
theorem dX14_begin_139 : decode cX14_begin 139 = .ok (.iconst 0, 1) := by decide +kernel
theorem dX14_begin_140 : decode cX14_begin 140 = .ok (.iastore, 1) := by decide +kernel
theorem dX14_begin_141 : decode cX14_begin 141 = .ok (.aload_n 0, 1) := by decide +kernel
theorem dX14_begin_142 : decode cX14_begin 142 = .ok (.getfield 299, 3) := by decide +kernel
theorem dX14_begin_145 : decode cX14_begin 145 = .ok (.iload_n 2, 1) := by decide +kernel
theorem dX14_begin_146 : decode cX14_begin 146 = .ok (.iconst 2, 1) := by decide +kernel
theorem dX14_begin_147 : decode cX14_begin 147 = .ok (.iload_n 2, 1) := by decide +kernel
theorem dX14_begin_148 : decode cX14_begin 148 = .ok (.invokestatic 937, 3) := by decide +kernel
theorem dX14_begin_151 : decode cX14_begin 151 = .ok (.lastore, 1) := by decide +kernel
theorem dX14_begin_152 : decode cX14_begin 152 = .ok (.aload_n 0, 1) := by decide +kernel
theorem dX14_begin_153 : decode cX14_begin 153 = .ok (.getfield 131, 3) := by decide +kernel
theorem dX14_begin_156 : decode cX14_begin 156 = .ok (.iload_n 3, 1) := by decide +kernel
theorem dX14_begin_157 : decode cX14_begin 157 = .ok (.iaload, 1) := by decide +kernel
theorem dX14_begin_158 : decode cX14_begin 158 = .ok (.ifCond .ge 29, 3) := by decide +kernel
theorem dX14_begin_161 : decode cX14_begin 161 = .ok (.aload_n 0, 1) := by decide +kernel
theorem dX14_begin_162 : decode cX14_begin 162 = .ok (.aload_n 0, 1) := by decide +kernel
theorem dX14_begin_163 : decode cX14_begin 163 = .ok (.getfield 134, 3) := by decide +kernel
theorem dX14_begin_166 : decode cX14_begin 166 = .ok (.iload_n 3, 1) := by decide +kernel
theorem dX14_begin_167 : decode cX14_begin 167 = .ok (.iaload, 1) := by decide +kernel
theorem dX14_begin_168 : decode cX14_begin 168 = .ok (.invokevirtual 978, 3) := by decide +kernel
theorem dX14_begin_171 : decode cX14_begin 171 = .ok (.ifCond .eq 16, 3) := by decide +kernel
theorem dX14_begin_174 : decode cX14_begin 174 = .ok (.iload_n 1, 1) := by decide +kernel
theorem dX14_begin_175 : decode cX14_begin 175 = .ok (.aload_n 0, 1) := by decide +kernel
theorem dX14_begin_176 : decode cX14_begin 176 = .ok (.aload_n 0, 1) := by decide +kernel
theorem dX14_begin_177 : decode cX14_begin 177 = .ok (.getfield 134, 3) := by decide +kernel
theorem dX14_begin_180 : decode cX14_begin 180 = .ok (.iload_n 3, 1) := by decide +kernel
theorem dX14_begin_181 : decode cX14_begin 181 = .ok (.iaload, 1) := by decide +kernel
theorem dX14_begin_182 : decode cX14_begin 182 = .ok (.invokevirtual 886, 3) := by decide +kernel
theorem dX14_begin_185 : decode cX14_begin 185 = .ok (.iadd, 1) := by decide +kernel
theorem dX14_begin_186 : decode cX14_begin 186 = .ok (.istore_n 1, 1) := by decide +kernel
theorem dX14_begin_187 : decode cX14_begin 187 = .ok (.iinc 2 1, 3) := by decide +kernel
theorem dX14_begin_190 : decode cX14_begin 190 = .ok (.goto (-89), 3) := by decide +kernel
theorem dX14_begin_193 : decode cX14_begin 193 = .ok (.aload_n 0, 1) := by decide +kernel
theorem dX14_begin_194 : decode cX14_begin 194 = .ok (.iconst 5, 1) := by decide +kernel
theorem dX14_begin_195 : decode cX14_begin 195 = .ok (.aload_n 0, 1) := by decide +kernel
theorem dX14_begin_196 : decode cX14_begin 196 = .ok (.getfield 152, 3) := by decide +kernel
theorem dX14_begin_199 : decode cX14_begin 199 = .ok (.aload_n 0, 1) := by decide +kernel
theorem dX14_begin_200 : decode cX14_begin 200 = .ok (.aload_n 0, 1) := by decide +kernel
theorem dX14_begin_201 : decode cX14_begin 201 = .ok (.getfield 584, 3) := by decide +kernel
theorem dX14_begin_204 : decode cX14_begin 204 = .ok (.invokevirtual 786, 3) := by decide +kernel
theorem dX14_begin_207 : decode cX14_begin 207 = .ok (.iaload, 1) := by decide +kernel
theorem dX14_begin_208 : decode cX14_begin 208 = .ok (.invokestatic 937, 3) := by decide +kernel
theorem dX14_begin_211 : decode cX14_begin 211 = .ok (.putfield 922, 3) := by decide +kernel
theorem dX14_begin_214 : decode cX14_begin 214 = .ok (.iload_n 1, 1) := by decide +kernel
theorem dX14_begin_215 : decode cX14_begin 215 = .ok (.sipush 4000, 3) := by decide +kernel
theorem dX14_begin_218 : decode cX14_begin 218 = .ok (.if_icmp .le 10, 3) := by decide +kernel
theorem dX14_begin_221 : decode cX14_begin 221 = .ok (.aload_n 0, 1) := by decide +kernel
theorem dX14_begin_222 : decode cX14_begin 222 = .ok (.bipush 6, 2) := by decide +kernel
theorem dX14_begin_224 : decode cX14_begin 224 = .ok (.putfield 847, 3) := by decide +kernel
theorem dX14_begin_227 : decode cX14_begin 227 = .ok (.return_, 1) := by decide +kernel
theorem dX14_begin_228 : decode cX14_begin 228 = .ok (.aload_n 0, 1) := by decide +kernel
theorem dX14_begin_229 : decode cX14_begin 229 = .ok (.iload_n 1, 1) := by decide +kernel
theorem dX14_begin_230 : decode cX14_begin 230 = .ok (.putfield 892, 3) := by decide +kernel
theorem dX14_begin_233 : decode cX14_begin 233 = .ok (.iconst 0, 1) := by decide +kernel
theorem dX14_begin_234 : decode cX14_begin 234 = .ok (.istore_n 2, 1) := by decide +kernel
theorem dX14_begin_235 : decode cX14_begin 235 = .ok (.iload_n 2, 1) := by decide +kernel
theorem dX14_begin_236 : decode cX14_begin 236 = .ok (.aload_n 0, 1) := by decide +kernel
theorem dX14_begin_237 : decode cX14_begin 237 = .ok (.getfield 571, 3) := by decide +kernel
theorem dX14_begin_240 : decode cX14_begin 240 = .ok (.if_icmp .ge 69, 3) := by decide +kernel
theorem dX14_begin_243 : decode cX14_begin 243 = .ok (.aload_n 0, 1) := by decide +kernel
theorem dX14_begin_244 : decode cX14_begin 244 = .ok (.getfield 149, 3) := by decide +kernel
theorem dX14_begin_247 : decode cX14_begin 247 = .ok (.aload_n 0, 1) := by decide +kernel
theorem dX14_begin_248 : decode cX14_begin 248 = .ok (.getfield 179, 3) := by decide +kernel
theorem dX14_begin_251 : decode cX14_begin 251 = .ok (.iload_n 2, 1) := by decide +kernel
theorem dX14_begin_252 : decode cX14_begin 252 = .ok (.iaload, 1) := by decide +kernel
theorem dX14_begin_253 : decode cX14_begin 253 = .ok (.iaload, 1) := by decide +kernel
theorem dX14_begin_254 : decode cX14_begin 254 = .ok (.istore_n 3, 1) := by decide +kernel
theorem dX14_begin_255 : decode cX14_begin 255 = .ok (.aload_n 0, 1) := by decide +kernel
theorem dX14_begin_256 : decode cX14_begin 256 = .ok (.getfield 131, 3) := by decide +kernel
theorem dX14_begin_259 : decode cX14_begin 259 = .ok (.iload_n 3, 1) := by decide +kernel
theorem dX14_begin_260 : decode cX14_begin 260 = .ok (.iaload, 1) := by decide +kernel
theorem dX14_begin_261 : decode cX14_begin 261 = .ok (.ifCond .ge 42, 3) := by decide +kernel
theorem dX14_begin_264 : decode cX14_begin 264 = .ok (.aload_n 0, 1) := by decide +kernel
theorem dX14_begin_265 : decode cX14_begin 265 = .ok (.aload_n 0, 1) := by decide +kernel
theorem dX14_begin_266 : decode cX14_begin 266 = .ok (.getfield 134, 3) := by decide +kernel
theorem dX14_begin_269 : decode cX14_begin 269 = .ok (.iload_n 3, 1) := by decide +kernel
theorem dX14_begin_270 : decode cX14_begin 270 = .ok (.iaload, 1) := by decide +kernel
theorem dX14_begin_271 : decode cX14_begin 271 = .ok (.invokevirtual 978, 3) := by decide +kernel
theorem dX14_begin_274 : decode cX14_begin 274 = .ok (.ifCond .ne 6, 3) := by decide +kernel
theorem dX14_begin_277 : decode cX14_begin 277 = .ok (.goto 26, 3) := by decide +kernel
theorem dX14_begin_280 : decode cX14_begin 280 = .ok (.aload_n 0, 1) := by decide +kernel
theorem dX14_begin_281 : decode cX14_begin 281 = .ok (.getfield 299, 3) := by decide +kernel
theorem dX14_begin_284 : decode cX14_begin 284 = .ok (.iload_n 2, 1) := by decide +kernel
theorem dX14_begin_285 : decode cX14_begin 285 = .ok (.aload_n 0, 1) := by decide +kernel
theorem dX14_begin_286 : decode cX14_begin 286 = .ok (.aload_n 0, 1) := by decide +kernel
theorem dX14_begin_287 : decode cX14_begin 287 = .ok (.getfield 134, 3) := by decide +kernel
theorem dX14_begin_290 : decode cX14_begin 290 = .ok (.iload_n 3, 1) := by decide +kernel
theorem dX14_begin_291 : decode cX14_begin 291 = .ok (.iaload, 1) := by decide +kernel
theorem dX14_begin_292 : decode cX14_begin 292 = .ok (.invokevirtual 956, 3) := by decide +kernel
theorem dX14_begin_295 : decode cX14_begin 295 = .ok (.lastore, 1) := by decide +kernel
theorem dX14_begin_296 : decode cX14_begin 296 = .ok (.aload_n 0, 1) := by decide +kernel
theorem dX14_begin_297 : decode cX14_begin 297 = .ok (.getfield 296, 3) := by decide +kernel
theorem dX14_begin_300 : decode cX14_begin 300 = .ok (.iload_n 2, 1) := by decide +kernel
theorem dX14_begin_301 : decode cX14_begin 301 = .ok (.iconst 2, 1) := by decide +kernel
theorem dX14_begin_302 : decode cX14_begin 302 = .ok (.iastore, 1) := by decide +kernel
theorem dX14_begin_303 : decode cX14_begin 303 = .ok (.iinc 2 1, 3) := by decide +kernel
theorem dX14_begin_306 : decode cX14_begin 306 = .ok (.goto (-71), 3) := by decide +kernel
theorem dX14_begin_309 : decode cX14_begin 309 = .ok (.iconst 0, 1) := by decide +kernel
theorem dX14_begin_310 : decode cX14_begin 310 = .ok (.istore_n 2, 1) := by decide +kernel
theorem dX14_begin_311 : decode cX14_begin 311 = .ok (.iload_n 2, 1) := by decide +kernel
theorem dX14_begin_312 : decode cX14_begin 312 = .ok (.aload_n 0, 1) := by decide +kernel
theorem dX14_begin_313 : decode cX14_begin 313 = .ok (.getfield 571, 3) := by decide +kernel
theorem dX14_begin_316 : decode cX14_begin 316 = .ok (.if_icmp .ge 59, 3) := by decide +kernel
theorem dX14_begin_319 : decode cX14_begin 319 = .ok (.aload_n 0, 1) := by decide +kernel
theorem dX14_begin_320 : decode cX14_begin 320 = .ok (.getfield 149, 3) := by decide +kernel
theorem dX14_begin_323 : decode cX14_begin 323 = .ok (.aload_n 0, 1) := by decide +kernel
theorem dX14_begin_324 : decode cX14_begin 324 = .ok (.getfield 179, 3) := by decide +kernel
theorem dX14_begin_327 : decode cX14_begin 327 = .ok (.iload_n 2, 1) := by decide +kernel
theorem dX14_begin_328 : decode cX14_begin 328 = .ok (.iaload, 1) := by decide +kernel
theorem dX14_begin_329 : decode cX14_begin 329 = .ok (.iaload, 1) := by decide +kernel
theorem dX14_begin_330 : decode cX14_begin 330 = .ok (.istore_n 3, 1) := by decide +kernel
theorem dX14_begin_331 : decode cX14_begin 331 = .ok (.aload_n 0, 1) := by decide +kernel
theorem dX14_begin_332 : decode cX14_begin 332 = .ok (.getfield 131, 3) := by decide +kernel
theorem dX14_begin_335 : decode cX14_begin 335 = .ok (.iload_n 3, 1) := by decide +kernel
theorem dX14_begin_336 : decode cX14_begin 336 = .ok (.iaload, 1) := by decide +kernel
theorem dX14_begin_337 : decode cX14_begin 337 = .ok (.ifCond .ge 32, 3) := by decide +kernel
theorem dX14_begin_340 : decode cX14_begin 340 = .ok (.aload_n 0, 1) := by decide +kernel
theorem dX14_begin_341 : decode cX14_begin 341 = .ok (.aload_n 0, 1) := by decide +kernel
theorem dX14_begin_342 : decode cX14_begin 342 = .ok (.getfield 134, 3) := by decide +kernel
theorem dX14_begin_345 : decode cX14_begin 345 = .ok (.iload_n 3, 1) := by decide +kernel
theorem dX14_begin_346 : decode cX14_begin 346 = .ok (.iaload, 1) := by decide +kernel
theorem dX14_begin_347 : decode cX14_begin 347 = .ok (.invokevirtual 978, 3) := by decide +kernel
theorem dX14_begin_350 : decode cX14_begin 350 = .ok (.ifCond .eq 19, 3) := by decide +kernel
theorem dX14_begin_353 : decode cX14_begin 353 = .ok (.aload_n 0, 1) := by decide +kernel
theorem dX14_begin_354 : decode cX14_begin 354 = .ok (.aload_n 0, 1) := by decide +kernel
theorem dX14_begin_355 : decode cX14_begin 355 = .ok (.getfield 299, 3) := by decide +kernel
theorem dX14_begin_358 : decode cX14_begin 358 = .ok (.iload_n 2, 1) := by decide +kernel
theorem dX14_begin_359 : decode cX14_begin 359 = .ok (.laload, 1) := by decide +kernel
theorem dX14_begin_360 : decode cX14_begin 360 = .ok (.aload_n 0, 1) := by decide +kernel
theorem dX14_begin_361 : decode cX14_begin 361 = .ok (.getfield 134, 3) := by decide +kernel
theorem dX14_begin_364 : decode cX14_begin 364 = .ok (.iload_n 3, 1) := by decide +kernel
theorem dX14_begin_365 : decode cX14_begin 365 = .ok (.iaload, 1) := by decide +kernel
theorem dX14_begin_366 : decode cX14_begin 366 = .ok (.invokevirtual 959, 3) := by decide +kernel
theorem dX14_begin_369 : decode cX14_begin 369 = .ok (.iinc 2 1, 3) := by decide +kernel
theorem dX14_begin_372 : decode cX14_begin 372 = .ok (.goto (-61), 3) := by decide +kernel
theorem dX14_begin_375 : decode cX14_begin 375 = .ok (.return_, 1) := by decide +kernel
def pw_c_X14_put : List Cond := .code yX14_put cX14_put 3 none :: ([.fieldLink RX14 16 "NeedHouseModel" "tape" "[I", .fieldLink RX14 333 "NeedHouseModel" "taped" "I"] ++ (wsX140 ++ []))
set_option maxHeartbeats 4000000 in
set_option maxRecDepth 100000 in
theorem c_X14_put (l : Launch) (dC : Nat → ClassId) (dI : Nat → Nat → Nat) (sz : Nat) (h0 : Nat) (qt : Nat) (cI : ClassId) (fs : List Value) (f : Nat → Int32) (n : Nat) (p0 : Int32) (hF : hasF fs 136 [(2, .ref qt), (3, .int (nI n))]) (hn : n + 4 ≤ 4000) : Met l yX14_put pw_c_X14_put ({ frames := 0, cells := 0, slots := 0, locals := 0 }) (va_Pc [.ref h0, .int p0] (fun U => U.heap.size = sz ∧ va_P (dC, dI) vwCl [(h0, .inr (14, fs)), (qt, .inl (cI, 4000, .inl f))] U.heap ∧ va_K (dC, dI) vwCl [(cI, .int)] U ∧ va_D (fun _ => True) [(h0, .inr (14, fs)), (qt, .inl (cI, 4000, .inl f))])) (va_Qv (fun (u : (List Value) × (Nat → Int32)) => hasF u.1 136 [(3, .int (nI (n + 4)))] ∧ sameF fs u.1 [3]) (fun (u : (List Value) × (Nat → Int32)) (t : State) => va_P (dC, dI) vwCl [(h0, .inr (14, u.1)), (qt, .inl (cI, 4000, .inl u.2))] t.heap ∧ va_K (dC, dI) vwCl [(cI, .int)] t ∧ va_D (va_A [(h0, .inr (14, fs)), (qt, .inl (cI, 4000, .inl f))] sz) [(h0, .inr (14, u.1)), (qt, .inl (cI, 4000, .inl u.2))]) (va_A [(h0, .inr (14, fs)), (qt, .inl (cI, 4000, .inl f))] sz)) 0 0 (va_A [(h0, .inr (14, fs)), (qt, .inl (cI, 4000, .inl f))] sz) := by
  refine Met.ofW (cc := cX14_put) (maxL := 3) (ret := none) (by decide) rfl ?_
  intro p e s m args below meth c s₁ B hml hv
  obtain ⟨rfl, hsz, hP, hK, hD0⟩ := hv
  have hx := B.exec
  have hb := B.bytes
  have hr := B.returns
  have hts := atoms_spec (ws := pw_c_X14_put) B.pre
  have hown : s.vm.findClass RX14 = some m.cls := findClass_of_methodNamed B.named
  have hlocks := B.notSynchronized
  have hin_X14 : ∀ w ∈ u_ws RX14 TX14 136, w ∈ pw_c_X14_put := fun w h => List.mem_cons_of_mem _ (List.mem_append_right _ (List.mem_append_left _ h))
  subst hsz
  have hD := hD0.self (sz := s.heap.size)
  generalize hAe : va_A [(h0, .inr (14, fs)), (qt, .inl (cI, 4000, .inl f))] s.heap.size = A at hD ⊢
  have hA : ∀ q : Nat, s.heap.size ≤ q → A q := fun q h => by rw [← hAe]; exact Or.inr h
  have hS : va_S A s.heap s.heap [] := va_S.rf
  have hP : va_P (dC, dI) vwCl [(h0, .inr (14, fs)), (qt, .inl (cI, 4000, .inl f))] s.heap := hP
  have hl := lv_entry ([.ref h0, .int p0]) (n := 3) (Nat.le_of_ble_eq_true rfl)
  rw [lg_entry_eq]
  generalize (lg_sl ([.ref h0, .int p0]) ++ List.replicate (3 - (lg_sl ([.ref h0, .int p0])).length) Slot.unset).toArray = ls at hl ⊢
  have hl : lv_has ls 3 [(0, .ref h0), (1, .int p0)] := hl
  refine lv_bipush (v := 24) hx hb dX14_put_0 (by decide) ?_
  refine lv_istore_n (lv' := [(2, .int 24), (0, .ref h0), (1, .int p0)]) hx hb dX14_put_2 rfl hl (by decide) rfl (fun ls hl => ?_)
  refine lv_iload_n hx hb dX14_put_3 rfl (lv_at hl 0 rfl) ?_
  refine lv_if_lt (tgt := 39) hx hb dX14_put_4 (by decide) (fun c_1 => absurd c_1 (by decide)) (fun _ => ?_)
  refine lv_aload_n hx hb dX14_put_7 rfl (lv_at hl 1 rfl) ?_
  refine va_get (D := (dC, dI)) (ci := 14) (v := .ref qt) (C := RX14) (T := TX14) (N := 136) hx hb hts hin_X14 hown hK hP 0 rfl rfl 2 (by decide) (hts (.fieldLink RX14 16 "NeedHouseModel" "tape" "[I") (List.mem_of_getElem? (i := 1) rfl)) (fun _ h9 => h9) (hF.at 0 rfl) dX14_put_8 ?_
  refine lv_aload_n hx hb dX14_put_11 rfl (lv_at hl 1 rfl) ?_
  refine va_get (D := (dC, dI)) (ci := 14) (v := .int (nI n)) (C := RX14) (T := TX14) (N := 136) hx hb hts hin_X14 hown hK hP 0 rfl rfl 3 (by decide) (hts (.fieldLink RX14 333 "NeedHouseModel" "taped" "I") (List.mem_of_getElem? (i := 2) rfl)) (fun _ h9 => h9) (hF.at 1 rfl) dX14_put_12 ?_
  refine lv_iload_n hx hb dX14_put_15 rfl (lv_at hl 2 rfl) ?_
  refine lv_iload_n hx hb dX14_put_16 rfl (lv_at hl 0 rfl) ?_
  refine lv_ishr hx hb dX14_put_17 ?_
  refine lv_topi (fun x_2 ex_2 => ?_)
  refine lv_sipush (v := 255) hx hb dX14_put_18 (by decide) ?_
  refine lv_iand hx hb dX14_put_21 ?_
  refine lv_topi (fun x_3 ex_3 => ?_)
  refine va_iast hx hb hK hP hD hS 1 0 rfl rfl (vp_in_nI (by omega) (by decide)) dX14_put_22 (fun H locs hP hD hS => ?_)
  have hP : va_P (dC, dI) vwCl [(h0, .inr (14, fs)), (qt, .inl (cI, 4000, .inl (upd f (nI n).toNatClampNeg x_3)))] H := hP
  have hD : va_D A [(h0, .inr (14, fs)), (qt, .inl (cI, 4000, .inl (upd f (nI n).toNatClampNeg x_3)))] := hD
  generalize upd f (nI n).toNatClampNeg x_3 = f_4 at hP hD
  have hP : va_P (dC, dI) vwCl [(h0, .inr (14, fs)), (qt, .inl (cI, 4000, .inl f_4))] H := hP
  have hD : va_D A [(h0, .inr (14, fs)), (qt, .inl (cI, 4000, .inl f_4))] := hD
  refine lv_aload_n hx hb dX14_put_23 rfl (lv_at hl 1 rfl) ?_
  refine lv_dup hx hb dX14_put_24 rfl ?_
  refine va_get (D := (dC, dI)) (ci := 14) (v := .int (nI n)) (C := RX14) (T := TX14) (N := 136) hx hb hts hin_X14 hown hK hP 0 rfl rfl 3 (by decide) (hts (.fieldLink RX14 333 "NeedHouseModel" "taped" "I") (List.mem_of_getElem? (i := 2) rfl)) (fun _ h9 => h9) (hF.at 1 rfl) dX14_put_25 ?_
  refine lv_iconst (v := 1) hx hb dX14_put_28 (by decide) ?_
  refine lv_iadd hx hb dX14_put_29 ?_
  refine lv_topi (fun x_5 ex_5 => ?_)
  obtain rfl : x_5 = (nI (n + 1)) := ex_5.trans (by first | exact nI_1 _ | exact nI_add _ _)
  refine va_put (D := (dC, dI)) (ci := 14) (v := .int (nI (n + 1))) (ty := .int) (C := RX14) (T := TX14) (N := 136) hx hb hts hin_X14 tyX14 tyX14_ok nmX14 hown hK hP hD hS 0 rfl rfl 3 (by decide) (hts (.fieldLink RX14 333 "NeedHouseModel" "taped" "I") (List.mem_of_getElem? (i := 2) rfl)) (fun _ h9 => h9) rfl (by decide +kernel) rfl rfl (by rw [hF.1]; decide) dX14_put_30 (fun H locs hP hD hS => ?_)
  have hP : va_P (dC, dI) vwCl [(h0, .inr (14, (fs.set 3 (.int (nI (n + 1)))))), (qt, .inl (cI, 4000, .inl f_4))] H := hP
  have hD : va_D A [(h0, .inr (14, (fs.set 3 (.int (nI (n + 1)))))), (qt, .inl (cI, 4000, .inl f_4))] := hD
  have hF_6 := hF.set 3 (.int (nI (n + 1))) (l' := [(3, .int (nI (n + 1))), (2, .ref qt)]) (by decide) rfl
  have hE_7 := (sameF.rf (f := fs)).set 3 (.int (nI (n + 1)))
  generalize fs.set 3 (.int (nI (n + 1))) = fs_8 at hP hD hF_6 hE_7
  have hP : va_P (dC, dI) vwCl [(h0, .inr (14, fs_8)), (qt, .inl (cI, 4000, .inl f_4))] H := hP
  have hD : va_D A [(h0, .inr (14, fs_8)), (qt, .inl (cI, 4000, .inl f_4))] := hD
  refine lv_iinc (v := 16) (lv' := [(2, .int 16), (0, .ref h0), (1, .int p0)]) hx hb dX14_put_33 hl (k := 0) rfl (by decide +kernel) (by decide) rfl (fun ls hl => ?_)
  refine lv_goto (tgt := 3) hx hb dX14_put_36 (by decide) ?_
  refine lv_iload_n hx hb dX14_put_3 rfl (lv_at hl 0 rfl) ?_
  refine lv_if_lt (tgt := 39) hx hb dX14_put_4 (by decide) (fun c_9 => absurd c_9 (by decide)) (fun _ => ?_)
  refine lv_aload_n hx hb dX14_put_7 rfl (lv_at hl 1 rfl) ?_
  refine va_get (D := (dC, dI)) (ci := 14) (v := .ref qt) (C := RX14) (T := TX14) (N := 136) hx hb hts hin_X14 hown hK hP 0 rfl rfl 2 (by decide) (hts (.fieldLink RX14 16 "NeedHouseModel" "tape" "[I") (List.mem_of_getElem? (i := 1) rfl)) (fun _ h9 => h9) (hF_6.at 1 rfl) dX14_put_8 ?_
  refine lv_aload_n hx hb dX14_put_11 rfl (lv_at hl 1 rfl) ?_
  refine va_get (D := (dC, dI)) (ci := 14) (v := .int (nI (n + 1))) (C := RX14) (T := TX14) (N := 136) hx hb hts hin_X14 hown hK hP 0 rfl rfl 3 (by decide) (hts (.fieldLink RX14 333 "NeedHouseModel" "taped" "I") (List.mem_of_getElem? (i := 2) rfl)) (fun _ h9 => h9) (hF_6.at 0 rfl) dX14_put_12 ?_
  refine lv_iload_n hx hb dX14_put_15 rfl (lv_at hl 2 rfl) ?_
  refine lv_iload_n hx hb dX14_put_16 rfl (lv_at hl 0 rfl) ?_
  refine lv_ishr hx hb dX14_put_17 ?_
  refine lv_topi (fun x_10 ex_10 => ?_)
  refine lv_sipush (v := 255) hx hb dX14_put_18 (by decide) ?_
  refine lv_iand hx hb dX14_put_21 ?_
  refine lv_topi (fun x_11 ex_11 => ?_)
  refine va_iast hx hb hK hP hD hS 1 0 rfl rfl (vp_in_nI (by omega) (by decide)) dX14_put_22 (fun H locs hP hD hS => ?_)
  have hP : va_P (dC, dI) vwCl [(h0, .inr (14, fs_8)), (qt, .inl (cI, 4000, .inl (upd f_4 ((nI (n + 1))).toNatClampNeg x_11)))] H := hP
  have hD : va_D A [(h0, .inr (14, fs_8)), (qt, .inl (cI, 4000, .inl (upd f_4 ((nI (n + 1))).toNatClampNeg x_11)))] := hD
  generalize upd f_4 ((nI (n + 1))).toNatClampNeg x_11 = f_12 at hP hD
  have hP : va_P (dC, dI) vwCl [(h0, .inr (14, fs_8)), (qt, .inl (cI, 4000, .inl f_12))] H := hP
  have hD : va_D A [(h0, .inr (14, fs_8)), (qt, .inl (cI, 4000, .inl f_12))] := hD
  refine lv_aload_n hx hb dX14_put_23 rfl (lv_at hl 1 rfl) ?_
  refine lv_dup hx hb dX14_put_24 rfl ?_
  refine va_get (D := (dC, dI)) (ci := 14) (v := .int (nI (n + 1))) (C := RX14) (T := TX14) (N := 136) hx hb hts hin_X14 hown hK hP 0 rfl rfl 3 (by decide) (hts (.fieldLink RX14 333 "NeedHouseModel" "taped" "I") (List.mem_of_getElem? (i := 2) rfl)) (fun _ h9 => h9) (hF_6.at 0 rfl) dX14_put_25 ?_
  refine lv_iconst (v := 1) hx hb dX14_put_28 (by decide) ?_
  refine lv_iadd hx hb dX14_put_29 ?_
  refine lv_topi (fun x_13 ex_13 => ?_)
  obtain rfl : x_13 = (nI (n + 2)) := ex_13.trans (by first | exact nI_1 _ | exact nI_add _ _)
  refine va_put (D := (dC, dI)) (ci := 14) (v := .int (nI (n + 2))) (ty := .int) (C := RX14) (T := TX14) (N := 136) hx hb hts hin_X14 tyX14 tyX14_ok nmX14 hown hK hP hD hS 0 rfl rfl 3 (by decide) (hts (.fieldLink RX14 333 "NeedHouseModel" "taped" "I") (List.mem_of_getElem? (i := 2) rfl)) (fun _ h9 => h9) rfl (by decide +kernel) rfl rfl (by rw [hF_6.1]; decide) dX14_put_30 (fun H locs hP hD hS => ?_)
  have hP : va_P (dC, dI) vwCl [(h0, .inr (14, (fs_8.set 3 (.int (nI (n + 2)))))), (qt, .inl (cI, 4000, .inl f_12))] H := hP
  have hD : va_D A [(h0, .inr (14, (fs_8.set 3 (.int (nI (n + 2)))))), (qt, .inl (cI, 4000, .inl f_12))] := hD
  have hF_14 := hF_6.set 3 (.int (nI (n + 2))) (l' := [(3, .int (nI (n + 2))), (2, .ref qt)]) (by decide) rfl
  have hE_15 := hE_7.set 3 (.int (nI (n + 2)))
  generalize fs_8.set 3 (.int (nI (n + 2))) = fs_16 at hP hD hF_14 hE_15
  have hP : va_P (dC, dI) vwCl [(h0, .inr (14, fs_16)), (qt, .inl (cI, 4000, .inl f_12))] H := hP
  have hD : va_D A [(h0, .inr (14, fs_16)), (qt, .inl (cI, 4000, .inl f_12))] := hD
  refine lv_iinc (v := 8) (lv' := [(2, .int 8), (0, .ref h0), (1, .int p0)]) hx hb dX14_put_33 hl (k := 0) rfl (by decide +kernel) (by decide) rfl (fun ls hl => ?_)
  refine lv_goto (tgt := 3) hx hb dX14_put_36 (by decide) ?_
  refine lv_iload_n hx hb dX14_put_3 rfl (lv_at hl 0 rfl) ?_
  refine lv_if_lt (tgt := 39) hx hb dX14_put_4 (by decide) (fun c_17 => absurd c_17 (by decide)) (fun _ => ?_)
  refine lv_aload_n hx hb dX14_put_7 rfl (lv_at hl 1 rfl) ?_
  refine va_get (D := (dC, dI)) (ci := 14) (v := .ref qt) (C := RX14) (T := TX14) (N := 136) hx hb hts hin_X14 hown hK hP 0 rfl rfl 2 (by decide) (hts (.fieldLink RX14 16 "NeedHouseModel" "tape" "[I") (List.mem_of_getElem? (i := 1) rfl)) (fun _ h9 => h9) (hF_14.at 1 rfl) dX14_put_8 ?_
  refine lv_aload_n hx hb dX14_put_11 rfl (lv_at hl 1 rfl) ?_
  refine va_get (D := (dC, dI)) (ci := 14) (v := .int (nI (n + 2))) (C := RX14) (T := TX14) (N := 136) hx hb hts hin_X14 hown hK hP 0 rfl rfl 3 (by decide) (hts (.fieldLink RX14 333 "NeedHouseModel" "taped" "I") (List.mem_of_getElem? (i := 2) rfl)) (fun _ h9 => h9) (hF_14.at 0 rfl) dX14_put_12 ?_
  refine lv_iload_n hx hb dX14_put_15 rfl (lv_at hl 2 rfl) ?_
  refine lv_iload_n hx hb dX14_put_16 rfl (lv_at hl 0 rfl) ?_
  refine lv_ishr hx hb dX14_put_17 ?_
  refine lv_topi (fun x_18 ex_18 => ?_)
  refine lv_sipush (v := 255) hx hb dX14_put_18 (by decide) ?_
  refine lv_iand hx hb dX14_put_21 ?_
  refine lv_topi (fun x_19 ex_19 => ?_)
  refine va_iast hx hb hK hP hD hS 1 0 rfl rfl (vp_in_nI (by omega) (by decide)) dX14_put_22 (fun H locs hP hD hS => ?_)
  have hP : va_P (dC, dI) vwCl [(h0, .inr (14, fs_16)), (qt, .inl (cI, 4000, .inl (upd f_12 ((nI (n + 2))).toNatClampNeg x_19)))] H := hP
  have hD : va_D A [(h0, .inr (14, fs_16)), (qt, .inl (cI, 4000, .inl (upd f_12 ((nI (n + 2))).toNatClampNeg x_19)))] := hD
  generalize upd f_12 ((nI (n + 2))).toNatClampNeg x_19 = f_20 at hP hD
  have hP : va_P (dC, dI) vwCl [(h0, .inr (14, fs_16)), (qt, .inl (cI, 4000, .inl f_20))] H := hP
  have hD : va_D A [(h0, .inr (14, fs_16)), (qt, .inl (cI, 4000, .inl f_20))] := hD
  refine lv_aload_n hx hb dX14_put_23 rfl (lv_at hl 1 rfl) ?_
  refine lv_dup hx hb dX14_put_24 rfl ?_
  refine va_get (D := (dC, dI)) (ci := 14) (v := .int (nI (n + 2))) (C := RX14) (T := TX14) (N := 136) hx hb hts hin_X14 hown hK hP 0 rfl rfl 3 (by decide) (hts (.fieldLink RX14 333 "NeedHouseModel" "taped" "I") (List.mem_of_getElem? (i := 2) rfl)) (fun _ h9 => h9) (hF_14.at 0 rfl) dX14_put_25 ?_
  refine lv_iconst (v := 1) hx hb dX14_put_28 (by decide) ?_
  refine lv_iadd hx hb dX14_put_29 ?_
  refine lv_topi (fun x_21 ex_21 => ?_)
  obtain rfl : x_21 = (nI (n + 3)) := ex_21.trans (by first | exact nI_1 _ | exact nI_add _ _)
  refine va_put (D := (dC, dI)) (ci := 14) (v := .int (nI (n + 3))) (ty := .int) (C := RX14) (T := TX14) (N := 136) hx hb hts hin_X14 tyX14 tyX14_ok nmX14 hown hK hP hD hS 0 rfl rfl 3 (by decide) (hts (.fieldLink RX14 333 "NeedHouseModel" "taped" "I") (List.mem_of_getElem? (i := 2) rfl)) (fun _ h9 => h9) rfl (by decide +kernel) rfl rfl (by rw [hF_14.1]; decide) dX14_put_30 (fun H locs hP hD hS => ?_)
  have hP : va_P (dC, dI) vwCl [(h0, .inr (14, (fs_16.set 3 (.int (nI (n + 3)))))), (qt, .inl (cI, 4000, .inl f_20))] H := hP
  have hD : va_D A [(h0, .inr (14, (fs_16.set 3 (.int (nI (n + 3)))))), (qt, .inl (cI, 4000, .inl f_20))] := hD
  have hF_22 := hF_14.set 3 (.int (nI (n + 3))) (l' := [(3, .int (nI (n + 3))), (2, .ref qt)]) (by decide) rfl
  have hE_23 := hE_15.set 3 (.int (nI (n + 3)))
  generalize fs_16.set 3 (.int (nI (n + 3))) = fs_24 at hP hD hF_22 hE_23
  have hP : va_P (dC, dI) vwCl [(h0, .inr (14, fs_24)), (qt, .inl (cI, 4000, .inl f_20))] H := hP
  have hD : va_D A [(h0, .inr (14, fs_24)), (qt, .inl (cI, 4000, .inl f_20))] := hD
  refine lv_iinc (v := 0) (lv' := [(2, .int 0), (0, .ref h0), (1, .int p0)]) hx hb dX14_put_33 hl (k := 0) rfl (by decide +kernel) (by decide) rfl (fun ls hl => ?_)
  refine lv_goto (tgt := 3) hx hb dX14_put_36 (by decide) ?_
  refine lv_iload_n hx hb dX14_put_3 rfl (lv_at hl 0 rfl) ?_
  refine lv_if_lt (tgt := 39) hx hb dX14_put_4 (by decide) (fun c_25 => absurd c_25 (by decide)) (fun _ => ?_)
  refine lv_aload_n hx hb dX14_put_7 rfl (lv_at hl 1 rfl) ?_
  refine va_get (D := (dC, dI)) (ci := 14) (v := .ref qt) (C := RX14) (T := TX14) (N := 136) hx hb hts hin_X14 hown hK hP 0 rfl rfl 2 (by decide) (hts (.fieldLink RX14 16 "NeedHouseModel" "tape" "[I") (List.mem_of_getElem? (i := 1) rfl)) (fun _ h9 => h9) (hF_22.at 1 rfl) dX14_put_8 ?_
  refine lv_aload_n hx hb dX14_put_11 rfl (lv_at hl 1 rfl) ?_
  refine va_get (D := (dC, dI)) (ci := 14) (v := .int (nI (n + 3))) (C := RX14) (T := TX14) (N := 136) hx hb hts hin_X14 hown hK hP 0 rfl rfl 3 (by decide) (hts (.fieldLink RX14 333 "NeedHouseModel" "taped" "I") (List.mem_of_getElem? (i := 2) rfl)) (fun _ h9 => h9) (hF_22.at 0 rfl) dX14_put_12 ?_
  refine lv_iload_n hx hb dX14_put_15 rfl (lv_at hl 2 rfl) ?_
  refine lv_iload_n hx hb dX14_put_16 rfl (lv_at hl 0 rfl) ?_
  refine lv_ishr hx hb dX14_put_17 ?_
  refine lv_topi (fun x_26 ex_26 => ?_)
  refine lv_sipush (v := 255) hx hb dX14_put_18 (by decide) ?_
  refine lv_iand hx hb dX14_put_21 ?_
  refine lv_topi (fun x_27 ex_27 => ?_)
  refine va_iast hx hb hK hP hD hS 1 0 rfl rfl (vp_in_nI (by omega) (by decide)) dX14_put_22 (fun H locs hP hD hS => ?_)
  have hP : va_P (dC, dI) vwCl [(h0, .inr (14, fs_24)), (qt, .inl (cI, 4000, .inl (upd f_20 ((nI (n + 3))).toNatClampNeg x_27)))] H := hP
  have hD : va_D A [(h0, .inr (14, fs_24)), (qt, .inl (cI, 4000, .inl (upd f_20 ((nI (n + 3))).toNatClampNeg x_27)))] := hD
  generalize upd f_20 ((nI (n + 3))).toNatClampNeg x_27 = f_28 at hP hD
  have hP : va_P (dC, dI) vwCl [(h0, .inr (14, fs_24)), (qt, .inl (cI, 4000, .inl f_28))] H := hP
  have hD : va_D A [(h0, .inr (14, fs_24)), (qt, .inl (cI, 4000, .inl f_28))] := hD
  refine lv_aload_n hx hb dX14_put_23 rfl (lv_at hl 1 rfl) ?_
  refine lv_dup hx hb dX14_put_24 rfl ?_
  refine va_get (D := (dC, dI)) (ci := 14) (v := .int (nI (n + 3))) (C := RX14) (T := TX14) (N := 136) hx hb hts hin_X14 hown hK hP 0 rfl rfl 3 (by decide) (hts (.fieldLink RX14 333 "NeedHouseModel" "taped" "I") (List.mem_of_getElem? (i := 2) rfl)) (fun _ h9 => h9) (hF_22.at 0 rfl) dX14_put_25 ?_
  refine lv_iconst (v := 1) hx hb dX14_put_28 (by decide) ?_
  refine lv_iadd hx hb dX14_put_29 ?_
  refine lv_topi (fun x_29 ex_29 => ?_)
  obtain rfl : x_29 = (nI (n + 4)) := ex_29.trans (by first | exact nI_1 _ | exact nI_add _ _)
  refine va_put (D := (dC, dI)) (ci := 14) (v := .int (nI (n + 4))) (ty := .int) (C := RX14) (T := TX14) (N := 136) hx hb hts hin_X14 tyX14 tyX14_ok nmX14 hown hK hP hD hS 0 rfl rfl 3 (by decide) (hts (.fieldLink RX14 333 "NeedHouseModel" "taped" "I") (List.mem_of_getElem? (i := 2) rfl)) (fun _ h9 => h9) rfl (by decide +kernel) rfl rfl (by rw [hF_22.1]; decide) dX14_put_30 (fun H locs hP hD hS => ?_)
  have hP : va_P (dC, dI) vwCl [(h0, .inr (14, (fs_24.set 3 (.int (nI (n + 4)))))), (qt, .inl (cI, 4000, .inl f_28))] H := hP
  have hD : va_D A [(h0, .inr (14, (fs_24.set 3 (.int (nI (n + 4)))))), (qt, .inl (cI, 4000, .inl f_28))] := hD
  have hF_30 := hF_22.set 3 (.int (nI (n + 4))) (l' := [(3, .int (nI (n + 4))), (2, .ref qt)]) (by decide) rfl
  have hE_31 := hE_23.set 3 (.int (nI (n + 4)))
  generalize fs_24.set 3 (.int (nI (n + 4))) = fs_32 at hP hD hF_30 hE_31
  have hP : va_P (dC, dI) vwCl [(h0, .inr (14, fs_32)), (qt, .inl (cI, 4000, .inl f_28))] H := hP
  have hD : va_D A [(h0, .inr (14, fs_32)), (qt, .inl (cI, 4000, .inl f_28))] := hD
  refine lv_iinc (v := (-8)) (lv' := [(2, .int (-8)), (0, .ref h0), (1, .int p0)]) hx hb dX14_put_33 hl (k := 0) rfl (by decide +kernel) (by decide) rfl (fun ls hl => ?_)
  refine lv_goto (tgt := 3) hx hb dX14_put_36 (by decide) ?_
  refine lv_iload_n hx hb dX14_put_3 rfl (lv_at hl 0 rfl) ?_
  refine lv_if_lt (tgt := 39) hx hb dX14_put_4 (by decide) (fun _ => ?_) (fun c_33 => absurd (by decide) c_33)
  have hP9 := hP.sub (ws' := [(h0, .inr (14, fs_32)), (qt, .inl (cI, 4000, .inl f_28))]) [0, 1] rfl
  have hD9 := hD.sub (ws' := [(h0, .inr (14, fs_32)), (qt, .inl (cI, 4000, .inl f_28))]) [0, 1] (by decide) rfl
  have hK9 := hK.sub (tys' := [(cI, .int)]) [0] rfl
  exact W.vret hx hb hr (fun t ht hW => ⟨⟨((fs_32, f_28)), rfl, ⟨hF_30.sub [0] rfl, hE_31.mono (by decide)⟩, by rw [ht]; exact hP9, va_K.moved hW.alike hK9, hD9⟩, hS.F ht⟩) hS.2.2 dX14_put_39
def pw_c_X14_feed : List Cond := .code yX14_feed cX14_feed 6 (some .int) :: ([.fieldLink RX14 329 "NeedHouseModel" "thrown" "I", .fieldLink RX14 333 "NeedHouseModel" "taped" "I", .methodLink RX14 336 yX14_put, .instanceMethod yX14_put, .selects RX14 yX14_put yX14_put, .initialized RX14, .code yX14_put cX14_put 3 none, .fieldLink RX14 16 "NeedHouseModel" "tape" "[I"] ++ (wsX140 ++ []))
set_option maxRecDepth 20000 in
theorem g_c_X14_feed_c_X14_put_22 : GoodIn pw_c_X14_feed (wsV RX14 336 RX14 yX14_put pw_c_X14_put) := goodIn_r _ [3, 4, 5, 6, 7, 8, 2, 9, 10, 11, 12, 13, 14, 15, 16, 17, 18, 19, 20, 21, 22, 23, 24, 25, 26, 27, 28, 29, 30, 31, 32, 33, 34, 35, 36, 37, 38, 39, 40, 41, 42, 43, 44, 45, 46, 47, 48, 49, 50, 51, 52, 53, 54, 55, 56, 57, 58, 59, 60, 61, 62, 63, 64, 65, 66, 67, 68, 69, 70, 71, 72, 73, 74, 75, 76, 77, 78, 79, 80, 81, 82, 83, 84, 85, 86, 87, 88, 89, 90, 91, 92, 93, 94, 95, 96, 97, 98, 99, 100, 101, 102, 103, 104, 105, 106, 107, 108, 109, 110, 111, 112, 113, 114, 115, 116, 117, 118, 119, 120, 121, 122, 123, 124, 125, 126, 127, 128, 129, 130, 131, 132, 133, 134, 135, 136, 137, 138, 139, 140, 141, 142, 143, 144] rfl (by decide +kernel)
set_option maxRecDepth 20000 in
theorem g_c_X14_feed_c_X14_put_27 : GoodIn pw_c_X14_feed (wsV RX14 336 RX14 yX14_put pw_c_X14_put) := goodIn_r _ [3, 4, 5, 6, 7, 8, 2, 9, 10, 11, 12, 13, 14, 15, 16, 17, 18, 19, 20, 21, 22, 23, 24, 25, 26, 27, 28, 29, 30, 31, 32, 33, 34, 35, 36, 37, 38, 39, 40, 41, 42, 43, 44, 45, 46, 47, 48, 49, 50, 51, 52, 53, 54, 55, 56, 57, 58, 59, 60, 61, 62, 63, 64, 65, 66, 67, 68, 69, 70, 71, 72, 73, 74, 75, 76, 77, 78, 79, 80, 81, 82, 83, 84, 85, 86, 87, 88, 89, 90, 91, 92, 93, 94, 95, 96, 97, 98, 99, 100, 101, 102, 103, 104, 105, 106, 107, 108, 109, 110, 111, 112, 113, 114, 115, 116, 117, 118, 119, 120, 121, 122, 123, 124, 125, 126, 127, 128, 129, 130, 131, 132, 133, 134, 135, 136, 137, 138, 139, 140, 141, 142, 143, 144] rfl (by decide +kernel)
set_option maxRecDepth 20000 in
theorem g_c_X14_feed_c_X14_put_32 : GoodIn pw_c_X14_feed (wsV RX14 336 RX14 yX14_put pw_c_X14_put) := goodIn_r _ [3, 4, 5, 6, 7, 8, 2, 9, 10, 11, 12, 13, 14, 15, 16, 17, 18, 19, 20, 21, 22, 23, 24, 25, 26, 27, 28, 29, 30, 31, 32, 33, 34, 35, 36, 37, 38, 39, 40, 41, 42, 43, 44, 45, 46, 47, 48, 49, 50, 51, 52, 53, 54, 55, 56, 57, 58, 59, 60, 61, 62, 63, 64, 65, 66, 67, 68, 69, 70, 71, 72, 73, 74, 75, 76, 77, 78, 79, 80, 81, 82, 83, 84, 85, 86, 87, 88, 89, 90, 91, 92, 93, 94, 95, 96, 97, 98, 99, 100, 101, 102, 103, 104, 105, 106, 107, 108, 109, 110, 111, 112, 113, 114, 115, 116, 117, 118, 119, 120, 121, 122, 123, 124, 125, 126, 127, 128, 129, 130, 131, 132, 133, 134, 135, 136, 137, 138, 139, 140, 141, 142, 143, 144] rfl (by decide +kernel)
set_option maxRecDepth 20000 in
theorem g_c_X14_feed_c_X14_put_38 : GoodIn pw_c_X14_feed (wsV RX14 336 RX14 yX14_put pw_c_X14_put) := goodIn_r _ [3, 4, 5, 6, 7, 8, 2, 9, 10, 11, 12, 13, 14, 15, 16, 17, 18, 19, 20, 21, 22, 23, 24, 25, 26, 27, 28, 29, 30, 31, 32, 33, 34, 35, 36, 37, 38, 39, 40, 41, 42, 43, 44, 45, 46, 47, 48, 49, 50, 51, 52, 53, 54, 55, 56, 57, 58, 59, 60, 61, 62, 63, 64, 65, 66, 67, 68, 69, 70, 71, 72, 73, 74, 75, 76, 77, 78, 79, 80, 81, 82, 83, 84, 85, 86, 87, 88, 89, 90, 91, 92, 93, 94, 95, 96, 97, 98, 99, 100, 101, 102, 103, 104, 105, 106, 107, 108, 109, 110, 111, 112, 113, 114, 115, 116, 117, 118, 119, 120, 121, 122, 123, 124, 125, 126, 127, 128, 129, 130, 131, 132, 133, 134, 135, 136, 137, 138, 139, 140, 141, 142, 143, 144] rfl (by decide +kernel)
set_option maxRecDepth 20000 in
theorem g_c_X14_feed_c_X14_put_44 : GoodIn pw_c_X14_feed (wsV RX14 336 RX14 yX14_put pw_c_X14_put) := goodIn_r _ [3, 4, 5, 6, 7, 8, 2, 9, 10, 11, 12, 13, 14, 15, 16, 17, 18, 19, 20, 21, 22, 23, 24, 25, 26, 27, 28, 29, 30, 31, 32, 33, 34, 35, 36, 37, 38, 39, 40, 41, 42, 43, 44, 45, 46, 47, 48, 49, 50, 51, 52, 53, 54, 55, 56, 57, 58, 59, 60, 61, 62, 63, 64, 65, 66, 67, 68, 69, 70, 71, 72, 73, 74, 75, 76, 77, 78, 79, 80, 81, 82, 83, 84, 85, 86, 87, 88, 89, 90, 91, 92, 93, 94, 95, 96, 97, 98, 99, 100, 101, 102, 103, 104, 105, 106, 107, 108, 109, 110, 111, 112, 113, 114, 115, 116, 117, 118, 119, 120, 121, 122, 123, 124, 125, 126, 127, 128, 129, 130, 131, 132, 133, 134, 135, 136, 137, 138, 139, 140, 141, 142, 143, 144] rfl (by decide +kernel)
set_option maxHeartbeats 4000000 in
set_option maxRecDepth 100000 in
theorem c_X14_feed (l : Launch) (dC : Nat → ClassId) (dI : Nat → Nat → Nat) (sz : Nat) (h0 : Nat) (qt : Nat) (cI : ClassId) (fs : List Value) (f : Nat → Int32) (th : Int32) (p0 : Int32) (p1 : Int32) (p2 : Int32) (p3 : Int32) (p4 : Int32) (hF : hasF fs 136 [(1, .int th), (2, .ref qt), (3, .int 0)]) : Met l yX14_feed pw_c_X14_feed ({ frames := 1, cells := 0, slots := 0, locals := 22 }) (va_Pc [.ref h0, .int p0, .int p1, .int p2, .int p3, .int p4] (fun U => U.heap.size = sz ∧ va_P (dC, dI) vwCl [(h0, .inr (14, fs)), (qt, .inl (cI, 4000, .inl f))] U.heap ∧ va_K (dC, dI) vwCl [(cI, .int)] U ∧ va_D (fun _ => True) [(h0, .inr (14, fs)), (qt, .inl (cI, 4000, .inl f))])) (va_Qi (fun (r : Int32) (u : (List Value) × (Nat → Int32)) => r = nI 20 ∧ hasF u.1 136 [(3, .int (nI 20)), (1, .int 0)] ∧ sameF fs u.1 [3, 1]) (fun (u : (List Value) × (Nat → Int32)) (t : State) => va_P (dC, dI) vwCl [(h0, .inr (14, u.1)), (qt, .inl (cI, 4000, .inl u.2))] t.heap ∧ va_K (dC, dI) vwCl [(cI, .int)] t ∧ va_D (va_A [(h0, .inr (14, fs)), (qt, .inl (cI, 4000, .inl f))] sz) [(h0, .inr (14, u.1)), (qt, .inl (cI, 4000, .inl u.2))]) (va_A [(h0, .inr (14, fs)), (qt, .inl (cI, 4000, .inl f))] sz)) 0 0 (va_A [(h0, .inr (14, fs)), (qt, .inl (cI, 4000, .inl f))] sz) := by
  refine Met.ofW (cc := cX14_feed) (maxL := 6) (ret := (some .int)) (by decide) rfl ?_
  intro p e s m args below meth c s₁ B hml hv
  obtain ⟨rfl, hsz, hP, hK, hD0⟩ := hv
  have hx := B.exec
  have hb := B.bytes
  have hr := B.returns
  have hts := atoms_spec (ws := pw_c_X14_feed) B.pre
  have hown : s.vm.findClass RX14 = some m.cls := findClass_of_methodNamed B.named
  have hlocks := B.notSynchronized
  have hin_X14 : ∀ w ∈ u_ws RX14 TX14 136, w ∈ pw_c_X14_feed := fun w h => List.mem_cons_of_mem _ (List.mem_append_right _ (List.mem_append_left _ h))
  subst hsz
  have hD := hD0.self (sz := s.heap.size)
  generalize hAe : va_A [(h0, .inr (14, fs)), (qt, .inl (cI, 4000, .inl f))] s.heap.size = A at hD ⊢
  have hA : ∀ q : Nat, s.heap.size ≤ q → A q := fun q h => by rw [← hAe]; exact Or.inr h
  have hS : va_S A s.heap s.heap [] := va_S.rf
  have hP : va_P (dC, dI) vwCl [(h0, .inr (14, fs)), (qt, .inl (cI, 4000, .inl f))] s.heap := hP
  have hl := lv_entry ([.ref h0, .int p0, .int p1, .int p2, .int p3, .int p4]) (n := 6) (Nat.le_of_ble_eq_true rfl)
  rw [lg_entry_eq]
  generalize (lg_sl ([.ref h0, .int p0, .int p1, .int p2, .int p3, .int p4]) ++ List.replicate (6 - (lg_sl ([.ref h0, .int p0, .int p1, .int p2, .int p3, .int p4])).length) Slot.unset).toArray = ls at hl ⊢
  have hl : lv_has ls 6 [(0, .ref h0), (1, .int p0), (2, .int p1), (3, .int p2), (4, .int p3), (5, .int p4)] := hl
  refine lv_aload_n hx hb dX14_feed_0 rfl (lv_at hl 0 rfl) ?_
  refine lv_iconst (v := 0) hx hb dX14_feed_1 (by decide) ?_
  refine va_put (D := (dC, dI)) (ci := 14) (v := .int 0) (ty := .int) (C := RX14) (T := TX14) (N := 136) hx hb hts hin_X14 tyX14 tyX14_ok nmX14 hown hK hP hD hS 0 rfl rfl 1 (by decide) (hts (.fieldLink RX14 329 "NeedHouseModel" "thrown" "I") (List.mem_of_getElem? (i := 1) rfl)) (fun _ h9 => h9) rfl (by decide +kernel) rfl rfl (by rw [hF.1]; decide) dX14_feed_2 (fun H locs hP hD hS => ?_)
  have hP : va_P (dC, dI) vwCl [(h0, .inr (14, (fs.set 1 (.int 0)))), (qt, .inl (cI, 4000, .inl f))] H := hP
  have hD : va_D A [(h0, .inr (14, (fs.set 1 (.int 0)))), (qt, .inl (cI, 4000, .inl f))] := hD
  have hF_1 := hF.set 1 (.int 0) (l' := [(1, .int 0), (2, .ref qt), (3, .int 0)]) (by decide) rfl
  have hE_2 := (sameF.rf (f := fs)).set 1 (.int 0)
  generalize fs.set 1 (.int 0) = fs_3 at hP hD hF_1 hE_2
  have hP : va_P (dC, dI) vwCl [(h0, .inr (14, fs_3)), (qt, .inl (cI, 4000, .inl f))] H := hP
  have hD : va_D A [(h0, .inr (14, fs_3)), (qt, .inl (cI, 4000, .inl f))] := hD
  refine lv_aload_n hx hb dX14_feed_5 rfl (lv_at hl 0 rfl) ?_
  refine va_get (D := (dC, dI)) (ci := 14) (v := .int 0) (C := RX14) (T := TX14) (N := 136) hx hb hts hin_X14 hown hK hP 0 rfl rfl 3 (by decide) (hts (.fieldLink RX14 333 "NeedHouseModel" "taped" "I") (List.mem_of_getElem? (i := 2) rfl)) (fun _ h9 => h9) (hF_1.at 2 rfl) dX14_feed_6 ?_
  refine lv_bipush (v := 20) hx hb dX14_feed_9 (by decide) ?_
  refine lv_iadd hx hb dX14_feed_11 ?_
  refine lv_topi (fun x_4 ex_4 => ?_)
  obtain rfl : x_4 = 20 := ex_4.trans (by decide +kernel)
  refine lv_sipush (v := 4000) hx hb dX14_feed_12 (by decide) ?_
  refine lv_icmp_le (tgt := 20) hx hb dX14_feed_15 (by decide) (fun _ => ?_) (fun c_5 => absurd (by decide) c_5)
  refine lv_aload_n hx hb dX14_feed_20 rfl (lv_at hl 0 rfl) ?_
  refine lv_iload_n hx hb dX14_feed_21 rfl (lv_at hl 1 rfl) ?_
  have hF_6 : hasF fs_3 136 [(1, .int 0), (2, .ref qt), (3, .int (nI 0))] := hF_1
  have hPc := hP.sub (ws' := [(h0, .inr (14, fs_3)), (qt, .inl (cI, 4000, .inl f))]) [0, 1] rfl
  have hDc := hD.sub (ws' := [(h0, .inr (14, fs_3)), (qt, .inl (cI, 4000, .inl f))]) [0, 1] (by decide) rfl
  have hKc := hK.sub (tys' := [(cI, .int)]) [0] rfl
  have hFc := va_free (wc := [(h0, .inr (14, fs_3)), (qt, .inl (cI, 4000, .inl f))]) hD hS hA [0, 1] rfl
  refine va_callv (va_runV (As := [.int p0]) (rest := []) ⟨hx, hb, hml, hown, hts⟩ (c_X14_put l dC dI H.size h0 qt cI fs_3 f 0 p0 (hF_6.sub [1, 2] rfl) (by decide)) (cwV 1 hts g_c_X14_feed_c_X14_put_22 rfl rfl rfl (by decide +kernel) ⟨Nat.le_of_ble_eq_true rfl, Nat.le_of_ble_eq_true rfl⟩) ⟨fun a U g mk q => by obtain ⟨q0, q1, qP, qK, qD⟩ := q; exact ⟨q0, q1, qP, va_K.moved (u := U) (U := U.calling g mk a) (Vm.Alike.refl U.vm) qK, qD⟩, va_recv hKc hPc (ci := 14) (q0 := 0) rfl rfl, fun U hU hW => ⟨rfl, by rw [hU], by rw [hU]; exact hPc, va_K.moved hW.alike hKc, hDc.weaken (fun _ _ _ _ => trivial)⟩⟩ rfl rfl hl.1 rfl (lv_room (Nat.le_of_ble_eq_true rfl)) dX14_feed_22 ⟨by decide, by decide⟩) hS (fun q _ h => hFc q h) hFc (fun u t H1 locs ht hvm hw hB hz1 hk1 hS => ?_)
  obtain ⟨fs1_9, f1_10⟩ := u
  obtain ⟨hP1, hK1, hD1⟩ := hB
  rw [ht] at hP1
  have hK1 := va_K.moved hvm.symm hK1
  try dsimp only at hw hP1 hK1 hD1
  obtain ⟨hF_11, hE_12⟩ := hw
  obtain ⟨hP, hD⟩ := va_join (wr := []) (w1 := [(h0, .inr (14, fs1_9)), (qt, .inl (cI, 4000, .inl f1_10))]) hP hD [0, 1] [] rfl rfl (by decide) (by decide) hk1 hFc hP1 hD1
  generalize H1 = H at hP hS ⊢
  have hK := (hK.sub (tys' := []) [] rfl).app hK1
  have hK : va_K (dC, dI) vwCl [(cI, .int)] s := hK
  have hP : va_P (dC, dI) vwCl [(h0, .inr (14, fs1_9)), (qt, .inl (cI, 4000, .inl f1_10))] H := hP
  have hD : va_D A [(h0, .inr (14, fs1_9)), (qt, .inl (cI, 4000, .inl f1_10))] := hD
  have hF_13 := hF_6.same hE_12 (l' := [(1, .int 0), (2, .ref qt)]) rfl
  have hF_14 := hF_11.app hF_13
  have hE_15 := hE_2.trans hE_12
  refine lv_aload_n hx hb dX14_feed_25 rfl (lv_at hl 0 rfl) ?_
  refine lv_iload_n hx hb dX14_feed_26 rfl (lv_at hl 2 rfl) ?_
  have hF_16 : hasF fs1_9 136 [(3, .int (nI 4)), (1, .int 0), (2, .ref qt)] := hF_14
  have hPc := hP.sub (ws' := [(h0, .inr (14, fs1_9)), (qt, .inl (cI, 4000, .inl f1_10))]) [0, 1] rfl
  have hDc := hD.sub (ws' := [(h0, .inr (14, fs1_9)), (qt, .inl (cI, 4000, .inl f1_10))]) [0, 1] (by decide) rfl
  have hKc := hK.sub (tys' := [(cI, .int)]) [0] rfl
  have hFc := va_free (wc := [(h0, .inr (14, fs1_9)), (qt, .inl (cI, 4000, .inl f1_10))]) hD hS hA [0, 1] rfl
  refine va_callv (va_runV (As := [.int p1]) (rest := []) ⟨hx, hb, hml, hown, hts⟩ (c_X14_put l dC dI H.size h0 qt cI fs1_9 f1_10 4 p1 (hF_16.sub [2, 0] rfl) (by decide)) (cwV 1 hts g_c_X14_feed_c_X14_put_27 rfl rfl rfl (by decide +kernel) ⟨Nat.le_of_ble_eq_true rfl, Nat.le_of_ble_eq_true rfl⟩) ⟨fun a U g mk q => by obtain ⟨q0, q1, qP, qK, qD⟩ := q; exact ⟨q0, q1, qP, va_K.moved (u := U) (U := U.calling g mk a) (Vm.Alike.refl U.vm) qK, qD⟩, va_recv hKc hPc (ci := 14) (q0 := 0) rfl rfl, fun U hU hW => ⟨rfl, by rw [hU], by rw [hU]; exact hPc, va_K.moved hW.alike hKc, hDc.weaken (fun _ _ _ _ => trivial)⟩⟩ rfl rfl hl.1 rfl (lv_room (Nat.le_of_ble_eq_true rfl)) dX14_feed_27 ⟨by decide, by decide⟩) hS (fun q _ h => hFc q h) hFc (fun u t H1 locs ht hvm hw hB hz1 hk1 hS => ?_)
  obtain ⟨fs1_19, f1_20⟩ := u
  obtain ⟨hP1, hK1, hD1⟩ := hB
  rw [ht] at hP1
  have hK1 := va_K.moved hvm.symm hK1
  try dsimp only at hw hP1 hK1 hD1
  obtain ⟨hF_21, hE_22⟩ := hw
  obtain ⟨hP, hD⟩ := va_join (wr := []) (w1 := [(h0, .inr (14, fs1_19)), (qt, .inl (cI, 4000, .inl f1_20))]) hP hD [0, 1] [] rfl rfl (by decide) (by decide) hk1 hFc hP1 hD1
  generalize H1 = H at hP hS ⊢
  have hK := (hK.sub (tys' := []) [] rfl).app hK1
  have hK : va_K (dC, dI) vwCl [(cI, .int)] s := hK
  have hP : va_P (dC, dI) vwCl [(h0, .inr (14, fs1_19)), (qt, .inl (cI, 4000, .inl f1_20))] H := hP
  have hD : va_D A [(h0, .inr (14, fs1_19)), (qt, .inl (cI, 4000, .inl f1_20))] := hD
  have hF_23 := hF_16.same hE_22 (l' := [(1, .int 0), (2, .ref qt)]) rfl
  have hF_24 := hF_21.app hF_23
  have hE_25 := hE_15.trans hE_22
  refine lv_aload_n hx hb dX14_feed_30 rfl (lv_at hl 0 rfl) ?_
  refine lv_iload_n hx hb dX14_feed_31 rfl (lv_at hl 3 rfl) ?_
  have hF_26 : hasF fs1_19 136 [(3, .int (nI 8)), (1, .int 0), (2, .ref qt)] := hF_24
  have hPc := hP.sub (ws' := [(h0, .inr (14, fs1_19)), (qt, .inl (cI, 4000, .inl f1_20))]) [0, 1] rfl
  have hDc := hD.sub (ws' := [(h0, .inr (14, fs1_19)), (qt, .inl (cI, 4000, .inl f1_20))]) [0, 1] (by decide) rfl
  have hKc := hK.sub (tys' := [(cI, .int)]) [0] rfl
  have hFc := va_free (wc := [(h0, .inr (14, fs1_19)), (qt, .inl (cI, 4000, .inl f1_20))]) hD hS hA [0, 1] rfl
  refine va_callv (va_runV (As := [.int p2]) (rest := []) ⟨hx, hb, hml, hown, hts⟩ (c_X14_put l dC dI H.size h0 qt cI fs1_19 f1_20 8 p2 (hF_26.sub [2, 0] rfl) (by decide)) (cwV 1 hts g_c_X14_feed_c_X14_put_32 rfl rfl rfl (by decide +kernel) ⟨Nat.le_of_ble_eq_true rfl, Nat.le_of_ble_eq_true rfl⟩) ⟨fun a U g mk q => by obtain ⟨q0, q1, qP, qK, qD⟩ := q; exact ⟨q0, q1, qP, va_K.moved (u := U) (U := U.calling g mk a) (Vm.Alike.refl U.vm) qK, qD⟩, va_recv hKc hPc (ci := 14) (q0 := 0) rfl rfl, fun U hU hW => ⟨rfl, by rw [hU], by rw [hU]; exact hPc, va_K.moved hW.alike hKc, hDc.weaken (fun _ _ _ _ => trivial)⟩⟩ rfl rfl hl.1 rfl (lv_room (Nat.le_of_ble_eq_true rfl)) dX14_feed_32 ⟨by decide, by decide⟩) hS (fun q _ h => hFc q h) hFc (fun u t H1 locs ht hvm hw hB hz1 hk1 hS => ?_)
  obtain ⟨fs1_29, f1_30⟩ := u
  obtain ⟨hP1, hK1, hD1⟩ := hB
  rw [ht] at hP1
  have hK1 := va_K.moved hvm.symm hK1
  try dsimp only at hw hP1 hK1 hD1
  obtain ⟨hF_31, hE_32⟩ := hw
  obtain ⟨hP, hD⟩ := va_join (wr := []) (w1 := [(h0, .inr (14, fs1_29)), (qt, .inl (cI, 4000, .inl f1_30))]) hP hD [0, 1] [] rfl rfl (by decide) (by decide) hk1 hFc hP1 hD1
  generalize H1 = H at hP hS ⊢
  have hK := (hK.sub (tys' := []) [] rfl).app hK1
  have hK : va_K (dC, dI) vwCl [(cI, .int)] s := hK
  have hP : va_P (dC, dI) vwCl [(h0, .inr (14, fs1_29)), (qt, .inl (cI, 4000, .inl f1_30))] H := hP
  have hD : va_D A [(h0, .inr (14, fs1_29)), (qt, .inl (cI, 4000, .inl f1_30))] := hD
  have hF_33 := hF_26.same hE_32 (l' := [(1, .int 0), (2, .ref qt)]) rfl
  have hF_34 := hF_31.app hF_33
  have hE_35 := hE_25.trans hE_32
  refine lv_aload_n hx hb dX14_feed_35 rfl (lv_at hl 0 rfl) ?_
  refine lv_iload hx hb dX14_feed_36 (lv_at hl 4 rfl) ?_
  have hF_36 : hasF fs1_29 136 [(3, .int (nI 12)), (1, .int 0), (2, .ref qt)] := hF_34
  have hPc := hP.sub (ws' := [(h0, .inr (14, fs1_29)), (qt, .inl (cI, 4000, .inl f1_30))]) [0, 1] rfl
  have hDc := hD.sub (ws' := [(h0, .inr (14, fs1_29)), (qt, .inl (cI, 4000, .inl f1_30))]) [0, 1] (by decide) rfl
  have hKc := hK.sub (tys' := [(cI, .int)]) [0] rfl
  have hFc := va_free (wc := [(h0, .inr (14, fs1_29)), (qt, .inl (cI, 4000, .inl f1_30))]) hD hS hA [0, 1] rfl
  refine va_callv (va_runV (As := [.int p3]) (rest := []) ⟨hx, hb, hml, hown, hts⟩ (c_X14_put l dC dI H.size h0 qt cI fs1_29 f1_30 12 p3 (hF_36.sub [2, 0] rfl) (by decide)) (cwV 1 hts g_c_X14_feed_c_X14_put_38 rfl rfl rfl (by decide +kernel) ⟨Nat.le_of_ble_eq_true rfl, Nat.le_of_ble_eq_true rfl⟩) ⟨fun a U g mk q => by obtain ⟨q0, q1, qP, qK, qD⟩ := q; exact ⟨q0, q1, qP, va_K.moved (u := U) (U := U.calling g mk a) (Vm.Alike.refl U.vm) qK, qD⟩, va_recv hKc hPc (ci := 14) (q0 := 0) rfl rfl, fun U hU hW => ⟨rfl, by rw [hU], by rw [hU]; exact hPc, va_K.moved hW.alike hKc, hDc.weaken (fun _ _ _ _ => trivial)⟩⟩ rfl rfl hl.1 rfl (lv_room (Nat.le_of_ble_eq_true rfl)) dX14_feed_38 ⟨by decide, by decide⟩) hS (fun q _ h => hFc q h) hFc (fun u t H1 locs ht hvm hw hB hz1 hk1 hS => ?_)
  obtain ⟨fs1_39, f1_40⟩ := u
  obtain ⟨hP1, hK1, hD1⟩ := hB
  rw [ht] at hP1
  have hK1 := va_K.moved hvm.symm hK1
  try dsimp only at hw hP1 hK1 hD1
  obtain ⟨hF_41, hE_42⟩ := hw
  obtain ⟨hP, hD⟩ := va_join (wr := []) (w1 := [(h0, .inr (14, fs1_39)), (qt, .inl (cI, 4000, .inl f1_40))]) hP hD [0, 1] [] rfl rfl (by decide) (by decide) hk1 hFc hP1 hD1
  generalize H1 = H at hP hS ⊢
  have hK := (hK.sub (tys' := []) [] rfl).app hK1
  have hK : va_K (dC, dI) vwCl [(cI, .int)] s := hK
  have hP : va_P (dC, dI) vwCl [(h0, .inr (14, fs1_39)), (qt, .inl (cI, 4000, .inl f1_40))] H := hP
  have hD : va_D A [(h0, .inr (14, fs1_39)), (qt, .inl (cI, 4000, .inl f1_40))] := hD
  have hF_43 := hF_36.same hE_42 (l' := [(1, .int 0), (2, .ref qt)]) rfl
  have hF_44 := hF_41.app hF_43
  have hE_45 := hE_35.trans hE_42
  refine lv_aload_n hx hb dX14_feed_41 rfl (lv_at hl 0 rfl) ?_
  refine lv_iload hx hb dX14_feed_42 (lv_at hl 5 rfl) ?_
  have hF_46 : hasF fs1_39 136 [(3, .int (nI 16)), (1, .int 0), (2, .ref qt)] := hF_44
  have hPc := hP.sub (ws' := [(h0, .inr (14, fs1_39)), (qt, .inl (cI, 4000, .inl f1_40))]) [0, 1] rfl
  have hDc := hD.sub (ws' := [(h0, .inr (14, fs1_39)), (qt, .inl (cI, 4000, .inl f1_40))]) [0, 1] (by decide) rfl
  have hKc := hK.sub (tys' := [(cI, .int)]) [0] rfl
  have hFc := va_free (wc := [(h0, .inr (14, fs1_39)), (qt, .inl (cI, 4000, .inl f1_40))]) hD hS hA [0, 1] rfl
  refine va_callv (va_runV (As := [.int p4]) (rest := []) ⟨hx, hb, hml, hown, hts⟩ (c_X14_put l dC dI H.size h0 qt cI fs1_39 f1_40 16 p4 (hF_46.sub [2, 0] rfl) (by decide)) (cwV 1 hts g_c_X14_feed_c_X14_put_44 rfl rfl rfl (by decide +kernel) ⟨Nat.le_of_ble_eq_true rfl, Nat.le_of_ble_eq_true rfl⟩) ⟨fun a U g mk q => by obtain ⟨q0, q1, qP, qK, qD⟩ := q; exact ⟨q0, q1, qP, va_K.moved (u := U) (U := U.calling g mk a) (Vm.Alike.refl U.vm) qK, qD⟩, va_recv hKc hPc (ci := 14) (q0 := 0) rfl rfl, fun U hU hW => ⟨rfl, by rw [hU], by rw [hU]; exact hPc, va_K.moved hW.alike hKc, hDc.weaken (fun _ _ _ _ => trivial)⟩⟩ rfl rfl hl.1 rfl (lv_room (Nat.le_of_ble_eq_true rfl)) dX14_feed_44 ⟨by decide, by decide⟩) hS (fun q _ h => hFc q h) hFc (fun u t H1 locs ht hvm hw hB hz1 hk1 hS => ?_)
  obtain ⟨fs1_49, f1_50⟩ := u
  obtain ⟨hP1, hK1, hD1⟩ := hB
  rw [ht] at hP1
  have hK1 := va_K.moved hvm.symm hK1
  try dsimp only at hw hP1 hK1 hD1
  obtain ⟨hF_51, hE_52⟩ := hw
  obtain ⟨hP, hD⟩ := va_join (wr := []) (w1 := [(h0, .inr (14, fs1_49)), (qt, .inl (cI, 4000, .inl f1_50))]) hP hD [0, 1] [] rfl rfl (by decide) (by decide) hk1 hFc hP1 hD1
  generalize H1 = H at hP hS ⊢
  have hK := (hK.sub (tys' := []) [] rfl).app hK1
  have hK : va_K (dC, dI) vwCl [(cI, .int)] s := hK
  have hP : va_P (dC, dI) vwCl [(h0, .inr (14, fs1_49)), (qt, .inl (cI, 4000, .inl f1_50))] H := hP
  have hD : va_D A [(h0, .inr (14, fs1_49)), (qt, .inl (cI, 4000, .inl f1_50))] := hD
  have hF_53 := hF_46.same hE_52 (l' := [(1, .int 0), (2, .ref qt)]) rfl
  have hF_54 := hF_51.app hF_53
  have hE_55 := hE_45.trans hE_52
  refine lv_aload_n hx hb dX14_feed_47 rfl (lv_at hl 0 rfl) ?_
  refine va_get (D := (dC, dI)) (ci := 14) (v := .int (nI (16 + 4))) (C := RX14) (T := TX14) (N := 136) hx hb hts hin_X14 hown hK hP 0 rfl rfl 3 (by decide) (hts (.fieldLink RX14 333 "NeedHouseModel" "taped" "I") (List.mem_of_getElem? (i := 2) rfl)) (fun _ h9 => h9) (hF_54.at 0 rfl) dX14_feed_48 ?_
  have hP9 := hP.sub (ws' := [(h0, .inr (14, fs1_49)), (qt, .inl (cI, 4000, .inl f1_50))]) [0, 1] rfl
  have hD9 := hD.sub (ws' := [(h0, .inr (14, fs1_49)), (qt, .inl (cI, 4000, .inl f1_50))]) [0, 1] (by decide) rfl
  have hK9 := hK.sub (tys' := [(cI, .int)]) [0] rfl
  exact W.iret (v := nI (16 + 4)) hx hb hr (fun t ht hW => ⟨⟨nI (16 + 4), ((fs1_49, f1_50)), rfl, ⟨rfl, hF_54.sub [0, 1] rfl, hE_55.mono (by decide)⟩, by rw [ht]; exact hP9, va_K.moved hW.alike hK9, hD9⟩, hS.F ht⟩) hS.2.2 dX14_feed_51
def pw_c_X14_back : List Cond := .code yX14_back cX14_back 2 (some .int) :: ([.fieldLink RX14 329 "NeedHouseModel" "thrown" "I", .fieldLink RX14 333 "NeedHouseModel" "taped" "I"] ++ (wsX140 ++ []))
set_option maxHeartbeats 4000000 in
set_option maxRecDepth 100000 in
theorem c_X14_back (l : Launch) (dC : Nat → ClassId) (dI : Nat → Nat → Nat) (sz : Nat) (h0 : Nat) (fs : List Value) (th : Int32) (p0 : Int32) (hF : hasF fs 136 [(1, .int th), (3, .int 0)]) : Met l yX14_back pw_c_X14_back ({ frames := 0, cells := 0, slots := 0, locals := 0 }) (va_Pc [.ref h0, .int p0] (fun U => U.heap.size = sz ∧ va_P (dC, dI) vwCl [(h0, .inr (14, fs))] U.heap ∧ va_K (dC, dI) vwCl [] U ∧ va_D (fun _ => True) [(h0, .inr (14, fs))])) (va_Qi (fun (r : Int32) (u : (List Value)) => r = (if p0 < 0 ∨ ¬ p0 ≤ 0 then -1 else 0) ∧ hasF u 136 [(1, .int 0), (3, .int 0)] ∧ sameF fs u [1, 3]) (fun (u : (List Value)) (t : State) => va_P (dC, dI) vwCl [(h0, .inr (14, u))] t.heap ∧ va_K (dC, dI) vwCl [] t ∧ va_D (va_A [(h0, .inr (14, fs))] sz) [(h0, .inr (14, u))]) (va_A [(h0, .inr (14, fs))] sz)) 0 0 (va_A [(h0, .inr (14, fs))] sz) := by
  refine Met.ofW (cc := cX14_back) (maxL := 2) (ret := (some .int)) (by decide) rfl ?_
  intro p e s m args below meth c s₁ B hml hv
  obtain ⟨rfl, hsz, hP, hK, hD0⟩ := hv
  have hx := B.exec
  have hb := B.bytes
  have hr := B.returns
  have hts := atoms_spec (ws := pw_c_X14_back) B.pre
  have hown : s.vm.findClass RX14 = some m.cls := findClass_of_methodNamed B.named
  have hlocks := B.notSynchronized
  have hin_X14 : ∀ w ∈ u_ws RX14 TX14 136, w ∈ pw_c_X14_back := fun w h => List.mem_cons_of_mem _ (List.mem_append_right _ (List.mem_append_left _ h))
  subst hsz
  have hD := hD0.self (sz := s.heap.size)
  generalize hAe : va_A [(h0, .inr (14, fs))] s.heap.size = A at hD ⊢
  have hA : ∀ q : Nat, s.heap.size ≤ q → A q := fun q h => by rw [← hAe]; exact Or.inr h
  have hS : va_S A s.heap s.heap [] := va_S.rf
  have hP : va_P (dC, dI) vwCl [(h0, .inr (14, fs))] s.heap := hP
  have hl := lv_entry ([.ref h0, .int p0]) (n := 2) (Nat.le_of_ble_eq_true rfl)
  rw [lg_entry_eq]
  generalize (lg_sl ([.ref h0, .int p0]) ++ List.replicate (2 - (lg_sl ([.ref h0, .int p0])).length) Slot.unset).toArray = ls at hl ⊢
  have hl : lv_has ls 2 [(0, .ref h0), (1, .int p0)] := hl
  refine lv_aload_n hx hb dX14_back_0 rfl (lv_at hl 0 rfl) ?_
  refine lv_iconst (v := 0) hx hb dX14_back_1 (by decide) ?_
  refine va_put (D := (dC, dI)) (ci := 14) (v := .int 0) (ty := .int) (C := RX14) (T := TX14) (N := 136) hx hb hts hin_X14 tyX14 tyX14_ok nmX14 hown hK hP hD hS 0 rfl rfl 1 (by decide) (hts (.fieldLink RX14 329 "NeedHouseModel" "thrown" "I") (List.mem_of_getElem? (i := 1) rfl)) (fun _ h9 => h9) rfl (by decide +kernel) rfl rfl (by rw [hF.1]; decide) dX14_back_2 (fun H locs hP hD hS => ?_)
  have hP : va_P (dC, dI) vwCl [(h0, .inr (14, (fs.set 1 (.int 0))))] H := hP
  have hD : va_D A [(h0, .inr (14, (fs.set 1 (.int 0))))] := hD
  have hF_1 := hF.set 1 (.int 0) (l' := [(1, .int 0), (3, .int 0)]) (by decide) rfl
  have hE_2 := (sameF.rf (f := fs)).set 1 (.int 0)
  generalize fs.set 1 (.int 0) = fs_3 at hP hD hF_1 hE_2
  have hP : va_P (dC, dI) vwCl [(h0, .inr (14, fs_3))] H := hP
  have hD : va_D A [(h0, .inr (14, fs_3))] := hD
  refine lv_iload_n hx hb dX14_back_5 rfl (lv_at hl 1 rfl) ?_
  refine lv_if_lt (tgt := 17) hx hb dX14_back_6 (by decide) (fun c_4 => ?_) (fun c_4 => ?_)
  ·
    refine lv_iconst (v := (-1)) hx hb dX14_back_17 (by decide) ?_
    have hP9 := hP.sub (ws' := [(h0, .inr (14, fs_3))]) [0] rfl
    have hD9 := hD.sub (ws' := [(h0, .inr (14, fs_3))]) [0] (by decide) rfl
    have hK9 := hK.sub (tys' := []) [] rfl
    exact W.iret (v := (-1)) hx hb hr (fun t ht hW => ⟨⟨(-1), (fs_3), rfl, ⟨(if_pos (Or.inl c_4)).symm, hF_1.sub [0, 1] rfl, hE_2.mono (by decide)⟩, by rw [ht]; exact hP9, va_K.moved hW.alike hK9, hD9⟩, hS.F ht⟩) hS.2.2 dX14_back_18
  ·
    refine lv_iload_n hx hb dX14_back_9 rfl (lv_at hl 1 rfl) ?_
    refine lv_aload_n hx hb dX14_back_10 rfl (lv_at hl 0 rfl) ?_
    refine va_get (D := (dC, dI)) (ci := 14) (v := .int 0) (C := RX14) (T := TX14) (N := 136) hx hb hts hin_X14 hown hK hP 0 rfl rfl 3 (by decide) (hts (.fieldLink RX14 333 "NeedHouseModel" "taped" "I") (List.mem_of_getElem? (i := 2) rfl)) (fun _ h9 => h9) (hF_1.at 1 rfl) dX14_back_11 ?_
    refine lv_icmp_le (tgt := 19) hx hb dX14_back_14 (by decide) (fun c_5 => ?_) (fun c_5 => ?_)
    ·
      obtain rfl : p0 = 0 := Int32.le_antisymm c_5 (Int32.not_lt.mp c_4)
      refine lv_aload_n hx hb dX14_back_19 rfl (lv_at hl 0 rfl) ?_
      refine lv_dup hx hb dX14_back_20 rfl ?_
      refine va_get (D := (dC, dI)) (ci := 14) (v := .int 0) (C := RX14) (T := TX14) (N := 136) hx hb hts hin_X14 hown hK hP 0 rfl rfl 3 (by decide) (hts (.fieldLink RX14 333 "NeedHouseModel" "taped" "I") (List.mem_of_getElem? (i := 2) rfl)) (fun _ h9 => h9) (hF_1.at 1 rfl) dX14_back_21 ?_
      refine lv_iload_n hx hb dX14_back_24 rfl (lv_at hl 1 rfl) ?_
      refine lv_isub hx hb dX14_back_25 ?_
      refine lv_topi (fun x_6 ex_6 => ?_)
      obtain rfl : x_6 = 0 := ex_6.trans (by decide +kernel)
      refine va_put (D := (dC, dI)) (ci := 14) (v := .int 0) (ty := .int) (C := RX14) (T := TX14) (N := 136) hx hb hts hin_X14 tyX14 tyX14_ok nmX14 hown hK hP hD hS 0 rfl rfl 3 (by decide) (hts (.fieldLink RX14 333 "NeedHouseModel" "taped" "I") (List.mem_of_getElem? (i := 2) rfl)) (fun _ h9 => h9) rfl (by decide +kernel) rfl rfl (by rw [hF_1.1]; decide) dX14_back_26 (fun H locs hP hD hS => ?_)
      have hP : va_P (dC, dI) vwCl [(h0, .inr (14, (fs_3.set 3 (.int 0))))] H := hP
      have hD : va_D A [(h0, .inr (14, (fs_3.set 3 (.int 0))))] := hD
      have hF_7 := hF_1.set 3 (.int 0) (l' := [(3, .int 0), (1, .int 0)]) (by decide) rfl
      have hE_8 := hE_2.set 3 (.int 0)
      generalize fs_3.set 3 (.int 0) = fs_9 at hP hD hF_7 hE_8
      have hP : va_P (dC, dI) vwCl [(h0, .inr (14, fs_9))] H := hP
      have hD : va_D A [(h0, .inr (14, fs_9))] := hD
      refine lv_aload_n hx hb dX14_back_29 rfl (lv_at hl 0 rfl) ?_
      refine va_get (D := (dC, dI)) (ci := 14) (v := .int 0) (C := RX14) (T := TX14) (N := 136) hx hb hts hin_X14 hown hK hP 0 rfl rfl 3 (by decide) (hts (.fieldLink RX14 333 "NeedHouseModel" "taped" "I") (List.mem_of_getElem? (i := 2) rfl)) (fun _ h9 => h9) (hF_7.at 0 rfl) dX14_back_30 ?_
      have hP9 := hP.sub (ws' := [(h0, .inr (14, fs_9))]) [0] rfl
      have hD9 := hD.sub (ws' := [(h0, .inr (14, fs_9))]) [0] (by decide) rfl
      have hK9 := hK.sub (tys' := []) [] rfl
      exact W.iret (v := 0) hx hb hr (fun t ht hW => ⟨⟨0, (fs_9), rfl, ⟨by decide, hF_7.sub [1, 0] rfl, hE_8.mono (by decide)⟩, by rw [ht]; exact hP9, va_K.moved hW.alike hK9, hD9⟩, hS.F ht⟩) hS.2.2 dX14_back_33
    ·
      refine lv_iconst (v := (-1)) hx hb dX14_back_17 (by decide) ?_
      have hP9 := hP.sub (ws' := [(h0, .inr (14, fs_3))]) [0] rfl
      have hD9 := hD.sub (ws' := [(h0, .inr (14, fs_3))]) [0] (by decide) rfl
      have hK9 := hK.sub (tys' := []) [] rfl
      exact W.iret (v := (-1)) hx hb hr (fun t ht hW => ⟨⟨(-1), (fs_3), rfl, ⟨(if_pos (Or.inr c_5)).symm, hF_1.sub [0, 1] rfl, hE_2.mono (by decide)⟩, by rw [ht]; exact hP9, va_K.moved hW.alike hK9, hD9⟩, hS.F ht⟩) hS.2.2 dX14_back_18
def pw_c_X14_thrown : List Cond := .code yX14_thrown cX14_thrown 1 (some .int) :: ([.fieldLink RX14 329 "NeedHouseModel" "thrown" "I"] ++ (wsX140 ++ []))
set_option maxHeartbeats 4000000 in
set_option maxRecDepth 100000 in
theorem c_X14_thrown (l : Launch) (dC : Nat → ClassId) (dI : Nat → Nat → Nat) (sz : Nat) (h0 : Nat) (fs : List Value) (th : Int32) (hF : hasF fs 136 [(1, .int th)]) : Met l yX14_thrown pw_c_X14_thrown ({ frames := 0, cells := 0, slots := 0, locals := 0 }) (va_Pc [.ref h0] (fun U => U.heap.size = sz ∧ va_P (dC, dI) vwCl [(h0, .inr (14, fs))] U.heap ∧ va_K (dC, dI) vwCl [] U ∧ va_D (fun _ => True) [(h0, .inr (14, fs))])) (va_Qi (fun (r : Int32) (u : (List Value)) => r = th ∧ hasF u 136 [(1, .int th)] ∧ sameF fs u []) (fun (u : (List Value)) (t : State) => va_P (dC, dI) vwCl [(h0, .inr (14, u))] t.heap ∧ va_K (dC, dI) vwCl [] t ∧ va_D (va_A [(h0, .inr (14, fs))] sz) [(h0, .inr (14, u))]) (va_A [(h0, .inr (14, fs))] sz)) 0 0 (va_A [(h0, .inr (14, fs))] sz) := by
  refine Met.ofW (cc := cX14_thrown) (maxL := 1) (ret := (some .int)) (by decide) rfl ?_
  intro p e s m args below meth c s₁ B hml hv
  obtain ⟨rfl, hsz, hP, hK, hD0⟩ := hv
  have hx := B.exec
  have hb := B.bytes
  have hr := B.returns
  have hts := atoms_spec (ws := pw_c_X14_thrown) B.pre
  have hown : s.vm.findClass RX14 = some m.cls := findClass_of_methodNamed B.named
  have hlocks := B.notSynchronized
  have hin_X14 : ∀ w ∈ u_ws RX14 TX14 136, w ∈ pw_c_X14_thrown := fun w h => List.mem_cons_of_mem _ (List.mem_append_right _ (List.mem_append_left _ h))
  subst hsz
  have hD := hD0.self (sz := s.heap.size)
  generalize hAe : va_A [(h0, .inr (14, fs))] s.heap.size = A at hD ⊢
  have hA : ∀ q : Nat, s.heap.size ≤ q → A q := fun q h => by rw [← hAe]; exact Or.inr h
  have hS : va_S A s.heap s.heap [] := va_S.rf
  have hP : va_P (dC, dI) vwCl [(h0, .inr (14, fs))] s.heap := hP
  have hl := lv_entry ([.ref h0]) (n := 1) (Nat.le_of_ble_eq_true rfl)
  rw [lg_entry_eq]
  generalize (lg_sl ([.ref h0]) ++ List.replicate (1 - (lg_sl ([.ref h0])).length) Slot.unset).toArray = ls at hl ⊢
  have hl : lv_has ls 1 [(0, .ref h0)] := hl
  refine lv_aload_n hx hb dX14_thrown_0 rfl (lv_at hl 0 rfl) ?_
  refine va_get (D := (dC, dI)) (ci := 14) (v := .int th) (C := RX14) (T := TX14) (N := 136) hx hb hts hin_X14 hown hK hP 0 rfl rfl 1 (by decide) (hts (.fieldLink RX14 329 "NeedHouseModel" "thrown" "I") (List.mem_of_getElem? (i := 1) rfl)) (fun _ h9 => h9) (hF.at 0 rfl) dX14_thrown_1 ?_
  have hP9 := hP.sub (ws' := [(h0, .inr (14, fs))]) [0] rfl
  have hD9 := hD.sub (ws' := [(h0, .inr (14, fs))]) [0] (by decide) rfl
  have hK9 := hK.sub (tys' := []) [] rfl
  exact W.iret (v := th) hx hb hr (fun t ht hW => ⟨⟨th, (fs), rfl, ⟨rfl, hF.sub [0] rfl, (sameF.rf (f := fs)).mono (by decide)⟩, by rw [ht]; exact hP9, va_K.moved hW.alike hK9, hD9⟩, hS.F ht⟩) hS.2.2 dX14_thrown_4
def pw_c_X14_count : List Cond := .code yX14_count cX14_count 2 (some .int) :: ([.fieldLink RX14 329 "NeedHouseModel" "thrown" "I", .fieldLink RX14 844 "NeedHouseModel" "isThere" "Z"] ++ (wsX140 ++ []))
set_option maxHeartbeats 4000000 in
set_option maxRecDepth 100000 in
theorem c_X14_count (l : Launch) (dC : Nat → ClassId) (dI : Nat → Nat → Nat) (sz : Nat) (h0 : Nat) (fs : List Value) (th : Int32) (p0 : Int32) (hF : hasF fs 136 [(1, .int th), (95, .int 0)]) : Met l yX14_count pw_c_X14_count ({ frames := 0, cells := 0, slots := 0, locals := 0 }) (va_Pc [.ref h0, .int p0] (fun U => U.heap.size = sz ∧ va_P (dC, dI) vwCl [(h0, .inr (14, fs))] U.heap ∧ va_K (dC, dI) vwCl [] U ∧ va_D (fun _ => True) [(h0, .inr (14, fs))])) (va_Qi (fun (r : Int32) (u : (List Value)) => r = (if p0 < 0 ∨ ¬ p0 ≤ 12 then -1 else 0) ∧ hasF u 136 [(1, .int 0)] ∧ sameF fs u [1]) (fun (u : (List Value)) (t : State) => va_P (dC, dI) vwCl [(h0, .inr (14, u))] t.heap ∧ va_K (dC, dI) vwCl [] t ∧ va_D (va_A [(h0, .inr (14, fs))] sz) [(h0, .inr (14, u))]) (va_A [(h0, .inr (14, fs))] sz)) 0 0 (va_A [(h0, .inr (14, fs))] sz) := by
  refine Met.ofW (cc := cX14_count) (maxL := 2) (ret := (some .int)) (by decide) rfl ?_
  intro p e s m args below meth c s₁ B hml hv
  obtain ⟨rfl, hsz, hP, hK, hD0⟩ := hv
  have hx := B.exec
  have hb := B.bytes
  have hr := B.returns
  have hts := atoms_spec (ws := pw_c_X14_count) B.pre
  have hown : s.vm.findClass RX14 = some m.cls := findClass_of_methodNamed B.named
  have hlocks := B.notSynchronized
  have hin_X14 : ∀ w ∈ u_ws RX14 TX14 136, w ∈ pw_c_X14_count := fun w h => List.mem_cons_of_mem _ (List.mem_append_right _ (List.mem_append_left _ h))
  subst hsz
  have hD := hD0.self (sz := s.heap.size)
  generalize hAe : va_A [(h0, .inr (14, fs))] s.heap.size = A at hD ⊢
  have hA : ∀ q : Nat, s.heap.size ≤ q → A q := fun q h => by rw [← hAe]; exact Or.inr h
  have hS : va_S A s.heap s.heap [] := va_S.rf
  have hP : va_P (dC, dI) vwCl [(h0, .inr (14, fs))] s.heap := hP
  have hl := lv_entry ([.ref h0, .int p0]) (n := 2) (Nat.le_of_ble_eq_true rfl)
  rw [lg_entry_eq]
  generalize (lg_sl ([.ref h0, .int p0]) ++ List.replicate (2 - (lg_sl ([.ref h0, .int p0])).length) Slot.unset).toArray = ls at hl ⊢
  have hl : lv_has ls 2 [(0, .ref h0), (1, .int p0)] := hl
  refine lv_aload_n hx hb dX14_count_0 rfl (lv_at hl 0 rfl) ?_
  refine lv_iconst (v := 0) hx hb dX14_count_1 (by decide) ?_
  refine va_put (D := (dC, dI)) (ci := 14) (v := .int 0) (ty := .int) (C := RX14) (T := TX14) (N := 136) hx hb hts hin_X14 tyX14 tyX14_ok nmX14 hown hK hP hD hS 0 rfl rfl 1 (by decide) (hts (.fieldLink RX14 329 "NeedHouseModel" "thrown" "I") (List.mem_of_getElem? (i := 1) rfl)) (fun _ h9 => h9) rfl (by decide +kernel) rfl rfl (by rw [hF.1]; decide) dX14_count_2 (fun H locs hP hD hS => ?_)
  have hP : va_P (dC, dI) vwCl [(h0, .inr (14, (fs.set 1 (.int 0))))] H := hP
  have hD : va_D A [(h0, .inr (14, (fs.set 1 (.int 0))))] := hD
  have hF_1 := hF.set 1 (.int 0) (l' := [(1, .int 0), (95, .int 0)]) (by decide) rfl
  have hE_2 := (sameF.rf (f := fs)).set 1 (.int 0)
  generalize fs.set 1 (.int 0) = fs_3 at hP hD hF_1 hE_2
  have hP : va_P (dC, dI) vwCl [(h0, .inr (14, fs_3))] H := hP
  have hD : va_D A [(h0, .inr (14, fs_3))] := hD
  refine lv_iload_n hx hb dX14_count_5 rfl (lv_at hl 1 rfl) ?_
  refine lv_if_lt (tgt := 15) hx hb dX14_count_6 (by decide) (fun c_4 => ?_) (fun c_4 => ?_)
  ·
    refine lv_iconst (v := (-1)) hx hb dX14_count_15 (by decide) ?_
    have hP9 := hP.sub (ws' := [(h0, .inr (14, fs_3))]) [0] rfl
    have hD9 := hD.sub (ws' := [(h0, .inr (14, fs_3))]) [0] (by decide) rfl
    have hK9 := hK.sub (tys' := []) [] rfl
    exact W.iret (v := (-1)) hx hb hr (fun t ht hW => ⟨⟨(-1), (fs_3), rfl, ⟨(if_pos (Or.inl c_4)).symm, hF_1.sub [0] rfl, hE_2.mono (by decide)⟩, by rw [ht]; exact hP9, va_K.moved hW.alike hK9, hD9⟩, hS.F ht⟩) hS.2.2 dX14_count_16
  ·
    refine lv_iload_n hx hb dX14_count_9 rfl (lv_at hl 1 rfl) ?_
    refine lv_bipush (v := 12) hx hb dX14_count_10 (by decide) ?_
    refine lv_icmp_le (tgt := 17) hx hb dX14_count_12 (by decide) (fun c_5 => ?_) (fun c_5 => ?_)
    ·
      refine lv_aload_n hx hb dX14_count_17 rfl (lv_at hl 0 rfl) ?_
      refine va_get (D := (dC, dI)) (ci := 14) (v := .int 0) (C := RX14) (T := TX14) (N := 136) hx hb hts hin_X14 hown hK hP 0 rfl rfl 95 (by decide) (hts (.fieldLink RX14 844 "NeedHouseModel" "isThere" "Z") (List.mem_of_getElem? (i := 2) rfl)) (fun _ h9 => h9) (hF_1.at 1 rfl) dX14_count_18 ?_
      refine lv_if_eq (tgt := 36) hx hb dX14_count_21 (by decide) (fun _ => ?_) (fun c_6 => absurd (by decide) c_6)
      refine lv_iconst (v := 0) hx hb dX14_count_36 (by decide) ?_
      have hP9 := hP.sub (ws' := [(h0, .inr (14, fs_3))]) [0] rfl
      have hD9 := hD.sub (ws' := [(h0, .inr (14, fs_3))]) [0] (by decide) rfl
      have hK9 := hK.sub (tys' := []) [] rfl
      exact W.iret (v := 0) hx hb hr (fun t ht hW => ⟨⟨0, (fs_3), rfl, ⟨(if_neg (fun z => z.elim c_4 (fun k => k c_5))).symm, hF_1.sub [0] rfl, hE_2.mono (by decide)⟩, by rw [ht]; exact hP9, va_K.moved hW.alike hK9, hD9⟩, hS.F ht⟩) hS.2.2 dX14_count_37
    ·
      refine lv_iconst (v := (-1)) hx hb dX14_count_15 (by decide) ?_
      have hP9 := hP.sub (ws' := [(h0, .inr (14, fs_3))]) [0] rfl
      have hD9 := hD.sub (ws' := [(h0, .inr (14, fs_3))]) [0] (by decide) rfl
      have hK9 := hK.sub (tys' := []) [] rfl
      exact W.iret (v := (-1)) hx hb hr (fun t ht hW => ⟨⟨(-1), (fs_3), rfl, ⟨(if_pos (Or.inr c_5)).symm, hF_1.sub [0] rfl, hE_2.mono (by decide)⟩, by rw [ht]; exact hP9, va_K.moved hW.alike hK9, hD9⟩, hS.F ht⟩) hS.2.2 dX14_count_16
def pw_c_X14_isDefinition : List Cond := .code yX14_isDefinition cX14_isDefinition 2 (some .boolean) :: ([.fieldLink RX14 844 "NeedHouseModel" "isThere" "Z"] ++ (wsX140 ++ []))
set_option maxHeartbeats 4000000 in
set_option maxRecDepth 100000 in
theorem c_X14_isDefinition (l : Launch) (dC : Nat → ClassId) (dI : Nat → Nat → Nat) (sz : Nat) (h0 : Nat) (fs : List Value) (p0 : Int32) (hF : hasF fs 136 [(95, .int 0)]) : Met l yX14_isDefinition pw_c_X14_isDefinition ({ frames := 0, cells := 0, slots := 0, locals := 0 }) (va_Pc [.ref h0, .int p0] (fun U => U.heap.size = sz ∧ va_P (dC, dI) vwCl [(h0, .inr (14, fs))] U.heap ∧ va_K (dC, dI) vwCl [] U ∧ va_D (fun _ => True) [(h0, .inr (14, fs))])) (va_Qi (fun (r : Int32) (u : (List Value)) => r = 0 ∧ sameF fs u []) (fun (u : (List Value)) (t : State) => va_P (dC, dI) vwCl [(h0, .inr (14, u))] t.heap ∧ va_K (dC, dI) vwCl [] t ∧ va_D (va_A [(h0, .inr (14, fs))] sz) [(h0, .inr (14, u))]) (va_A [(h0, .inr (14, fs))] sz)) 0 0 (va_A [(h0, .inr (14, fs))] sz) := by
  refine Met.ofW (cc := cX14_isDefinition) (maxL := 2) (ret := (some .boolean)) (by decide) rfl ?_
  intro p e s m args below meth c s₁ B hml hv
  obtain ⟨rfl, hsz, hP, hK, hD0⟩ := hv
  have hx := B.exec
  have hb := B.bytes
  have hr := B.returns
  have hts := atoms_spec (ws := pw_c_X14_isDefinition) B.pre
  have hown : s.vm.findClass RX14 = some m.cls := findClass_of_methodNamed B.named
  have hlocks := B.notSynchronized
  have hin_X14 : ∀ w ∈ u_ws RX14 TX14 136, w ∈ pw_c_X14_isDefinition := fun w h => List.mem_cons_of_mem _ (List.mem_append_right _ (List.mem_append_left _ h))
  subst hsz
  have hD := hD0.self (sz := s.heap.size)
  generalize hAe : va_A [(h0, .inr (14, fs))] s.heap.size = A at hD ⊢
  have hA : ∀ q : Nat, s.heap.size ≤ q → A q := fun q h => by rw [← hAe]; exact Or.inr h
  have hS : va_S A s.heap s.heap [] := va_S.rf
  have hP : va_P (dC, dI) vwCl [(h0, .inr (14, fs))] s.heap := hP
  have hl := lv_entry ([.ref h0, .int p0]) (n := 2) (Nat.le_of_ble_eq_true rfl)
  rw [lg_entry_eq]
  generalize (lg_sl ([.ref h0, .int p0]) ++ List.replicate (2 - (lg_sl ([.ref h0, .int p0])).length) Slot.unset).toArray = ls at hl ⊢
  have hl : lv_has ls 2 [(0, .ref h0), (1, .int p0)] := hl
  refine lv_aload_n hx hb dX14_isDefinition_0 rfl (lv_at hl 0 rfl) ?_
  refine va_get (D := (dC, dI)) (ci := 14) (v := .int 0) (C := RX14) (T := TX14) (N := 136) hx hb hts hin_X14 hown hK hP 0 rfl rfl 95 (by decide) (hts (.fieldLink RX14 844 "NeedHouseModel" "isThere" "Z") (List.mem_of_getElem? (i := 1) rfl)) (fun _ h9 => h9) (hF.at 0 rfl) dX14_isDefinition_1 ?_
  refine lv_if_eq (tgt := 23) hx hb dX14_isDefinition_4 (by decide) (fun _ => ?_) (fun c_1 => absurd (by decide) c_1)
  refine lv_iconst (v := 0) hx hb dX14_isDefinition_23 (by decide) ?_
  have hP9 := hP.sub (ws' := [(h0, .inr (14, fs))]) [0] rfl
  have hD9 := hD.sub (ws' := [(h0, .inr (14, fs))]) [0] (by decide) rfl
  have hK9 := hK.sub (tys' := []) [] rfl
  exact W.zret (v := 0) hx hb hr (by first | rfl | decide +kernel) (fun t ht hW => ⟨⟨0, (fs), rfl, ⟨rfl, (sameF.rf (f := fs)).mono (by decide)⟩, by rw [ht]; exact hP9, va_K.moved hW.alike hK9, hD9⟩, hS.F ht⟩) hS.2.2 dX14_isDefinition_24
def pw_c_X14_sign : List Cond := .code yX14_sign cX14_sign 3 (some .int) :: ([.fieldLink RX14 329 "NeedHouseModel" "thrown" "I", .methodLink RX14 1084 yX14_isDefinition, .instanceMethod yX14_isDefinition, .selects RX14 yX14_isDefinition yX14_isDefinition, .initialized RX14, .code yX14_isDefinition cX14_isDefinition 2 (some .boolean), .fieldLink RX14 844 "NeedHouseModel" "isThere" "Z"] ++ (wsX140 ++ []))
set_option maxRecDepth 20000 in
theorem g_c_X14_sign_c_X14_isDefinition_7 : GoodIn pw_c_X14_sign (wsV RX14 1084 RX14 yX14_isDefinition pw_c_X14_isDefinition) := goodIn_r _ [2, 3, 4, 5, 6, 7, 8, 9, 10, 11, 12, 13, 14, 15, 16, 17, 18, 19, 20, 21, 22, 23, 24, 25, 26, 27, 28, 29, 30, 31, 32, 33, 34, 35, 36, 37, 38, 39, 40, 41, 42, 43, 44, 45, 46, 47, 48, 49, 50, 51, 52, 53, 54, 55, 56, 57, 58, 59, 60, 61, 62, 63, 64, 65, 66, 67, 68, 69, 70, 71, 72, 73, 74, 75, 76, 77, 78, 79, 80, 81, 82, 83, 84, 85, 86, 87, 88, 89, 90, 91, 92, 93, 94, 95, 96, 97, 98, 99, 100, 101, 102, 103, 104, 105, 106, 107, 108, 109, 110, 111, 112, 113, 114, 115, 116, 117, 118, 119, 120, 121, 122, 123, 124, 125, 126, 127, 128, 129, 130, 131, 132, 133, 134, 135, 136, 137, 138, 139, 140, 141, 142, 143] rfl (by decide +kernel)
set_option maxHeartbeats 4000000 in
set_option maxRecDepth 100000 in
theorem c_X14_sign (l : Launch) (dC : Nat → ClassId) (dI : Nat → Nat → Nat) (sz : Nat) (h0 : Nat) (fs : List Value) (th : Int32) (p0 : Int32) (p1 : Int32) (hF : hasF fs 136 [(1, .int th), (95, .int 0)]) : Met l yX14_sign pw_c_X14_sign ({ frames := 1, cells := 0, slots := 0, locals := 21 }) (va_Pc [.ref h0, .int p0, .int p1] (fun U => U.heap.size = sz ∧ va_P (dC, dI) vwCl [(h0, .inr (14, fs))] U.heap ∧ va_K (dC, dI) vwCl [] U ∧ va_D (fun _ => True) [(h0, .inr (14, fs))])) (va_Qi (fun (r : Int32) (u : (List Value)) => r = -1 ∧ hasF u 136 [(1, .int 0)] ∧ sameF fs u [1]) (fun (u : (List Value)) (t : State) => va_P (dC, dI) vwCl [(h0, .inr (14, u))] t.heap ∧ va_K (dC, dI) vwCl [] t ∧ va_D (va_A [(h0, .inr (14, fs))] sz) [(h0, .inr (14, u))]) (va_A [(h0, .inr (14, fs))] sz)) 0 0 (va_A [(h0, .inr (14, fs))] sz) := by
  refine Met.ofW (cc := cX14_sign) (maxL := 3) (ret := (some .int)) (by decide) rfl ?_
  intro p e s m args below meth c s₁ B hml hv
  obtain ⟨rfl, hsz, hP, hK, hD0⟩ := hv
  have hx := B.exec
  have hb := B.bytes
  have hr := B.returns
  have hts := atoms_spec (ws := pw_c_X14_sign) B.pre
  have hown : s.vm.findClass RX14 = some m.cls := findClass_of_methodNamed B.named
  have hlocks := B.notSynchronized
  have hin_X14 : ∀ w ∈ u_ws RX14 TX14 136, w ∈ pw_c_X14_sign := fun w h => List.mem_cons_of_mem _ (List.mem_append_right _ (List.mem_append_left _ h))
  subst hsz
  have hD := hD0.self (sz := s.heap.size)
  generalize hAe : va_A [(h0, .inr (14, fs))] s.heap.size = A at hD ⊢
  have hA : ∀ q : Nat, s.heap.size ≤ q → A q := fun q h => by rw [← hAe]; exact Or.inr h
  have hS : va_S A s.heap s.heap [] := va_S.rf
  have hP : va_P (dC, dI) vwCl [(h0, .inr (14, fs))] s.heap := hP
  have hl := lv_entry ([.ref h0, .int p0, .int p1]) (n := 3) (Nat.le_of_ble_eq_true rfl)
  rw [lg_entry_eq]
  generalize (lg_sl ([.ref h0, .int p0, .int p1]) ++ List.replicate (3 - (lg_sl ([.ref h0, .int p0, .int p1])).length) Slot.unset).toArray = ls at hl ⊢
  have hl : lv_has ls 3 [(0, .ref h0), (1, .int p0), (2, .int p1)] := hl
  refine lv_aload_n hx hb dX14_sign_0 rfl (lv_at hl 0 rfl) ?_
  refine lv_iconst (v := 0) hx hb dX14_sign_1 (by decide) ?_
  refine va_put (D := (dC, dI)) (ci := 14) (v := .int 0) (ty := .int) (C := RX14) (T := TX14) (N := 136) hx hb hts hin_X14 tyX14 tyX14_ok nmX14 hown hK hP hD hS 0 rfl rfl 1 (by decide) (hts (.fieldLink RX14 329 "NeedHouseModel" "thrown" "I") (List.mem_of_getElem? (i := 1) rfl)) (fun _ h9 => h9) rfl (by decide +kernel) rfl rfl (by rw [hF.1]; decide) dX14_sign_2 (fun H locs hP hD hS => ?_)
  have hP : va_P (dC, dI) vwCl [(h0, .inr (14, (fs.set 1 (.int 0))))] H := hP
  have hD : va_D A [(h0, .inr (14, (fs.set 1 (.int 0))))] := hD
  have hF_1 := hF.set 1 (.int 0) (l' := [(1, .int 0), (95, .int 0)]) (by decide) rfl
  have hE_2 := (sameF.rf (f := fs)).set 1 (.int 0)
  generalize fs.set 1 (.int 0) = fs_3 at hP hD hF_1 hE_2
  have hP : va_P (dC, dI) vwCl [(h0, .inr (14, fs_3))] H := hP
  have hD : va_D A [(h0, .inr (14, fs_3))] := hD
  refine lv_aload_n hx hb dX14_sign_5 rfl (lv_at hl 0 rfl) ?_
  refine lv_iload_n hx hb dX14_sign_6 rfl (lv_at hl 1 rfl) ?_
  have hPc := hP.sub (ws' := [(h0, .inr (14, fs_3))]) [0] rfl
  have hDc := hD.sub (ws' := [(h0, .inr (14, fs_3))]) [0] (by decide) rfl
  have hKc := hK.sub (tys' := []) [] rfl
  have hFc := va_free (wc := [(h0, .inr (14, fs_3))]) hD hS hA [0] rfl
  refine va_calli (va_runV (As := [.int p0]) (rest := []) ⟨hx, hb, hml, hown, hts⟩ (c_X14_isDefinition l dC dI H.size h0 fs_3 p0 (hF_1.sub [1] rfl)) (cwV 1 hts g_c_X14_sign_c_X14_isDefinition_7 rfl rfl rfl (by decide +kernel) ⟨Nat.le_of_ble_eq_true rfl, Nat.le_of_ble_eq_true rfl⟩) ⟨fun a U g mk q => by obtain ⟨q0, q1, qP, qK, qD⟩ := q; exact ⟨q0, q1, qP, va_K.moved (u := U) (U := U.calling g mk a) (Vm.Alike.refl U.vm) qK, qD⟩, va_recv hKc hPc (ci := 14) (q0 := 0) rfl rfl, fun U hU hW => ⟨rfl, by rw [hU], by rw [hU]; exact hPc, va_K.moved hW.alike hKc, hDc.weaken (fun _ _ _ _ => trivial)⟩⟩ rfl rfl hl.1 rfl (lv_room (Nat.le_of_ble_eq_true rfl)) dX14_sign_7 ⟨by decide, by decide⟩) hS (fun q _ h => hFc q h) hFc (fun r_4 u t H1 locs ht hvm hw hB hz1 hk1 hS => ?_)
  obtain ⟨fs1_6, rfl⟩ : ∃ z, z = u := ⟨_, rfl⟩
  obtain ⟨hP1, hK1, hD1⟩ := hB
  rw [ht] at hP1
  have hK1 := va_K.moved hvm.symm hK1
  try dsimp only at hw hP1 hK1 hD1
  obtain ⟨hr_7, hE_8⟩ := hw
  obtain ⟨hP, hD⟩ := va_join (wr := []) (w1 := [(h0, .inr (14, fs1_6))]) hP hD [0] [] rfl rfl (by decide) (by decide) hk1 hFc hP1 hD1
  generalize H1 = H at hP hS ⊢
  have hK := (hK.sub (tys' := []) [] rfl).app hK1
  have hK : va_K (dC, dI) vwCl [] s := hK
  have hP : va_P (dC, dI) vwCl [(h0, .inr (14, fs1_6))] H := hP
  have hD : va_D A [(h0, .inr (14, fs1_6))] := hD
  have hF_9 := hF_1.same hE_8 (l' := [(1, .int 0), (95, .int 0)]) rfl
  have hE_10 := hE_2.trans hE_8
  subst hr_7
  refine lv_if_eq (tgt := 36) hx hb dX14_sign_10 (by decide) (fun _ => ?_) (fun c_11 => absurd (by decide) c_11)
  refine lv_iconst (v := (-1)) hx hb dX14_sign_36 (by decide) ?_
  refine lv_goto (tgt := 53) hx hb dX14_sign_37 (by decide) ?_
  have hP9 := hP.sub (ws' := [(h0, .inr (14, fs1_6))]) [0] rfl
  have hD9 := hD.sub (ws' := [(h0, .inr (14, fs1_6))]) [0] (by decide) rfl
  have hK9 := hK.sub (tys' := []) [] rfl
  exact W.iret (v := (-1)) hx hb hr (fun t ht hW => ⟨⟨(-1), (fs1_6), rfl, ⟨rfl, hF_9.sub [0] rfl, hE_10.mono (by decide)⟩, by rw [ht]; exact hP9, va_K.moved hW.alike hK9, hD9⟩, hS.F ht⟩) hS.2.2 dX14_sign_53
def pw_c_X14_strict : List Cond := .code yX14_strict cX14_strict 5 (some .int) :: ([.fieldLink RX14 329 "NeedHouseModel" "thrown" "I", .methodLink RX14 1084 yX14_isDefinition, .instanceMethod yX14_isDefinition, .selects RX14 yX14_isDefinition yX14_isDefinition, .initialized RX14, .code yX14_isDefinition cX14_isDefinition 2 (some .boolean), .fieldLink RX14 844 "NeedHouseModel" "isThere" "Z"] ++ (wsX140 ++ []))
set_option maxRecDepth 20000 in
theorem g_c_X14_strict_c_X14_isDefinition_7 : GoodIn pw_c_X14_strict (wsV RX14 1084 RX14 yX14_isDefinition pw_c_X14_isDefinition) := goodIn_r _ [2, 3, 4, 5, 6, 7, 8, 9, 10, 11, 12, 13, 14, 15, 16, 17, 18, 19, 20, 21, 22, 23, 24, 25, 26, 27, 28, 29, 30, 31, 32, 33, 34, 35, 36, 37, 38, 39, 40, 41, 42, 43, 44, 45, 46, 47, 48, 49, 50, 51, 52, 53, 54, 55, 56, 57, 58, 59, 60, 61, 62, 63, 64, 65, 66, 67, 68, 69, 70, 71, 72, 73, 74, 75, 76, 77, 78, 79, 80, 81, 82, 83, 84, 85, 86, 87, 88, 89, 90, 91, 92, 93, 94, 95, 96, 97, 98, 99, 100, 101, 102, 103, 104, 105, 106, 107, 108, 109, 110, 111, 112, 113, 114, 115, 116, 117, 118, 119, 120, 121, 122, 123, 124, 125, 126, 127, 128, 129, 130, 131, 132, 133, 134, 135, 136, 137, 138, 139, 140, 141, 142, 143] rfl (by decide +kernel)
set_option maxHeartbeats 4000000 in
set_option maxRecDepth 100000 in
theorem c_X14_strict (l : Launch) (dC : Nat → ClassId) (dI : Nat → Nat → Nat) (sz : Nat) (h0 : Nat) (fs : List Value) (th : Int32) (p0 : Int32) (p1 : Int32) (hF : hasF fs 136 [(1, .int th), (95, .int 0)]) : Met l yX14_strict pw_c_X14_strict ({ frames := 1, cells := 0, slots := 0, locals := 21 }) (va_Pc [.ref h0, .int p0, .int p1] (fun U => U.heap.size = sz ∧ va_P (dC, dI) vwCl [(h0, .inr (14, fs))] U.heap ∧ va_K (dC, dI) vwCl [] U ∧ va_D (fun _ => True) [(h0, .inr (14, fs))])) (va_Qi (fun (r : Int32) (u : (List Value)) => r = -1 ∧ hasF u 136 [(1, .int 0)] ∧ sameF fs u [1]) (fun (u : (List Value)) (t : State) => va_P (dC, dI) vwCl [(h0, .inr (14, u))] t.heap ∧ va_K (dC, dI) vwCl [] t ∧ va_D (va_A [(h0, .inr (14, fs))] sz) [(h0, .inr (14, u))]) (va_A [(h0, .inr (14, fs))] sz)) 0 0 (va_A [(h0, .inr (14, fs))] sz) := by
  refine Met.ofW (cc := cX14_strict) (maxL := 5) (ret := (some .int)) (by decide) rfl ?_
  intro p e s m args below meth c s₁ B hml hv
  obtain ⟨rfl, hsz, hP, hK, hD0⟩ := hv
  have hx := B.exec
  have hb := B.bytes
  have hr := B.returns
  have hts := atoms_spec (ws := pw_c_X14_strict) B.pre
  have hown : s.vm.findClass RX14 = some m.cls := findClass_of_methodNamed B.named
  have hlocks := B.notSynchronized
  have hin_X14 : ∀ w ∈ u_ws RX14 TX14 136, w ∈ pw_c_X14_strict := fun w h => List.mem_cons_of_mem _ (List.mem_append_right _ (List.mem_append_left _ h))
  subst hsz
  have hD := hD0.self (sz := s.heap.size)
  generalize hAe : va_A [(h0, .inr (14, fs))] s.heap.size = A at hD ⊢
  have hA : ∀ q : Nat, s.heap.size ≤ q → A q := fun q h => by rw [← hAe]; exact Or.inr h
  have hS : va_S A s.heap s.heap [] := va_S.rf
  have hP : va_P (dC, dI) vwCl [(h0, .inr (14, fs))] s.heap := hP
  have hl := lv_entry ([.ref h0, .int p0, .int p1]) (n := 5) (Nat.le_of_ble_eq_true rfl)
  rw [lg_entry_eq]
  generalize (lg_sl ([.ref h0, .int p0, .int p1]) ++ List.replicate (5 - (lg_sl ([.ref h0, .int p0, .int p1])).length) Slot.unset).toArray = ls at hl ⊢
  have hl : lv_has ls 5 [(0, .ref h0), (1, .int p0), (2, .int p1)] := hl
  refine lv_aload_n hx hb dX14_strict_0 rfl (lv_at hl 0 rfl) ?_
  refine lv_iconst (v := 0) hx hb dX14_strict_1 (by decide) ?_
  refine va_put (D := (dC, dI)) (ci := 14) (v := .int 0) (ty := .int) (C := RX14) (T := TX14) (N := 136) hx hb hts hin_X14 tyX14 tyX14_ok nmX14 hown hK hP hD hS 0 rfl rfl 1 (by decide) (hts (.fieldLink RX14 329 "NeedHouseModel" "thrown" "I") (List.mem_of_getElem? (i := 1) rfl)) (fun _ h9 => h9) rfl (by decide +kernel) rfl rfl (by rw [hF.1]; decide) dX14_strict_2 (fun H locs hP hD hS => ?_)
  have hP : va_P (dC, dI) vwCl [(h0, .inr (14, (fs.set 1 (.int 0))))] H := hP
  have hD : va_D A [(h0, .inr (14, (fs.set 1 (.int 0))))] := hD
  have hF_1 := hF.set 1 (.int 0) (l' := [(1, .int 0), (95, .int 0)]) (by decide) rfl
  have hE_2 := (sameF.rf (f := fs)).set 1 (.int 0)
  generalize fs.set 1 (.int 0) = fs_3 at hP hD hF_1 hE_2
  have hP : va_P (dC, dI) vwCl [(h0, .inr (14, fs_3))] H := hP
  have hD : va_D A [(h0, .inr (14, fs_3))] := hD
  refine lv_aload_n hx hb dX14_strict_5 rfl (lv_at hl 0 rfl) ?_
  refine lv_iload_n hx hb dX14_strict_6 rfl (lv_at hl 1 rfl) ?_
  have hPc := hP.sub (ws' := [(h0, .inr (14, fs_3))]) [0] rfl
  have hDc := hD.sub (ws' := [(h0, .inr (14, fs_3))]) [0] (by decide) rfl
  have hKc := hK.sub (tys' := []) [] rfl
  have hFc := va_free (wc := [(h0, .inr (14, fs_3))]) hD hS hA [0] rfl
  refine va_calli (va_runV (As := [.int p0]) (rest := []) ⟨hx, hb, hml, hown, hts⟩ (c_X14_isDefinition l dC dI H.size h0 fs_3 p0 (hF_1.sub [1] rfl)) (cwV 1 hts g_c_X14_strict_c_X14_isDefinition_7 rfl rfl rfl (by decide +kernel) ⟨Nat.le_of_ble_eq_true rfl, Nat.le_of_ble_eq_true rfl⟩) ⟨fun a U g mk q => by obtain ⟨q0, q1, qP, qK, qD⟩ := q; exact ⟨q0, q1, qP, va_K.moved (u := U) (U := U.calling g mk a) (Vm.Alike.refl U.vm) qK, qD⟩, va_recv hKc hPc (ci := 14) (q0 := 0) rfl rfl, fun U hU hW => ⟨rfl, by rw [hU], by rw [hU]; exact hPc, va_K.moved hW.alike hKc, hDc.weaken (fun _ _ _ _ => trivial)⟩⟩ rfl rfl hl.1 rfl (lv_room (Nat.le_of_ble_eq_true rfl)) dX14_strict_7 ⟨by decide, by decide⟩) hS (fun q _ h => hFc q h) hFc (fun r_4 u t H1 locs ht hvm hw hB hz1 hk1 hS => ?_)
  obtain ⟨fs1_6, rfl⟩ : ∃ z, z = u := ⟨_, rfl⟩
  obtain ⟨hP1, hK1, hD1⟩ := hB
  rw [ht] at hP1
  have hK1 := va_K.moved hvm.symm hK1
  try dsimp only at hw hP1 hK1 hD1
  obtain ⟨hr_7, hE_8⟩ := hw
  obtain ⟨hP, hD⟩ := va_join (wr := []) (w1 := [(h0, .inr (14, fs1_6))]) hP hD [0] [] rfl rfl (by decide) (by decide) hk1 hFc hP1 hD1
  generalize H1 = H at hP hS ⊢
  have hK := (hK.sub (tys' := []) [] rfl).app hK1
  have hK : va_K (dC, dI) vwCl [] s := hK
  have hP : va_P (dC, dI) vwCl [(h0, .inr (14, fs1_6))] H := hP
  have hD : va_D A [(h0, .inr (14, fs1_6))] := hD
  have hF_9 := hF_1.same hE_8 (l' := [(1, .int 0), (95, .int 0)]) rfl
  have hE_10 := hE_2.trans hE_8
  subst hr_7
  refine lv_if_eq (tgt := 17) hx hb dX14_strict_10 (by decide) (fun _ => ?_) (fun c_11 => absurd (by decide) c_11)
  refine lv_iconst (v := (-1)) hx hb dX14_strict_17 (by decide) ?_
  have hP9 := hP.sub (ws' := [(h0, .inr (14, fs1_6))]) [0] rfl
  have hD9 := hD.sub (ws' := [(h0, .inr (14, fs1_6))]) [0] (by decide) rfl
  have hK9 := hK.sub (tys' := []) [] rfl
  exact W.iret (v := (-1)) hx hb hr (fun t ht hW => ⟨⟨(-1), (fs1_6), rfl, ⟨rfl, hF_9.sub [0] rfl, hE_10.mono (by decide)⟩, by rw [ht]; exact hP9, va_K.moved hW.alike hK9, hD9⟩, hS.F ht⟩) hS.2.2 dX14_strict_18
def pw_c_X14_group : List Cond := .code yX14_group cX14_group 2 (some .int) :: ([.fieldLink RX14 329 "NeedHouseModel" "thrown" "I", .methodLink RX14 1084 yX14_isDefinition, .instanceMethod yX14_isDefinition, .selects RX14 yX14_isDefinition yX14_isDefinition, .initialized RX14, .code yX14_isDefinition cX14_isDefinition 2 (some .boolean), .fieldLink RX14 844 "NeedHouseModel" "isThere" "Z"] ++ (wsX140 ++ []))
set_option maxRecDepth 20000 in
theorem g_c_X14_group_c_X14_isDefinition_7 : GoodIn pw_c_X14_group (wsV RX14 1084 RX14 yX14_isDefinition pw_c_X14_isDefinition) := goodIn_r _ [2, 3, 4, 5, 6, 7, 8, 9, 10, 11, 12, 13, 14, 15, 16, 17, 18, 19, 20, 21, 22, 23, 24, 25, 26, 27, 28, 29, 30, 31, 32, 33, 34, 35, 36, 37, 38, 39, 40, 41, 42, 43, 44, 45, 46, 47, 48, 49, 50, 51, 52, 53, 54, 55, 56, 57, 58, 59, 60, 61, 62, 63, 64, 65, 66, 67, 68, 69, 70, 71, 72, 73, 74, 75, 76, 77, 78, 79, 80, 81, 82, 83, 84, 85, 86, 87, 88, 89, 90, 91, 92, 93, 94, 95, 96, 97, 98, 99, 100, 101, 102, 103, 104, 105, 106, 107, 108, 109, 110, 111, 112, 113, 114, 115, 116, 117, 118, 119, 120, 121, 122, 123, 124, 125, 126, 127, 128, 129, 130, 131, 132, 133, 134, 135, 136, 137, 138, 139, 140, 141, 142, 143] rfl (by decide +kernel)
set_option maxHeartbeats 4000000 in
set_option maxRecDepth 100000 in
theorem c_X14_group (l : Launch) (dC : Nat → ClassId) (dI : Nat → Nat → Nat) (sz : Nat) (h0 : Nat) (fs : List Value) (th : Int32) (p0 : Int32) (hF : hasF fs 136 [(1, .int th), (95, .int 0)]) : Met l yX14_group pw_c_X14_group ({ frames := 1, cells := 0, slots := 0, locals := 21 }) (va_Pc [.ref h0, .int p0] (fun U => U.heap.size = sz ∧ va_P (dC, dI) vwCl [(h0, .inr (14, fs))] U.heap ∧ va_K (dC, dI) vwCl [] U ∧ va_D (fun _ => True) [(h0, .inr (14, fs))])) (va_Qi (fun (r : Int32) (u : (List Value)) => r = -1 ∧ hasF u 136 [(1, .int 0)] ∧ sameF fs u [1]) (fun (u : (List Value)) (t : State) => va_P (dC, dI) vwCl [(h0, .inr (14, u))] t.heap ∧ va_K (dC, dI) vwCl [] t ∧ va_D (va_A [(h0, .inr (14, fs))] sz) [(h0, .inr (14, u))]) (va_A [(h0, .inr (14, fs))] sz)) 0 0 (va_A [(h0, .inr (14, fs))] sz) := by
  refine Met.ofW (cc := cX14_group) (maxL := 2) (ret := (some .int)) (by decide) rfl ?_
  intro p e s m args below meth c s₁ B hml hv
  obtain ⟨rfl, hsz, hP, hK, hD0⟩ := hv
  have hx := B.exec
  have hb := B.bytes
  have hr := B.returns
  have hts := atoms_spec (ws := pw_c_X14_group) B.pre
  have hown : s.vm.findClass RX14 = some m.cls := findClass_of_methodNamed B.named
  have hlocks := B.notSynchronized
  have hin_X14 : ∀ w ∈ u_ws RX14 TX14 136, w ∈ pw_c_X14_group := fun w h => List.mem_cons_of_mem _ (List.mem_append_right _ (List.mem_append_left _ h))
  subst hsz
  have hD := hD0.self (sz := s.heap.size)
  generalize hAe : va_A [(h0, .inr (14, fs))] s.heap.size = A at hD ⊢
  have hA : ∀ q : Nat, s.heap.size ≤ q → A q := fun q h => by rw [← hAe]; exact Or.inr h
  have hS : va_S A s.heap s.heap [] := va_S.rf
  have hP : va_P (dC, dI) vwCl [(h0, .inr (14, fs))] s.heap := hP
  have hl := lv_entry ([.ref h0, .int p0]) (n := 2) (Nat.le_of_ble_eq_true rfl)
  rw [lg_entry_eq]
  generalize (lg_sl ([.ref h0, .int p0]) ++ List.replicate (2 - (lg_sl ([.ref h0, .int p0])).length) Slot.unset).toArray = ls at hl ⊢
  have hl : lv_has ls 2 [(0, .ref h0), (1, .int p0)] := hl
  refine lv_aload_n hx hb dX14_group_0 rfl (lv_at hl 0 rfl) ?_
  refine lv_iconst (v := 0) hx hb dX14_group_1 (by decide) ?_
  refine va_put (D := (dC, dI)) (ci := 14) (v := .int 0) (ty := .int) (C := RX14) (T := TX14) (N := 136) hx hb hts hin_X14 tyX14 tyX14_ok nmX14 hown hK hP hD hS 0 rfl rfl 1 (by decide) (hts (.fieldLink RX14 329 "NeedHouseModel" "thrown" "I") (List.mem_of_getElem? (i := 1) rfl)) (fun _ h9 => h9) rfl (by decide +kernel) rfl rfl (by rw [hF.1]; decide) dX14_group_2 (fun H locs hP hD hS => ?_)
  have hP : va_P (dC, dI) vwCl [(h0, .inr (14, (fs.set 1 (.int 0))))] H := hP
  have hD : va_D A [(h0, .inr (14, (fs.set 1 (.int 0))))] := hD
  have hF_1 := hF.set 1 (.int 0) (l' := [(1, .int 0), (95, .int 0)]) (by decide) rfl
  have hE_2 := (sameF.rf (f := fs)).set 1 (.int 0)
  generalize fs.set 1 (.int 0) = fs_3 at hP hD hF_1 hE_2
  have hP : va_P (dC, dI) vwCl [(h0, .inr (14, fs_3))] H := hP
  have hD : va_D A [(h0, .inr (14, fs_3))] := hD
  refine lv_aload_n hx hb dX14_group_5 rfl (lv_at hl 0 rfl) ?_
  refine lv_iload_n hx hb dX14_group_6 rfl (lv_at hl 1 rfl) ?_
  have hPc := hP.sub (ws' := [(h0, .inr (14, fs_3))]) [0] rfl
  have hDc := hD.sub (ws' := [(h0, .inr (14, fs_3))]) [0] (by decide) rfl
  have hKc := hK.sub (tys' := []) [] rfl
  have hFc := va_free (wc := [(h0, .inr (14, fs_3))]) hD hS hA [0] rfl
  refine va_calli (va_runV (As := [.int p0]) (rest := []) ⟨hx, hb, hml, hown, hts⟩ (c_X14_isDefinition l dC dI H.size h0 fs_3 p0 (hF_1.sub [1] rfl)) (cwV 1 hts g_c_X14_group_c_X14_isDefinition_7 rfl rfl rfl (by decide +kernel) ⟨Nat.le_of_ble_eq_true rfl, Nat.le_of_ble_eq_true rfl⟩) ⟨fun a U g mk q => by obtain ⟨q0, q1, qP, qK, qD⟩ := q; exact ⟨q0, q1, qP, va_K.moved (u := U) (U := U.calling g mk a) (Vm.Alike.refl U.vm) qK, qD⟩, va_recv hKc hPc (ci := 14) (q0 := 0) rfl rfl, fun U hU hW => ⟨rfl, by rw [hU], by rw [hU]; exact hPc, va_K.moved hW.alike hKc, hDc.weaken (fun _ _ _ _ => trivial)⟩⟩ rfl rfl hl.1 rfl (lv_room (Nat.le_of_ble_eq_true rfl)) dX14_group_7 ⟨by decide, by decide⟩) hS (fun q _ h => hFc q h) hFc (fun r_4 u t H1 locs ht hvm hw hB hz1 hk1 hS => ?_)
  obtain ⟨fs1_6, rfl⟩ : ∃ z, z = u := ⟨_, rfl⟩
  obtain ⟨hP1, hK1, hD1⟩ := hB
  rw [ht] at hP1
  have hK1 := va_K.moved hvm.symm hK1
  try dsimp only at hw hP1 hK1 hD1
  obtain ⟨hr_7, hE_8⟩ := hw
  obtain ⟨hP, hD⟩ := va_join (wr := []) (w1 := [(h0, .inr (14, fs1_6))]) hP hD [0] [] rfl rfl (by decide) (by decide) hk1 hFc hP1 hD1
  generalize H1 = H at hP hS ⊢
  have hK := (hK.sub (tys' := []) [] rfl).app hK1
  have hK : va_K (dC, dI) vwCl [] s := hK
  have hP : va_P (dC, dI) vwCl [(h0, .inr (14, fs1_6))] H := hP
  have hD : va_D A [(h0, .inr (14, fs1_6))] := hD
  have hF_9 := hF_1.same hE_8 (l' := [(1, .int 0), (95, .int 0)]) rfl
  have hE_10 := hE_2.trans hE_8
  subst hr_7
  refine lv_if_eq (tgt := 27) hx hb dX14_group_10 (by decide) (fun _ => ?_) (fun c_11 => absurd (by decide) c_11)
  refine lv_iconst (v := (-1)) hx hb dX14_group_27 (by decide) ?_
  have hP9 := hP.sub (ws' := [(h0, .inr (14, fs1_6))]) [0] rfl
  have hD9 := hD.sub (ws' := [(h0, .inr (14, fs1_6))]) [0] (by decide) rfl
  have hK9 := hK.sub (tys' := []) [] rfl
  exact W.iret (v := (-1)) hx hb hr (fun t ht hW => ⟨⟨(-1), (fs1_6), rfl, ⟨rfl, hF_9.sub [0] rfl, hE_10.mono (by decide)⟩, by rw [ht]; exact hP9, va_K.moved hW.alike hK9, hD9⟩, hS.F ht⟩) hS.2.2 dX14_group_28
def pw_c_X14_global : List Cond := .code yX14_global cX14_global 7 (some .int) :: ([.fieldLink RX14 329 "NeedHouseModel" "thrown" "I", .methodLink RX14 1084 yX14_isDefinition, .instanceMethod yX14_isDefinition, .selects RX14 yX14_isDefinition yX14_isDefinition, .initialized RX14, .code yX14_isDefinition cX14_isDefinition 2 (some .boolean), .fieldLink RX14 844 "NeedHouseModel" "isThere" "Z"] ++ (wsX140 ++ []))
set_option maxRecDepth 20000 in
theorem g_c_X14_global_c_X14_isDefinition_7 : GoodIn pw_c_X14_global (wsV RX14 1084 RX14 yX14_isDefinition pw_c_X14_isDefinition) := goodIn_r _ [2, 3, 4, 5, 6, 7, 8, 9, 10, 11, 12, 13, 14, 15, 16, 17, 18, 19, 20, 21, 22, 23, 24, 25, 26, 27, 28, 29, 30, 31, 32, 33, 34, 35, 36, 37, 38, 39, 40, 41, 42, 43, 44, 45, 46, 47, 48, 49, 50, 51, 52, 53, 54, 55, 56, 57, 58, 59, 60, 61, 62, 63, 64, 65, 66, 67, 68, 69, 70, 71, 72, 73, 74, 75, 76, 77, 78, 79, 80, 81, 82, 83, 84, 85, 86, 87, 88, 89, 90, 91, 92, 93, 94, 95, 96, 97, 98, 99, 100, 101, 102, 103, 104, 105, 106, 107, 108, 109, 110, 111, 112, 113, 114, 115, 116, 117, 118, 119, 120, 121, 122, 123, 124, 125, 126, 127, 128, 129, 130, 131, 132, 133, 134, 135, 136, 137, 138, 139, 140, 141, 142, 143] rfl (by decide +kernel)
set_option maxHeartbeats 4000000 in
set_option maxRecDepth 100000 in
theorem c_X14_global (l : Launch) (dC : Nat → ClassId) (dI : Nat → Nat → Nat) (sz : Nat) (h0 : Nat) (fs : List Value) (th : Int32) (p0 : Int32) (p1 : Int32) (hF : hasF fs 136 [(1, .int th), (95, .int 0)]) : Met l yX14_global pw_c_X14_global ({ frames := 1, cells := 0, slots := 0, locals := 21 }) (va_Pc [.ref h0, .int p0, .int p1] (fun U => U.heap.size = sz ∧ va_P (dC, dI) vwCl [(h0, .inr (14, fs))] U.heap ∧ va_K (dC, dI) vwCl [] U ∧ va_D (fun _ => True) [(h0, .inr (14, fs))])) (va_Qi (fun (r : Int32) (u : (List Value)) => r = -1 ∧ hasF u 136 [(1, .int 0)] ∧ sameF fs u [1]) (fun (u : (List Value)) (t : State) => va_P (dC, dI) vwCl [(h0, .inr (14, u))] t.heap ∧ va_K (dC, dI) vwCl [] t ∧ va_D (va_A [(h0, .inr (14, fs))] sz) [(h0, .inr (14, u))]) (va_A [(h0, .inr (14, fs))] sz)) 0 0 (va_A [(h0, .inr (14, fs))] sz) := by
  refine Met.ofW (cc := cX14_global) (maxL := 7) (ret := (some .int)) (by decide) rfl ?_
  intro p e s m args below meth c s₁ B hml hv
  obtain ⟨rfl, hsz, hP, hK, hD0⟩ := hv
  have hx := B.exec
  have hb := B.bytes
  have hr := B.returns
  have hts := atoms_spec (ws := pw_c_X14_global) B.pre
  have hown : s.vm.findClass RX14 = some m.cls := findClass_of_methodNamed B.named
  have hlocks := B.notSynchronized
  have hin_X14 : ∀ w ∈ u_ws RX14 TX14 136, w ∈ pw_c_X14_global := fun w h => List.mem_cons_of_mem _ (List.mem_append_right _ (List.mem_append_left _ h))
  subst hsz
  have hD := hD0.self (sz := s.heap.size)
  generalize hAe : va_A [(h0, .inr (14, fs))] s.heap.size = A at hD ⊢
  have hA : ∀ q : Nat, s.heap.size ≤ q → A q := fun q h => by rw [← hAe]; exact Or.inr h
  have hS : va_S A s.heap s.heap [] := va_S.rf
  have hP : va_P (dC, dI) vwCl [(h0, .inr (14, fs))] s.heap := hP
  have hl := lv_entry ([.ref h0, .int p0, .int p1]) (n := 7) (Nat.le_of_ble_eq_true rfl)
  rw [lg_entry_eq]
  generalize (lg_sl ([.ref h0, .int p0, .int p1]) ++ List.replicate (7 - (lg_sl ([.ref h0, .int p0, .int p1])).length) Slot.unset).toArray = ls at hl ⊢
  have hl : lv_has ls 7 [(0, .ref h0), (1, .int p0), (2, .int p1)] := hl
  refine lv_aload_n hx hb dX14_global_0 rfl (lv_at hl 0 rfl) ?_
  refine lv_iconst (v := 0) hx hb dX14_global_1 (by decide) ?_
  refine va_put (D := (dC, dI)) (ci := 14) (v := .int 0) (ty := .int) (C := RX14) (T := TX14) (N := 136) hx hb hts hin_X14 tyX14 tyX14_ok nmX14 hown hK hP hD hS 0 rfl rfl 1 (by decide) (hts (.fieldLink RX14 329 "NeedHouseModel" "thrown" "I") (List.mem_of_getElem? (i := 1) rfl)) (fun _ h9 => h9) rfl (by decide +kernel) rfl rfl (by rw [hF.1]; decide) dX14_global_2 (fun H locs hP hD hS => ?_)
  have hP : va_P (dC, dI) vwCl [(h0, .inr (14, (fs.set 1 (.int 0))))] H := hP
  have hD : va_D A [(h0, .inr (14, (fs.set 1 (.int 0))))] := hD
  have hF_1 := hF.set 1 (.int 0) (l' := [(1, .int 0), (95, .int 0)]) (by decide) rfl
  have hE_2 := (sameF.rf (f := fs)).set 1 (.int 0)
  generalize fs.set 1 (.int 0) = fs_3 at hP hD hF_1 hE_2
  have hP : va_P (dC, dI) vwCl [(h0, .inr (14, fs_3))] H := hP
  have hD : va_D A [(h0, .inr (14, fs_3))] := hD
  refine lv_aload_n hx hb dX14_global_5 rfl (lv_at hl 0 rfl) ?_
  refine lv_iload_n hx hb dX14_global_6 rfl (lv_at hl 1 rfl) ?_
  have hPc := hP.sub (ws' := [(h0, .inr (14, fs_3))]) [0] rfl
  have hDc := hD.sub (ws' := [(h0, .inr (14, fs_3))]) [0] (by decide) rfl
  have hKc := hK.sub (tys' := []) [] rfl
  have hFc := va_free (wc := [(h0, .inr (14, fs_3))]) hD hS hA [0] rfl
  refine va_calli (va_runV (As := [.int p0]) (rest := []) ⟨hx, hb, hml, hown, hts⟩ (c_X14_isDefinition l dC dI H.size h0 fs_3 p0 (hF_1.sub [1] rfl)) (cwV 1 hts g_c_X14_global_c_X14_isDefinition_7 rfl rfl rfl (by decide +kernel) ⟨Nat.le_of_ble_eq_true rfl, Nat.le_of_ble_eq_true rfl⟩) ⟨fun a U g mk q => by obtain ⟨q0, q1, qP, qK, qD⟩ := q; exact ⟨q0, q1, qP, va_K.moved (u := U) (U := U.calling g mk a) (Vm.Alike.refl U.vm) qK, qD⟩, va_recv hKc hPc (ci := 14) (q0 := 0) rfl rfl, fun U hU hW => ⟨rfl, by rw [hU], by rw [hU]; exact hPc, va_K.moved hW.alike hKc, hDc.weaken (fun _ _ _ _ => trivial)⟩⟩ rfl rfl hl.1 rfl (lv_room (Nat.le_of_ble_eq_true rfl)) dX14_global_7 ⟨by decide, by decide⟩) hS (fun q _ h => hFc q h) hFc (fun r_4 u t H1 locs ht hvm hw hB hz1 hk1 hS => ?_)
  obtain ⟨fs1_6, rfl⟩ : ∃ z, z = u := ⟨_, rfl⟩
  obtain ⟨hP1, hK1, hD1⟩ := hB
  rw [ht] at hP1
  have hK1 := va_K.moved hvm.symm hK1
  try dsimp only at hw hP1 hK1 hD1
  obtain ⟨hr_7, hE_8⟩ := hw
  obtain ⟨hP, hD⟩ := va_join (wr := []) (w1 := [(h0, .inr (14, fs1_6))]) hP hD [0] [] rfl rfl (by decide) (by decide) hk1 hFc hP1 hD1
  generalize H1 = H at hP hS ⊢
  have hK := (hK.sub (tys' := []) [] rfl).app hK1
  have hK : va_K (dC, dI) vwCl [] s := hK
  have hP : va_P (dC, dI) vwCl [(h0, .inr (14, fs1_6))] H := hP
  have hD : va_D A [(h0, .inr (14, fs1_6))] := hD
  have hF_9 := hF_1.same hE_8 (l' := [(1, .int 0), (95, .int 0)]) rfl
  have hE_10 := hE_2.trans hE_8
  subst hr_7
  refine lv_if_eq (tgt := 29) hx hb dX14_global_10 (by decide) (fun _ => ?_) (fun c_11 => absurd (by decide) c_11)
  refine lv_iconst (v := (-1)) hx hb dX14_global_29 (by decide) ?_
  have hP9 := hP.sub (ws' := [(h0, .inr (14, fs1_6))]) [0] rfl
  have hD9 := hD.sub (ws' := [(h0, .inr (14, fs1_6))]) [0] (by decide) rfl
  have hK9 := hK.sub (tys' := []) [] rfl
  exact W.iret (v := (-1)) hx hb hr (fun t ht hW => ⟨⟨(-1), (fs1_6), rfl, ⟨rfl, hF_9.sub [0] rfl, hE_10.mono (by decide)⟩, by rw [ht]; exact hP9, va_K.moved hW.alike hK9, hD9⟩, hS.F ht⟩) hS.2.2 dX14_global_30
def pw_c_X14_shown : List Cond := .code yX14_shown cX14_shown 2 (some .int) :: ([.fieldLink RX14 329 "NeedHouseModel" "thrown" "I", .fieldLink RX14 847 "NeedHouseModel" "how" "I"] ++ (wsX140 ++ []))
set_option maxHeartbeats 4000000 in
set_option maxRecDepth 100000 in
theorem c_X14_shown (l : Launch) (dC : Nat → ClassId) (dI : Nat → Nat → Nat) (sz : Nat) (h0 : Nat) (fs : List Value) (th : Int32) (p0 : Int32) (hF : hasF fs 136 [(1, .int th), (112, .int 0)]) : Met l yX14_shown pw_c_X14_shown ({ frames := 0, cells := 0, slots := 0, locals := 0 }) (va_Pc [.ref h0, .int p0] (fun U => U.heap.size = sz ∧ va_P (dC, dI) vwCl [(h0, .inr (14, fs))] U.heap ∧ va_K (dC, dI) vwCl [] U ∧ va_D (fun _ => True) [(h0, .inr (14, fs))])) (va_Qi (fun (r : Int32) (u : (List Value)) => r = -1 ∧ hasF u 136 [(1, .int 0)] ∧ sameF fs u [1]) (fun (u : (List Value)) (t : State) => va_P (dC, dI) vwCl [(h0, .inr (14, u))] t.heap ∧ va_K (dC, dI) vwCl [] t ∧ va_D (va_A [(h0, .inr (14, fs))] sz) [(h0, .inr (14, u))]) (va_A [(h0, .inr (14, fs))] sz)) 0 0 (va_A [(h0, .inr (14, fs))] sz) := by
  refine Met.ofW (cc := cX14_shown) (maxL := 2) (ret := (some .int)) (by decide) rfl ?_
  intro p e s m args below meth c s₁ B hml hv
  obtain ⟨rfl, hsz, hP, hK, hD0⟩ := hv
  have hx := B.exec
  have hb := B.bytes
  have hr := B.returns
  have hts := atoms_spec (ws := pw_c_X14_shown) B.pre
  have hown : s.vm.findClass RX14 = some m.cls := findClass_of_methodNamed B.named
  have hlocks := B.notSynchronized
  have hin_X14 : ∀ w ∈ u_ws RX14 TX14 136, w ∈ pw_c_X14_shown := fun w h => List.mem_cons_of_mem _ (List.mem_append_right _ (List.mem_append_left _ h))
  subst hsz
  have hD := hD0.self (sz := s.heap.size)
  generalize hAe : va_A [(h0, .inr (14, fs))] s.heap.size = A at hD ⊢
  have hA : ∀ q : Nat, s.heap.size ≤ q → A q := fun q h => by rw [← hAe]; exact Or.inr h
  have hS : va_S A s.heap s.heap [] := va_S.rf
  have hP : va_P (dC, dI) vwCl [(h0, .inr (14, fs))] s.heap := hP
  have hl := lv_entry ([.ref h0, .int p0]) (n := 2) (Nat.le_of_ble_eq_true rfl)
  rw [lg_entry_eq]
  generalize (lg_sl ([.ref h0, .int p0]) ++ List.replicate (2 - (lg_sl ([.ref h0, .int p0])).length) Slot.unset).toArray = ls at hl ⊢
  have hl : lv_has ls 2 [(0, .ref h0), (1, .int p0)] := hl
  refine lv_aload_n hx hb dX14_shown_0 rfl (lv_at hl 0 rfl) ?_
  refine lv_iconst (v := 0) hx hb dX14_shown_1 (by decide) ?_
  refine va_put (D := (dC, dI)) (ci := 14) (v := .int 0) (ty := .int) (C := RX14) (T := TX14) (N := 136) hx hb hts hin_X14 tyX14 tyX14_ok nmX14 hown hK hP hD hS 0 rfl rfl 1 (by decide) (hts (.fieldLink RX14 329 "NeedHouseModel" "thrown" "I") (List.mem_of_getElem? (i := 1) rfl)) (fun _ h9 => h9) rfl (by decide +kernel) rfl rfl (by rw [hF.1]; decide) dX14_shown_2 (fun H locs hP hD hS => ?_)
  have hP : va_P (dC, dI) vwCl [(h0, .inr (14, (fs.set 1 (.int 0))))] H := hP
  have hD : va_D A [(h0, .inr (14, (fs.set 1 (.int 0))))] := hD
  have hF_1 := hF.set 1 (.int 0) (l' := [(1, .int 0), (112, .int 0)]) (by decide) rfl
  have hE_2 := (sameF.rf (f := fs)).set 1 (.int 0)
  generalize fs.set 1 (.int 0) = fs_3 at hP hD hF_1 hE_2
  have hP : va_P (dC, dI) vwCl [(h0, .inr (14, fs_3))] H := hP
  have hD : va_D A [(h0, .inr (14, fs_3))] := hD
  refine lv_aload_n hx hb dX14_shown_5 rfl (lv_at hl 0 rfl) ?_
  refine va_get (D := (dC, dI)) (ci := 14) (v := .int 0) (C := RX14) (T := TX14) (N := 136) hx hb hts hin_X14 hown hK hP 0 rfl rfl 112 (by decide) (hts (.fieldLink RX14 847 "NeedHouseModel" "how" "I") (List.mem_of_getElem? (i := 2) rfl)) (fun _ h9 => h9) (hF_1.at 1 rfl) dX14_shown_6 ?_
  refine lv_if_eq (tgt := 24) hx hb dX14_shown_9 (by decide) (fun _ => ?_) (fun c_4 => absurd (by decide) c_4)
  refine lv_iconst (v := (-1)) hx hb dX14_shown_24 (by decide) ?_
  refine lv_goto (tgt := 34) hx hb dX14_shown_25 (by decide) ?_
  have hP9 := hP.sub (ws' := [(h0, .inr (14, fs_3))]) [0] rfl
  have hD9 := hD.sub (ws' := [(h0, .inr (14, fs_3))]) [0] (by decide) rfl
  have hK9 := hK.sub (tys' := []) [] rfl
  exact W.iret (v := (-1)) hx hb hr (fun t ht hW => ⟨⟨(-1), (fs_3), rfl, ⟨rfl, hF_1.sub [0] rfl, hE_2.mono (by decide)⟩, by rw [ht]; exact hP9, va_K.moved hW.alike hK9, hD9⟩, hS.F ht⟩) hS.2.2 dX14_shown_34
def pw_c_X14_said : List Cond := .code yX14_said cX14_said 2 (some .int) :: ([.fieldLink RX14 329 "NeedHouseModel" "thrown" "I", .fieldLink RX14 847 "NeedHouseModel" "how" "I"] ++ (wsX140 ++ []))
set_option maxHeartbeats 4000000 in
set_option maxRecDepth 100000 in
theorem c_X14_said (l : Launch) (dC : Nat → ClassId) (dI : Nat → Nat → Nat) (sz : Nat) (h0 : Nat) (fs : List Value) (th : Int32) (p0 : Int32) (hF : hasF fs 136 [(1, .int th), (112, .int 0)]) : Met l yX14_said pw_c_X14_said ({ frames := 0, cells := 0, slots := 0, locals := 0 }) (va_Pc [.ref h0, .int p0] (fun U => U.heap.size = sz ∧ va_P (dC, dI) vwCl [(h0, .inr (14, fs))] U.heap ∧ va_K (dC, dI) vwCl [] U ∧ va_D (fun _ => True) [(h0, .inr (14, fs))])) (va_Qi (fun (r : Int32) (u : (List Value)) => r = 0 ∧ hasF u 136 [(1, .int 0)] ∧ sameF fs u [1]) (fun (u : (List Value)) (t : State) => va_P (dC, dI) vwCl [(h0, .inr (14, u))] t.heap ∧ va_K (dC, dI) vwCl [] t ∧ va_D (va_A [(h0, .inr (14, fs))] sz) [(h0, .inr (14, u))]) (va_A [(h0, .inr (14, fs))] sz)) 0 0 (va_A [(h0, .inr (14, fs))] sz) := by
  refine Met.ofW (cc := cX14_said) (maxL := 2) (ret := (some .int)) (by decide) rfl ?_
  intro p e s m args below meth c s₁ B hml hv
  obtain ⟨rfl, hsz, hP, hK, hD0⟩ := hv
  have hx := B.exec
  have hb := B.bytes
  have hr := B.returns
  have hts := atoms_spec (ws := pw_c_X14_said) B.pre
  have hown : s.vm.findClass RX14 = some m.cls := findClass_of_methodNamed B.named
  have hlocks := B.notSynchronized
  have hin_X14 : ∀ w ∈ u_ws RX14 TX14 136, w ∈ pw_c_X14_said := fun w h => List.mem_cons_of_mem _ (List.mem_append_right _ (List.mem_append_left _ h))
  subst hsz
  have hD := hD0.self (sz := s.heap.size)
  generalize hAe : va_A [(h0, .inr (14, fs))] s.heap.size = A at hD ⊢
  have hA : ∀ q : Nat, s.heap.size ≤ q → A q := fun q h => by rw [← hAe]; exact Or.inr h
  have hS : va_S A s.heap s.heap [] := va_S.rf
  have hP : va_P (dC, dI) vwCl [(h0, .inr (14, fs))] s.heap := hP
  have hl := lv_entry ([.ref h0, .int p0]) (n := 2) (Nat.le_of_ble_eq_true rfl)
  rw [lg_entry_eq]
  generalize (lg_sl ([.ref h0, .int p0]) ++ List.replicate (2 - (lg_sl ([.ref h0, .int p0])).length) Slot.unset).toArray = ls at hl ⊢
  have hl : lv_has ls 2 [(0, .ref h0), (1, .int p0)] := hl
  refine lv_aload_n hx hb dX14_said_0 rfl (lv_at hl 0 rfl) ?_
  refine lv_iconst (v := 0) hx hb dX14_said_1 (by decide) ?_
  refine va_put (D := (dC, dI)) (ci := 14) (v := .int 0) (ty := .int) (C := RX14) (T := TX14) (N := 136) hx hb hts hin_X14 tyX14 tyX14_ok nmX14 hown hK hP hD hS 0 rfl rfl 1 (by decide) (hts (.fieldLink RX14 329 "NeedHouseModel" "thrown" "I") (List.mem_of_getElem? (i := 1) rfl)) (fun _ h9 => h9) rfl (by decide +kernel) rfl rfl (by rw [hF.1]; decide) dX14_said_2 (fun H locs hP hD hS => ?_)
  have hP : va_P (dC, dI) vwCl [(h0, .inr (14, (fs.set 1 (.int 0))))] H := hP
  have hD : va_D A [(h0, .inr (14, (fs.set 1 (.int 0))))] := hD
  have hF_1 := hF.set 1 (.int 0) (l' := [(1, .int 0), (112, .int 0)]) (by decide) rfl
  have hE_2 := (sameF.rf (f := fs)).set 1 (.int 0)
  generalize fs.set 1 (.int 0) = fs_3 at hP hD hF_1 hE_2
  have hP : va_P (dC, dI) vwCl [(h0, .inr (14, fs_3))] H := hP
  have hD : va_D A [(h0, .inr (14, fs_3))] := hD
  refine lv_aload_n hx hb dX14_said_5 rfl (lv_at hl 0 rfl) ?_
  refine va_get (D := (dC, dI)) (ci := 14) (v := .int 0) (C := RX14) (T := TX14) (N := 136) hx hb hts hin_X14 hown hK hP 0 rfl rfl 112 (by decide) (hts (.fieldLink RX14 847 "NeedHouseModel" "how" "I") (List.mem_of_getElem? (i := 2) rfl)) (fun _ h9 => h9) (hF_1.at 1 rfl) dX14_said_6 ?_
  refine lv_if_eq (tgt := 24) hx hb dX14_said_9 (by decide) (fun _ => ?_) (fun c_4 => absurd (by decide) c_4)
  refine lv_iconst (v := 0) hx hb dX14_said_24 (by decide) ?_
  refine lv_goto (tgt := 34) hx hb dX14_said_25 (by decide) ?_
  have hP9 := hP.sub (ws' := [(h0, .inr (14, fs_3))]) [0] rfl
  have hD9 := hD.sub (ws' := [(h0, .inr (14, fs_3))]) [0] (by decide) rfl
  have hK9 := hK.sub (tys' := []) [] rfl
  exact W.iret (v := 0) hx hb hr (fun t ht hW => ⟨⟨0, (fs_3), rfl, ⟨rfl, hF_1.sub [0] rfl, hE_2.mono (by decide)⟩, by rw [ht]; exact hP9, va_K.moved hW.alike hK9, hD9⟩, hS.F ht⟩) hS.2.2 dX14_said_34
def pw_c_X14_begin : List Cond := .code yX14_begin cX14_begin 4 none :: ([.fieldLink RX14 844 "NeedHouseModel" "isThere" "Z", .fieldLink RX14 329 "NeedHouseModel" "thrown" "I"] ++ (wsX140 ++ []))
set_option maxHeartbeats 4000000 in
set_option maxRecDepth 100000 in
theorem c_X14_begin (l : Launch) (dC : Nat → ClassId) (dI : Nat → Nat → Nat) (sz : Nat) (h0 : Nat) (fs : List Value) (th : Int32) (hF : hasF fs 136 [(1, .int th), (95, .int 0)]) : Met l yX14_begin pw_c_X14_begin ({ frames := 0, cells := 0, slots := 0, locals := 0 }) (va_Pc [.ref h0] (fun U => U.heap.size = sz ∧ va_P (dC, dI) vwCl [(h0, .inr (14, fs))] U.heap ∧ va_K (dC, dI) vwCl [] U ∧ va_D (fun _ => True) [(h0, .inr (14, fs))])) (va_Qv (fun (u : (List Value)) => hasF u 136 [(1, .int 1)] ∧ sameF fs u [1]) (fun (u : (List Value)) (t : State) => va_P (dC, dI) vwCl [(h0, .inr (14, u))] t.heap ∧ va_K (dC, dI) vwCl [] t ∧ va_D (va_A [(h0, .inr (14, fs))] sz) [(h0, .inr (14, u))]) (va_A [(h0, .inr (14, fs))] sz)) 0 0 (va_A [(h0, .inr (14, fs))] sz) := by
  refine Met.ofW (cc := cX14_begin) (maxL := 4) (ret := none) (by decide) rfl ?_
  intro p e s m args below meth c s₁ B hml hv
  obtain ⟨rfl, hsz, hP, hK, hD0⟩ := hv
  have hx := B.exec
  have hb := B.bytes
  have hr := B.returns
  have hts := atoms_spec (ws := pw_c_X14_begin) B.pre
  have hown : s.vm.findClass RX14 = some m.cls := findClass_of_methodNamed B.named
  have hlocks := B.notSynchronized
  have hin_X14 : ∀ w ∈ u_ws RX14 TX14 136, w ∈ pw_c_X14_begin := fun w h => List.mem_cons_of_mem _ (List.mem_append_right _ (List.mem_append_left _ h))
  subst hsz
  have hD := hD0.self (sz := s.heap.size)
  generalize hAe : va_A [(h0, .inr (14, fs))] s.heap.size = A at hD ⊢
  have hA : ∀ q : Nat, s.heap.size ≤ q → A q := fun q h => by rw [← hAe]; exact Or.inr h
  have hS : va_S A s.heap s.heap [] := va_S.rf
  have hP : va_P (dC, dI) vwCl [(h0, .inr (14, fs))] s.heap := hP
  have hl := lv_entry ([.ref h0]) (n := 4) (Nat.le_of_ble_eq_true rfl)
  rw [lg_entry_eq]
  generalize (lg_sl ([.ref h0]) ++ List.replicate (4 - (lg_sl ([.ref h0])).length) Slot.unset).toArray = ls at hl ⊢
  have hl : lv_has ls 4 [(0, .ref h0)] := hl
  refine lv_aload_n hx hb dX14_begin_0 rfl (lv_at hl 0 rfl) ?_
  refine lv_aload_n hx hb dX14_begin_1 rfl (lv_at hl 0 rfl) ?_
  refine va_get (D := (dC, dI)) (ci := 14) (v := .int 0) (C := RX14) (T := TX14) (N := 136) hx hb hts hin_X14 hown hK hP 0 rfl rfl 95 (by decide) (hts (.fieldLink RX14 844 "NeedHouseModel" "isThere" "Z") (List.mem_of_getElem? (i := 1) rfl)) (fun _ h9 => h9) (hF.at 1 rfl) dX14_begin_2 ?_
  refine lv_if_eq (tgt := 12) hx hb dX14_begin_5 (by decide) (fun _ => ?_) (fun c_1 => absurd (by decide) c_1)
  refine lv_iconst (v := 1) hx hb dX14_begin_12 (by decide) ?_
  refine va_put (D := (dC, dI)) (ci := 14) (v := .int 1) (ty := .int) (C := RX14) (T := TX14) (N := 136) hx hb hts hin_X14 tyX14 tyX14_ok nmX14 hown hK hP hD hS 0 rfl rfl 1 (by decide) (hts (.fieldLink RX14 329 "NeedHouseModel" "thrown" "I") (List.mem_of_getElem? (i := 2) rfl)) (fun _ h9 => h9) rfl (by decide +kernel) rfl rfl (by rw [hF.1]; decide) dX14_begin_13 (fun H locs hP hD hS => ?_)
  have hP : va_P (dC, dI) vwCl [(h0, .inr (14, (fs.set 1 (.int 1))))] H := hP
  have hD : va_D A [(h0, .inr (14, (fs.set 1 (.int 1))))] := hD
  have hF_2 := hF.set 1 (.int 1) (l' := [(1, .int 1), (95, .int 0)]) (by decide) rfl
  have hE_3 := (sameF.rf (f := fs)).set 1 (.int 1)
  generalize fs.set 1 (.int 1) = fs_4 at hP hD hF_2 hE_3
  have hP : va_P (dC, dI) vwCl [(h0, .inr (14, fs_4))] H := hP
  have hD : va_D A [(h0, .inr (14, fs_4))] := hD
  refine lv_aload_n hx hb dX14_begin_16 rfl (lv_at hl 0 rfl) ?_
  refine va_get (D := (dC, dI)) (ci := 14) (v := .int 1) (C := RX14) (T := TX14) (N := 136) hx hb hts hin_X14 hown hK hP 0 rfl rfl 1 (by decide) (hts (.fieldLink RX14 329 "NeedHouseModel" "thrown" "I") (List.mem_of_getElem? (i := 2) rfl)) (fun _ h9 => h9) (hF_2.at 0 rfl) dX14_begin_17 ?_
  refine lv_iconst (v := 1) hx hb dX14_begin_20 (by decide) ?_
  refine lv_icmp_ne (tgt := 25) hx hb dX14_begin_21 (by decide) (fun c_5 => absurd c_5 (by decide)) (fun _ => ?_)
  have hP9 := hP.sub (ws' := [(h0, .inr (14, fs_4))]) [0] rfl
  have hD9 := hD.sub (ws' := [(h0, .inr (14, fs_4))]) [0] (by decide) rfl
  have hK9 := hK.sub (tys' := []) [] rfl
  exact W.vret hx hb hr (fun t ht hW => ⟨⟨(fs_4), rfl, ⟨hF_2.sub [0] rfl, hE_3.mono (by decide)⟩, by rw [ht]; exact hP9, va_K.moved hW.alike hK9, hD9⟩, hS.F ht⟩) hS.2.2 dX14_begin_24
end
