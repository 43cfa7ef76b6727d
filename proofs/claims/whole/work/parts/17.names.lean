/-! names: the classes, their fields; the methods as tables -/
def RX0 : String := "GuestView$BenchText"
def TX0 : u_T := fun k => match k with
  | 0 => ("GuestView$BenchText", "reader", "LGuestView$Reader;", true)
  | _ => ("GuestView$BenchText", "world", "LGuestView$World;", true)
def tyX0 : Nat → FieldType := fun k => match k with
  | 0 => .object "GuestView$Reader"
  | _ => .object "GuestView$World"
theorem nmX0 : ∀ a, a < 2 → ∀ b, b < 2 → a ≠ b → (TX0 a).2.1 ≠ (TX0 b).2.1 := by decide +kernel
theorem tyX0_ok : ∀ k, k < 2 → parseFieldDescriptor (TX0 k).2.2.1 = some (tyX0 k) := by decide +kernel
def RX1 : String := "GuestView$Core"
def TX1 : u_T := fun k => match k with
  | 0 => ("GuestView$Core", "pc", "I", false)
  | 1 => ("GuestView$Core", "\x72", "I", false)
  | 2 => ("GuestView$Core", "mode", "I", false)
  | 3 => ("GuestView$Core", "base", "I", false)
  | 4 => ("GuestView$Core", "clock", "I", false)
  | 5 => ("GuestView$Core", "skips", "Z", false)
  | _ => ("GuestView$Core", "cells", "[I", true)
def tyX1 : Nat → FieldType := fun k => match k with
  | 0 => .int
  | 1 => .int
  | 2 => .int
  | 3 => .int
  | 4 => .int
  | 5 => .boolean
  | _ => .array .int
theorem nmX1 : ∀ a, a < 7 → ∀ b, b < 7 → a ≠ b → (TX1 a).2.1 ≠ (TX1 b).2.1 := by decide +kernel
theorem tyX1_ok : ∀ k, k < 7 → parseFieldDescriptor (TX1 k).2.2.1 = some (tyX1 k) := by decide +kernel
def RX2 : String := "GuestView$History"
def TX2 : u_T := fun k => match k with
  | 0 => ("GuestView$History", "worlds", "[LGuestView$World;", true)
  | 1 => ("GuestView$History", "acts", "I", false)
  | _ => ("GuestView$History", "next", "I", false)
def tyX2 : Nat → FieldType := fun k => match k with
  | 0 => .array (.object "GuestView$World")
  | 1 => .int
  | _ => .int
theorem nmX2 : ∀ a, a < 3 → ∀ b, b < 3 → a ≠ b → (TX2 a).2.1 ≠ (TX2 b).2.1 := by decide +kernel
theorem tyX2_ok : ∀ k, k < 3 → parseFieldDescriptor (TX2 k).2.2.1 = some (tyX2 k) := by decide +kernel
def RX3 : String := "GuestView$LawText"
def TX3 : u_T := fun k => match k with
  | 0 => ("GuestView$LawText", "reader", "LGuestView$Reader;", true)
  | _ => ("GuestView$LawText", "rules", "LGuestView$Rules;", true)
def tyX3 : Nat → FieldType := fun k => match k with
  | 0 => .object "GuestView$Reader"
  | _ => .object "GuestView$Rules"
theorem nmX3 : ∀ a, a < 2 → ∀ b, b < 2 → a ≠ b → (TX3 a).2.1 ≠ (TX3 b).2.1 := by decide +kernel
theorem tyX3_ok : ∀ k, k < 2 → parseFieldDescriptor (TX3 k).2.2.1 = some (tyX3 k) := by decide +kernel
def RX4 : String := "GuestView$Ledger"
def TX4 : u_T := fun k => match k with
  | 0 => ("GuestView$Ledger", "rules", "LGuestView$Rules;", true)
  | 1 => ("GuestView$Ledger", "traits", "LGuestView$Traits;", true)
  | 2 => ("GuestView$Ledger", "sums", "[I", true)
  | 3 => ("GuestView$Ledger", "subject", "[I", true)
  | _ => ("GuestView$Ledger", "stack", "[I", true)
def tyX4 : Nat → FieldType := fun k => match k with
  | 0 => .object "GuestView$Rules"
  | 1 => .object "GuestView$Traits"
  | 2 => .array .int
  | 3 => .array .int
  | _ => .array .int
theorem nmX4 : ∀ a, a < 5 → ∀ b, b < 5 → a ≠ b → (TX4 a).2.1 ≠ (TX4 b).2.1 := by decide +kernel
theorem tyX4_ok : ∀ k, k < 5 → parseFieldDescriptor (TX4 k).2.2.1 = some (tyX4 k) := by decide +kernel
def RX5 : String := "GuestView$Log"
def TX5 : u_T := fun k => match k with
  | 0 => ("GuestView$Log", "rows", "I", false)
  | 1 => ("GuestView$Log", "next", "I", false)
  | _ => ("GuestView$Log", "data", "[I", true)
def tyX5 : Nat → FieldType := fun k => match k with
  | 0 => .int
  | 1 => .int
  | _ => .array .int
theorem nmX5 : ∀ a, a < 3 → ∀ b, b < 3 → a ≠ b → (TX5 a).2.1 ≠ (TX5 b).2.1 := by decide +kernel
theorem tyX5_ok : ∀ k, k < 3 → parseFieldDescriptor (TX5 k).2.2.1 = some (tyX5 k) := by decide +kernel
def RX6 : String := "GuestView$Ops"
def TX6 : u_T := fun k => match k with
  | 0 => ("GuestView$Ops", "total", "I", false)
  | 1 => ("GuestView$Ops", "sizes", "[I", true)
  | 2 => ("GuestView$Ops", "kinds", "[I", true)
  | 3 => ("GuestView$Ops", "numbers", "[I", true)
  | 4 => ("GuestView$Ops", "guarded", "[I", true)
  | _ => ("GuestView$Ops", "patched", "[I", true)
def tyX6 : Nat → FieldType := fun k => match k with
  | 0 => .int
  | 1 => .array .int
  | 2 => .array .int
  | 3 => .array .int
  | 4 => .array .int
  | _ => .array .int
theorem nmX6 : ∀ a, a < 6 → ∀ b, b < 6 → a ≠ b → (TX6 a).2.1 ≠ (TX6 b).2.1 := by decide +kernel
theorem tyX6_ok : ∀ k, k < 6 → parseFieldDescriptor (TX6 k).2.2.1 = some (tyX6 k) := by decide +kernel
def RX7 : String := "GuestView$Reader"
def TX7 : u_T := fun k => match k with
  | 0 => ("GuestView$Reader", "text", "[I", true)
  | 1 => ("GuestView$Reader", "size", "I", false)
  | 2 => ("GuestView$Reader", "at", "I", false)
  | 3 => ("GuestView$Reader", "wrong", "I", false)
  | 4 => ("GuestView$Reader", "begin", "I", false)
  | 5 => ("GuestView$Reader", "kind", "I", false)
  | _ => ("GuestView$Reader", "value", "I", false)
def tyX7 : Nat → FieldType := fun k => match k with
  | 0 => .array .int
  | 1 => .int
  | 2 => .int
  | 3 => .int
  | 4 => .int
  | 5 => .int
  | _ => .int
theorem nmX7 : ∀ a, a < 7 → ∀ b, b < 7 → a ≠ b → (TX7 a).2.1 ≠ (TX7 b).2.1 := by decide +kernel
theorem tyX7_ok : ∀ k, k < 7 → parseFieldDescriptor (TX7 k).2.2.1 = some (tyX7 k) := by decide +kernel
def RX8 : String := "GuestView$Rules"
def TX8 : u_T := fun k => match k with
  | 0 => ("GuestView$Rules", "told", "Z", false)
  | 1 => ("GuestView$Rules", "lines", "I", false)
  | 2 => ("GuestView$Rules", "codeSize", "I", false)
  | 3 => ("GuestView$Rules", "sorts", "[I", true)
  | 4 => ("GuestView$Rules", "amounts", "[I", true)
  | 5 => ("GuestView$Rules", "starts", "[I", true)
  | 6 => ("GuestView$Rules", "ends", "[I", true)
  | _ => ("GuestView$Rules", "codes", "[I", true)
def tyX8 : Nat → FieldType := fun k => match k with
  | 0 => .boolean
  | 1 => .int
  | 2 => .int
  | 3 => .array .int
  | 4 => .array .int
  | 5 => .array .int
  | 6 => .array .int
  | _ => .array .int
theorem nmX8 : ∀ a, a < 8 → ∀ b, b < 8 → a ≠ b → (TX8 a).2.1 ≠ (TX8 b).2.1 := by decide +kernel
theorem tyX8_ok : ∀ k, k < 8 → parseFieldDescriptor (TX8 k).2.2.1 = some (tyX8 k) := by decide +kernel
def RX9 : String := "GuestView$Traits"
def TX9 : u_T := fun k => match k with
  | 0 => ("GuestView$Traits", "known", "[I", true)
  | 1 => ("GuestView$Traits", "states", "[I", true)
  | 2 => ("GuestView$Traits", "one", "LGuestView$Core;", true)
  | _ => ("GuestView$Traits", "two", "LGuestView$Core;", true)
def tyX9 : Nat → FieldType := fun k => match k with
  | 0 => .array .int
  | 1 => .array .int
  | 2 => .object "GuestView$Core"
  | _ => .object "GuestView$Core"
theorem nmX9 : ∀ a, a < 4 → ∀ b, b < 4 → a ≠ b → (TX9 a).2.1 ≠ (TX9 b).2.1 := by decide +kernel
theorem tyX9_ok : ∀ k, k < 4 → parseFieldDescriptor (TX9 k).2.2.1 = some (tyX9 k) := by decide +kernel
def RX10 : String := "GuestView$World"
def TX10 : u_T := fun k => match k with
  | 0 => ("GuestView$World", "ops", "LGuestView$Ops;", true)
  | 1 => ("GuestView$World", "program", "[I", true)
  | 2 => ("GuestView$World", "length", "I", false)
  | 3 => ("GuestView$World", "firstCells", "[I", true)
  | 4 => ("GuestView$World", "vector", "I", false)
  | 5 => ("GuestView$World", "shift", "I", false)
  | 6 => ("GuestView$World", "cost", "I", false)
  | 7 => ("GuestView$World", "alarm", "I", false)
  | 8 => ("GuestView$World", "tick", "I", false)
  | 9 => ("GuestView$World", "purse", "I", false)
  | 10 => ("GuestView$World", "seed", "I", false)
  | 11 => ("GuestView$World", "texts", "I", false)
  | 12 => ("GuestView$World", "bare", "LGuestView$Core;", true)
  | 13 => ("GuestView$World", "hosted", "LGuestView$Core;", true)
  | _ => ("GuestView$World", "rows", "LGuestView$Log;", true)
def tyX10 : Nat → FieldType := fun k => match k with
  | 0 => .object "GuestView$Ops"
  | 1 => .array .int
  | 2 => .int
  | 3 => .array .int
  | 4 => .int
  | 5 => .int
  | 6 => .int
  | 7 => .int
  | 8 => .int
  | 9 => .int
  | 10 => .int
  | 11 => .int
  | 12 => .object "GuestView$Core"
  | 13 => .object "GuestView$Core"
  | _ => .object "GuestView$Log"
theorem nmX10 : ∀ a, a < 15 → ∀ b, b < 15 → a ≠ b → (TX10 a).2.1 ≠ (TX10 b).2.1 := by decide +kernel
theorem tyX10_ok : ∀ k, k < 15 → parseFieldDescriptor (TX10 k).2.2.1 = some (tyX10 k) := by decide +kernel
def RX11 : String := "GuestView"
def TX11 : u_T := fun k => match k with
  | 0 => ("GuestView", "tape", "[I", true)
  | 1 => ("GuestView", "taped", "I", false)
  | 2 => ("GuestView", "wrongByte", "I", false)
  | 3 => ("GuestView", "now", "LGuestView$World;", true)
  | 4 => ("GuestView", "spare", "LGuestView$World;", true)
  | 5 => ("GuestView", "kept", "LGuestView$World;", true)
  | 6 => ("GuestView", "hasImage", "Z", false)
  | 7 => ("GuestView", "ledger", "LGuestView$Ledger;", true)
  | 8 => ("GuestView", "spareRules", "LGuestView$Rules;", true)
  | 9 => ("GuestView", "keptRules", "LGuestView$Rules;", true)
  | 10 => ("GuestView", "history", "LGuestView$History;", true)
  | 11 => ("GuestView", "reader", "LGuestView$Reader;", true)
  | 12 => ("GuestView", "benchText", "LGuestView$BenchText;", true)
  | 13 => ("GuestView", "lawText", "LGuestView$LawText;", true)
  | _ => ("GuestView", "table", "[I", true)
def tyX11 : Nat → FieldType := fun k => match k with
  | 0 => .array .int
  | 1 => .int
  | 2 => .int
  | 3 => .object "GuestView$World"
  | 4 => .object "GuestView$World"
  | 5 => .object "GuestView$World"
  | 6 => .boolean
  | 7 => .object "GuestView$Ledger"
  | 8 => .object "GuestView$Rules"
  | 9 => .object "GuestView$Rules"
  | 10 => .object "GuestView$History"
  | 11 => .object "GuestView$Reader"
  | 12 => .object "GuestView$BenchText"
  | 13 => .object "GuestView$LawText"
  | _ => .array .int
theorem nmX11 : ∀ a, a < 15 → ∀ b, b < 15 → a ≠ b → (TX11 a).2.1 ≠ (TX11 b).2.1 := by decide +kernel
theorem tyX11_ok : ∀ k, k < 15 → parseFieldDescriptor (TX11 k).2.2.1 = some (tyX11 k) := by decide +kernel
def RX12 : String := "GuestViewModel"
def TX12 : u_T := fun k => match k with
  | 0 => ("GuestViewModel", "thrown", "I", false)
  | 1 => ("GuestViewModel", "world", "[I", true)
  | 2 => ("GuestViewModel", "image", "[I", true)
  | 3 => ("GuestViewModel", "earlier", "[I", true)
  | 4 => ("GuestViewModel", "trial", "[I", true)
  | 5 => ("GuestViewModel", "acts", "[I", true)
  | 6 => ("GuestViewModel", "hasImage", "Z", false)
  | 7 => ("GuestViewModel", "remembered", "I", false)
  | 8 => ("GuestViewModel", "tape", "[B", true)
  | 9 => ("GuestViewModel", "taped", "I", false)
  | 10 => ("GuestViewModel", "point", "I", false)
  | 11 => ("GuestViewModel", "end", "I", false)
  | 12 => ("GuestViewModel", "begin", "I", false)
  | 13 => ("GuestViewModel", "deep", "I", false)
  | 14 => ("GuestViewModel", "faultAt", "I", false)
  | 15 => ("GuestViewModel", "five", "[I", true)
  | 16 => ("GuestViewModel", "codes", "I", false)
  | 17 => ("GuestViewModel", "cells", "[I", true)
  | 18 => ("GuestViewModel", "otherCells", "[I", true)
  | 19 => ("GuestViewModel", "reg", "I", false)
  | 20 => ("GuestViewModel", "mode", "I", false)
  | 21 => ("GuestViewModel", "base", "I", false)
  | 22 => ("GuestViewModel", "clock", "I", false)
  | 23 => ("GuestViewModel", "skipped", "Z", false)
  | 24 => ("GuestViewModel", "wasReg", "I", false)
  | 25 => ("GuestViewModel", "wasSkipped", "Z", false)
  | 26 => ("GuestViewModel", "traits", "[I", true)
  | 27 => ("GuestViewModel", "known", "[J", true)
  | 28 => ("GuestViewModel", "value", "[I", true)
  | 29 => ("GuestViewModel", "more", "[I", true)
  | 30 => ("GuestViewModel", "paired", "[I", true)
  | _ => ("GuestViewModel", "ways", "[J", true)
def tyX12 : Nat → FieldType := fun k => match k with
  | 0 => .int
  | 1 => .array .int
  | 2 => .array .int
  | 3 => .array .int
  | 4 => .array .int
  | 5 => .array .int
  | 6 => .boolean
  | 7 => .int
  | 8 => .array .byte
  | 9 => .int
  | 10 => .int
  | 11 => .int
  | 12 => .int
  | 13 => .int
  | 14 => .int
  | 15 => .array .int
  | 16 => .int
  | 17 => .array .int
  | 18 => .array .int
  | 19 => .int
  | 20 => .int
  | 21 => .int
  | 22 => .int
  | 23 => .boolean
  | 24 => .int
  | 25 => .boolean
  | 26 => .array .int
  | 27 => .array .long
  | 28 => .array .int
  | 29 => .array .int
  | 30 => .array .int
  | _ => .array .long
theorem nmX12 : ∀ a, a < 32 → ∀ b, b < 32 → a ≠ b → (TX12 a).2.1 ≠ (TX12 b).2.1 := by decide +kernel
theorem tyX12_ok : ∀ k, k < 32 → parseFieldDescriptor (TX12 k).2.2.1 = some (tyX12 k) := by decide +kernel
def gv_cl : List vw_C := [(RX0, TX0, 2), (RX1, TX1, 7), (RX2, TX2, 3), (RX3, TX3, 2), (RX4, TX4, 5), (RX5, TX5, 3), (RX6, TX6, 6), (RX7, TX7, 7), (RX8, TX8, 8), (RX9, TX9, 4), (RX10, TX10, 15), (RX11, TX11, 15), (RX12, TX12, 32)]
def gv_fkT : List (List Nat) := [[2, 2], [0, 0, 0, 0, 0, 1, 2], [2, 0, 0], [2, 2], [2, 2, 2, 2, 2], [0, 0, 2], [0, 2, 2, 2, 2, 2], [2, 0, 0, 0, 0, 0, 0], [1, 0, 0, 2, 2, 2, 2, 2], [2, 2, 2, 2], [2, 2, 0, 2, 0, 0, 0, 0, 0, 0, 0, 0, 2, 2, 2], [2, 0, 0, 2, 2, 2, 1, 2, 2, 2, 2, 2, 2, 2, 2], [0, 2, 2, 2, 2, 2, 1, 0, 2, 0, 0, 0, 0, 0, 0, 2, 0, 2, 2, 0, 0, 0, 0, 1, 0, 1, 2, 2, 2, 2, 2, 2]]
def gv_tfT (a k : Nat) : FieldType := match a with
  | 0 => tyX0 k
  | 1 => tyX1 k
  | 2 => tyX2 k
  | 3 => tyX3 k
  | 4 => tyX4 k
  | 5 => tyX5 k
  | 6 => tyX6 k
  | 7 => tyX7 k
  | 8 => tyX8 k
  | 9 => tyX9 k
  | 10 => tyX10 k
  | 11 => tyX11 k
  | _ => tyX12 k
def gv_exn (k : Nat) : String := (["java/lang/IllegalArgumentException", "java/lang/IndexOutOfBoundsException", "java/lang/UnsupportedOperationException", "java/util/NoSuchElementException"] : List String).getD k ""
def gv_txT : List (List Int32) := [[111, 112, 32, 112, 114, 111, 103, 114, 97, 109, 32, 99, 101, 108, 108, 115, 32, 118, 101, 99, 116, 111, 114, 32, 115, 104, 105, 102, 116, 32, 99, 111, 115, 116, 32, 97, 108, 97, 114, 109, 32, 112, 117, 114, 115, 101], [103, 117, 97, 114, 100, 101, 100], [97, 100, 100, 32, 108, 111, 97, 100, 32, 115, 97, 118, 101, 32, 114, 105, 115, 101, 32, 100, 114, 111, 112, 32, 109, 111, 118, 101, 32, 119, 104, 101, 114, 101, 32, 119, 104, 111, 32, 116, 105, 109, 101, 32, 115, 107, 105, 112, 32, 113, 117, 105, 101, 116], [99, 111, 115, 116, 32, 98, 108, 97, 109, 101, 32, 119, 111, 114, 116, 104], [105, 102], [111, 114], [97, 110, 100], [110, 111, 116], [103, 117, 97, 114, 100, 101, 100, 32, 112, 97, 116, 99, 104, 101, 100, 32, 115, 101, 110, 115, 105, 116, 105, 118, 101], [111, 112, 32, 109, 105, 99, 114, 111, 115, 32, 99, 111, 110, 116, 114, 111, 108, 32, 109, 111, 100, 97, 108, 32, 108, 111, 99, 97, 108, 32, 116, 105, 109, 101, 100, 32, 117, 115, 101, 115], [97, 100, 100], [108, 111, 97, 100], [115, 97, 118, 101], [114, 105, 115, 101], [100, 114, 111, 112], [109, 111, 118, 101], [119, 104, 101, 114, 101], [119, 104, 111], [116, 105, 109, 101], [115, 107, 105, 112], [113, 117, 105, 101, 116], [111, 112], [112, 114, 111, 103, 114, 97, 109], [99, 101, 108, 108, 115], [118, 101, 99, 116, 111, 114], [115, 104, 105, 102, 116], [99, 111, 115, 116], [97, 108, 97, 114, 109], [112, 117, 114, 115, 101], [109, 105, 99, 114, 111, 115], [99, 111, 110, 116, 114, 111, 108], [109, 111, 100, 97, 108], [108, 111, 99, 97, 108], [116, 105, 109, 101, 100], [117, 115, 101, 115], [112, 97, 116, 99, 104, 101, 100], [115, 101, 110, 115, 105, 116, 105, 118, 101], [98, 108, 97, 109, 101], [119, 111, 114, 116, 104]]
def gv_ownT : List String := ["GuestView$BenchText", "GuestView$Core", "GuestView$History", "GuestView$LawText", "GuestView$Ledger", "GuestView$Log", "GuestView$Ops", "GuestView$Reader", "GuestView$Rules", "GuestView$Traits", "GuestView$World", "GuestView", "GuestViewModel", "GuestViewLaw", "java/lang/Integer", "java/lang/Math", "java/util/Arrays"]
def gv_nop : gv_RI := (.nop, 0, 0, 0)
def gv_tab (n : Nat) (f : Nat → gv_RI) : Nat → gv_RI := fun pc => bif Nat.blt pc n then f pc else gv_nop
