def RX0 : String := "HandLock$Lock"
def TX0 : u_T := fun k => match k with
  | 0 => ("HandLock$Lock", "folk", "[LHandLock$Person;", true)
  | 1 => ("HandLock$Lock", "plan", "[I", true)
  | 2 => ("HandLock$Lock", "people", "I", false)
  | 3 => ("HandLock$Lock", "acts", "I", false)
  | 4 => ("HandLock$Lock", "slack", "I", false)
  | _ => ("HandLock$Lock", "tried", "I", false)
def tyX0 : Nat → FieldType := fun k => match k with
  | 0 => .array (.object "HandLock$Person")
  | 1 => .array .int
  | 2 => .int
  | 3 => .int
  | 4 => .int
  | _ => .int
abbrev wsX00 : List Cond := u_ws RX0 TX0 6
theorem nmX0 : ∀ a, a < 6 → ∀ b, b < 6 → a ≠ b → (TX0 a).2.1 ≠ (TX0 b).2.1 := by decide +kernel
theorem tyX0_ok : ∀ k, k < 6 → parseFieldDescriptor (TX0 k).2.2.1 = some (tyX0 k) := by decide +kernel
def RX1 : String := "HandLock$Person"
def TX1 : u_T := fun k => match k with
  | 0 => ("HandLock$Person", "kind", "I", false)
  | 1 => ("HandLock$Person", "right", "I", false)
  | 2 => ("HandLock$Person", "left", "I", false)
  | _ => ("HandLock$Person", "hand", "I", false)
def tyX1 : Nat → FieldType := fun k => match k with
  | 0 => .int
  | 1 => .int
  | 2 => .int
  | _ => .int
abbrev wsX10 : List Cond := u_ws RX1 TX1 4
theorem nmX1 : ∀ a, a < 4 → ∀ b, b < 4 → a ≠ b → (TX1 a).2.1 ≠ (TX1 b).2.1 := by decide +kernel
theorem tyX1_ok : ∀ k, k < 4 → parseFieldDescriptor (TX1 k).2.2.1 = some (tyX1 k) := by decide +kernel
def RX2 : String := "HandLock$Reader"
def TX2 : u_T := fun k => match k with
  | 0 => ("HandLock$Reader", "tape", "[B", true)
  | 1 => ("HandLock$Reader", "draft", "LHandLock$Lock;", true)
  | 2 => ("HandLock$Reader", "length", "I", false)
  | 3 => ("HandLock$Reader", "lines", "I", false)
  | 4 => ("HandLock$Reader", "fault", "I", false)
  | 5 => ("HandLock$Reader", "faultPlace", "I", false)
  | 6 => ("HandLock$Reader", "place", "I", false)
  | 7 => ("HandLock$Reader", "token", "I", false)
  | 8 => ("HandLock$Reader", "start", "I", false)
  | 9 => ("HandLock$Reader", "value", "I", false)
  | 10 => ("HandLock$Reader", "lefts", "I", false)
  | 11 => ("HandLock$Reader", "slackTold", "Z", false)
  | _ => ("HandLock$Reader", "planTold", "Z", false)
def tyX2 : Nat → FieldType := fun k => match k with
  | 0 => .array .byte
  | 1 => .object "HandLock$Lock"
  | 2 => .int
  | 3 => .int
  | 4 => .int
  | 5 => .int
  | 6 => .int
  | 7 => .int
  | 8 => .int
  | 9 => .int
  | 10 => .int
  | 11 => .boolean
  | _ => .boolean
abbrev wsX20 : List Cond := u_ws RX2 TX2 13
theorem nmX2 : ∀ a, a < 13 → ∀ b, b < 13 → a ≠ b → (TX2 a).2.1 ≠ (TX2 b).2.1 := by decide +kernel
theorem tyX2_ok : ∀ k, k < 13 → parseFieldDescriptor (TX2 k).2.2.1 = some (tyX2 k) := by decide +kernel
def RX3 : String := "HandLock$Rehearsal"
def TX3 : u_T := fun k => match k with
  | 0 => ("HandLock$Rehearsal", "stage", "LHandLock$Lock;", true)
  | 1 => ("HandLock$Rehearsal", "entered", "[I", true)
  | 2 => ("HandLock$Rehearsal", "opened", "I", false)
  | 3 => ("HandLock$Rehearsal", "who", "I", false)
  | _ => ("HandLock$Rehearsal", "shut", "I", false)
def tyX3 : Nat → FieldType := fun k => match k with
  | 0 => .object "HandLock$Lock"
  | 1 => .array .int
  | 2 => .int
  | 3 => .int
  | _ => .int
abbrev wsX30 : List Cond := u_ws RX3 TX3 5
theorem nmX3 : ∀ a, a < 5 → ∀ b, b < 5 → a ≠ b → (TX3 a).2.1 ≠ (TX3 b).2.1 := by decide +kernel
theorem tyX3_ok : ∀ k, k < 5 → parseFieldDescriptor (TX3 k).2.2.1 = some (tyX3 k) := by decide +kernel
def RX4 : String := "HandLock$Search"
def TX4 : u_T := fun k => match k with
  | 0 => ("HandLock$Search", "stage", "LHandLock$Lock;", true)
  | 1 => ("HandLock$Search", "trial", "[I", true)
  | 2 => ("HandLock$Search", "row", "[I", true)
  | 3 => ("HandLock$Search", "size", "I", false)
  | _ => ("HandLock$Search", "most", "I", false)
def tyX4 : Nat → FieldType := fun k => match k with
  | 0 => .object "HandLock$Lock"
  | 1 => .array .int
  | 2 => .array .int
  | 3 => .int
  | _ => .int
abbrev wsX40 : List Cond := u_ws RX4 TX4 5
theorem nmX4 : ∀ a, a < 5 → ∀ b, b < 5 → a ≠ b → (TX4 a).2.1 ≠ (TX4 b).2.1 := by decide +kernel
theorem tyX4_ok : ∀ k, k < 5 → parseFieldDescriptor (TX4 k).2.2.1 = some (tyX4 k) := by decide +kernel
def RX5 : String := "HandLock$Sheet"
def TX5 : u_T := fun k => match k with
  | 0 => ("HandLock$Sheet", "cells", "[I", true)
  | 1 => ("HandLock$Sheet", "there", "Z", false)
  | 2 => ("HandLock$Sheet", "lane", "I", false)
  | _ => ("HandLock$Sheet", "size", "I", false)
def tyX5 : Nat → FieldType := fun k => match k with
  | 0 => .array .int
  | 1 => .boolean
  | 2 => .int
  | _ => .int
abbrev wsX50 : List Cond := u_ws RX5 TX5 4
theorem nmX5 : ∀ a, a < 4 → ∀ b, b < 4 → a ≠ b → (TX5 a).2.1 ≠ (TX5 b).2.1 := by decide +kernel
theorem tyX5_ok : ∀ k, k < 4 → parseFieldDescriptor (TX5 k).2.2.1 = some (tyX5 k) := by decide +kernel
def RX6 : String := "HandLock$Sightings"
def TX6 : u_T := fun k => match k with
  | 0 => ("HandLock$Sightings", "acts", "[I", true)
  | 1 => ("HandLock$Sightings", "who", "[I", true)
  | 2 => ("HandLock$Sightings", "tally", "[I", true)
  | _ => ("HandLock$Sightings", "size", "I", false)
def tyX6 : Nat → FieldType := fun k => match k with
  | 0 => .array .int
  | 1 => .array .int
  | 2 => .array .int
  | _ => .int
abbrev wsX60 : List Cond := u_ws RX6 TX6 4
theorem nmX6 : ∀ a, a < 4 → ∀ b, b < 4 → a ≠ b → (TX6 a).2.1 ≠ (TX6 b).2.1 := by decide +kernel
theorem tyX6_ok : ∀ k, k < 4 → parseFieldDescriptor (TX6 k).2.2.1 = some (tyX6 k) := by decide +kernel
def RX7 : String := "HandLock"
def TX7 : u_T := fun k => match k with
  | 0 => ("HandLock", "reader", "LHandLock$Reader;", true)
  | 1 => ("HandLock", "now", "LHandLock$Lock;", true)
  | 2 => ("HandLock", "rehearsal", "LHandLock$Rehearsal;", true)
  | 3 => ("HandLock", "search", "LHandLock$Search;", true)
  | 4 => ("HandLock", "seen", "LHandLock$Sightings;", true)
  | 5 => ("HandLock", "images", "[LHandLock$Lock;", true)
  | 6 => ("HandLock", "kept", "[Z", true)
  | 7 => ("HandLock", "sheets", "[LHandLock$Sheet;", true)
  | _ => ("HandLock", "torn", "I", false)
def tyX7 : Nat → FieldType := fun k => match k with
  | 0 => .object "HandLock$Reader"
  | 1 => .object "HandLock$Lock"
  | 2 => .object "HandLock$Rehearsal"
  | 3 => .object "HandLock$Search"
  | 4 => .object "HandLock$Sightings"
  | 5 => .array (.object "HandLock$Lock")
  | 6 => .array .boolean
  | 7 => .array (.object "HandLock$Sheet")
  | _ => .int
abbrev wsX70 : List Cond := u_ws RX7 TX7 9
theorem nmX7 : ∀ a, a < 9 → ∀ b, b < 9 → a ≠ b → (TX7 a).2.1 ≠ (TX7 b).2.1 := by decide +kernel
theorem tyX7_ok : ∀ k, k < 9 → parseFieldDescriptor (TX7 k).2.2.1 = some (tyX7 k) := by decide +kernel
def RX8 : String := "HandLockModel"
def TX8 : u_T := fun k => match k with
  | 0 => ("HandLockModel", "state", "[I", true)
  | 1 => ("HandLockModel", "marks", "[I", true)
  | 2 => ("HandLockModel", "oneMany", "I", false)
  | 3 => ("HandLockModel", "readPage", "[I", true)
  | 4 => ("HandLockModel", "readOnes", "I", false)
  | 5 => ("HandLockModel", "toldOnce", "I", false)
  | 6 => ("HandLockModel", "seenBits", "I", false)
  | 7 => ("HandLockModel", "tape", "[I", true)
  | 8 => ("HandLockModel", "taped", "I", false)
  | 9 => ("HandLockModel", "fault", "I", false)
  | 10 => ("HandLockModel", "broken", "I", false)
  | 11 => ("HandLockModel", "brokenAt", "I", false)
  | 12 => ("HandLockModel", "spot", "I", false)
  | 13 => ("HandLockModel", "here", "I", false)
  | 14 => ("HandLockModel", "token", "I", false)
  | 15 => ("HandLockModel", "value", "I", false)
  | 16 => ("HandLockModel", "cuts", "[I", true)
  | 17 => ("HandLockModel", "letters", "[I", true)
  | 18 => ("HandLockModel", "letMany", "I", false)
  | 19 => ("HandLockModel", "letBits", "I", false)
  | 20 => ("HandLockModel", "firstNot", "I", false)
  | 21 => ("HandLockModel", "letBy", "[I", true)
  | 22 => ("HandLockModel", "seen", "[I", true)
  | 23 => ("HandLockModel", "seenMany", "I", false)
  | 24 => ("HandLockModel", "letOf", "[I", true)
  | 25 => ("HandLockModel", "isFit", "[Z", true)
  | 26 => ("HandLockModel", "isKept", "[Z", true)
  | 27 => ("HandLockModel", "lanes", "[I", true)
  | 28 => ("HandLockModel", "lengths", "[I", true)
  | 29 => ("HandLockModel", "cells", "[I", true)
  | _ => ("HandLockModel", "torn", "I", false)
def tyX8 : Nat → FieldType := fun k => match k with
  | 0 => .array .int
  | 1 => .array .int
  | 2 => .int
  | 3 => .array .int
  | 4 => .int
  | 5 => .int
  | 6 => .int
  | 7 => .array .int
  | 8 => .int
  | 9 => .int
  | 10 => .int
  | 11 => .int
  | 12 => .int
  | 13 => .int
  | 14 => .int
  | 15 => .int
  | 16 => .array .int
  | 17 => .array .int
  | 18 => .int
  | 19 => .int
  | 20 => .int
  | 21 => .array .int
  | 22 => .array .int
  | 23 => .int
  | 24 => .array .int
  | 25 => .array .boolean
  | 26 => .array .boolean
  | 27 => .array .int
  | 28 => .array .int
  | 29 => .array .int
  | _ => .int
abbrev wsX80 : List Cond := u_ws RX8 TX8 31
theorem nmX8 : ∀ a, a < 31 → ∀ b, b < 31 → a ≠ b → (TX8 a).2.1 ≠ (TX8 b).2.1 := by decide +kernel
theorem tyX8_ok : ∀ k, k < 31 → parseFieldDescriptor (TX8 k).2.2.1 = some (tyX8 k) := by decide +kernel
abbrev vwCl : List vw_C := [(RX0, TX0, 6), (RX1, TX1, 4), (RX2, TX2, 13), (RX3, TX3, 5), (RX4, TX4, 5), (RX5, TX5, 4), (RX6, TX6, 4), (RX7, TX7, 9), (RX8, TX8, 31)]
