def RX0 : String := "MaskTouch$Body"
def TX0 : u_T := fun k => match k with
  | 0 => ("MaskTouch$Body", "mask", "I", false)
  | 1 => ("MaskTouch$Body", "x", "I", false)
  | 2 => ("MaskTouch$Body", "y", "I", false)
  | 3 => ("MaskTouch$Body", "flip", "I", false)
  | 4 => ("MaskTouch$Body", "own", "I", false)
  | 5 => ("MaskTouch$Body", "sees", "I", false)
  | 6 => ("MaskTouch$Body", "vx", "I", false)
  | _ => ("MaskTouch$Body", "vy", "I", false)
def tyX0 : Nat → FieldType := fun k => match k with
  | 0 => .int
  | 1 => .int
  | 2 => .int
  | 3 => .int
  | 4 => .int
  | 5 => .int
  | 6 => .int
  | _ => .int
theorem nmX0 : ∀ a, a < 8 → ∀ b, b < 8 → a ≠ b → (TX0 a).2.1 ≠ (TX0 b).2.1 := by decide +kernel
theorem tyX0_ok : ∀ k, k < 8 → parseFieldDescriptor (TX0 k).2.2.1 = some (tyX0 k) := by decide +kernel
def RX1 : String := "MaskTouch$Field"
def TX1 : u_T := fun k => match k with
  | 0 => ("MaskTouch$Field", "masks", "[LMaskTouch$Mask;", true)
  | 1 => ("MaskTouch$Field", "bodies", "[LMaskTouch$Body;", true)
  | 2 => ("MaskTouch$Field", "maskCount", "I", false)
  | 3 => ("MaskTouch$Field", "bodyCount", "I", false)
  | _ => ("MaskTouch$Field", "tickCount", "I", false)
def tyX1 : Nat → FieldType := fun k => match k with
  | 0 => .array (.object "MaskTouch$Mask")
  | 1 => .array (.object "MaskTouch$Body")
  | 2 => .int
  | 3 => .int
  | _ => .int
theorem nmX1 : ∀ a, a < 5 → ∀ b, b < 5 → a ≠ b → (TX1 a).2.1 ≠ (TX1 b).2.1 := by decide +kernel
theorem tyX1_ok : ∀ k, k < 5 → parseFieldDescriptor (TX1 k).2.2.1 = some (tyX1 k) := by decide +kernel
def RX2 : String := "MaskTouch$Flood"
def TX2 : u_T := fun k => match k with
  | 0 => ("MaskTouch$Flood", "open", "LMaskTouch$Mask;", true)
  | 1 => ("MaskTouch$Flood", "queue", "[I", true)
  | 2 => ("MaskTouch$Flood", "queued", "I", false)
  | 3 => ("MaskTouch$Flood", "size", "I", false)
  | 4 => ("MaskTouch$Flood", "left", "I", false)
  | 5 => ("MaskTouch$Flood", "top", "I", false)
  | 6 => ("MaskTouch$Flood", "right", "I", false)
  | _ => ("MaskTouch$Flood", "bottom", "I", false)
def tyX2 : Nat → FieldType := fun k => match k with
  | 0 => .object "MaskTouch$Mask"
  | 1 => .array .int
  | 2 => .int
  | 3 => .int
  | 4 => .int
  | 5 => .int
  | 6 => .int
  | _ => .int
theorem nmX2 : ∀ a, a < 8 → ∀ b, b < 8 → a ≠ b → (TX2 a).2.1 ≠ (TX2 b).2.1 := by decide +kernel
theorem tyX2_ok : ∀ k, k < 8 → parseFieldDescriptor (TX2 k).2.2.1 = some (tyX2 k) := by decide +kernel
def RX3 : String := "MaskTouch$Mask"
def TX3 : u_T := fun k => match k with
  | 0 => ("MaskTouch$Mask", "wide", "I", false)
  | 1 => ("MaskTouch$Mask", "high", "I", false)
  | 2 => ("MaskTouch$Mask", "words", "[J", true)
  | 3 => ("MaskTouch$Mask", "total", "I", false)
  | 4 => ("MaskTouch$Mask", "left", "I", false)
  | 5 => ("MaskTouch$Mask", "top", "I", false)
  | 6 => ("MaskTouch$Mask", "right", "I", false)
  | _ => ("MaskTouch$Mask", "bottom", "I", false)
def tyX3 : Nat → FieldType := fun k => match k with
  | 0 => .int
  | 1 => .int
  | 2 => .array .long
  | 3 => .int
  | 4 => .int
  | 5 => .int
  | 6 => .int
  | _ => .int
theorem nmX3 : ∀ a, a < 8 → ∀ b, b < 8 → a ≠ b → (TX3 a).2.1 ≠ (TX3 b).2.1 := by decide +kernel
theorem tyX3_ok : ∀ k, k < 8 → parseFieldDescriptor (TX3 k).2.2.1 = some (tyX3 k) := by decide +kernel
def RX4 : String := "MaskTouch$Reader"
def TX4 : u_T := fun k => match k with
  | 0 => ("MaskTouch$Reader", "text", "[B", true)
  | 1 => ("MaskTouch$Reader", "length", "I", false)
  | 2 => ("MaskTouch$Reader", "spot", "I", false)
  | 3 => ("MaskTouch$Reader", "wordStart", "I", false)
  | 4 => ("MaskTouch$Reader", "number", "I", false)
  | _ => ("MaskTouch$Reader", "fault", "I", false)
def tyX4 : Nat → FieldType := fun k => match k with
  | 0 => .array .byte
  | 1 => .int
  | 2 => .int
  | 3 => .int
  | 4 => .int
  | _ => .int
theorem nmX4 : ∀ a, a < 6 → ∀ b, b < 6 → a ≠ b → (TX4 a).2.1 ≠ (TX4 b).2.1 := by decide +kernel
theorem tyX4_ok : ∀ k, k < 6 → parseFieldDescriptor (TX4 k).2.2.1 = some (tyX4 k) := by decide +kernel
def RX5 : String := "MaskTouch$Scene"
def TX5 : u_T := fun k => match k with
  | 0 => ("MaskTouch$Scene", "field", "LMaskTouch$Field;", true)
  | 1 => ("MaskTouch$Scene", "shapes", "[LMaskTouch$Mask;", true)
  | 2 => ("MaskTouch$Scene", "steps", "I", false)
  | 3 => ("MaskTouch$Scene", "stopper", "I", false)
  | 4 => ("MaskTouch$Scene", "goneX", "I", false)
  | 5 => ("MaskTouch$Scene", "goneY", "I", false)
  | 6 => ("MaskTouch$Scene", "found", "I", false)
  | 7 => ("MaskTouch$Scene", "foundX", "I", false)
  | _ => ("MaskTouch$Scene", "foundY", "I", false)
def tyX5 : Nat → FieldType := fun k => match k with
  | 0 => .object "MaskTouch$Field"
  | 1 => .array (.object "MaskTouch$Mask")
  | 2 => .int
  | 3 => .int
  | 4 => .int
  | 5 => .int
  | 6 => .int
  | 7 => .int
  | _ => .int
theorem nmX5 : ∀ a, a < 9 → ∀ b, b < 9 → a ≠ b → (TX5 a).2.1 ≠ (TX5 b).2.1 := by decide +kernel
theorem tyX5_ok : ∀ k, k < 9 → parseFieldDescriptor (TX5 k).2.2.1 = some (tyX5 k) := by decide +kernel
def RX6 : String := "MaskTouch"
def TX6 : u_T := fun k => match k with
  | 0 => ("MaskTouch", "tape", "[B", true)
  | 1 => ("MaskTouch", "taped", "I", false)
  | 2 => ("MaskTouch", "now", "LMaskTouch$Field;", true)
  | 3 => ("MaskTouch", "draft", "LMaskTouch$Field;", true)
  | 4 => ("MaskTouch", "reader", "LMaskTouch$Reader;", true)
  | 5 => ("MaskTouch", "scene", "LMaskTouch$Scene;", true)
  | 6 => ("MaskTouch", "sketch", "LMaskTouch$Mask;", true)
  | 7 => ("MaskTouch", "flood", "LMaskTouch$Flood;", true)
  | 8 => ("MaskTouch", "past", "[LMaskTouch$Field;", true)
  | 9 => ("MaskTouch", "oldest", "I", false)
  | 10 => ("MaskTouch", "undoable", "I", false)
  | _ => ("MaskTouch", "shelves", "[LMaskTouch$Field;", true)
def tyX6 : Nat → FieldType := fun k => match k with
  | 0 => .array .byte
  | 1 => .int
  | 2 => .object "MaskTouch$Field"
  | 3 => .object "MaskTouch$Field"
  | 4 => .object "MaskTouch$Reader"
  | 5 => .object "MaskTouch$Scene"
  | 6 => .object "MaskTouch$Mask"
  | 7 => .object "MaskTouch$Flood"
  | 8 => .array (.object "MaskTouch$Field")
  | 9 => .int
  | 10 => .int
  | _ => .array (.object "MaskTouch$Field")
theorem nmX6 : ∀ a, a < 12 → ∀ b, b < 12 → a ≠ b → (TX6 a).2.1 ≠ (TX6 b).2.1 := by decide +kernel
theorem tyX6_ok : ∀ k, k < 12 → parseFieldDescriptor (TX6 k).2.2.1 = some (tyX6 k) := by decide +kernel
def RX7 : String := "MaskTouchModel"
def TX7 : u_T := fun k => match k with
  | 0 => ("MaskTouchModel", "now", "[I", true)
  | 1 => ("MaskTouchModel", "heard", "[I", true)
  | 2 => ("MaskTouchModel", "aside", "[I", true)
  | 3 => ("MaskTouchModel", "past", "[I", true)
  | 4 => ("MaskTouchModel", "shelf", "[I", true)
  | 5 => ("MaskTouchModel", "dots", "[J", true)
  | 6 => ("MaskTouchModel", "heardDots", "[J", true)
  | 7 => ("MaskTouchModel", "asideDots", "[J", true)
  | 8 => ("MaskTouchModel", "pastDots", "[J", true)
  | 9 => ("MaskTouchModel", "shelfDots", "[J", true)
  | 10 => ("MaskTouchModel", "isKept", "[Z", true)
  | 11 => ("MaskTouchModel", "pastMany", "I", false)
  | 12 => ("MaskTouchModel", "tape", "[B", true)
  | 13 => ("MaskTouchModel", "taped", "I", false)
  | 14 => ("MaskTouchModel", "at", "I", false)
  | 15 => ("MaskTouchModel", "fault", "I", false)
  | 16 => ("MaskTouchModel", "numberAt", "I", false)
  | 17 => ("MaskTouchModel", "laid", "[J", true)
  | 18 => ("MaskTouchModel", "stopper", "I", false)
  | 19 => ("MaskTouchModel", "made", "[J", true)
  | 20 => ("MaskTouchModel", "ends", "[I", true)
  | 21 => ("MaskTouchModel", "island", "[I", true)
  | 22 => ("MaskTouchModel", "queue", "[I", true)
  | 23 => ("MaskTouchModel", "islands", "I", false)
  | 24 => ("MaskTouchModel", "queued", "I", false)
  | _ => ("MaskTouchModel", "box", "[I", true)
def tyX7 : Nat → FieldType := fun k => match k with
  | 0 => .array .int
  | 1 => .array .int
  | 2 => .array .int
  | 3 => .array .int
  | 4 => .array .int
  | 5 => .array .long
  | 6 => .array .long
  | 7 => .array .long
  | 8 => .array .long
  | 9 => .array .long
  | 10 => .array .boolean
  | 11 => .int
  | 12 => .array .byte
  | 13 => .int
  | 14 => .int
  | 15 => .int
  | 16 => .int
  | 17 => .array .long
  | 18 => .int
  | 19 => .array .long
  | 20 => .array .int
  | 21 => .array .int
  | 22 => .array .int
  | 23 => .int
  | 24 => .int
  | _ => .array .int
theorem nmX7 : ∀ a, a < 26 → ∀ b, b < 26 → a ≠ b → (TX7 a).2.1 ≠ (TX7 b).2.1 := by decide +kernel
theorem tyX7_ok : ∀ k, k < 26 → parseFieldDescriptor (TX7 k).2.2.1 = some (tyX7 k) := by decide +kernel
def RL : String := "MaskTouchLaw"
def RJ0 : String := "java/lang/String"
def RJ1 : String := "java/lang/StringLatin1"
def RJ10 : String := "java/lang/System"
def RJ13 : String := "java/lang/Long"
def RJ2 : String := "java/lang/StringUTF16"
def RJ3 : String := "jdk/internal/util/Preconditions"
def RJ6 : String := "java/lang/Integer"
def RJ7 : String := "java/util/Arrays"
def RJ9 : String := "java/lang/Math"
def RJx145de : String := "java/io/Serializable"
def RJx3cf43 : String := "java/lang/constant/ConstantDesc"
def RJx9f9b0 : String := "java/lang/CharSequence"
def RJxb160c : String := "java/lang/Comparable"
def RJxd2413 : String := "java/lang/Number"
def RJxe99ae : String := "java/lang/Double"
def RJxfd54e : String := "java/lang/constant/Constable"
abbrev vwCl : List vw_C := [(RX0, TX0, 8), (RX1, TX1, 5), (RX2, TX2, 8), (RX3, TX3, 8), (RX4, TX4, 6), (RX5, TX5, 9), (RX6, TX6, 12), (RX7, TX7, 26)]
theorem dfX0 : ∀ j, j < 8 → defaultValue (tyX0 j) = vp_V [.int 0, .int 0, .int 0, .int 0, .int 0, .int 0, .int 0, .int 0] j := by
  intro j hj
  match j, hj with
  | 0, _ => rfl
  | 1, _ => rfl
  | 2, _ => rfl
  | 3, _ => rfl
  | 4, _ => rfl
  | 5, _ => rfl
  | 6, _ => rfl
  | 7, _ => rfl
  | k + 8, h => exact absurd h (by omega)
theorem dfX1 : ∀ j, j < 5 → defaultValue (tyX1 j) = vp_V [.null, .null, .int 0, .int 0, .int 0] j := by
  intro j hj
  match j, hj with
  | 0, _ => rfl
  | 1, _ => rfl
  | 2, _ => rfl
  | 3, _ => rfl
  | 4, _ => rfl
  | k + 5, h => exact absurd h (by omega)
theorem dfX2 : ∀ j, j < 8 → defaultValue (tyX2 j) = vp_V [.null, .null, .int 0, .int 0, .int 0, .int 0, .int 0, .int 0] j := by
  intro j hj
  match j, hj with
  | 0, _ => rfl
  | 1, _ => rfl
  | 2, _ => rfl
  | 3, _ => rfl
  | 4, _ => rfl
  | 5, _ => rfl
  | 6, _ => rfl
  | 7, _ => rfl
  | k + 8, h => exact absurd h (by omega)
theorem dfX3 : ∀ j, j < 8 → defaultValue (tyX3 j) = vp_V [.int 0, .int 0, .null, .int 0, .int 0, .int 0, .int 0, .int 0] j := by
  intro j hj
  match j, hj with
  | 0, _ => rfl
  | 1, _ => rfl
  | 2, _ => rfl
  | 3, _ => rfl
  | 4, _ => rfl
  | 5, _ => rfl
  | 6, _ => rfl
  | 7, _ => rfl
  | k + 8, h => exact absurd h (by omega)
theorem dfX4 : ∀ j, j < 6 → defaultValue (tyX4 j) = vp_V [.null, .int 0, .int 0, .int 0, .int 0, .int 0] j := by
  intro j hj
  match j, hj with
  | 0, _ => rfl
  | 1, _ => rfl
  | 2, _ => rfl
  | 3, _ => rfl
  | 4, _ => rfl
  | 5, _ => rfl
  | k + 6, h => exact absurd h (by omega)
theorem dfX5 : ∀ j, j < 9 → defaultValue (tyX5 j) = vp_V [.null, .null, .int 0, .int 0, .int 0, .int 0, .int 0, .int 0, .int 0] j := by
  intro j hj
  match j, hj with
  | 0, _ => rfl
  | 1, _ => rfl
  | 2, _ => rfl
  | 3, _ => rfl
  | 4, _ => rfl
  | 5, _ => rfl
  | 6, _ => rfl
  | 7, _ => rfl
  | 8, _ => rfl
  | k + 9, h => exact absurd h (by omega)
theorem dfX6 : ∀ j, j < 12 → defaultValue (tyX6 j) = vp_V [.null, .int 0, .null, .null, .null, .null, .null, .null, .null, .int 0, .int 0, .null] j := by
  intro j hj
  match j, hj with
  | 0, _ => rfl
  | 1, _ => rfl
  | 2, _ => rfl
  | 3, _ => rfl
  | 4, _ => rfl
  | 5, _ => rfl
  | 6, _ => rfl
  | 7, _ => rfl
  | 8, _ => rfl
  | 9, _ => rfl
  | 10, _ => rfl
  | 11, _ => rfl
  | k + 12, h => exact absurd h (by omega)
theorem dfX7 : ∀ j, j < 26 → defaultValue (tyX7 j) = vp_V [.null, .null, .null, .null, .null, .null, .null, .null, .null, .null, .null, .int 0, .null, .int 0, .int 0, .int 0, .int 0, .null, .int 0, .null, .null, .null, .null, .int 0, .int 0, .null] j := by
  intro j hj
  match j, hj with
  | 0, _ => rfl
  | 1, _ => rfl
  | 2, _ => rfl
  | 3, _ => rfl
  | 4, _ => rfl
  | 5, _ => rfl
  | 6, _ => rfl
  | 7, _ => rfl
  | 8, _ => rfl
  | 9, _ => rfl
  | 10, _ => rfl
  | 11, _ => rfl
  | 12, _ => rfl
  | 13, _ => rfl
  | 14, _ => rfl
  | 15, _ => rfl
  | 16, _ => rfl
  | 17, _ => rfl
  | 18, _ => rfl
  | 19, _ => rfl
  | 20, _ => rfl
  | 21, _ => rfl
  | 22, _ => rfl
  | 23, _ => rfl
  | 24, _ => rfl
  | 25, _ => rfl
  | k + 26, h => exact absurd h (by omega)
