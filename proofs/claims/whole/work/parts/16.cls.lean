/-! The classes. -/
def KT0 : u_T := fun k => match k with
  | 0 => ("CourtMoorhens$Book", "told", "I", false)
  | _ => ("CourtMoorhens$Book", "right", "I", false)
def KY0 : Nat → FieldType := fun k => match k with
  | 0 => .int
  | _ => .int
def KT1 : u_T := fun k => match k with
  | 0 => ("CourtMoorhens$Court", "sayMinute", "LCourtMoorhens$Row;", true)
  | 1 => ("CourtMoorhens$Court", "saySide", "LCourtMoorhens$Row;", true)
  | 2 => ("CourtMoorhens$Court", "sayWeight", "LCourtMoorhens$Row;", true)
  | 3 => ("CourtMoorhens$Court", "ruleOne", "LCourtMoorhens$Row;", true)
  | 4 => ("CourtMoorhens$Court", "ruleOther", "LCourtMoorhens$Row;", true)
  | 5 => ("CourtMoorhens$Court", "ruleThen", "LCourtMoorhens$Row;", true)
  | 6 => ("CourtMoorhens$Court", "birdMinute", "LCourtMoorhens$Row;", true)
  | 7 => ("CourtMoorhens$Court", "birdSteps", "LCourtMoorhens$Row;", true)
  | 8 => ("CourtMoorhens$Court", "counselCrumbs", "LCourtMoorhens$Row;", true)
  | 9 => ("CourtMoorhens$Court", "counselSly", "LCourtMoorhens$Row;", true)
  | 10 => ("CourtMoorhens$Court", "sayings", "I", false)
  | 11 => ("CourtMoorhens$Court", "rules", "I", false)
  | 12 => ("CourtMoorhens$Court", "birds", "I", false)
  | _ => ("CourtMoorhens$Court", "counsel", "I", false)
def KY1 : Nat → FieldType := fun k => match k with
  | 0 => .object "CourtMoorhens$Row"
  | 1 => .object "CourtMoorhens$Row"
  | 2 => .object "CourtMoorhens$Row"
  | 3 => .object "CourtMoorhens$Row"
  | 4 => .object "CourtMoorhens$Row"
  | 5 => .object "CourtMoorhens$Row"
  | 6 => .object "CourtMoorhens$Row"
  | 7 => .object "CourtMoorhens$Row"
  | 8 => .object "CourtMoorhens$Row"
  | 9 => .object "CourtMoorhens$Row"
  | 10 => .int
  | 11 => .int
  | 12 => .int
  | _ => .int
def KT2 : u_T := fun k => match k with
  | 0 => ("CourtMoorhens$Hearing", "court", "LCourtMoorhens$Court;", true)
  | 1 => ("CourtMoorhens$Hearing", "law", "LCourtMoorhens$Law;", true)
  | 2 => ("CourtMoorhens$Hearing", "said", "LCourtMoorhens$Row;", true)
  | 3 => ("CourtMoorhens$Hearing", "begins", "LCourtMoorhens$Row;", true)
  | 4 => ("CourtMoorhens$Hearing", "led", "LCourtMoorhens$Row;", true)
  | 5 => ("CourtMoorhens$Hearing", "walks", "LCourtMoorhens$Row;", true)
  | 6 => ("CourtMoorhens$Hearing", "crumbs", "LCourtMoorhens$Row;", true)
  | 7 => ("CourtMoorhens$Hearing", "minute", "I", false)
  | _ => ("CourtMoorhens$Hearing", "noted", "I", false)
def KY2 : Nat → FieldType := fun k => match k with
  | 0 => .object "CourtMoorhens$Court"
  | 1 => .object "CourtMoorhens$Law"
  | 2 => .object "CourtMoorhens$Row"
  | 3 => .object "CourtMoorhens$Row"
  | 4 => .object "CourtMoorhens$Row"
  | 5 => .object "CourtMoorhens$Row"
  | 6 => .object "CourtMoorhens$Row"
  | 7 => .int
  | _ => .int
def KT3 : u_T := fun k => match k with
  | 0 => ("CourtMoorhens$Law", "parts", "LCourtMoorhens$Row;", true)
  | 1 => ("CourtMoorhens$Law", "stack", "LCourtMoorhens$Row;", true)
  | 2 => ("CourtMoorhens$Law", "inputs", "LCourtMoorhens$Row;", true)
  | _ => ("CourtMoorhens$Law", "size", "I", false)
def KY3 : Nat → FieldType := fun k => match k with
  | 0 => .object "CourtMoorhens$Row"
  | 1 => .object "CourtMoorhens$Row"
  | 2 => .object "CourtMoorhens$Row"
  | _ => .int
def KT4 : u_T := fun k => match k with
  | 0 => ("CourtMoorhens$Past", "states", "LCourtMoorhens$Row;", true)
  | 1 => ("CourtMoorhens$Past", "imageStates", "LCourtMoorhens$Row;", true)
  | 2 => ("CourtMoorhens$Past", "imageWorks", "LCourtMoorhens$Row;", true)
  | 3 => ("CourtMoorhens$Past", "works", "I", false)
  | _ => ("CourtMoorhens$Past", "images", "I", false)
def KY4 : Nat → FieldType := fun k => match k with
  | 0 => .object "CourtMoorhens$Row"
  | 1 => .object "CourtMoorhens$Row"
  | 2 => .object "CourtMoorhens$Row"
  | 3 => .int
  | _ => .int
def KT5 : u_T := fun k => match k with
  | 0 => ("CourtMoorhens$Plan", "kinds", "LCourtMoorhens$Row;", true)
  | 1 => ("CourtMoorhens$Plan", "firsts", "LCourtMoorhens$Row;", true)
  | 2 => ("CourtMoorhens$Plan", "seconds", "LCourtMoorhens$Row;", true)
  | 3 => ("CourtMoorhens$Plan", "thirds", "LCourtMoorhens$Row;", true)
  | 4 => ("CourtMoorhens$Plan", "size", "I", false)
  | 5 => ("CourtMoorhens$Plan", "begun", "I", false)
  | 6 => ("CourtMoorhens$Plan", "done", "I", false)
  | _ => ("CourtMoorhens$Plan", "refused", "I", false)
def KY5 : Nat → FieldType := fun k => match k with
  | 0 => .object "CourtMoorhens$Row"
  | 1 => .object "CourtMoorhens$Row"
  | 2 => .object "CourtMoorhens$Row"
  | 3 => .object "CourtMoorhens$Row"
  | 4 => .int
  | 5 => .int
  | 6 => .int
  | _ => .int
def KT6 : u_T := fun k => match k with
  | 0 => ("CourtMoorhens$Reader", "tape", "LCourtMoorhens$Row;", true)
  | 1 => ("CourtMoorhens$Reader", "length", "I", false)
  | 2 => ("CourtMoorhens$Reader", "textEnd", "I", false)
  | 3 => ("CourtMoorhens$Reader", "pieceKind", "I", false)
  | 4 => ("CourtMoorhens$Reader", "pieceStart", "I", false)
  | 5 => ("CourtMoorhens$Reader", "pieceEnd", "I", false)
  | 6 => ("CourtMoorhens$Reader", "pieceValue", "I", false)
  | 7 => ("CourtMoorhens$Reader", "faultKind", "I", false)
  | _ => ("CourtMoorhens$Reader", "faultPlace", "I", false)
def KY6 : Nat → FieldType := fun k => match k with
  | 0 => .object "CourtMoorhens$Row"
  | 1 => .int
  | 2 => .int
  | 3 => .int
  | 4 => .int
  | 5 => .int
  | 6 => .int
  | 7 => .int
  | _ => .int
def KT7 : u_T := fun k => match k with
  | _ => ("CourtMoorhens$Row", "cells", "[I", true)
def KY7 : Nat → FieldType := fun k => match k with
  | _ => .array .int
def KT8 : u_T := fun k => match k with
  | 0 => ("CourtMoorhens$Search", "court", "LCourtMoorhens$Court;", true)
  | 1 => ("CourtMoorhens$Search", "hearing", "LCourtMoorhens$Hearing;", true)
  | 2 => ("CourtMoorhens$Search", "book", "LCourtMoorhens$Book;", true)
  | 3 => ("CourtMoorhens$Search", "covered", "LCourtMoorhens$Row;", true)
  | 4 => ("CourtMoorhens$Search", "pairsCounting", "LCourtMoorhens$Row;", true)
  | 5 => ("CourtMoorhens$Search", "wanted", "I", false)
  | 6 => ("CourtMoorhens$Search", "hidingMinutes", "I", false)
  | 7 => ("CourtMoorhens$Search", "hidingWay", "I", false)
  | 8 => ("CourtMoorhens$Search", "pairsFitting", "I", false)
  | _ => ("CourtMoorhens$Search", "firstFitting", "I", false)
def KY8 : Nat → FieldType := fun k => match k with
  | 0 => .object "CourtMoorhens$Court"
  | 1 => .object "CourtMoorhens$Hearing"
  | 2 => .object "CourtMoorhens$Book"
  | 3 => .object "CourtMoorhens$Row"
  | 4 => .object "CourtMoorhens$Row"
  | 5 => .int
  | 6 => .int
  | 7 => .int
  | 8 => .int
  | _ => .int
def KT9 : u_T := fun k => match k with
  | 0 => ("CourtMoorhens$Term", "court", "LCourtMoorhens$Court;", true)
  | 1 => ("CourtMoorhens$Term", "trial", "LCourtMoorhens$Hearing;", true)
  | _ => ("CourtMoorhens$Term", "seed", "I", false)
def KY9 : Nat → FieldType := fun k => match k with
  | 0 => .object "CourtMoorhens$Court"
  | 1 => .object "CourtMoorhens$Hearing"
  | _ => .int
def KT10 : u_T := fun k => match k with
  | 0 => ("CourtMoorhens", "text", "LCourtMoorhens$Reader;", true)
  | 1 => ("CourtMoorhens", "bench", "LCourtMoorhens$Court;", true)
  | 2 => ("CourtMoorhens", "draftBench", "LCourtMoorhens$Court;", true)
  | 3 => ("CourtMoorhens", "rule", "LCourtMoorhens$Law;", true)
  | 4 => ("CourtMoorhens", "draftRule", "LCourtMoorhens$Law;", true)
  | 5 => ("CourtMoorhens", "lines", "LCourtMoorhens$Book;", true)
  | 6 => ("CourtMoorhens", "draftLines", "LCourtMoorhens$Book;", true)
  | 7 => ("CourtMoorhens", "plan", "LCourtMoorhens$Plan;", true)
  | 8 => ("CourtMoorhens", "hearing", "LCourtMoorhens$Hearing;", true)
  | 9 => ("CourtMoorhens", "past", "LCourtMoorhens$Past;", true)
  | 10 => ("CourtMoorhens", "search", "LCourtMoorhens$Search;", true)
  | 11 => ("CourtMoorhens", "terms", "LCourtMoorhens$Term;", true)
  | 12 => ("CourtMoorhens", "stepsRefused", "I", false)
  | 13 => ("CourtMoorhens", "missingRefused", "I", false)
  | _ => ("CourtMoorhens", "wrongRefused", "I", false)
def KY10 : Nat → FieldType := fun k => match k with
  | 0 => .object "CourtMoorhens$Reader"
  | 1 => .object "CourtMoorhens$Court"
  | 2 => .object "CourtMoorhens$Court"
  | 3 => .object "CourtMoorhens$Law"
  | 4 => .object "CourtMoorhens$Law"
  | 5 => .object "CourtMoorhens$Book"
  | 6 => .object "CourtMoorhens$Book"
  | 7 => .object "CourtMoorhens$Plan"
  | 8 => .object "CourtMoorhens$Hearing"
  | 9 => .object "CourtMoorhens$Past"
  | 10 => .object "CourtMoorhens$Search"
  | 11 => .object "CourtMoorhens$Term"
  | 12 => .int
  | 13 => .int
  | _ => .int
def KT11 : u_T := fun k => match k with
  | 0 => ("CourtMoorhensModel", "thrown", "I", false)
  | 1 => ("CourtMoorhensModel", "refused", "[I", true)
  | 2 => ("CourtMoorhensModel", "taped", "I", false)
  | 3 => ("CourtMoorhensModel", "size", "I", false)
  | 4 => ("CourtMoorhensModel", "at", "I", false)
  | 5 => ("CourtMoorhensModel", "bad", "I", false)
  | 6 => ("CourtMoorhensModel", "badKind", "I", false)
  | 7 => ("CourtMoorhensModel", "opens", "I", false)
  | 8 => ("CourtMoorhensModel", "faultAt", "I", false)
  | 9 => ("CourtMoorhensModel", "tape", "[I", true)
  | 10 => ("CourtMoorhensModel", "newSaying", "[I", true)
  | 11 => ("CourtMoorhensModel", "newRule", "[I", true)
  | 12 => ("CourtMoorhensModel", "newBird", "[I", true)
  | 13 => ("CourtMoorhensModel", "newCounsel", "[I", true)
  | 14 => ("CourtMoorhensModel", "saying", "[I", true)
  | 15 => ("CourtMoorhensModel", "rule", "[I", true)
  | 16 => ("CourtMoorhensModel", "bird", "[I", true)
  | 17 => ("CourtMoorhensModel", "counsel", "[I", true)
  | 18 => ("CourtMoorhensModel", "newSayings", "I", false)
  | 19 => ("CourtMoorhensModel", "newRules", "I", false)
  | 20 => ("CourtMoorhensModel", "newBirds", "I", false)
  | 21 => ("CourtMoorhensModel", "newCounsels", "I", false)
  | 22 => ("CourtMoorhensModel", "sayings", "I", false)
  | 23 => ("CourtMoorhensModel", "rules", "I", false)
  | 24 => ("CourtMoorhensModel", "birds", "I", false)
  | 25 => ("CourtMoorhensModel", "counsels", "I", false)
  | 26 => ("CourtMoorhensModel", "newCode", "[I", true)
  | 27 => ("CourtMoorhensModel", "newOf", "[I", true)
  | 28 => ("CourtMoorhensModel", "code", "[I", true)
  | 29 => ("CourtMoorhensModel", "ofCode", "[I", true)
  | 30 => ("CourtMoorhensModel", "stack", "[I", true)
  | 31 => ("CourtMoorhensModel", "newCodes", "I", false)
  | 32 => ("CourtMoorhensModel", "codes", "I", false)
  | 33 => ("CourtMoorhensModel", "facts", "[I", true)
  | 34 => ("CourtMoorhensModel", "newStep", "[I", true)
  | 35 => ("CourtMoorhensModel", "step", "[I", true)
  | 36 => ("CourtMoorhensModel", "newSteps", "I", false)
  | 37 => ("CourtMoorhensModel", "works", "I", false)
  | 38 => ("CourtMoorhensModel", "refusedSteps", "I", false)
  | 39 => ("CourtMoorhensModel", "begun", "I", false)
  | 40 => ("CourtMoorhensModel", "done", "I", false)
  | 41 => ("CourtMoorhensModel", "refusedNow", "I", false)
  | 42 => ("CourtMoorhensModel", "now", "[I", true)
  | 43 => ("CourtMoorhensModel", "s", "[I", true)
  | 44 => ("CourtMoorhensModel", "past", "[I", true)
  | 45 => ("CourtMoorhensModel", "newBook", "[I", true)
  | 46 => ("CourtMoorhensModel", "book", "[I", true)
  | 47 => ("CourtMoorhensModel", "written", "I", false)
  | 48 => ("CourtMoorhensModel", "hidesBy", "[I", true)
  | 49 => ("CourtMoorhensModel", "leadBy", "[I", true)
  | 50 => ("CourtMoorhensModel", "leastLead", "I", false)
  | 51 => ("CourtMoorhensModel", "countsBy", "[I", true)
  | 52 => ("CourtMoorhensModel", "kindBy", "[J", true)
  | 53 => ("CourtMoorhensModel", "seedNow", "I", false)
  | 54 => ("CourtMoorhensModel", "image", "[I", true)
  | _ => ("CourtMoorhensModel", "images", "I", false)
def KY11 : Nat → FieldType := fun k => match k with
  | 0 => .int
  | 1 => .array .int
  | 2 => .int
  | 3 => .int
  | 4 => .int
  | 5 => .int
  | 6 => .int
  | 7 => .int
  | 8 => .int
  | 9 => .array .int
  | 10 => .array .int
  | 11 => .array .int
  | 12 => .array .int
  | 13 => .array .int
  | 14 => .array .int
  | 15 => .array .int
  | 16 => .array .int
  | 17 => .array .int
  | 18 => .int
  | 19 => .int
  | 20 => .int
  | 21 => .int
  | 22 => .int
  | 23 => .int
  | 24 => .int
  | 25 => .int
  | 26 => .array .int
  | 27 => .array .int
  | 28 => .array .int
  | 29 => .array .int
  | 30 => .array .int
  | 31 => .int
  | 32 => .int
  | 33 => .array .int
  | 34 => .array .int
  | 35 => .array .int
  | 36 => .int
  | 37 => .int
  | 38 => .int
  | 39 => .int
  | 40 => .int
  | 41 => .int
  | 42 => .array .int
  | 43 => .array .int
  | 44 => .array .int
  | 45 => .array .int
  | 46 => .array .int
  | 47 => .int
  | 48 => .array .int
  | 49 => .array .int
  | 50 => .int
  | 51 => .array .int
  | 52 => .array .long
  | 53 => .int
  | 54 => .array .int
  | _ => .int
def CLS : List vw_C := [("CourtMoorhens$Book", KT0, 2), ("CourtMoorhens$Court", KT1, 14), ("CourtMoorhens$Hearing", KT2, 9), ("CourtMoorhens$Law", KT3, 4), ("CourtMoorhens$Past", KT4, 5), ("CourtMoorhens$Plan", KT5, 8), ("CourtMoorhens$Reader", KT6, 9), ("CourtMoorhens$Row", KT7, 1), ("CourtMoorhens$Search", KT8, 10), ("CourtMoorhens$Term", KT9, 3), ("CourtMoorhens", KT10, 15), ("CourtMoorhensModel", KT11, 56)]
def FTY (a : Nat) : Nat → FieldType := match a with
  | 0 => KY0
  | 1 => KY1
  | 2 => KY2
  | 3 => KY3
  | 4 => KY4
  | 5 => KY5
  | 6 => KY6
  | 7 => KY7
  | 8 => KY8
  | 9 => KY9
  | 10 => KY10
  | _ => KY11
def TSS : List (String × Nat × String) := [("CourtMoorhens", 387, "the document does not allow this argument"), ("CourtMoorhens$Court", 74, "say"), ("CourtMoorhens$Court", 83, "so"), ("CourtMoorhens$Court", 88, "bird"), ("CourtMoorhens$Court", 93, "counsel"), ("CourtMoorhens$Law", 82, "least"), ("CourtMoorhens$Law", 92, "most"), ("CourtMoorhens$Law", 98, "steps"), ("CourtMoorhens$Law", 100, "begin"), ("CourtMoorhens$Law", 102, "crumbs"), ("CourtMoorhens$Law", 104, "led"), ("CourtMoorhens$Law", 106, "notes"), ("CourtMoorhens$Law", 108, "bird"), ("CourtMoorhens$Plan", 56, "call"), ("CourtMoorhens$Plan", 78, "lead"), ("CourtMoorhens$Plan", 84, "put"), ("CourtMoorhens$Plan", 89, "note"), ("CourtMoorhens$Plan", 99, "minute"), ("CourtMoorhens$Plan", 101, "again"), ("CourtMoorhens", 394, "there is no such saying, bird or counsel"), ("CourtMoorhensModel", 224, "counsel"), ("CourtMoorhensModel", 197, "say"), ("CourtMoorhensModel", 203, "so"), ("CourtMoorhensModel", 205, "bird"), ("CourtMoorhensModel", 277, "least"), ("CourtMoorhensModel", 282, "most"), ("CourtMoorhensModel", 267, "steps"), ("CourtMoorhensModel", 269, "begin"), ("CourtMoorhensModel", 271, "crumbs"), ("CourtMoorhensModel", 273, "led"), ("CourtMoorhensModel", 275, "notes"), ("CourtMoorhensModel", 297, "call"), ("CourtMoorhensModel", 299, "lead"), ("CourtMoorhensModel", 301, "put"), ("CourtMoorhensModel", 303, "note"), ("CourtMoorhensModel", 305, "minute"), ("CourtMoorhensModel", 307, "again")]
def TXS : List (List Nat) := [[116, 104, 101, 32, 100, 111, 99, 117, 109, 101, 110, 116, 32, 100, 111, 101, 115, 32, 110, 111, 116, 32, 97, 108, 108, 111, 119, 32, 116, 104, 105, 115, 32, 97, 114, 103, 117, 109, 101, 110, 116], [115, 97, 121], [115, 111], [98, 105, 114, 100], [99, 111, 117, 110, 115, 101, 108], [108, 101, 97, 115, 116], [109, 111, 115, 116], [115, 116, 101, 112, 115], [98, 101, 103, 105, 110], [99, 114, 117, 109, 98, 115], [108, 101, 100], [110, 111, 116, 101, 115], [98, 105, 114, 100], [99, 97, 108, 108], [108, 101, 97, 100], [112, 117, 116], [110, 111, 116, 101], [109, 105, 110, 117, 116, 101], [97, 103, 97, 105, 110], [116, 104, 101, 114, 101, 32, 105, 115, 32, 110, 111, 32, 115, 117, 99, 104, 32, 115, 97, 121, 105, 110, 103, 44, 32, 98, 105, 114, 100, 32, 111, 114, 32, 99, 111, 117, 110, 115, 101, 108], [99, 111, 117, 110, 115, 101, 108], [115, 97, 121], [115, 111], [98, 105, 114, 100], [108, 101, 97, 115, 116], [109, 111, 115, 116], [115, 116, 101, 112, 115], [98, 101, 103, 105, 110], [99, 114, 117, 109, 98, 115], [108, 101, 100], [110, 111, 116, 101, 115], [99, 97, 108, 108], [108, 101, 97, 100], [112, 117, 116], [110, 111, 116, 101], [109, 105, 110, 117, 116, 101], [97, 103, 97, 105, 110]]
theorem txs_ok : ∀ t ∈ TXS, t.length < 2 ^ 31 ∧ ∀ x ∈ t, x < 256 := by decide +kernel
set_option maxRecDepth 100000 in
theorem kw0 : ∀ w ∈ u_ws "CourtMoorhens$Book" KT0 2, w ∈ TW := tw_in [(7, 191), (7, 193)] (by decide +kernel) (by decide +kernel)
set_option maxRecDepth 100000 in
theorem kp0 : (∀ k, k < 2 → parseFieldDescriptor (KT0 k).2.2.1 = some (KY0 k)) ∧ (∀ x, x < 2 → ∀ y, y < 2 → x ≠ y → (KT0 x).2.1 ≠ (KT0 y).2.1) ∧ ∀ k, k < 2 → dfl (KY0 k) = defaultValue (KY0 k) := by decide +kernel
set_option maxRecDepth 100000 in
theorem kw1 : ∀ w ∈ u_ws "CourtMoorhens$Court" KT1 14, w ∈ TW := tw_in [(7, 127), (7, 129), (7, 131), (7, 133), (7, 135), (7, 137), (7, 139), (7, 141), (7, 143), (7, 145), (7, 147), (7, 149), (7, 151), (7, 153)] (by decide +kernel) (by decide +kernel)
set_option maxRecDepth 100000 in
theorem kp1 : (∀ k, k < 14 → parseFieldDescriptor (KT1 k).2.2.1 = some (KY1 k)) ∧ (∀ x, x < 14 → ∀ y, y < 14 → x ≠ y → (KT1 x).2.1 ≠ (KT1 y).2.1) ∧ ∀ k, k < 14 → dfl (KY1 k) = defaultValue (KY1 k) := by decide +kernel
set_option maxRecDepth 100000 in
theorem kw2 : ∀ w ∈ u_ws "CourtMoorhens$Hearing" KT2 9, w ∈ TW := tw_in [(8, 19), (8, 21), (8, 23), (8, 25), (8, 27), (8, 29), (8, 31), (8, 33), (8, 35)] (by decide +kernel) (by decide +kernel)
set_option maxRecDepth 100000 in
theorem kp2 : (∀ k, k < 9 → parseFieldDescriptor (KT2 k).2.2.1 = some (KY2 k)) ∧ (∀ x, x < 9 → ∀ y, y < 9 → x ≠ y → (KT2 x).2.1 ≠ (KT2 y).2.1) ∧ ∀ k, k < 9 → dfl (KY2 k) = defaultValue (KY2 k) := by decide +kernel
set_option maxRecDepth 100000 in
theorem kw3 : ∀ w ∈ u_ws "CourtMoorhens$Law" KT3 4, w ∈ TW := tw_in [(7, 172), (7, 174), (7, 176), (7, 178)] (by decide +kernel) (by decide +kernel)
set_option maxRecDepth 100000 in
theorem kp3 : (∀ k, k < 4 → parseFieldDescriptor (KT3 k).2.2.1 = some (KY3 k)) ∧ (∀ x, x < 4 → ∀ y, y < 4 → x ≠ y → (KT3 x).2.1 ≠ (KT3 y).2.1) ∧ ∀ k, k < 4 → dfl (KY3 k) = defaultValue (KY3 k) := by decide +kernel
set_option maxRecDepth 100000 in
theorem kw4 : ∀ w ∈ u_ws "CourtMoorhens$Past" KT4 5, w ∈ TW := tw_in [(8, 53), (8, 55), (8, 57), (8, 59), (8, 61)] (by decide +kernel) (by decide +kernel)
set_option maxRecDepth 100000 in
theorem kp4 : (∀ k, k < 5 → parseFieldDescriptor (KT4 k).2.2.1 = some (KY4 k)) ∧ (∀ x, x < 5 → ∀ y, y < 5 → x ≠ y → (KT4 x).2.1 ≠ (KT4 y).2.1) ∧ ∀ k, k < 5 → dfl (KY4 k) = defaultValue (KY4 k) := by decide +kernel
set_option maxRecDepth 100000 in
theorem kw5 : ∀ w ∈ u_ws "CourtMoorhens$Plan" KT5 8, w ∈ TW := tw_in [(7, 215), (7, 217), (7, 219), (7, 221), (7, 223), (7, 225), (7, 227), (7, 229)] (by decide +kernel) (by decide +kernel)
set_option maxRecDepth 100000 in
theorem kp5 : (∀ k, k < 8 → parseFieldDescriptor (KT5 k).2.2.1 = some (KY5 k)) ∧ (∀ x, x < 8 → ∀ y, y < 8 → x ≠ y → (KT5 x).2.1 ≠ (KT5 y).2.1) ∧ ∀ k, k < 8 → dfl (KY5 k) = defaultValue (KY5 k) := by decide +kernel
set_option maxRecDepth 100000 in
theorem kw6 : ∀ w ∈ u_ws "CourtMoorhens$Reader" KT6 9, w ∈ TW := tw_in [(7, 62), (7, 64), (7, 66), (7, 68), (7, 70), (7, 72), (7, 74), (7, 76), (7, 78)] (by decide +kernel) (by decide +kernel)
set_option maxRecDepth 100000 in
theorem kp6 : (∀ k, k < 9 → parseFieldDescriptor (KT6 k).2.2.1 = some (KY6 k)) ∧ (∀ x, x < 9 → ∀ y, y < 9 → x ≠ y → (KT6 x).2.1 ≠ (KT6 y).2.1) ∧ ∀ k, k < 9 → dfl (KY6 k) = defaultValue (KY6 k) := by decide +kernel
set_option maxRecDepth 100000 in
theorem kw7 : ∀ w ∈ u_ws "CourtMoorhens$Row" KT7 1, w ∈ TW := tw_in [(7, 45)] (by decide +kernel) (by decide +kernel)
set_option maxRecDepth 100000 in
theorem kp7 : (∀ k, k < 1 → parseFieldDescriptor (KT7 k).2.2.1 = some (KY7 k)) ∧ (∀ x, x < 1 → ∀ y, y < 1 → x ≠ y → (KT7 x).2.1 ≠ (KT7 y).2.1) ∧ ∀ k, k < 1 → dfl (KY7 k) = defaultValue (KY7 k) := by decide +kernel
set_option maxRecDepth 100000 in
theorem kw8 : ∀ w ∈ u_ws "CourtMoorhens$Search" KT8 10, w ∈ TW := tw_in [(8, 86), (8, 88), (8, 90), (8, 92), (8, 94), (8, 96), (8, 98), (8, 100), (8, 102), (8, 104)] (by decide +kernel) (by decide +kernel)
set_option maxRecDepth 100000 in
theorem kp8 : (∀ k, k < 10 → parseFieldDescriptor (KT8 k).2.2.1 = some (KY8 k)) ∧ (∀ x, x < 10 → ∀ y, y < 10 → x ≠ y → (KT8 x).2.1 ≠ (KT8 y).2.1) ∧ ∀ k, k < 10 → dfl (KY8 k) = defaultValue (KY8 k) := by decide +kernel
set_option maxRecDepth 100000 in
theorem kw9 : ∀ w ∈ u_ws "CourtMoorhens$Term" KT9 3, w ∈ TW := tw_in [(8, 117), (8, 119), (8, 121)] (by decide +kernel) (by decide +kernel)
set_option maxRecDepth 100000 in
theorem kp9 : (∀ k, k < 3 → parseFieldDescriptor (KT9 k).2.2.1 = some (KY9 k)) ∧ (∀ x, x < 3 → ∀ y, y < 3 → x ≠ y → (KT9 x).2.1 ≠ (KT9 y).2.1) ∧ ∀ k, k < 3 → dfl (KY9 k) = defaultValue (KY9 k) := by decide +kernel
set_option maxRecDepth 100000 in
theorem kw10 : ∀ w ∈ u_ws "CourtMoorhens" KT10 15, w ∈ TW := tw_in [(8, 139), (8, 141), (8, 143), (8, 145), (8, 147), (8, 149), (8, 151), (8, 153), (8, 155), (8, 157), (8, 159), (8, 161), (8, 163), (8, 165), (8, 167)] (by decide +kernel) (by decide +kernel)
set_option maxRecDepth 100000 in
theorem kp10 : (∀ k, k < 15 → parseFieldDescriptor (KT10 k).2.2.1 = some (KY10 k)) ∧ (∀ x, x < 15 → ∀ y, y < 15 → x ≠ y → (KT10 x).2.1 ≠ (KT10 y).2.1) ∧ ∀ k, k < 15 → dfl (KY10 k) = defaultValue (KY10 k) := by decide +kernel
set_option maxRecDepth 100000 in
theorem kw11 : ∀ w ∈ u_ws "CourtMoorhensModel" KT11 56, w ∈ TW := tw_in [(12, 236), (12, 238), (13, 0), (13, 2), (13, 4), (13, 6), (13, 8), (13, 10), (13, 12), (13, 14), (13, 16), (13, 18), (13, 20), (13, 22), (13, 24), (13, 26), (13, 28), (13, 30), (13, 32), (13, 34), (13, 36), (13, 38), (13, 40), (13, 42), (13, 44), (13, 46), (13, 48), (13, 50), (13, 52), (13, 54), (13, 56), (13, 58), (13, 60), (13, 62), (13, 64), (13, 66), (13, 68), (13, 70), (13, 72), (13, 74), (13, 76), (13, 78), (13, 80), (13, 82), (13, 84), (13, 86), (13, 88), (13, 90), (13, 92), (13, 94), (13, 96), (13, 98), (13, 100), (13, 102), (13, 104), (13, 106)] (by decide +kernel) (by decide +kernel)
set_option maxRecDepth 100000 in
theorem kp11 : (∀ k, k < 56 → parseFieldDescriptor (KT11 k).2.2.1 = some (KY11 k)) ∧ (∀ x, x < 56 → ∀ y, y < 56 → x ≠ y → (KT11 x).2.1 ≠ (KT11 y).2.1) ∧ ∀ k, k < 56 → dfl (KY11 k) = defaultValue (KY11 k) := by decide +kernel
theorem cls_ok : clsTW CLS FTY := by
  intro a q h
  match a with
  | 0 => cases h; exact ⟨kw0, kp0⟩
  | 1 => cases h; exact ⟨kw1, kp1⟩
  | 2 => cases h; exact ⟨kw2, kp2⟩
  | 3 => cases h; exact ⟨kw3, kp3⟩
  | 4 => cases h; exact ⟨kw4, kp4⟩
  | 5 => cases h; exact ⟨kw5, kp5⟩
  | 6 => cases h; exact ⟨kw6, kp6⟩
  | 7 => cases h; exact ⟨kw7, kp7⟩
  | 8 => cases h; exact ⟨kw8, kp8⟩
  | 9 => cases h; exact ⟨kw9, kp9⟩
  | 10 => cases h; exact ⟨kw10, kp10⟩
  | 11 => cases h; exact ⟨kw11, kp11⟩
  | n + 12 => cases h
