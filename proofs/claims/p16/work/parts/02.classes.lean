/-! class tables, by program (wip/prog/names.py) out of the Statement: names, fields (declarer, name, descriptor, final), types, words -/
theorem ab_mem_ps (ws : List Cond) (ps : List Nat) (h : ws = ps.filterMap (fun i => lw_tbl[i]?)) : ∀ w ∈ ws, w ∈ lw_tbl := by
  intro w hw
  rw [h] at hw
  obtain ⟨i, -, hi⟩ := List.mem_filterMap.mp hw
  exact List.mem_of_getElem? hi
def R_PW : String := "PatternWorks"
def F_PW : u_T := fun k => match k with
  | 0 => ("PatternWorks", "ready", "[I", true)
  | 1 => ("PatternWorks", "tape", "LPatternWorks$Row;", true)
  | 2 => ("PatternWorks", "reader", "LPatternWorks$Reader;", true)
  | 3 => ("PatternWorks", "programs", "[LPatternWorks$Program;", true)
  | 4 => ("PatternWorks", "subject", "LPatternWorks$Subject;", true)
  | 5 => ("PatternWorks", "spans", "[I", true)
  | 6 => ("PatternWorks", "threads", "LPatternWorks$Threads;", true)
  | 7 => ("PatternWorks", "marks", "LPatternWorks$Marks;", true)
  | 8 => ("PatternWorks", "oneMind", "LPatternWorks$OneMind;", true)
  | 9 => ("PatternWorks", "states", "LPatternWorks$States;", true)
  | 10 => ("PatternWorks", "latest", "[I", true)
  | 11 => ("PatternWorks", "matches", "LPatternWorks$Row;", true)
  | 12 => ("PatternWorks", "pieces", "LPatternWorks$Row;", true)
  | 13 => ("PatternWorks", "template", "LPatternWorks$Row;", true)
  | 14 => ("PatternWorks", "result", "LPatternWorks$Row;", false)
  | 15 => ("PatternWorks", "spare", "LPatternWorks$Row;", false)
  | 16 => ("PatternWorks", "compiled", "I", false)
  | _ => ("PatternWorks", "overs", "I", false)
def t_PW : Nat → FieldType := fun k => match k with
  | 0 => .array (.int)
  | 1 => .object "PatternWorks$Row"
  | 2 => .object "PatternWorks$Reader"
  | 3 => .array (.object "PatternWorks$Program")
  | 4 => .object "PatternWorks$Subject"
  | 5 => .array (.int)
  | 6 => .object "PatternWorks$Threads"
  | 7 => .object "PatternWorks$Marks"
  | 8 => .object "PatternWorks$OneMind"
  | 9 => .object "PatternWorks$States"
  | 10 => .array (.int)
  | 11 => .object "PatternWorks$Row"
  | 12 => .object "PatternWorks$Row"
  | 13 => .object "PatternWorks$Row"
  | 14 => .object "PatternWorks$Row"
  | 15 => .object "PatternWorks$Row"
  | 16 => .int
  | _ => .int
theorem t_PW_ok : ∀ k, k < 18 → parseFieldDescriptor (F_PW k).2.2.1 = some (t_PW k) := by decide +kernel
theorem n_PW : ∀ a, a < 18 → ∀ b, b < 18 → a ≠ b → (F_PW a).2.1 ≠ (F_PW b).2.1 := by decide +kernel
set_option maxRecDepth 20000 in
theorem i_PW : ∀ w ∈ u_ws R_PW F_PW 18, w ∈ lw_tbl := ab_mem_ps _ [672, 674, 676, 678, 680, 682, 684, 686, 688, 690, 692, 694, 696, 698, 700, 702, 704, 706] (by decide +kernel)
def R_CS : String := "PatternWorks$CharSet"
def F_CS : u_T := fun k => match k with
  | 0 => ("PatternWorks$CharSet", "bounds", "[I", false)
  | _ => ("PatternWorks$CharSet", "count", "I", false)
def t_CS : Nat → FieldType := fun k => match k with
  | 0 => .array (.int)
  | _ => .int
theorem t_CS_ok : ∀ k, k < 2 → parseFieldDescriptor (F_CS k).2.2.1 = some (t_CS k) := by decide +kernel
theorem n_CS : ∀ a, a < 2 → ∀ b, b < 2 → a ≠ b → (F_CS a).2.1 ≠ (F_CS b).2.1 := by decide +kernel
set_option maxRecDepth 20000 in
theorem i_CS : ∀ w ∈ u_ws R_CS F_CS 2, w ∈ lw_tbl := ab_mem_ps _ [234, 236] (by decide +kernel)
def R_MK : String := "PatternWorks$Marks"
def F_MK : u_T := fun k => match k with
  | 0 => ("PatternWorks$Marks", "spans", "[I", false)
  | 1 => ("PatternWorks$Marks", "work", "[I", true)
  | 2 => ("PatternWorks$Marks", "marks", "[I", false)
  | 3 => ("PatternWorks$Marks", "words", "I", false)
  | 4 => ("PatternWorks$Marks", "dirtyFrom", "I", false)
  | 5 => ("PatternWorks$Marks", "stack", "[I", false)
  | 6 => ("PatternWorks$Marks", "depth", "I", false)
  | 7 => ("PatternWorks$Marks", "found", "Z", false)
  | 8 => ("PatternWorks$Marks", "firstOnly", "Z", false)
  | 9 => ("PatternWorks$Marks", "how", "I", false)
  | 10 => ("PatternWorks$Marks", "program", "LPatternWorks$Program;", false)
  | 11 => ("PatternWorks$Marks", "subject", "LPatternWorks$Subject;", false)
  | _ => ("PatternWorks$Marks", "steps", "J", false)
def t_MK : Nat → FieldType := fun k => match k with
  | 0 => .array (.int)
  | 1 => .array (.int)
  | 2 => .array (.int)
  | 3 => .int
  | 4 => .int
  | 5 => .array (.int)
  | 6 => .int
  | 7 => .boolean
  | 8 => .boolean
  | 9 => .int
  | 10 => .object "PatternWorks$Program"
  | 11 => .object "PatternWorks$Subject"
  | _ => .long
theorem t_MK_ok : ∀ k, k < 13 → parseFieldDescriptor (F_MK k).2.2.1 = some (t_MK k) := by decide +kernel
theorem n_MK : ∀ a, a < 13 → ∀ b, b < 13 → a ≠ b → (F_MK a).2.1 ≠ (F_MK b).2.1 := by decide +kernel
set_option maxRecDepth 20000 in
theorem i_MK : ∀ w ∈ u_ws R_MK F_MK 13, w ∈ lw_tbl := ab_mem_ps _ [507, 509, 511, 513, 515, 517, 519, 521, 523, 525, 527, 529, 531] (by decide +kernel)
def R_OM : String := "PatternWorks$OneMind"
def F_OM : u_T := fun k => match k with
  | 0 => ("PatternWorks$OneMind", "spans", "[I", false)
  | 1 => ("PatternWorks$OneMind", "work", "[I", true)
  | 2 => ("PatternWorks$OneMind", "onward", "[I", true)
  | 3 => ("PatternWorks$OneMind", "taken", "LPatternWorks$CharSet;", true)
  | 4 => ("PatternWorks$OneMind", "seen", "[I", false)
  | 5 => ("PatternWorks$OneMind", "cleared", "[I", false)
  | 6 => ("PatternWorks$OneMind", "stack", "[I", false)
  | 7 => ("PatternWorks$OneMind", "depth", "I", false)
  | 8 => ("PatternWorks$OneMind", "found", "Z", false)
  | 9 => ("PatternWorks$OneMind", "chosen", "I", false)
  | 10 => ("PatternWorks$OneMind", "program", "LPatternWorks$Program;", false)
  | 11 => ("PatternWorks$OneMind", "subject", "LPatternWorks$Subject;", false)
  | 12 => ("PatternWorks$OneMind", "how", "I", false)
  | 13 => ("PatternWorks$OneMind", "firstOnly", "Z", false)
  | _ => ("PatternWorks$OneMind", "steps", "J", false)
def t_OM : Nat → FieldType := fun k => match k with
  | 0 => .array (.int)
  | 1 => .array (.int)
  | 2 => .array (.int)
  | 3 => .object "PatternWorks$CharSet"
  | 4 => .array (.int)
  | 5 => .array (.int)
  | 6 => .array (.int)
  | 7 => .int
  | 8 => .boolean
  | 9 => .int
  | 10 => .object "PatternWorks$Program"
  | 11 => .object "PatternWorks$Subject"
  | 12 => .int
  | 13 => .boolean
  | _ => .long
theorem t_OM_ok : ∀ k, k < 15 → parseFieldDescriptor (F_OM k).2.2.1 = some (t_OM k) := by decide +kernel
theorem n_OM : ∀ a, a < 15 → ∀ b, b < 15 → a ≠ b → (F_OM a).2.1 ≠ (F_OM b).2.1 := by decide +kernel
set_option maxRecDepth 20000 in
theorem i_OM : ∀ w ∈ u_ws R_OM F_OM 15, w ∈ lw_tbl := ab_mem_ps _ [558, 560, 562, 564, 566, 568, 570, 572, 574, 576, 578, 580, 582, 584, 586] (by decide +kernel)
def R_PA : String := "PatternWorks$Part"
def F_PA : u_T := fun k => match k with
  | 0 => ("PatternWorks$Part", "kind", "I", true)
  | 1 => ("PatternWorks$Part", "value", "I", true)
  | 2 => ("PatternWorks$Part", "ranges", "[I", false)
  | 3 => ("PatternWorks$Part", "place", "I", false)
  | 4 => ("PatternWorks$Part", "flagsAround", "I", false)
  | 5 => ("PatternWorks$Part", "outer", "LPatternWorks$Part;", false)
  | 6 => ("PatternWorks$Part", "last", "LPatternWorks$Part;", false)
  | 7 => ("PatternWorks$Part", "before", "LPatternWorks$Part;", false)
  | 8 => ("PatternWorks$Part", "size", "I", false)
  | 9 => ("PatternWorks$Part", "mayBeEmpty", "Z", false)
  | 10 => ("PatternWorks$Part", "onceEmpty", "Z", false)
  | 11 => ("PatternWorks$Part", "least", "I", false)
  | 12 => ("PatternWorks$Part", "most", "I", false)
  | 13 => ("PatternWorks$Part", "lazy", "Z", false)
  | _ => ("PatternWorks$Part", "record", "I", false)
def t_PA : Nat → FieldType := fun k => match k with
  | 0 => .int
  | 1 => .int
  | 2 => .array (.int)
  | 3 => .int
  | 4 => .int
  | 5 => .object "PatternWorks$Part"
  | 6 => .object "PatternWorks$Part"
  | 7 => .object "PatternWorks$Part"
  | 8 => .int
  | 9 => .boolean
  | 10 => .boolean
  | 11 => .int
  | 12 => .int
  | 13 => .boolean
  | _ => .int
theorem t_PA_ok : ∀ k, k < 15 → parseFieldDescriptor (F_PA k).2.2.1 = some (t_PA k) := by decide +kernel
theorem n_PA : ∀ a, a < 15 → ∀ b, b < 15 → a ≠ b → (F_PA a).2.1 ≠ (F_PA b).2.1 := by decide +kernel
set_option maxRecDepth 20000 in
theorem i_PA : ∀ w ∈ u_ws R_PA F_PA 15, w ∈ lw_tbl := ab_mem_ps _ [310, 312, 314, 316, 318, 320, 322, 324, 326, 328, 330, 332, 334, 336, 338] (by decide +kernel)
def R_PR : String := "PatternWorks$Program"
def F_PR : u_T := fun k => match k with
  | 0 => ("PatternWorks$Program", "kinds", "[I", true)
  | 1 => ("PatternWorks$Program", "next", "[I", true)
  | 2 => ("PatternWorks$Program", "other", "[I", true)
  | 3 => ("PatternWorks$Program", "count", "I", false)
  | 4 => ("PatternWorks$Program", "first", "I", false)
  | 5 => ("PatternWorks$Program", "looksAround", "Z", false)
  | 6 => ("PatternWorks$Program", "ranges", "[I", false)
  | 7 => ("PatternWorks$Program", "rangesUsed", "I", false)
  | 8 => ("PatternWorks$Program", "groups", "I", false)
  | 9 => ("PatternWorks$Program", "width", "I", false)
  | 10 => ("PatternWorks$Program", "size", "I", false)
  | 11 => ("PatternWorks$Program", "flags", "I", false)
  | 12 => ("PatternWorks$Program", "version", "I", false)
  | 13 => ("PatternWorks$Program", "minds", "I", false)
  | 14 => ("PatternWorks$Program", "names", "[I", true)
  | _ => ("PatternWorks$Program", "nameLength", "[I", true)
def t_PR : Nat → FieldType := fun k => match k with
  | 0 => .array (.int)
  | 1 => .array (.int)
  | 2 => .array (.int)
  | 3 => .int
  | 4 => .int
  | 5 => .boolean
  | 6 => .array (.int)
  | 7 => .int
  | 8 => .int
  | 9 => .int
  | 10 => .int
  | 11 => .int
  | 12 => .int
  | 13 => .int
  | 14 => .array (.int)
  | _ => .array (.int)
theorem t_PR_ok : ∀ k, k < 16 → parseFieldDescriptor (F_PR k).2.2.1 = some (t_PR k) := by decide +kernel
theorem n_PR : ∀ a, a < 16 → ∀ b, b < 16 → a ≠ b → (F_PR a).2.1 ≠ (F_PR b).2.1 := by decide +kernel
set_option maxRecDepth 20000 in
theorem i_PR : ∀ w ∈ u_ws R_PR F_PR 16, w ∈ lw_tbl := ab_mem_ps _ [1687, 1689, 1691, 1693, 1695, 1697, 1699, 1701, 1703, 1705, 1707, 1709, 1711, 1713, 1715, 1717] (by decide +kernel)
def R_RD : String := "PatternWorks$Reader"
def F_RD : u_T := fun k => match k with
  | 0 => ("PatternWorks$Reader", "text", "LPatternWorks$Text;", true)
  | 1 => ("PatternWorks$Reader", "inner", "LPatternWorks$Part;", false)
  | 2 => ("PatternWorks$Reader", "depth", "I", false)
  | 3 => ("PatternWorks$Reader", "flags", "I", false)
  | 4 => ("PatternWorks$Reader", "groups", "I", false)
  | 5 => ("PatternWorks$Reader", "nameAt", "[I", true)
  | 6 => ("PatternWorks$Reader", "nameLength", "[I", true)
  | 7 => ("PatternWorks$Reader", "least", "I", false)
  | 8 => ("PatternWorks$Reader", "most", "I", false)
  | _ => ("PatternWorks$Reader", "behindRepeat", "I", false)
def t_RD : Nat → FieldType := fun k => match k with
  | 0 => .object "PatternWorks$Text"
  | 1 => .object "PatternWorks$Part"
  | 2 => .int
  | 3 => .int
  | 4 => .int
  | 5 => .array (.int)
  | 6 => .array (.int)
  | 7 => .int
  | 8 => .int
  | _ => .int
theorem t_RD_ok : ∀ k, k < 10 → parseFieldDescriptor (F_RD k).2.2.1 = some (t_RD k) := by decide +kernel
theorem n_RD : ∀ a, a < 10 → ∀ b, b < 10 → a ≠ b → (F_RD a).2.1 ≠ (F_RD b).2.1 := by decide +kernel
set_option maxRecDepth 20000 in
theorem i_RD : ∀ w ∈ u_ws R_RD F_RD 10, w ∈ lw_tbl := ab_mem_ps _ [356, 358, 360, 362, 364, 366, 368, 370, 372, 374] (by decide +kernel)
def R_RW : String := "PatternWorks$Row"
def F_RW : u_T := fun k => match k with
  | 0 => ("PatternWorks$Row", "limit", "I", true)
  | 1 => ("PatternWorks$Row", "items", "[I", false)
  | _ => ("PatternWorks$Row", "size", "I", false)
def t_RW : Nat → FieldType := fun k => match k with
  | 0 => .int
  | 1 => .array (.int)
  | _ => .int
theorem t_RW_ok : ∀ k, k < 3 → parseFieldDescriptor (F_RW k).2.2.1 = some (t_RW k) := by decide +kernel
theorem n_RW : ∀ a, a < 3 → ∀ b, b < 3 → a ≠ b → (F_RW a).2.1 ≠ (F_RW b).2.1 := by decide +kernel
set_option maxRecDepth 20000 in
theorem i_RW : ∀ w ∈ u_ws R_RW F_RW 3, w ∈ lw_tbl := ab_mem_ps _ [205, 207, 209] (by decide +kernel)
def R_ST : String := "PatternWorks$States"
def F_ST : u_T := fun k => match k with
  | 0 => ("PatternWorks$States", "most", "I", false)
  | 1 => ("PatternWorks$States", "program", "LPatternWorks$Program;", false)
  | 2 => ("PatternWorks$States", "version", "I", false)
  | 3 => ("PatternWorks$States", "roaming", "Z", false)
  | 4 => ("PatternWorks$States", "cuts", "[I", true)
  | 5 => ("PatternWorks$States", "cutCount", "I", false)
  | 6 => ("PatternWorks$States", "edges", "[I", true)
  | 7 => ("PatternWorks$States", "pool", "[I", true)
  | 8 => ("PatternWorks$States", "begins", "[I", true)
  | 9 => ("PatternWorks$States", "behind", "[I", true)
  | 10 => ("PatternWorks$States", "count", "I", false)
  | 11 => ("PatternWorks$States", "seeds", "[I", true)
  | 12 => ("PatternWorks$States", "seedCount", "I", false)
  | 13 => ("PatternWorks$States", "seen", "[I", true)
  | 14 => ("PatternWorks$States", "stamp", "I", false)
  | 15 => ("PatternWorks$States", "stack", "[I", true)
  | 16 => ("PatternWorks$States", "arrived", "Z", false)
  | _ => ("PatternWorks$States", "steps", "J", false)
def t_ST : Nat → FieldType := fun k => match k with
  | 0 => .int
  | 1 => .object "PatternWorks$Program"
  | 2 => .int
  | 3 => .boolean
  | 4 => .array (.int)
  | 5 => .int
  | 6 => .array (.int)
  | 7 => .array (.int)
  | 8 => .array (.int)
  | 9 => .array (.int)
  | 10 => .int
  | 11 => .array (.int)
  | 12 => .int
  | 13 => .array (.int)
  | 14 => .int
  | 15 => .array (.int)
  | 16 => .boolean
  | _ => .long
theorem t_ST_ok : ∀ k, k < 18 → parseFieldDescriptor (F_ST k).2.2.1 = some (t_ST k) := by decide +kernel
theorem n_ST : ∀ a, a < 18 → ∀ b, b < 18 → a ≠ b → (F_ST a).2.1 ≠ (F_ST b).2.1 := by decide +kernel
set_option maxRecDepth 20000 in
theorem i_ST : ∀ w ∈ u_ws R_ST F_ST 18, w ∈ lw_tbl := ab_mem_ps _ [614, 616, 618, 620, 622, 624, 626, 628, 630, 632, 634, 636, 638, 640, 642, 644, 646, 648] (by decide +kernel)
def R_SU : String := "PatternWorks$Subject"
def F_SU : u_T := fun k => match k with
  | 0 => ("PatternWorks$Subject", "bytes", "[I", false)
  | 1 => ("PatternWorks$Subject", "codes", "[I", false)
  | 2 => ("PatternWorks$Subject", "rests", "[I", false)
  | 3 => ("PatternWorks$Subject", "holding", "[I", false)
  | _ => ("PatternWorks$Subject", "length", "I", false)
def t_SU : Nat → FieldType := fun k => match k with
  | 0 => .array (.int)
  | 1 => .array (.int)
  | 2 => .array (.int)
  | 3 => .array (.int)
  | _ => .int
theorem t_SU_ok : ∀ k, k < 5 → parseFieldDescriptor (F_SU k).2.2.1 = some (t_SU k) := by decide +kernel
theorem n_SU : ∀ a, a < 5 → ∀ b, b < 5 → a ≠ b → (F_SU a).2.1 ≠ (F_SU b).2.1 := by decide +kernel
set_option maxRecDepth 20000 in
theorem i_SU : ∀ w ∈ u_ws R_SU F_SU 5, w ∈ lw_tbl := ab_mem_ps _ [417, 419, 421, 423, 425] (by decide +kernel)
def R_TX : String := "PatternWorks$Text"
def F_TX : u_T := fun k => match k with
  | 0 => ("PatternWorks$Text", "set", "LPatternWorks$CharSet;", true)
  | 1 => ("PatternWorks$Text", "bytes", "[I", false)
  | 2 => ("PatternWorks$Text", "length", "I", false)
  | 3 => ("PatternWorks$Text", "place", "I", false)
  | 4 => ("PatternWorks$Text", "fault", "I", false)
  | 5 => ("PatternWorks$Text", "faultPlace", "I", false)
  | 6 => ("PatternWorks$Text", "kind", "[I", false)
  | _ => ("PatternWorks$Text", "kindNot", "Z", false)
def t_TX : Nat → FieldType := fun k => match k with
  | 0 => .object "PatternWorks$CharSet"
  | 1 => .array (.int)
  | 2 => .int
  | 3 => .int
  | 4 => .int
  | 5 => .int
  | 6 => .array (.int)
  | _ => .boolean
theorem t_TX_ok : ∀ k, k < 8 → parseFieldDescriptor (F_TX k).2.2.1 = some (t_TX k) := by decide +kernel
theorem n_TX : ∀ a, a < 8 → ∀ b, b < 8 → a ≠ b → (F_TX a).2.1 ≠ (F_TX b).2.1 := by decide +kernel
set_option maxRecDepth 20000 in
theorem i_TX : ∀ w ∈ u_ws R_TX F_TX 8, w ∈ lw_tbl := ab_mem_ps _ [259, 261, 263, 265, 267, 269, 271, 273] (by decide +kernel)
def R_TH : String := "PatternWorks$Threads"
def F_TH : u_T := fun k => match k with
  | 0 => ("PatternWorks$Threads", "spans", "[I", false)
  | 1 => ("PatternWorks$Threads", "work", "[I", true)
  | 2 => ("PatternWorks$Threads", "now", "[I", false)
  | 3 => ("PatternWorks$Threads", "then", "[I", false)
  | 4 => ("PatternWorks$Threads", "nowSpans", "[I", false)
  | 5 => ("PatternWorks$Threads", "thenSpans", "[I", false)
  | 6 => ("PatternWorks$Threads", "nowCount", "I", false)
  | 7 => ("PatternWorks$Threads", "thenCount", "I", false)
  | 8 => ("PatternWorks$Threads", "seen", "[I", true)
  | 9 => ("PatternWorks$Threads", "stamp", "I", false)
  | 10 => ("PatternWorks$Threads", "stack", "[I", true)
  | 11 => ("PatternWorks$Threads", "found", "Z", false)
  | 12 => ("PatternWorks$Threads", "program", "LPatternWorks$Program;", false)
  | 13 => ("PatternWorks$Threads", "subject", "LPatternWorks$Subject;", false)
  | 14 => ("PatternWorks$Threads", "how", "I", false)
  | 15 => ("PatternWorks$Threads", "firstOnly", "Z", false)
  | _ => ("PatternWorks$Threads", "steps", "J", false)
def t_TH : Nat → FieldType := fun k => match k with
  | 0 => .array (.int)
  | 1 => .array (.int)
  | 2 => .array (.int)
  | 3 => .array (.int)
  | 4 => .array (.int)
  | 5 => .array (.int)
  | 6 => .int
  | 7 => .int
  | 8 => .array (.int)
  | 9 => .int
  | 10 => .array (.int)
  | 11 => .boolean
  | 12 => .object "PatternWorks$Program"
  | 13 => .object "PatternWorks$Subject"
  | 14 => .int
  | 15 => .boolean
  | _ => .long
theorem t_TH_ok : ∀ k, k < 17 → parseFieldDescriptor (F_TH k).2.2.1 = some (t_TH k) := by decide +kernel
theorem n_TH : ∀ a, a < 17 → ∀ b, b < 17 → a ≠ b → (F_TH a).2.1 ≠ (F_TH b).2.1 := by decide +kernel
set_option maxRecDepth 20000 in
theorem i_TH : ∀ w ∈ u_ws R_TH F_TH 17, w ∈ lw_tbl := ab_mem_ps _ [452, 454, 456, 458, 460, 462, 464, 466, 468, 470, 472, 474, 476, 478, 480, 482, 484] (by decide +kernel)
def R_MO : String := "PatternWorksModel"
def F_MO : u_T := fun k => match k with
  | 0 => ("PatternWorksModel", "tableAt", "[I", true)
  | 1 => ("PatternWorksModel", "table", "[I", true)
  | 2 => ("PatternWorksModel", "thrown", "I", false)
  | 3 => ("PatternWorksModel", "ready", "[I", true)
  | 4 => ("PatternWorksModel", "tape", "[I", true)
  | 5 => ("PatternWorksModel", "subject", "[I", true)
  | 6 => ("PatternWorksModel", "output", "[I", true)
  | 7 => ("PatternWorksModel", "taped", "I", false)
  | 8 => ("PatternWorksModel", "length", "I", false)
  | 9 => ("PatternWorksModel", "out", "I", false)
  | 10 => ("PatternWorksModel", "wide", "I", false)
  | 11 => ("PatternWorksModel", "gathered", "I", false)
  | 12 => ("PatternWorksModel", "sets", "I", false)
  | 13 => ("PatternWorksModel", "ranges", "I", false)
  | 14 => ("PatternWorksModel", "low", "[I", true)
  | 15 => ("PatternWorksModel", "high", "[I", true)
  | 16 => ("PatternWorksModel", "setAt", "[I", true)
  | 17 => ("PatternWorksModel", "setMany", "[I", true)
  | 18 => ("PatternWorksModel", "rangeLow", "[I", true)
  | 19 => ("PatternWorksModel", "rangeHigh", "[I", true)
  | 20 => ("PatternWorksModel", "marked", "[Z", true)
  | 21 => ("PatternWorksModel", "nodes", "I", false)
  | 22 => ("PatternWorksModel", "kinds", "[I", true)
  | 23 => ("PatternWorksModel", "of", "[I", true)
  | 24 => ("PatternWorksModel", "first", "[I", true)
  | 25 => ("PatternWorksModel", "beside", "[I", true)
  | 26 => ("PatternWorksModel", "least", "[I", true)
  | 27 => ("PatternWorksModel", "most", "[I", true)
  | 28 => ("PatternWorksModel", "sizes", "[J", true)
  | 29 => ("PatternWorksModel", "lazy", "[Z", true)
  | 30 => ("PatternWorksModel", "at", "I", false)
  | 31 => ("PatternWorksModel", "flags", "I", false)
  | 32 => ("PatternWorksModel", "fault", "I", false)
  | 33 => ("PatternWorksModel", "place", "I", false)
  | 34 => ("PatternWorksModel", "numbered", "I", false)
  | 35 => ("PatternWorksModel", "depth", "I", false)
  | 36 => ("PatternWorksModel", "openAt", "[I", true)
  | 37 => ("PatternWorksModel", "openFlags", "[I", true)
  | 38 => ("PatternWorksModel", "openNumber", "[I", true)
  | 39 => ("PatternWorksModel", "rowFirst", "[I", true)
  | 40 => ("PatternWorksModel", "rowLast", "[I", true)
  | 41 => ("PatternWorksModel", "altFirst", "[I", true)
  | 42 => ("PatternWorksModel", "altLast", "[I", true)
  | 43 => ("PatternWorksModel", "stands", "[I", true)
  | 44 => ("PatternWorksModel", "names", "[I", true)
  | 45 => ("PatternWorksModel", "nameMany", "[I", true)
  | 46 => ("PatternWorksModel", "value", "I", false)
  | 47 => ("PatternWorksModel", "isNot", "Z", false)
  | 48 => ("PatternWorksModel", "least0", "I", false)
  | 49 => ("PatternWorksModel", "most0", "I", false)
  | 50 => ("PatternWorksModel", "there", "[Z", true)
  | 51 => ("PatternWorksModel", "entry", "[I", true)
  | 52 => ("PatternWorksModel", "groupsOf", "[I", true)
  | 53 => ("PatternWorksModel", "sizeOf", "[I", true)
  | 54 => ("PatternWorksModel", "flagsOf", "[I", true)
  | 55 => ("PatternWorksModel", "stepMany", "[I", true)
  | 56 => ("PatternWorksModel", "step", "[I", true)
  | 57 => ("PatternWorksModel", "next", "[I", true)
  | 58 => ("PatternWorksModel", "more", "[I", true)
  | 59 => ("PatternWorksModel", "classAt", "[I", true)
  | 60 => ("PatternWorksModel", "classMany", "[I", true)
  | 61 => ("PatternWorksModel", "classLow", "[I", true)
  | 62 => ("PatternWorksModel", "classHigh", "[I", true)
  | 63 => ("PatternWorksModel", "classes", "[I", true)
  | 64 => ("PatternWorksModel", "nameOf", "[I", true)
  | 65 => ("PatternWorksModel", "nameSize", "[I", true)
  | 66 => ("PatternWorksModel", "slot", "I", false)
  | 67 => ("PatternWorksModel", "work", "I", false)
  | 68 => ("PatternWorksModel", "got", "I", false)
  | 69 => ("PatternWorksModel", "rowMany", "I", false)
  | 70 => ("PatternWorksModel", "workPart", "[I", true)
  | 71 => ("PatternWorksModel", "workDeep", "[I", true)
  | 72 => ("PatternWorksModel", "workTo", "[I", true)
  | 73 => ("PatternWorksModel", "workGot", "[I", true)
  | 74 => ("PatternWorksModel", "workStage", "[I", true)
  | 75 => ("PatternWorksModel", "rows", "[I", true)
  | 76 => ("PatternWorksModel", "can", "[J", true)
  | 77 => ("PatternWorksModel", "just", "[J", true)
  | 78 => ("PatternWorksModel", "come", "[J", true)
  | 79 => ("PatternWorksModel", "now", "[Z", true)
  | 80 => ("PatternWorksModel", "charAt", "I", false)
  | 81 => ("PatternWorksModel", "charWide", "I", false)
  | 82 => ("PatternWorksModel", "spans", "[I", true)
  | 83 => ("PatternWorksModel", "kept", "[I", true)
  | 84 => ("PatternWorksModel", "trailSlot", "[I", true)
  | 85 => ("PatternWorksModel", "trailOld", "[I", true)
  | 86 => ("PatternWorksModel", "pile", "[I", true)
  | 87 => ("PatternWorksModel", "pileTrail", "[I", true)
  | 88 => ("PatternWorksModel", "seen", "[Z", true)
  | 89 => ("PatternWorksModel", "trail", "I", false)
  | 90 => ("PatternWorksModel", "isMatch", "Z", false)
  | 91 => ("PatternWorksModel", "matchGroups", "I", false)
  | 92 => ("PatternWorksModel", "allFrom", "I", false)
  | 93 => ("PatternWorksModel", "allBefore", "I", false)
  | 94 => ("PatternWorksModel", "founds", "I", false)
  | 95 => ("PatternWorksModel", "pieces", "I", false)
  | 96 => ("PatternWorksModel", "foundAt", "[I", true)
  | 97 => ("PatternWorksModel", "pieceAt", "[I", true)
  | 98 => ("PatternWorksModel", "written", "[I", true)
  | 99 => ("PatternWorksModel", "writtenMany", "I", false)
  | 100 => ("PatternWorksModel", "templateWide", "I", false)
  | _ => ("PatternWorksModel", "tooMuch", "Z", false)
def t_MO : Nat → FieldType := fun k => match k with
  | 0 => .array (.int)
  | 1 => .array (.int)
  | 2 => .int
  | 3 => .array (.int)
  | 4 => .array (.int)
  | 5 => .array (.int)
  | 6 => .array (.int)
  | 7 => .int
  | 8 => .int
  | 9 => .int
  | 10 => .int
  | 11 => .int
  | 12 => .int
  | 13 => .int
  | 14 => .array (.int)
  | 15 => .array (.int)
  | 16 => .array (.int)
  | 17 => .array (.int)
  | 18 => .array (.int)
  | 19 => .array (.int)
  | 20 => .array (.boolean)
  | 21 => .int
  | 22 => .array (.int)
  | 23 => .array (.int)
  | 24 => .array (.int)
  | 25 => .array (.int)
  | 26 => .array (.int)
  | 27 => .array (.int)
  | 28 => .array (.long)
  | 29 => .array (.boolean)
  | 30 => .int
  | 31 => .int
  | 32 => .int
  | 33 => .int
  | 34 => .int
  | 35 => .int
  | 36 => .array (.int)
  | 37 => .array (.int)
  | 38 => .array (.int)
  | 39 => .array (.int)
  | 40 => .array (.int)
  | 41 => .array (.int)
  | 42 => .array (.int)
  | 43 => .array (.int)
  | 44 => .array (.int)
  | 45 => .array (.int)
  | 46 => .int
  | 47 => .boolean
  | 48 => .int
  | 49 => .int
  | 50 => .array (.boolean)
  | 51 => .array (.int)
  | 52 => .array (.int)
  | 53 => .array (.int)
  | 54 => .array (.int)
  | 55 => .array (.int)
  | 56 => .array (.int)
  | 57 => .array (.int)
  | 58 => .array (.int)
  | 59 => .array (.int)
  | 60 => .array (.int)
  | 61 => .array (.int)
  | 62 => .array (.int)
  | 63 => .array (.int)
  | 64 => .array (.int)
  | 65 => .array (.int)
  | 66 => .int
  | 67 => .int
  | 68 => .int
  | 69 => .int
  | 70 => .array (.int)
  | 71 => .array (.int)
  | 72 => .array (.int)
  | 73 => .array (.int)
  | 74 => .array (.int)
  | 75 => .array (.int)
  | 76 => .array (.long)
  | 77 => .array (.long)
  | 78 => .array (.long)
  | 79 => .array (.boolean)
  | 80 => .int
  | 81 => .int
  | 82 => .array (.int)
  | 83 => .array (.int)
  | 84 => .array (.int)
  | 85 => .array (.int)
  | 86 => .array (.int)
  | 87 => .array (.int)
  | 88 => .array (.boolean)
  | 89 => .int
  | 90 => .boolean
  | 91 => .int
  | 92 => .int
  | 93 => .int
  | 94 => .int
  | 95 => .int
  | 96 => .array (.int)
  | 97 => .array (.int)
  | 98 => .array (.int)
  | 99 => .int
  | 100 => .int
  | _ => .boolean
theorem t_MO_ok : ∀ k, k < 102 → parseFieldDescriptor (F_MO k).2.2.1 = some (t_MO k) := by decide +kernel
theorem n_MO : ∀ a, a < 102 → ∀ b, b < 102 → a ≠ b → (F_MO a).2.1 ≠ (F_MO b).2.1 := by decide +kernel
set_option maxRecDepth 20000 in
theorem i_MO : ∀ w ∈ u_ws R_MO F_MO 102, w ∈ lw_tbl := ab_mem_ps _ [1955, 1957, 1959, 1961, 1963, 1965, 1967, 1969, 1971, 1973, 1975, 1977, 1979, 1981, 1983, 1985, 1987, 1989, 1991, 1993, 1995, 1997, 1999, 2001, 2003, 2005, 2007, 2009, 2011, 2013, 2015, 2017, 2019, 2021, 2023, 2025, 2027, 2029, 2031, 2033, 2035, 2037, 2039, 2041, 2043, 2045, 2047, 2049, 2051, 2053, 2055, 2057, 2059, 2061, 2063, 2065, 2067, 2069, 2071, 2073, 2075, 2077, 2079, 2081, 2083, 2085, 2087, 2089, 2091, 2093, 2095, 2097, 2099, 2101, 2103, 2105, 2107, 2109, 2111, 2113, 2115, 2117, 2119, 2121, 2123, 2125, 2127, 2129, 2131, 2133, 2135, 2137, 2139, 2141, 2143, 2145, 2147, 2149, 2151, 2153, 2155, 2157] (by decide +kernel)
def R_IA : String := "java/lang/IllegalArgumentException"
def F_IA : u_T := fun _ => ("java/lang/Throwable", "detailMessage", "Ljava/lang/String;", false)
/-- the classes whose objects the worlds hold, by number -/
def classes : List vw_C := [(R_PW, F_PW, 18), (R_CS, F_CS, 2), (R_MK, F_MK, 13), (R_OM, F_OM, 15), (R_PA, F_PA, 15), (R_PR, F_PR, 16), (R_RD, F_RD, 10), (R_RW, F_RW, 3), (R_ST, F_ST, 18), (R_SU, F_SU, 5), (R_TX, F_TX, 8), (R_TH, F_TH, 17), (R_MO, F_MO, 102), (R_IA, F_IA, 0)]
/-- the slots of an object, by the number of its class -/
def ab_csz : List Nat := [18, 2, 13, 15, 15, 16, 10, 3, 18, 5, 8, 17, 102, 6]
theorem c_PW : classes[0]? = some (R_PW, F_PW, 18) := rfl
theorem c_CS : classes[1]? = some (R_CS, F_CS, 2) := rfl
theorem c_MK : classes[2]? = some (R_MK, F_MK, 13) := rfl
theorem c_OM : classes[3]? = some (R_OM, F_OM, 15) := rfl
theorem c_PA : classes[4]? = some (R_PA, F_PA, 15) := rfl
theorem c_PR : classes[5]? = some (R_PR, F_PR, 16) := rfl
theorem c_RD : classes[6]? = some (R_RD, F_RD, 10) := rfl
theorem c_RW : classes[7]? = some (R_RW, F_RW, 3) := rfl
theorem c_ST : classes[8]? = some (R_ST, F_ST, 18) := rfl
theorem c_SU : classes[9]? = some (R_SU, F_SU, 5) := rfl
theorem c_TX : classes[10]? = some (R_TX, F_TX, 8) := rfl
theorem c_TH : classes[11]? = some (R_TH, F_TH, 17) := rfl
theorem c_MO : classes[12]? = some (R_MO, F_MO, 102) := rfl
