def F_SP : u_T := fun k => match k with
  | 0 => ("ScholarsPress", "tape", "[B", true)
  | 1 => ("ScholarsPress", "tapeLength", "I", false)
  | 2 => ("ScholarsPress", "brokenAt", "I", false)
  | 3 => ("ScholarsPress", "signs", "LScholarsPress$Signs;", true)
  | 4 => ("ScholarsPress", "sourceNow", "LScholarsPress$Source;", false)
  | 5 => ("ScholarsPress", "sourceSpare", "LScholarsPress$Source;", false)
  | 6 => ("ScholarsPress", "styleNow", "LScholarsPress$Style;", false)
  | 7 => ("ScholarsPress", "styleSpare", "LScholarsPress$Style;", false)
  | 8 => ("ScholarsPress", "fontNow", "LScholarsPress$Font;", false)
  | 9 => ("ScholarsPress", "fontSpare", "LScholarsPress$Font;", false)
  | 10 => ("ScholarsPress", "hyphensNow", "LScholarsPress$Hyphens;", false)
  | 11 => ("ScholarsPress", "hyphensSpare", "LScholarsPress$Hyphens;", false)
  | 12 => ("ScholarsPress", "looks", "LScholarsPress$Looks;", false)
  | 13 => ("ScholarsPress", "looksFresh", "Z", false)
  | 14 => ("ScholarsPress", "pagesNow", "LScholarsPress$Pages;", false)
  | 15 => ("ScholarsPress", "pagesSpare", "LScholarsPress$Pages;", false)
  | 16 => ("ScholarsPress", "writer", "LScholarsPress$Writer;", false)
  | 17 => ("ScholarsPress", "breaker", "LScholarsPress$Breaker;", false)
  | 18 => ("ScholarsPress", "stacker", "LScholarsPress$Stacker;", false)
  | 19 => ("ScholarsPress", "out", "[B", false)
  | _ => ("ScholarsPress", "outLength", "I", false)
def t_SP : Nat → FieldType := fun k => match k with
  | 0 => .array .byte
  | 1 => .int
  | 2 => .int
  | 3 => .object "ScholarsPress$Signs"
  | 4 => .object "ScholarsPress$Source"
  | 5 => .object "ScholarsPress$Source"
  | 6 => .object "ScholarsPress$Style"
  | 7 => .object "ScholarsPress$Style"
  | 8 => .object "ScholarsPress$Font"
  | 9 => .object "ScholarsPress$Font"
  | 10 => .object "ScholarsPress$Hyphens"
  | 11 => .object "ScholarsPress$Hyphens"
  | 12 => .object "ScholarsPress$Looks"
  | 13 => .boolean
  | 14 => .object "ScholarsPress$Pages"
  | 15 => .object "ScholarsPress$Pages"
  | 16 => .object "ScholarsPress$Writer"
  | 17 => .object "ScholarsPress$Breaker"
  | 18 => .object "ScholarsPress$Stacker"
  | 19 => .array .byte
  | _ => .int
theorem n_SP : ∀ a, a < 21 → ∀ b, b < 21 → a ≠ b → (F_SP a).2.1 ≠ (F_SP b).2.1 := by decide +kernel
theorem t_SP_ok : ∀ k, k < 21 → parseFieldDescriptor (F_SP k).2.2.1 = some (t_SP k) := by decide +kernel
theorem in_SP : ∀ w ∈ u_ws "ScholarsPress" F_SP 21, w ∈ tt := tt_in [521, 523, 525, 527, 529, 531, 533, 535, 537, 539, 541, 543, 545, 547, 549, 551, 553, 555, 557, 559, 561] (by decide +kernel) (by decide +kernel)
def F_PSigns : u_T := fun k => match k with
  | 0 => ("ScholarsPress$Signs", "text", "[B", false)
  | 1 => ("ScholarsPress$Signs", "length", "I", false)
  | 2 => ("ScholarsPress$Signs", "at", "I", false)
  | 3 => ("ScholarsPress$Signs", "kind", "I", false)
  | 4 => ("ScholarsPress$Signs", "start", "I", false)
  | 5 => ("ScholarsPress$Signs", "stop", "I", false)
  | 6 => ("ScholarsPress$Signs", "number", "I", false)
  | _ => ("ScholarsPress$Signs", "name", "J", false)
def t_PSigns : Nat → FieldType := fun k => match k with
  | 0 => .array .byte
  | 1 => .int
  | 2 => .int
  | 3 => .int
  | 4 => .int
  | 5 => .int
  | 6 => .int
  | _ => .long
theorem n_PSigns : ∀ a, a < 8 → ∀ b, b < 8 → a ≠ b → (F_PSigns a).2.1 ≠ (F_PSigns b).2.1 := by decide +kernel
theorem t_PSigns_ok : ∀ k, k < 8 → parseFieldDescriptor (F_PSigns k).2.2.1 = some (t_PSigns k) := by decide +kernel
theorem in_PSigns : ∀ w ∈ u_ws "ScholarsPress$Signs" F_PSigns 8, w ∈ tt := tt_in [321, 323, 325, 327, 329, 331, 333, 335] (by decide +kernel) (by decide +kernel)
def F_PStyle : u_T := fun k => match k with
  | 0 => ("ScholarsPress$Style", "text", "[B", true)
  | 1 => ("ScholarsPress$Style", "page", "[I", true)
  | 2 => ("ScholarsPress$Style", "selectors", "I", false)
  | 3 => ("ScholarsPress$Style", "selector", "[I", true)
  | 4 => ("ScholarsPress$Style", "steps", "I", false)
  | 5 => ("ScholarsPress$Style", "stepNames", "[J", true)
  | 6 => ("ScholarsPress$Style", "step", "[I", true)
  | 7 => ("ScholarsPress$Style", "conditions", "I", false)
  | 8 => ("ScholarsPress$Style", "conditionNames", "[J", true)
  | 9 => ("ScholarsPress$Style", "condition", "[I", true)
  | 10 => ("ScholarsPress$Style", "told", "I", false)
  | 11 => ("ScholarsPress$Style", "toldProperty", "[I", true)
  | 12 => ("ScholarsPress$Style", "toldValue", "[I", true)
  | 13 => ("ScholarsPress$Style", "counters", "I", false)
  | _ => ("ScholarsPress$Style", "counterNames", "[J", true)
def t_PStyle : Nat → FieldType := fun k => match k with
  | 0 => .array .byte
  | 1 => .array .int
  | 2 => .int
  | 3 => .array .int
  | 4 => .int
  | 5 => .array .long
  | 6 => .array .int
  | 7 => .int
  | 8 => .array .long
  | 9 => .array .int
  | 10 => .int
  | 11 => .array .int
  | 12 => .array .int
  | 13 => .int
  | _ => .array .long
theorem n_PStyle : ∀ a, a < 15 → ∀ b, b < 15 → a ≠ b → (F_PStyle a).2.1 ≠ (F_PStyle b).2.1 := by decide +kernel
theorem t_PStyle_ok : ∀ k, k < 15 → parseFieldDescriptor (F_PStyle k).2.2.1 = some (t_PStyle k) := by decide +kernel
theorem in_PStyle : ∀ w ∈ u_ws "ScholarsPress$Style" F_PStyle 15, w ∈ tt := tt_in [377, 379, 381, 383, 385, 387, 389, 391, 393, 395, 397, 399, 401, 403, 405] (by decide +kernel) (by decide +kernel)
def F_PFont : u_T := fun k => match k with
  | 0 => ("ScholarsPress$Font", "widths", "[I", true)
  | 1 => ("ScholarsPress$Font", "told", "[Z", true)
  | 2 => ("ScholarsPress$Font", "widthsTold", "I", false)
  | 3 => ("ScholarsPress$Font", "keys", "[I", true)
  | 4 => ("ScholarsPress$Font", "values", "[I", true)
  | 5 => ("ScholarsPress$Font", "slots", "[I", true)
  | 6 => ("ScholarsPress$Font", "pairs", "I", false)
  | _ => ("ScholarsPress$Font", "kerns", "I", false)
def t_PFont : Nat → FieldType := fun k => match k with
  | 0 => .array .int
  | 1 => .array .boolean
  | 2 => .int
  | 3 => .array .int
  | 4 => .array .int
  | 5 => .array .int
  | 6 => .int
  | _ => .int
theorem n_PFont : ∀ a, a < 8 → ∀ b, b < 8 → a ≠ b → (F_PFont a).2.1 ≠ (F_PFont b).2.1 := by decide +kernel
theorem t_PFont_ok : ∀ k, k < 8 → parseFieldDescriptor (F_PFont k).2.2.1 = some (t_PFont k) := by decide +kernel
theorem in_PFont : ∀ w ∈ u_ws "ScholarsPress$Font" F_PFont 8, w ∈ tt := tt_in [429, 431, 433, 435, 437, 439, 441, 443] (by decide +kernel) (by decide +kernel)
def F_PHyphens : u_T := fun k => match k with
  | 0 => ("ScholarsPress$Hyphens", "at", "I", false)
  | 1 => ("ScholarsPress$Hyphens", "ahead", "I", false)
  | 2 => ("ScholarsPress$Hyphens", "behind", "I", false)
  | 3 => ("ScholarsPress$Hyphens", "endsDue", "Z", false)
  | 4 => ("ScholarsPress$Hyphens", "patterns", "I", false)
  | 5 => ("ScholarsPress$Hyphens", "signs", "[B", true)
  | 6 => ("ScholarsPress$Hyphens", "digits", "[B", true)
  | 7 => ("ScholarsPress$Hyphens", "sizes", "[I", true)
  | 8 => ("ScholarsPress$Hyphens", "links", "[I", true)
  | 9 => ("ScholarsPress$Hyphens", "heads", "[I", true)
  | 10 => ("ScholarsPress$Hyphens", "exceptions", "I", false)
  | 11 => ("ScholarsPress$Hyphens", "letters", "[B", true)
  | 12 => ("ScholarsPress$Hyphens", "lengths", "[I", true)
  | _ => ("ScholarsPress$Hyphens", "places", "[I", true)
def t_PHyphens : Nat → FieldType := fun k => match k with
  | 0 => .int
  | 1 => .int
  | 2 => .int
  | 3 => .boolean
  | 4 => .int
  | 5 => .array .byte
  | 6 => .array .byte
  | 7 => .array .int
  | 8 => .array .int
  | 9 => .array .int
  | 10 => .int
  | 11 => .array .byte
  | 12 => .array .int
  | _ => .array .int
theorem n_PHyphens : ∀ a, a < 14 → ∀ b, b < 14 → a ≠ b → (F_PHyphens a).2.1 ≠ (F_PHyphens b).2.1 := by decide +kernel
theorem t_PHyphens_ok : ∀ k, k < 14 → parseFieldDescriptor (F_PHyphens k).2.2.1 = some (t_PHyphens k) := by decide +kernel
theorem in_PHyphens : ∀ w ∈ u_ws "ScholarsPress$Hyphens" F_PHyphens 14, w ∈ tt := tt_in [471, 473, 475, 477, 479, 481, 483, 485, 487, 489, 491, 493, 495, 497] (by decide +kernel) (by decide +kernel)
def F_PSource : u_T := fun k => match k with
  | 0 => ("ScholarsPress$Source", "text", "[B", true)
  | 1 => ("ScholarsPress$Source", "length", "I", false)
  | 2 => ("ScholarsPress$Source", "stream", "[I", true)
  | 3 => ("ScholarsPress$Source", "streamLength", "I", false)
  | 4 => ("ScholarsPress$Source", "elements", "I", false)
  | 5 => ("ScholarsPress$Source", "names", "[J", true)
  | 6 => ("ScholarsPress$Source", "facts", "[I", true)
  | 7 => ("ScholarsPress$Source", "fields", "I", false)
  | 8 => ("ScholarsPress$Source", "fieldNames", "[J", true)
  | 9 => ("ScholarsPress$Source", "fieldSpans", "[I", true)
  | 10 => ("ScholarsPress$Source", "entities", "I", false)
  | 11 => ("ScholarsPress$Source", "entityNames", "[J", true)
  | 12 => ("ScholarsPress$Source", "entitySpans", "[I", true)
  | 13 => ("ScholarsPress$Source", "at", "I", false)
  | 14 => ("ScholarsPress$Source", "open", "I", false)
  | 15 => ("ScholarsPress$Source", "depth", "I", false)
  | 16 => ("ScholarsPress$Source", "lastTop", "I", false)
  | 17 => ("ScholarsPress$Source", "name", "J", false)
  | 18 => ("ScholarsPress$Source", "signAt", "I", false)
  | _ => ("ScholarsPress$Source", "signStop", "I", false)
def t_PSource : Nat → FieldType := fun k => match k with
  | 0 => .array .byte
  | 1 => .int
  | 2 => .array .int
  | 3 => .int
  | 4 => .int
  | 5 => .array .long
  | 6 => .array .int
  | 7 => .int
  | 8 => .array .long
  | 9 => .array .int
  | 10 => .int
  | 11 => .array .long
  | 12 => .array .int
  | 13 => .int
  | 14 => .int
  | 15 => .int
  | 16 => .int
  | 17 => .long
  | 18 => .int
  | _ => .int
theorem n_PSource : ∀ a, a < 20 → ∀ b, b < 20 → a ≠ b → (F_PSource a).2.1 ≠ (F_PSource b).2.1 := by decide +kernel
theorem t_PSource_ok : ∀ k, k < 20 → parseFieldDescriptor (F_PSource k).2.2.1 = some (t_PSource k) := by decide +kernel
theorem in_PSource : ∀ w ∈ u_ws "ScholarsPress$Source" F_PSource 20, w ∈ tt := tt_in [1253, 1255, 1257, 1259, 1261, 1263, 1265, 1267, 1269, 1271, 1273, 1275, 1277, 1279, 1281, 1283, 1285, 1287, 1289, 1291] (by decide +kernel) (by decide +kernel)
def F_SM : u_T := fun k => match k with
  | 0 => ("ScholarsPressModel", "thrown", "I", false)
  | 1 => ("ScholarsPressModel", "place", "I", false)
  | 2 => ("ScholarsPressModel", "tape", "[B", true)
  | 3 => ("ScholarsPressModel", "taped", "I", false)
  | 4 => ("ScholarsPressModel", "letters", "LScholarsPressModel$Letters;", false)
  | 5 => ("ScholarsPressModel", "letters2", "LScholarsPressModel$Letters;", false)
  | 6 => ("ScholarsPressModel", "parting", "LScholarsPressModel$Parting;", false)
  | 7 => ("ScholarsPressModel", "parting2", "LScholarsPressModel$Parting;", false)
  | 8 => ("ScholarsPressModel", "style", "LScholarsPressModel$Style;", false)
  | 9 => ("ScholarsPressModel", "style2", "LScholarsPressModel$Style;", false)
  | 10 => ("ScholarsPressModel", "source", "LScholarsPressModel$Source;", false)
  | 11 => ("ScholarsPressModel", "source2", "LScholarsPressModel$Source;", false)
  | 12 => ("ScholarsPressModel", "joined", "[B", true)
  | 13 => ("ScholarsPressModel", "tree", "LScholarsPressModel$Tree;", true)
  | 14 => ("ScholarsPressModel", "treeIs", "Z", false)
  | 15 => ("ScholarsPressModel", "setting", "LScholarsPressModel$Setting;", false)
  | 16 => ("ScholarsPressModel", "other", "LScholarsPressModel$Setting;", false)
  | 17 => ("ScholarsPressModel", "isSet", "Z", false)
  | 18 => ("ScholarsPressModel", "out", "[B", false)
  | 19 => ("ScholarsPressModel", "outLong", "I", false)
  | 20 => ("ScholarsPressModel", "made", "[B", false)
  | 21 => ("ScholarsPressModel", "madeLong", "I", false)
  | _ => ("ScholarsPressModel", "chosen", "[I", true)
def t_SM : Nat → FieldType := fun k => match k with
  | 0 => .int
  | 1 => .int
  | 2 => .array .byte
  | 3 => .int
  | 4 => .object "ScholarsPressModel$Letters"
  | 5 => .object "ScholarsPressModel$Letters"
  | 6 => .object "ScholarsPressModel$Parting"
  | 7 => .object "ScholarsPressModel$Parting"
  | 8 => .object "ScholarsPressModel$Style"
  | 9 => .object "ScholarsPressModel$Style"
  | 10 => .object "ScholarsPressModel$Source"
  | 11 => .object "ScholarsPressModel$Source"
  | 12 => .array .byte
  | 13 => .object "ScholarsPressModel$Tree"
  | 14 => .boolean
  | 15 => .object "ScholarsPressModel$Setting"
  | 16 => .object "ScholarsPressModel$Setting"
  | 17 => .boolean
  | 18 => .array .byte
  | 19 => .int
  | 20 => .array .byte
  | 21 => .int
  | _ => .array .int
theorem n_SM : ∀ a, a < 23 → ∀ b, b < 23 → a ≠ b → (F_SM a).2.1 ≠ (F_SM b).2.1 := by decide +kernel
theorem t_SM_ok : ∀ k, k < 23 → parseFieldDescriptor (F_SM k).2.2.1 = some (t_SM k) := by decide +kernel
theorem in_SM : ∀ w ∈ u_ws "ScholarsPressModel" F_SM 23, w ∈ tt := tt_in [3703, 3705, 3707, 3709, 3711, 3713, 3715, 3717, 3719, 3721, 3723, 3725, 3727, 3729, 3731, 3733, 3735, 3737, 3739, 3741, 3743, 3745, 3747] (by decide +kernel) (by decide +kernel)
def F_MLetters : u_T := fun k => match k with
  | 0 => ("ScholarsPressModel$Letters", "width", "[I", true)
  | 1 => ("ScholarsPressModel$Letters", "told", "[Z", true)
  | 2 => ("ScholarsPressModel$Letters", "kerns", "I", false)
  | 3 => ("ScholarsPressModel$Letters", "joins", "I", false)
  | 4 => ("ScholarsPressModel$Letters", "kernOf", "[I", true)
  | 5 => ("ScholarsPressModel$Letters", "kern", "[I", true)
  | 6 => ("ScholarsPressModel$Letters", "joinOf", "[I", true)
  | 7 => ("ScholarsPressModel$Letters", "join", "[I", true)
  | _ => ("ScholarsPressModel$Letters", "signs", "LScholarsPressModel$Signs;", true)
def t_MLetters : Nat → FieldType := fun k => match k with
  | 0 => .array .int
  | 1 => .array .boolean
  | 2 => .int
  | 3 => .int
  | 4 => .array .int
  | 5 => .array .int
  | 6 => .array .int
  | 7 => .array .int
  | _ => .object "ScholarsPressModel$Signs"
theorem n_MLetters : ∀ a, a < 9 → ∀ b, b < 9 → a ≠ b → (F_MLetters a).2.1 ≠ (F_MLetters b).2.1 := by decide +kernel
theorem t_MLetters_ok : ∀ k, k < 9 → parseFieldDescriptor (F_MLetters k).2.2.1 = some (t_MLetters k) := by decide +kernel
theorem in_MLetters : ∀ w ∈ u_ws "ScholarsPressModel$Letters" F_MLetters 9, w ∈ tt := tt_in [2764, 2766, 2768, 2770, 2772, 2774, 2776, 2778, 2780] (by decide +kernel) (by decide +kernel)
def F_MSigns : u_T := fun k => match k with
  | 0 => ("ScholarsPressModel$Signs", "text", "[B", false)
  | 1 => ("ScholarsPressModel$Signs", "length", "I", false)
  | 2 => ("ScholarsPressModel$Signs", "at", "I", false)
  | 3 => ("ScholarsPressModel$Signs", "kind", "I", false)
  | 4 => ("ScholarsPressModel$Signs", "from", "I", false)
  | 5 => ("ScholarsPressModel$Signs", "to", "I", false)
  | 6 => ("ScholarsPressModel$Signs", "number", "I", false)
  | _ => ("ScholarsPressModel$Signs", "byteOf", "I", false)
def t_MSigns : Nat → FieldType := fun k => match k with
  | 0 => .array .byte
  | 1 => .int
  | 2 => .int
  | 3 => .int
  | 4 => .int
  | 5 => .int
  | 6 => .int
  | _ => .int
theorem n_MSigns : ∀ a, a < 8 → ∀ b, b < 8 → a ≠ b → (F_MSigns a).2.1 ≠ (F_MSigns b).2.1 := by decide +kernel
theorem t_MSigns_ok : ∀ k, k < 8 → parseFieldDescriptor (F_MSigns k).2.2.1 = some (t_MSigns k) := by decide +kernel
theorem in_MSigns : ∀ w ∈ u_ws "ScholarsPressModel$Signs" F_MSigns 8, w ∈ tt := tt_in [2733, 2735, 2737, 2739, 2741, 2743, 2745, 2747] (by decide +kernel) (by decide +kernel)
def F_MParting : u_T := fun k => match k with
  | 0 => ("ScholarsPressModel$Parting", "ahead", "I", false)
  | 1 => ("ScholarsPressModel$Parting", "behind", "I", false)
  | 2 => ("ScholarsPressModel$Parting", "patterns", "I", false)
  | 3 => ("ScholarsPressModel$Parting", "exceptions", "I", false)
  | 4 => ("ScholarsPressModel$Parting", "sign", "[B", true)
  | 5 => ("ScholarsPressModel$Parting", "signs", "[I", true)
  | 6 => ("ScholarsPressModel$Parting", "digit", "[B", true)
  | 7 => ("ScholarsPressModel$Parting", "letter", "[B", true)
  | 8 => ("ScholarsPressModel$Parting", "long_", "[I", true)
  | 9 => ("ScholarsPressModel$Parting", "mark", "[Z", true)
  | 10 => ("ScholarsPressModel$Parting", "nowSign", "[B", true)
  | 11 => ("ScholarsPressModel$Parting", "nowDigit", "[B", true)
  | 12 => ("ScholarsPressModel$Parting", "nowLong", "I", false)
  | _ => ("ScholarsPressModel$Parting", "nowMark", "[Z", true)
def t_MParting : Nat → FieldType := fun k => match k with
  | 0 => .int
  | 1 => .int
  | 2 => .int
  | 3 => .int
  | 4 => .array .byte
  | 5 => .array .int
  | 6 => .array .byte
  | 7 => .array .byte
  | 8 => .array .int
  | 9 => .array .boolean
  | 10 => .array .byte
  | 11 => .array .byte
  | 12 => .int
  | _ => .array .boolean
theorem n_MParting : ∀ a, a < 14 → ∀ b, b < 14 → a ≠ b → (F_MParting a).2.1 ≠ (F_MParting b).2.1 := by decide +kernel
theorem t_MParting_ok : ∀ k, k < 14 → parseFieldDescriptor (F_MParting k).2.2.1 = some (t_MParting k) := by decide +kernel
theorem in_MParting : ∀ w ∈ u_ws "ScholarsPressModel$Parting" F_MParting 14, w ∈ tt := tt_in [2805, 2807, 2809, 2811, 2813, 2815, 2817, 2819, 2821, 2823, 2825, 2827, 2829, 2831] (by decide +kernel) (by decide +kernel)
def F_MStyle : u_T := fun k => match k with
  | 0 => ("ScholarsPressModel$Style", "text", "[B", true)
  | 1 => ("ScholarsPressModel$Style", "signs", "LScholarsPressModel$Signs;", true)
  | 2 => ("ScholarsPressModel$Style", "page", "[I", true)
  | 3 => ("ScholarsPressModel$Style", "selectors", "I", false)
  | 4 => ("ScholarsPressModel$Style", "steps", "I", false)
  | 5 => ("ScholarsPressModel$Style", "tests", "I", false)
  | 6 => ("ScholarsPressModel$Style", "bodies", "I", false)
  | 7 => ("ScholarsPressModel$Style", "props", "I", false)
  | 8 => ("ScholarsPressModel$Style", "counters", "I", false)
  | 9 => ("ScholarsPressModel$Style", "selectorFrom", "[I", true)
  | 10 => ("ScholarsPressModel$Style", "selectorBody", "[I", true)
  | 11 => ("ScholarsPressModel$Style", "stepName", "[I", true)
  | 12 => ("ScholarsPressModel$Style", "stepEnd", "[I", true)
  | 13 => ("ScholarsPressModel$Style", "stepLink", "[I", true)
  | 14 => ("ScholarsPressModel$Style", "stepTests", "[I", true)
  | 15 => ("ScholarsPressModel$Style", "test", "[I", true)
  | 16 => ("ScholarsPressModel$Style", "testName", "[I", true)
  | 17 => ("ScholarsPressModel$Style", "testEnd", "[I", true)
  | 18 => ("ScholarsPressModel$Style", "testText", "[I", true)
  | 19 => ("ScholarsPressModel$Style", "testTextEnd", "[I", true)
  | 20 => ("ScholarsPressModel$Style", "testNumber", "[I", true)
  | 21 => ("ScholarsPressModel$Style", "bodyFrom", "[I", true)
  | 22 => ("ScholarsPressModel$Style", "prop", "[I", true)
  | 23 => ("ScholarsPressModel$Style", "value", "[I", true)
  | 24 => ("ScholarsPressModel$Style", "label", "[I", true)
  | 25 => ("ScholarsPressModel$Style", "labelEnd", "[I", true)
  | 26 => ("ScholarsPressModel$Style", "counter", "[I", true)
  | _ => ("ScholarsPressModel$Style", "counterEnd", "[I", true)
def t_MStyle : Nat → FieldType := fun k => match k with
  | 0 => .array .byte
  | 1 => .object "ScholarsPressModel$Signs"
  | 2 => .array .int
  | 3 => .int
  | 4 => .int
  | 5 => .int
  | 6 => .int
  | 7 => .int
  | 8 => .int
  | 9 => .array .int
  | 10 => .array .int
  | 11 => .array .int
  | 12 => .array .int
  | 13 => .array .int
  | 14 => .array .int
  | 15 => .array .int
  | 16 => .array .int
  | 17 => .array .int
  | 18 => .array .int
  | 19 => .array .int
  | 20 => .array .int
  | 21 => .array .int
  | 22 => .array .int
  | 23 => .array .int
  | 24 => .array .int
  | 25 => .array .int
  | 26 => .array .int
  | _ => .array .int
theorem n_MStyle : ∀ a, a < 28 → ∀ b, b < 28 → a ≠ b → (F_MStyle a).2.1 ≠ (F_MStyle b).2.1 := by decide +kernel
theorem t_MStyle_ok : ∀ k, k < 28 → parseFieldDescriptor (F_MStyle k).2.2.1 = some (t_MStyle k) := by decide +kernel
theorem in_MStyle : ∀ w ∈ u_ws "ScholarsPressModel$Style" F_MStyle 28, w ∈ tt := tt_in [2897, 2899, 2901, 2903, 2905, 2907, 2909, 2911, 2913, 2915, 2917, 2919, 2921, 2923, 2925, 2927, 2929, 2931, 2933, 2935, 2937, 2939, 2941, 2943, 2945, 2947, 2949, 2951] (by decide +kernel) (by decide +kernel)
def F_MSource : u_T := fun k => match k with
  | 0 => ("ScholarsPressModel$Source", "text", "[B", true)
  | 1 => ("ScholarsPressModel$Source", "length", "I", false)
  | 2 => ("ScholarsPressModel$Source", "items", "I", false)
  | 3 => ("ScholarsPressModel$Source", "elements", "I", false)
  | 4 => ("ScholarsPressModel$Source", "entities", "I", false)
  | 5 => ("ScholarsPressModel$Source", "there", "Z", false)
  | 6 => ("ScholarsPressModel$Source", "item", "[I", true)
  | 7 => ("ScholarsPressModel$Source", "itemA", "[I", true)
  | 8 => ("ScholarsPressModel$Source", "itemB", "[I", true)
  | 9 => ("ScholarsPressModel$Source", "from", "[I", true)
  | 10 => ("ScholarsPressModel$Source", "to", "[I", true)
  | 11 => ("ScholarsPressModel$Source", "parent", "[I", true)
  | 12 => ("ScholarsPressModel$Source", "name", "[I", true)
  | 13 => ("ScholarsPressModel$Source", "nameEnd", "[I", true)
  | 14 => ("ScholarsPressModel$Source", "fields", "[I", true)
  | 15 => ("ScholarsPressModel$Source", "begin", "[I", true)
  | 16 => ("ScholarsPressModel$Source", "end", "[I", true)
  | 17 => ("ScholarsPressModel$Source", "field", "[I", true)
  | 18 => ("ScholarsPressModel$Source", "fieldEnd", "[I", true)
  | 19 => ("ScholarsPressModel$Source", "string", "[I", true)
  | 20 => ("ScholarsPressModel$Source", "stringEnd", "[I", true)
  | 21 => ("ScholarsPressModel$Source", "entity", "[I", true)
  | 22 => ("ScholarsPressModel$Source", "entityEnd", "[I", true)
  | 23 => ("ScholarsPressModel$Source", "entityText", "[I", true)
  | 24 => ("ScholarsPressModel$Source", "entityTextEnd", "[I", true)
  | 25 => ("ScholarsPressModel$Source", "at", "I", false)
  | 26 => ("ScholarsPressModel$Source", "open", "I", false)
  | _ => ("ScholarsPressModel$Source", "depth", "I", false)
def t_MSource : Nat → FieldType := fun k => match k with
  | 0 => .array .byte
  | 1 => .int
  | 2 => .int
  | 3 => .int
  | 4 => .int
  | 5 => .boolean
  | 6 => .array .int
  | 7 => .array .int
  | 8 => .array .int
  | 9 => .array .int
  | 10 => .array .int
  | 11 => .array .int
  | 12 => .array .int
  | 13 => .array .int
  | 14 => .array .int
  | 15 => .array .int
  | 16 => .array .int
  | 17 => .array .int
  | 18 => .array .int
  | 19 => .array .int
  | 20 => .array .int
  | 21 => .array .int
  | 22 => .array .int
  | 23 => .array .int
  | 24 => .array .int
  | 25 => .int
  | 26 => .int
  | _ => .int
theorem n_MSource : ∀ a, a < 28 → ∀ b, b < 28 → a ≠ b → (F_MSource a).2.1 ≠ (F_MSource b).2.1 := by decide +kernel
theorem t_MSource_ok : ∀ k, k < 28 → parseFieldDescriptor (F_MSource k).2.2.1 = some (t_MSource k) := by decide +kernel
theorem in_MSource : ∀ w ∈ u_ws "ScholarsPressModel$Source" F_MSource 28, w ∈ tt := tt_in [3021, 3023, 3025, 3027, 3029, 3031, 3033, 3035, 3037, 3039, 3041, 3043, 3045, 3047, 3049, 3051, 3053, 3055, 3057, 3059, 3061, 3063, 3065, 3067, 3069, 3071, 3073, 3075] (by decide +kernel) (by decide +kernel)
def F_MTree : u_T := fun k => match k with
  | 0 => ("ScholarsPressModel$Tree", "s", "LScholarsPressModel$Source;", true)
  | 1 => ("ScholarsPressModel$Tree", "styleText", "[B", true)
  | 2 => ("ScholarsPressModel$Tree", "page", "[I", true)
  | 3 => ("ScholarsPressModel$Tree", "prop", "[I", true)
  | 4 => ("ScholarsPressModel$Tree", "label", "[I", true)
  | 5 => ("ScholarsPressModel$Tree", "labelEnd", "[I", true)
  | 6 => ("ScholarsPressModel$Tree", "value", "[I", true)
  | 7 => ("ScholarsPressModel$Tree", "cellsIn", "[I", true)
  | 8 => ("ScholarsPressModel$Tree", "cellNo", "[I", true)
  | 9 => ("ScholarsPressModel$Tree", "shown", "[Z", true)
  | 10 => ("ScholarsPressModel$Tree", "inFlow", "[Z", true)
  | 11 => ("ScholarsPressModel$Tree", "note", "[Z", true)
  | 12 => ("ScholarsPressModel$Tree", "block", "[Z", true)
  | 13 => ("ScholarsPressModel$Tree", "table", "[Z", true)
  | 14 => ("ScholarsPressModel$Tree", "row", "[Z", true)
  | 15 => ("ScholarsPressModel$Tree", "cell", "[Z", true)
  | 16 => ("ScholarsPressModel$Tree", "weight", "[I", true)
  | 17 => ("ScholarsPressModel$Tree", "fits", "[Z", true)
  | 18 => ("ScholarsPressModel$Tree", "before", "[Z", true)
  | 19 => ("ScholarsPressModel$Tree", "older", "[I", true)
  | 20 => ("ScholarsPressModel$Tree", "place", "[I", true)
  | 21 => ("ScholarsPressModel$Tree", "many", "[I", true)
  | 22 => ("ScholarsPressModel$Tree", "latest", "[I", true)
  | 23 => ("ScholarsPressModel$Tree", "filled", "[Z", true)
  | 24 => ("ScholarsPressModel$Tree", "counts", "[I", true)
  | 25 => ("ScholarsPressModel$Tree", "digits", "[B", true)
  | 26 => ("ScholarsPressModel$Tree", "worth", "[I", true)
  | 27 => ("ScholarsPressModel$Tree", "title", "[B", false)
  | 28 => ("ScholarsPressModel$Tree", "titleLong", "I", false)
  | _ => ("ScholarsPressModel$Tree", "titleBlank", "Z", false)
def t_MTree : Nat → FieldType := fun k => match k with
  | 0 => .object "ScholarsPressModel$Source"
  | 1 => .array .byte
  | 2 => .array .int
  | 3 => .array .int
  | 4 => .array .int
  | 5 => .array .int
  | 6 => .array .int
  | 7 => .array .int
  | 8 => .array .int
  | 9 => .array .boolean
  | 10 => .array .boolean
  | 11 => .array .boolean
  | 12 => .array .boolean
  | 13 => .array .boolean
  | 14 => .array .boolean
  | 15 => .array .boolean
  | 16 => .array .int
  | 17 => .array .boolean
  | 18 => .array .boolean
  | 19 => .array .int
  | 20 => .array .int
  | 21 => .array .int
  | 22 => .array .int
  | 23 => .array .boolean
  | 24 => .array .int
  | 25 => .array .byte
  | 26 => .array .int
  | 27 => .array .byte
  | 28 => .int
  | _ => .boolean
theorem n_MTree : ∀ a, a < 30 → ∀ b, b < 30 → a ≠ b → (F_MTree a).2.1 ≠ (F_MTree b).2.1 := by decide +kernel
theorem t_MTree_ok : ∀ k, k < 30 → parseFieldDescriptor (F_MTree k).2.2.1 = some (t_MTree k) := by decide +kernel
theorem in_MTree : ∀ w ∈ u_ws "ScholarsPressModel$Tree" F_MTree 30, w ∈ tt := tt_in [3136, 3138, 3140, 3142, 3144, 3146, 3148, 3150, 3152, 3154, 3156, 3158, 3160, 3162, 3164, 3166, 3168, 3170, 3172, 3174, 3176, 3178, 3180, 3182, 3184, 3186, 3188, 3190, 3192, 3194] (by decide +kernel) (by decide +kernel)
def F_MSetting : u_T := fun k => match k with
  | 0 => ("ScholarsPressModel$Setting", "tree", "LScholarsPressModel$Tree;", true)
  | 1 => ("ScholarsPressModel$Setting", "s", "LScholarsPressModel$Source;", false)
  | 2 => ("ScholarsPressModel$Setting", "letters", "LScholarsPressModel$Letters;", false)
  | 3 => ("ScholarsPressModel$Setting", "parting", "LScholarsPressModel$Parting;", false)
  | 4 => ("ScholarsPressModel$Setting", "bytes", "I", false)
  | 5 => ("ScholarsPressModel$Setting", "b", "[B", true)
  | 6 => ("ScholarsPressModel$Setting", "size", "[I", true)
  | 7 => ("ScholarsPressModel$Setting", "seq", "[I", true)
  | 8 => ("ScholarsPressModel$Setting", "seqs", "I", false)
  | 9 => ("ScholarsPressModel$Setting", "paragraphs", "I", false)
  | 10 => ("ScholarsPressModel$Setting", "from", "[I", true)
  | 11 => ("ScholarsPressModel$Setting", "to", "[I", true)
  | 12 => ("ScholarsPressModel$Setting", "owner", "[I", true)
  | 13 => ("ScholarsPressModel$Setting", "kind", "[I", true)
  | 14 => ("ScholarsPressModel$Setting", "left", "[I", true)
  | 15 => ("ScholarsPressModel$Setting", "breaks", "[I", true)
  | 16 => ("ScholarsPressModel$Setting", "breakAt", "[I", true)
  | 17 => ("ScholarsPressModel$Setting", "lines", "[I", true)
  | 18 => ("ScholarsPressModel$Setting", "lineAt", "[I", true)
  | 19 => ("ScholarsPressModel$Setting", "told", "[I", true)
  | 20 => ("ScholarsPressModel$Setting", "indent", "[I", true)
  | 21 => ("ScholarsPressModel$Setting", "width", "[J", true)
  | 22 => ("ScholarsPressModel$Setting", "cost", "[J", true)
  | 23 => ("ScholarsPressModel$Setting", "type", "[I", true)
  | 24 => ("ScholarsPressModel$Setting", "pos", "[I", true)
  | 25 => ("ScholarsPressModel$Setting", "part", "[J", true)
  | 26 => ("ScholarsPressModel$Setting", "glue", "[J", true)
  | 27 => ("ScholarsPressModel$Setting", "hyph", "[J", true)
  | 28 => ("ScholarsPressModel$Setting", "lineEnd", "[I", true)
  | 29 => ("ScholarsPressModel$Setting", "ratio", "[I", true)
  | 30 => ("ScholarsPressModel$Setting", "flows", "I", false)
  | 31 => ("ScholarsPressModel$Setting", "flowKind", "[I", true)
  | 32 => ("ScholarsPressModel$Setting", "flowOf", "[I", true)
  | 33 => ("ScholarsPressModel$Setting", "flowGap", "[I", true)
  | 34 => ("ScholarsPressModel$Setting", "cellOf", "[I", true)
  | 35 => ("ScholarsPressModel$Setting", "rowHeight", "[I", true)
  | 36 => ("ScholarsPressModel$Setting", "tableLeft", "[I", true)
  | 37 => ("ScholarsPressModel$Setting", "tableColumns", "[I", true)
  | 38 => ("ScholarsPressModel$Setting", "rowHas", "[Z", true)
  | 39 => ("ScholarsPressModel$Setting", "columnWidth", "[J", true)
  | 40 => ("ScholarsPressModel$Setting", "least", "[J", true)
  | 41 => ("ScholarsPressModel$Setting", "wish", "[J", true)
  | 42 => ("ScholarsPressModel$Setting", "count", "I", false)
  | 43 => ("ScholarsPressModel$Setting", "linePar", "[I", true)
  | 44 => ("ScholarsPressModel$Setting", "lineNo", "[I", true)
  | 45 => ("ScholarsPressModel$Setting", "lineRow", "[I", true)
  | 46 => ("ScholarsPressModel$Setting", "lineHeight", "[I", true)
  | 47 => ("ScholarsPressModel$Setting", "lineGap", "[I", true)
  | 48 => ("ScholarsPressModel$Setting", "lineNumber", "[I", true)
  | 49 => ("ScholarsPressModel$Setting", "lineColumn", "[I", true)
  | 50 => ("ScholarsPressModel$Setting", "lineFlow", "[I", true)
  | 51 => ("ScholarsPressModel$Setting", "mayEnd", "[Z", true)
  | 52 => ("ScholarsPressModel$Setting", "lineTop", "[J", true)
  | 53 => ("ScholarsPressModel$Setting", "notes", "I", false)
  | 54 => ("ScholarsPressModel$Setting", "floats", "I", false)
  | 55 => ("ScholarsPressModel$Setting", "noteOf", "[I", true)
  | 56 => ("ScholarsPressModel$Setting", "noteLine", "[I", true)
  | 57 => ("ScholarsPressModel$Setting", "notePar", "[I", true)
  | 58 => ("ScholarsPressModel$Setting", "noteColumn", "[I", true)
  | 59 => ("ScholarsPressModel$Setting", "noteFirst", "[I", true)
  | 60 => ("ScholarsPressModel$Setting", "floatOf", "[I", true)
  | 61 => ("ScholarsPressModel$Setting", "floatLine", "[I", true)
  | 62 => ("ScholarsPressModel$Setting", "floatColumn", "[I", true)
  | 63 => ("ScholarsPressModel$Setting", "noteTop", "[J", true)
  | 64 => ("ScholarsPressModel$Setting", "floatTop", "[J", true)
  | 65 => ("ScholarsPressModel$Setting", "noteNumber", "[I", true)
  | 66 => ("ScholarsPressModel$Setting", "entries", "I", false)
  | 67 => ("ScholarsPressModel$Setting", "entryFrom", "[I", true)
  | 68 => ("ScholarsPressModel$Setting", "entryTo", "[I", true)
  | 69 => ("ScholarsPressModel$Setting", "termEntry", "[I", true)
  | 70 => ("ScholarsPressModel$Setting", "entryOrder", "[I", true)
  | 71 => ("ScholarsPressModel$Setting", "entryTitle", "[Z", true)
  | 72 => ("ScholarsPressModel$Setting", "titles", "[B", true)
  | 73 => ("ScholarsPressModel$Setting", "titled", "I", false)
  | 74 => ("ScholarsPressModel$Setting", "pages", "[I", true)
  | 75 => ("ScholarsPressModel$Setting", "seqBegin", "[I", true)
  | 76 => ("ScholarsPressModel$Setting", "seqEnd", "[I", true)
  | 77 => ("ScholarsPressModel$Setting", "beginLine", "[I", true)
  | 78 => ("ScholarsPressModel$Setting", "endLine", "[I", true)
  | 79 => ("ScholarsPressModel$Setting", "lineOfSeq", "[I", true)
  | 80 => ("ScholarsPressModel$Setting", "page", "[I", true)
  | 81 => ("ScholarsPressModel$Setting", "first", "[I", true)
  | 82 => ("ScholarsPressModel$Setting", "last", "[I", true)
  | 83 => ("ScholarsPressModel$Setting", "newPage", "[I", true)
  | 84 => ("ScholarsPressModel$Setting", "newFirst", "[I", true)
  | 85 => ("ScholarsPressModel$Setting", "newLast", "[I", true)
  | 86 => ("ScholarsPressModel$Setting", "use", "[I", true)
  | 87 => ("ScholarsPressModel$Setting", "useOf", "[I", true)
  | 88 => ("ScholarsPressModel$Setting", "pieces", "I", false)
  | 89 => ("ScholarsPressModel$Setting", "pieceNote", "[I", true)
  | 90 => ("ScholarsPressModel$Setting", "pieceFrom", "[I", true)
  | 91 => ("ScholarsPressModel$Setting", "pieceTo", "[I", true)
  | 92 => ("ScholarsPressModel$Setting", "pieceColumn", "[I", true)
  | 93 => ("ScholarsPressModel$Setting", "pieceTop", "[J", true)
  | 94 => ("ScholarsPressModel$Setting", "columns", "I", false)
  | 95 => ("ScholarsPressModel$Setting", "pagesInAll", "I", false)
  | 96 => ("ScholarsPressModel$Setting", "wavering", "I", false)
  | 97 => ("ScholarsPressModel$Setting", "fresh", "I", false)
  | 98 => ("ScholarsPressModel$Setting", "rounds", "I", false)
  | 99 => ("ScholarsPressModel$Setting", "wavers", "[Z", true)
  | 100 => ("ScholarsPressModel$Setting", "parFrom", "I", false)
  | 101 => ("ScholarsPressModel$Setting", "blankSize", "I", false)
  | 102 => ("ScholarsPressModel$Setting", "marks", "[Z", true)
  | 103 => ("ScholarsPressModel$Setting", "gap", "I", false)
  | 104 => ("ScholarsPressModel$Setting", "sumPart", "[J", true)
  | 105 => ("ScholarsPressModel$Setting", "sumGlue", "[J", true)
  | 106 => ("ScholarsPressModel$Setting", "sumStretch", "[J", true)
  | 107 => ("ScholarsPressModel$Setting", "sumShrink", "[J", true)
  | 108 => ("ScholarsPressModel$Setting", "best", "[J", true)
  | 109 => ("ScholarsPressModel$Setting", "reached", "[Z", true)
  | 110 => ("ScholarsPressModel$Setting", "bestFrom", "[I", true)
  | 111 => ("ScholarsPressModel$Setting", "bestClass", "[I", true)
  | 112 => ("ScholarsPressModel$Setting", "n", "J", false)
  | 113 => ("ScholarsPressModel$Setting", "l", "J", false)
  | 114 => ("ScholarsPressModel$Setting", "a", "J", false)
  | 115 => ("ScholarsPressModel$Setting", "z", "J", false)
  | 116 => ("ScholarsPressModel$Setting", "itsCost", "J", false)
  | 117 => ("ScholarsPressModel$Setting", "\x72", "I", false)
  | 118 => ("ScholarsPressModel$Setting", "bad", "I", false)
  | 119 => ("ScholarsPressModel$Setting", "itsClass", "I", false)
  | 120 => ("ScholarsPressModel$Setting", "tooLong", "Z", false)
  | 121 => ("ScholarsPressModel$Setting", "parLine", "[I", true)
  | 122 => ("ScholarsPressModel$Setting", "high", "[J", true)
  | 123 => ("ScholarsPressModel$Setting", "notesTo", "[I", true)
  | 124 => ("ScholarsPressModel$Setting", "floatsTo", "[I", true)
  | 125 => ("ScholarsPressModel$Setting", "head", "[I", true)
  | 126 => ("ScholarsPressModel$Setting", "states", "I", false)
  | 127 => ("ScholarsPressModel$Setting", "stateLine", "[I", false)
  | 128 => ("ScholarsPressModel$Setting", "stateFloat", "[I", false)
  | 129 => ("ScholarsPressModel$Setting", "stateRest", "[I", false)
  | 130 => ("ScholarsPressModel$Setting", "statePrev", "[I", false)
  | 131 => ("ScholarsPressModel$Setting", "stateNext", "[I", false)
  | 132 => ("ScholarsPressModel$Setting", "stateCost", "[J", false)
  | 133 => ("ScholarsPressModel$Setting", "toFloat", "I", false)
  | 134 => ("ScholarsPressModel$Setting", "toRest", "I", false)
  | 135 => ("ScholarsPressModel$Setting", "placedRest", "I", false)
  | 136 => ("ScholarsPressModel$Setting", "placedLast", "I", false)
  | 137 => ("ScholarsPressModel$Setting", "filled", "J", false)
  | 138 => ("ScholarsPressModel$Setting", "way", "[I", true)
  | 139 => ("ScholarsPressModel$Setting", "spans", "[Z", true)
  | _ => ("ScholarsPressModel$Setting", "newSpans", "[Z", true)
def t_MSetting : Nat → FieldType := fun k => match k with
  | 0 => .object "ScholarsPressModel$Tree"
  | 1 => .object "ScholarsPressModel$Source"
  | 2 => .object "ScholarsPressModel$Letters"
  | 3 => .object "ScholarsPressModel$Parting"
  | 4 => .int
  | 5 => .array .byte
  | 6 => .array .int
  | 7 => .array .int
  | 8 => .int
  | 9 => .int
  | 10 => .array .int
  | 11 => .array .int
  | 12 => .array .int
  | 13 => .array .int
  | 14 => .array .int
  | 15 => .array .int
  | 16 => .array .int
  | 17 => .array .int
  | 18 => .array .int
  | 19 => .array .int
  | 20 => .array .int
  | 21 => .array .long
  | 22 => .array .long
  | 23 => .array .int
  | 24 => .array .int
  | 25 => .array .long
  | 26 => .array .long
  | 27 => .array .long
  | 28 => .array .int
  | 29 => .array .int
  | 30 => .int
  | 31 => .array .int
  | 32 => .array .int
  | 33 => .array .int
  | 34 => .array .int
  | 35 => .array .int
  | 36 => .array .int
  | 37 => .array .int
  | 38 => .array .boolean
  | 39 => .array .long
  | 40 => .array .long
  | 41 => .array .long
  | 42 => .int
  | 43 => .array .int
  | 44 => .array .int
  | 45 => .array .int
  | 46 => .array .int
  | 47 => .array .int
  | 48 => .array .int
  | 49 => .array .int
  | 50 => .array .int
  | 51 => .array .boolean
  | 52 => .array .long
  | 53 => .int
  | 54 => .int
  | 55 => .array .int
  | 56 => .array .int
  | 57 => .array .int
  | 58 => .array .int
  | 59 => .array .int
  | 60 => .array .int
  | 61 => .array .int
  | 62 => .array .int
  | 63 => .array .long
  | 64 => .array .long
  | 65 => .array .int
  | 66 => .int
  | 67 => .array .int
  | 68 => .array .int
  | 69 => .array .int
  | 70 => .array .int
  | 71 => .array .boolean
  | 72 => .array .byte
  | 73 => .int
  | 74 => .array .int
  | 75 => .array .int
  | 76 => .array .int
  | 77 => .array .int
  | 78 => .array .int
  | 79 => .array .int
  | 80 => .array .int
  | 81 => .array .int
  | 82 => .array .int
  | 83 => .array .int
  | 84 => .array .int
  | 85 => .array .int
  | 86 => .array .int
  | 87 => .array .int
  | 88 => .int
  | 89 => .array .int
  | 90 => .array .int
  | 91 => .array .int
  | 92 => .array .int
  | 93 => .array .long
  | 94 => .int
  | 95 => .int
  | 96 => .int
  | 97 => .int
  | 98 => .int
  | 99 => .array .boolean
  | 100 => .int
  | 101 => .int
  | 102 => .array .boolean
  | 103 => .int
  | 104 => .array .long
  | 105 => .array .long
  | 106 => .array .long
  | 107 => .array .long
  | 108 => .array .long
  | 109 => .array .boolean
  | 110 => .array .int
  | 111 => .array .int
  | 112 => .long
  | 113 => .long
  | 114 => .long
  | 115 => .long
  | 116 => .long
  | 117 => .int
  | 118 => .int
  | 119 => .int
  | 120 => .boolean
  | 121 => .array .int
  | 122 => .array .long
  | 123 => .array .int
  | 124 => .array .int
  | 125 => .array .int
  | 126 => .int
  | 127 => .array .int
  | 128 => .array .int
  | 129 => .array .int
  | 130 => .array .int
  | 131 => .array .int
  | 132 => .array .long
  | 133 => .int
  | 134 => .int
  | 135 => .int
  | 136 => .int
  | 137 => .long
  | 138 => .array .int
  | 139 => .array .boolean
  | _ => .array .boolean
theorem n_MSetting : ∀ a, a < 141 → ∀ b, b < 141 → a ≠ b → (F_MSetting a).2.1 ≠ (F_MSetting b).2.1 := by decide +kernel
theorem t_MSetting_ok : ∀ k, k < 141 → parseFieldDescriptor (F_MSetting k).2.2.1 = some (t_MSetting k) := by decide +kernel
theorem in_MSetting : ∀ w ∈ u_ws "ScholarsPressModel$Setting" F_MSetting 141, w ∈ tt := tt_in [3397, 3399, 3401, 3403, 3405, 3407, 3409, 3411, 3413, 3415, 3417, 3419, 3421, 3423, 3425, 3427, 3429, 3431, 3433, 3435, 3437, 3439, 3441, 3443, 3445, 3447, 3449, 3451, 3453, 3455, 3457, 3459, 3461, 3463, 3465, 3467, 3469, 3471, 3473, 3475, 3477, 3479, 3481, 3483, 3485, 3487, 3489, 3491, 3493, 3495, 3497, 3499, 3501, 3503, 3505, 3507, 3509, 3511, 3513, 3515, 3517, 3519, 3521, 3523, 3525, 3527, 3529, 3531, 3533, 3535, 3537, 3539, 3541, 3543, 3545, 3547, 3549, 3551, 3553, 3555, 3557, 3559, 3561, 3563, 3565, 3567, 3569, 3571, 3573, 3575, 3577, 3579, 3581, 3583, 3585, 3587, 3589, 3591, 3593, 3595, 3597, 3599, 3601, 3603, 3605, 3607, 3609, 3611, 3613, 3615, 3617, 3619, 3621, 3623, 3625, 3627, 3629, 3631, 3633, 3635, 3637, 3639, 3641, 3643, 3645, 3647, 3649, 3651, 3653, 3655, 3657, 3659, 3661, 3663, 3665, 3667, 3669, 3671, 3673, 3675, 3677] (by decide +kernel) (by decide +kernel)
abbrev classes : List vw_C := [("ScholarsPress", F_SP, 21), ("ScholarsPress$Signs", F_PSigns, 8), ("ScholarsPress$Style", F_PStyle, 15), ("ScholarsPress$Font", F_PFont, 8), ("ScholarsPress$Hyphens", F_PHyphens, 14), ("ScholarsPress$Source", F_PSource, 20), ("ScholarsPressModel", F_SM, 23), ("ScholarsPressModel$Letters", F_MLetters, 9), ("ScholarsPressModel$Signs", F_MSigns, 8), ("ScholarsPressModel$Parting", F_MParting, 14), ("ScholarsPressModel$Style", F_MStyle, 28), ("ScholarsPressModel$Source", F_MSource, 28), ("ScholarsPressModel$Tree", F_MTree, 30), ("ScholarsPressModel$Setting", F_MSetting, 141)]
abbrev b_SP_count : ByteArray := prog_1_method_12_code
abbrev y_SP_count : MethodName := ⟨"ScholarsPress", "count", "(I)I"⟩
abbrev w_SP_count : Cond := .code y_SP_count b_SP_count 2 (some .int)
theorem kw_SP_count : w_SP_count ∈ tt := tt_mem 2513 (by decide +kernel) (by decide +kernel)
abbrev b_SP_set : ByteArray := prog_1_method_10_code
abbrev y_SP_set : MethodName := ⟨"ScholarsPress", "set", "(I)I"⟩
abbrev w_SP_set : Cond := .code y_SP_set b_SP_set 6 (some .int)
theorem kw_SP_set : w_SP_set ∈ tt := tt_mem 1414 (by decide +kernel) (by decide +kernel)
abbrev b_SP_element : ByteArray := prog_1_method_11_code
abbrev y_SP_element : MethodName := ⟨"ScholarsPress", "element", "(II)I"⟩
abbrev w_SP_element : Cond := .code y_SP_element b_SP_element 4 (some .int)
theorem kw_SP_element : w_SP_element ∈ tt := tt_mem 2500 (by decide +kernel) (by decide +kernel)
abbrev b_SP_line : ByteArray := prog_1_method_13_code
abbrev y_SP_line : MethodName := ⟨"ScholarsPress", "line", "(II)I"⟩
abbrev w_SP_line : Cond := .code y_SP_line b_SP_line 6 (some .int)
theorem kw_SP_line : w_SP_line ∈ tt := tt_mem 2528 (by decide +kernel) (by decide +kernel)
abbrev b_SP_spot : ByteArray := prog_1_method_14_code
abbrev y_SP_spot : MethodName := ⟨"ScholarsPress", "spot", "(II)J"⟩
abbrev w_SP_spot : Cond := .code y_SP_spot b_SP_spot 5 (some .long)
theorem kw_SP_spot : w_SP_spot ∈ tt := tt_mem 2553 (by decide +kernel) (by decide +kernel)
abbrev b_SP_paragraph : ByteArray := prog_1_method_15_code
abbrev y_SP_paragraph : MethodName := ⟨"ScholarsPress", "paragraph", "(II)J"⟩
abbrev w_SP_paragraph : Cond := .code y_SP_paragraph b_SP_paragraph 4 (some .long)
theorem kw_SP_paragraph : w_SP_paragraph ∈ tt := tt_mem 2572 (by decide +kernel) (by decide +kernel)
abbrev b_SP_judge : ByteArray := prog_1_method_16_code
abbrev y_SP_judge : MethodName := ⟨"ScholarsPress", "judge", "(I)J"⟩
abbrev w_SP_judge : Cond := .code y_SP_judge b_SP_judge 3 (some .long)
theorem kw_SP_judge : w_SP_judge ∈ tt := tt_mem 2580 (by decide +kernel) (by decide +kernel)
abbrev b_SP_where : ByteArray := prog_1_method_17_code
abbrev y_SP_where : MethodName := ⟨"ScholarsPress", "where", "(I)I"⟩
abbrev w_SP_where : Cond := .code y_SP_where b_SP_where 4 (some .int)
theorem kw_SP_where : w_SP_where ∈ tt := tt_mem 2598 (by decide +kernel) (by decide +kernel)
abbrev b_SP_note : ByteArray := prog_1_method_18_code
abbrev y_SP_note : MethodName := ⟨"ScholarsPress", "note", "(II)I"⟩
abbrev w_SP_note : Cond := .code y_SP_note b_SP_note 4 (some .int)
theorem kw_SP_note : w_SP_note ∈ tt := tt_mem 2629 (by decide +kernel) (by decide +kernel)
abbrev b_SP_wavering : ByteArray := prog_1_method_19_code
abbrev y_SP_wavering : MethodName := ⟨"ScholarsPress", "wavering", "(I)I"⟩
abbrev w_SP_wavering : Cond := .code y_SP_wavering b_SP_wavering 2 (some .int)
theorem kw_SP_wavering : w_SP_wavering ∈ tt := tt_mem 2654 (by decide +kernel) (by decide +kernel)
abbrev b_SP_print : ByteArray := prog_1_method_20_code
abbrev y_SP_print : MethodName := ⟨"ScholarsPress", "print", "(I)I"⟩
abbrev w_SP_print : Cond := .code y_SP_print b_SP_print 3 (some .int)
theorem kw_SP_print : w_SP_print ∈ tt := tt_mem 2661 (by decide +kernel) (by decide +kernel)
abbrev b_SP_word : ByteArray := prog_1_method_21_code
abbrev y_SP_word : MethodName := ⟨"ScholarsPress", "word", "(I)J"⟩
abbrev w_SP_word : Cond := .code y_SP_word b_SP_word 5 (some .long)
theorem kw_SP_word : w_SP_word ∈ tt := tt_mem 2698 (by decide +kernel) (by decide +kernel)
abbrev b_SP_change : ByteArray := prog_1_method_8_code
abbrev y_SP_change : MethodName := ⟨"ScholarsPress", "change", "(II)I"⟩
abbrev w_SP_change : Cond := .code y_SP_change b_SP_change 6 (some .int)
theorem kw_SP_change : w_SP_change ∈ tt := tt_mem 1391 (by decide +kernel) (by decide +kernel)
theorem k_504 : Cond.fieldLink "ScholarsPress" 135 "ScholarsPress" "sourceNow" "LScholarsPress$Source;" ∈ tt := tt_mem 504 (by decide +kernel) (by decide +kernel)
theorem k_514 : Cond.fieldLink "ScholarsPress" 172 "ScholarsPress" "pagesNow" "LScholarsPress$Pages;" ∈ tt := tt_mem 514 (by decide +kernel) (by decide +kernel)
theorem k_520 : Cond.fieldLink "ScholarsPress" 293 "ScholarsPress" "outLength" "I" ∈ tt := tt_mem 520 (by decide +kernel) (by decide +kernel)
theorem d_SP_change_0 : decode b_SP_change 0 = .ok (.iload_n 1, 1) := by decide +kernel
theorem d_SP_change_1 : decode b_SP_change 1 = .ok (.ifCond .lt 26, 3) := by decide +kernel
theorem d_SP_change_4 : decode b_SP_change 4 = .ok (.iload_n 2, 1) := by decide +kernel
theorem d_SP_change_5 : decode b_SP_change 5 = .ok (.iload_n 1, 1) := by decide +kernel
theorem d_SP_change_6 : decode b_SP_change 6 = .ok (.if_icmp .lt 21, 3) := by decide +kernel
theorem d_SP_change_9 : decode b_SP_change 9 = .ok (.aload_n 0, 1) := by decide +kernel
theorem d_SP_change_10 : decode b_SP_change 10 = .ok (.getfield 135, 3) := by decide +kernel
theorem d_SP_change_13 : decode b_SP_change 13 = .ok (.ifnull 22, 3) := by decide +kernel
theorem d_SP_change_27 : decode b_SP_change 27 = .ok (.new iN_IAE, 3) := by decide +kernel
theorem d_SP_change_30 : decode b_SP_change 30 = .ok (.dup, 1) := by decide +kernel
theorem d_SP_change_31 : decode b_SP_change 31 = .ok (.invokespecial ic_IAE, 3) := by decide +kernel
theorem d_SP_change_34 : decode b_SP_change 34 = .ok (.athrow, 1) := by decide +kernel
theorem d_SP_change_35 : decode b_SP_change 35 = .ok (.aload_n 0, 1) := by decide +kernel
theorem d_SP_change_36 : decode b_SP_change 36 = .ok (.getfield 135, 3) := by decide +kernel
theorem d_SP_change_39 : decode b_SP_change 39 = .ok (.ifnonnull 11, 3) := by decide +kernel
theorem d_SP_change_42 : decode b_SP_change 42 = .ok (.new iN_ISE, 3) := by decide +kernel
theorem d_SP_change_45 : decode b_SP_change 45 = .ok (.dup, 1) := by decide +kernel
theorem d_SP_change_46 : decode b_SP_change 46 = .ok (.invokespecial ic_ISE, 3) := by decide +kernel
theorem d_SP_change_49 : decode b_SP_change 49 = .ok (.athrow, 1) := by decide +kernel
theorem d_SP_count_0 : decode b_SP_count 0 = .ok (.iload_n 1, 1) := by decide +kernel
theorem d_SP_count_1 : decode b_SP_count 1 = .ok (.ifCond .lt 9, 3) := by decide +kernel
theorem d_SP_count_4 : decode b_SP_count 4 = .ok (.iload_n 1, 1) := by decide +kernel
theorem d_SP_count_5 : decode b_SP_count 5 = .ok (.bipush 11, 2) := by decide +kernel
theorem d_SP_count_7 : decode b_SP_count 7 = .ok (.if_icmp .le 11, 3) := by decide +kernel
theorem d_SP_count_10 : decode b_SP_count 10 = .ok (.new iN_IAE, 3) := by decide +kernel
theorem d_SP_count_13 : decode b_SP_count 13 = .ok (.dup, 1) := by decide +kernel
theorem d_SP_count_14 : decode b_SP_count 14 = .ok (.invokespecial ic_IAE, 3) := by decide +kernel
theorem d_SP_count_17 : decode b_SP_count 17 = .ok (.athrow, 1) := by decide +kernel
theorem d_SP_count_18 : decode b_SP_count 18 = .ok (.iload_n 1, 1) := by decide +kernel
theorem d_SP_count_19 : decode b_SP_count 19 = .ok (.iconst 2, 1) := by decide +kernel
theorem d_SP_count_20 : decode b_SP_count 20 = .ok (.if_icmp .gt 20, 3) := by decide +kernel
theorem d_SP_count_23 : decode b_SP_count 23 = .ok (.aload_n 0, 1) := by decide +kernel
theorem d_SP_count_24 : decode b_SP_count 24 = .ok (.getfield 135, 3) := by decide +kernel
theorem d_SP_count_27 : decode b_SP_count 27 = .ok (.ifnonnull 7, 3) := by decide +kernel
theorem d_SP_count_30 : decode b_SP_count 30 = .ok (.iconst 0, 1) := by decide +kernel
theorem d_SP_count_31 : decode b_SP_count 31 = .ok (.goto 8, 3) := by decide +kernel
theorem d_SP_count_39 : decode b_SP_count 39 = .ok (.ireturn, 1) := by decide +kernel
theorem d_SP_count_40 : decode b_SP_count 40 = .ok (.aload_n 0, 1) := by decide +kernel
theorem d_SP_count_41 : decode b_SP_count 41 = .ok (.getfield 172, 3) := by decide +kernel
theorem d_SP_count_44 : decode b_SP_count 44 = .ok (.ifnonnull 7, 3) := by decide +kernel
theorem d_SP_count_47 : decode b_SP_count 47 = .ok (.iconst 0, 1) := by decide +kernel
theorem d_SP_count_48 : decode b_SP_count 48 = .ok (.goto 11, 3) := by decide +kernel
theorem d_SP_count_59 : decode b_SP_count 59 = .ok (.ireturn, 1) := by decide +kernel
theorem d_SP_element_0 : decode b_SP_element 0 = .ok (.iload_n 2, 1) := by decide +kernel
theorem d_SP_element_1 : decode b_SP_element 1 = .ok (.ifCond .lt 9, 3) := by decide +kernel
theorem d_SP_element_4 : decode b_SP_element 4 = .ok (.iload_n 2, 1) := by decide +kernel
theorem d_SP_element_5 : decode b_SP_element 5 = .ok (.bipush 7, 2) := by decide +kernel
theorem d_SP_element_7 : decode b_SP_element 7 = .ok (.if_icmp .le 15, 3) := by decide +kernel
theorem d_SP_element_10 : decode b_SP_element 10 = .ok (.iload_n 2, 1) := by decide +kernel
theorem d_SP_element_11 : decode b_SP_element 11 = .ok (.bipush 20, 2) := by decide +kernel
theorem d_SP_element_13 : decode b_SP_element 13 = .ok (.if_icmp .lt 13, 3) := by decide +kernel
theorem d_SP_element_16 : decode b_SP_element 16 = .ok (.iload_n 2, 1) := by decide +kernel
theorem d_SP_element_17 : decode b_SP_element 17 = .ok (.bipush 41, 2) := by decide +kernel
theorem d_SP_element_19 : decode b_SP_element 19 = .ok (.if_icmp .gt 7, 3) := by decide +kernel
theorem d_SP_element_22 : decode b_SP_element 22 = .ok (.iconst 1, 1) := by decide +kernel
theorem d_SP_element_23 : decode b_SP_element 23 = .ok (.goto 4, 3) := by decide +kernel
theorem d_SP_element_26 : decode b_SP_element 26 = .ok (.iconst 0, 1) := by decide +kernel
theorem d_SP_element_27 : decode b_SP_element 27 = .ok (.istore_n 3, 1) := by decide +kernel
theorem d_SP_element_28 : decode b_SP_element 28 = .ok (.iload_n 3, 1) := by decide +kernel
theorem d_SP_element_29 : decode b_SP_element 29 = .ok (.ifCond .eq 25, 3) := by decide +kernel
theorem d_SP_element_32 : decode b_SP_element 32 = .ok (.iload_n 1, 1) := by decide +kernel
theorem d_SP_element_33 : decode b_SP_element 33 = .ok (.ifCond .lt 21, 3) := by decide +kernel
theorem d_SP_element_36 : decode b_SP_element 36 = .ok (.aload_n 0, 1) := by decide +kernel
theorem d_SP_element_37 : decode b_SP_element 37 = .ok (.getfield 135, 3) := by decide +kernel
theorem d_SP_element_40 : decode b_SP_element 40 = .ok (.ifnull 22, 3) := by decide +kernel
theorem d_SP_element_54 : decode b_SP_element 54 = .ok (.new iN_IAE, 3) := by decide +kernel
theorem d_SP_element_57 : decode b_SP_element 57 = .ok (.dup, 1) := by decide +kernel
theorem d_SP_element_58 : decode b_SP_element 58 = .ok (.invokespecial ic_IAE, 3) := by decide +kernel
theorem d_SP_element_61 : decode b_SP_element 61 = .ok (.athrow, 1) := by decide +kernel
theorem d_SP_element_62 : decode b_SP_element 62 = .ok (.aload_n 0, 1) := by decide +kernel
theorem d_SP_element_63 : decode b_SP_element 63 = .ok (.getfield 135, 3) := by decide +kernel
theorem d_SP_element_66 : decode b_SP_element 66 = .ok (.ifnonnull 11, 3) := by decide +kernel
theorem d_SP_element_69 : decode b_SP_element 69 = .ok (.new iN_ISE, 3) := by decide +kernel
theorem d_SP_element_72 : decode b_SP_element 72 = .ok (.dup, 1) := by decide +kernel
theorem d_SP_element_73 : decode b_SP_element 73 = .ok (.invokespecial ic_ISE, 3) := by decide +kernel
theorem d_SP_element_76 : decode b_SP_element 76 = .ok (.athrow, 1) := by decide +kernel
theorem d_SP_judge_0 : decode b_SP_judge 0 = .ok (.aload_n 0, 1) := by decide +kernel
theorem d_SP_judge_1 : decode b_SP_judge 1 = .ok (.getfield 172, 3) := by decide +kernel
theorem d_SP_judge_4 : decode b_SP_judge 4 = .ok (.ifnonnull 11, 3) := by decide +kernel
theorem d_SP_judge_7 : decode b_SP_judge 7 = .ok (.new iN_ISE, 3) := by decide +kernel
theorem d_SP_judge_10 : decode b_SP_judge 10 = .ok (.dup, 1) := by decide +kernel
theorem d_SP_judge_11 : decode b_SP_judge 11 = .ok (.invokespecial ic_ISE, 3) := by decide +kernel
theorem d_SP_judge_14 : decode b_SP_judge 14 = .ok (.athrow, 1) := by decide +kernel
theorem d_SP_line_0 : decode b_SP_line 0 = .ok (.iload_n 2, 1) := by decide +kernel
theorem d_SP_line_1 : decode b_SP_line 1 = .ok (.ifCond .lt 9, 3) := by decide +kernel
theorem d_SP_line_4 : decode b_SP_line 4 = .ok (.iload_n 2, 1) := by decide +kernel
theorem d_SP_line_5 : decode b_SP_line 5 = .ok (.bipush 6, 2) := by decide +kernel
theorem d_SP_line_7 : decode b_SP_line 7 = .ok (.if_icmp .le 11, 3) := by decide +kernel
theorem d_SP_line_10 : decode b_SP_line 10 = .ok (.new iN_IAE, 3) := by decide +kernel
theorem d_SP_line_13 : decode b_SP_line 13 = .ok (.dup, 1) := by decide +kernel
theorem d_SP_line_14 : decode b_SP_line 14 = .ok (.invokespecial ic_IAE, 3) := by decide +kernel
theorem d_SP_line_17 : decode b_SP_line 17 = .ok (.athrow, 1) := by decide +kernel
theorem d_SP_line_18 : decode b_SP_line 18 = .ok (.aload_n 0, 1) := by decide +kernel
theorem d_SP_line_19 : decode b_SP_line 19 = .ok (.getfield 172, 3) := by decide +kernel
theorem d_SP_line_22 : decode b_SP_line 22 = .ok (.ifnonnull 11, 3) := by decide +kernel
theorem d_SP_line_25 : decode b_SP_line 25 = .ok (.new iN_ISE, 3) := by decide +kernel
theorem d_SP_line_28 : decode b_SP_line 28 = .ok (.dup, 1) := by decide +kernel
theorem d_SP_line_29 : decode b_SP_line 29 = .ok (.invokespecial ic_ISE, 3) := by decide +kernel
theorem d_SP_line_32 : decode b_SP_line 32 = .ok (.athrow, 1) := by decide +kernel
theorem d_SP_note_0 : decode b_SP_note 0 = .ok (.iload_n 2, 1) := by decide +kernel
theorem d_SP_note_1 : decode b_SP_note 1 = .ok (.ifCond .lt 12, 3) := by decide +kernel
theorem d_SP_note_4 : decode b_SP_note 4 = .ok (.iload_n 2, 1) := by decide +kernel
theorem d_SP_note_5 : decode b_SP_note 5 = .ok (.iconst 5, 1) := by decide +kernel
theorem d_SP_note_6 : decode b_SP_note 6 = .ok (.if_icmp .gt 7, 3) := by decide +kernel
theorem d_SP_note_9 : decode b_SP_note 9 = .ok (.iconst 1, 1) := by decide +kernel
theorem d_SP_note_10 : decode b_SP_note 10 = .ok (.goto 4, 3) := by decide +kernel
theorem d_SP_note_13 : decode b_SP_note 13 = .ok (.iconst 0, 1) := by decide +kernel
theorem d_SP_note_14 : decode b_SP_note 14 = .ok (.istore_n 3, 1) := by decide +kernel
theorem d_SP_note_15 : decode b_SP_note 15 = .ok (.iload_n 3, 1) := by decide +kernel
theorem d_SP_note_16 : decode b_SP_note 16 = .ok (.ifCond .ne 23, 3) := by decide +kernel
theorem d_SP_note_19 : decode b_SP_note 19 = .ok (.iload_n 2, 1) := by decide +kernel
theorem d_SP_note_20 : decode b_SP_note 20 = .ok (.bipush 10, 2) := by decide +kernel
theorem d_SP_note_22 : decode b_SP_note 22 = .ok (.if_icmp .lt 9, 3) := by decide +kernel
theorem d_SP_note_25 : decode b_SP_note 25 = .ok (.iload_n 2, 1) := by decide +kernel
theorem d_SP_note_26 : decode b_SP_note 26 = .ok (.bipush 13, 2) := by decide +kernel
theorem d_SP_note_28 : decode b_SP_note 28 = .ok (.if_icmp .le 11, 3) := by decide +kernel
theorem d_SP_note_31 : decode b_SP_note 31 = .ok (.new iN_IAE, 3) := by decide +kernel
theorem d_SP_note_34 : decode b_SP_note 34 = .ok (.dup, 1) := by decide +kernel
theorem d_SP_note_35 : decode b_SP_note 35 = .ok (.invokespecial ic_IAE, 3) := by decide +kernel
theorem d_SP_note_38 : decode b_SP_note 38 = .ok (.athrow, 1) := by decide +kernel
theorem d_SP_note_39 : decode b_SP_note 39 = .ok (.aload_n 0, 1) := by decide +kernel
theorem d_SP_note_40 : decode b_SP_note 40 = .ok (.getfield 172, 3) := by decide +kernel
theorem d_SP_note_43 : decode b_SP_note 43 = .ok (.ifnonnull 11, 3) := by decide +kernel
theorem d_SP_note_46 : decode b_SP_note 46 = .ok (.new iN_ISE, 3) := by decide +kernel
theorem d_SP_note_49 : decode b_SP_note 49 = .ok (.dup, 1) := by decide +kernel
theorem d_SP_note_50 : decode b_SP_note 50 = .ok (.invokespecial ic_ISE, 3) := by decide +kernel
theorem d_SP_note_53 : decode b_SP_note 53 = .ok (.athrow, 1) := by decide +kernel
theorem d_SP_paragraph_0 : decode b_SP_paragraph 0 = .ok (.iload_n 2, 1) := by decide +kernel
theorem d_SP_paragraph_1 : decode b_SP_paragraph 1 = .ok (.ifCond .lt 9, 3) := by decide +kernel
theorem d_SP_paragraph_4 : decode b_SP_paragraph 4 = .ok (.iload_n 2, 1) := by decide +kernel
theorem d_SP_paragraph_5 : decode b_SP_paragraph 5 = .ok (.bipush 6, 2) := by decide +kernel
theorem d_SP_paragraph_7 : decode b_SP_paragraph 7 = .ok (.if_icmp .le 11, 3) := by decide +kernel
theorem d_SP_paragraph_10 : decode b_SP_paragraph 10 = .ok (.new iN_IAE, 3) := by decide +kernel
theorem d_SP_paragraph_13 : decode b_SP_paragraph 13 = .ok (.dup, 1) := by decide +kernel
theorem d_SP_paragraph_14 : decode b_SP_paragraph 14 = .ok (.invokespecial ic_IAE, 3) := by decide +kernel
theorem d_SP_paragraph_17 : decode b_SP_paragraph 17 = .ok (.athrow, 1) := by decide +kernel
theorem d_SP_paragraph_18 : decode b_SP_paragraph 18 = .ok (.aload_n 0, 1) := by decide +kernel
theorem d_SP_paragraph_19 : decode b_SP_paragraph 19 = .ok (.getfield 172, 3) := by decide +kernel
theorem d_SP_paragraph_22 : decode b_SP_paragraph 22 = .ok (.ifnonnull 11, 3) := by decide +kernel
theorem d_SP_paragraph_25 : decode b_SP_paragraph 25 = .ok (.new iN_ISE, 3) := by decide +kernel
theorem d_SP_paragraph_28 : decode b_SP_paragraph 28 = .ok (.dup, 1) := by decide +kernel
theorem d_SP_paragraph_29 : decode b_SP_paragraph 29 = .ok (.invokespecial ic_ISE, 3) := by decide +kernel
theorem d_SP_paragraph_32 : decode b_SP_paragraph 32 = .ok (.athrow, 1) := by decide +kernel
theorem d_SP_print_0 : decode b_SP_print 0 = .ok (.aload_n 0, 1) := by decide +kernel
theorem d_SP_print_1 : decode b_SP_print 1 = .ok (.getfield 172, 3) := by decide +kernel
theorem d_SP_print_4 : decode b_SP_print 4 = .ok (.ifnonnull 11, 3) := by decide +kernel
theorem d_SP_print_7 : decode b_SP_print 7 = .ok (.new iN_ISE, 3) := by decide +kernel
theorem d_SP_print_10 : decode b_SP_print 10 = .ok (.dup, 1) := by decide +kernel
theorem d_SP_print_11 : decode b_SP_print 11 = .ok (.invokespecial ic_ISE, 3) := by decide +kernel
theorem d_SP_print_14 : decode b_SP_print 14 = .ok (.athrow, 1) := by decide +kernel
theorem d_SP_set_0 : decode b_SP_set 0 = .ok (.iload_n 1, 1) := by decide +kernel
theorem d_SP_set_1 : decode b_SP_set 1 = .ok (.iconst 1, 1) := by decide +kernel
theorem d_SP_set_2 : decode b_SP_set 2 = .ok (.if_icmp .lt 9, 3) := by decide +kernel
theorem d_SP_set_5 : decode b_SP_set 5 = .ok (.iload_n 1, 1) := by decide +kernel
theorem d_SP_set_6 : decode b_SP_set 6 = .ok (.bipush 9, 2) := by decide +kernel
theorem d_SP_set_8 : decode b_SP_set 8 = .ok (.if_icmp .le 11, 3) := by decide +kernel
theorem d_SP_set_11 : decode b_SP_set 11 = .ok (.new iN_IAE, 3) := by decide +kernel
theorem d_SP_set_14 : decode b_SP_set 14 = .ok (.dup, 1) := by decide +kernel
theorem d_SP_set_15 : decode b_SP_set 15 = .ok (.invokespecial ic_IAE, 3) := by decide +kernel
theorem d_SP_set_18 : decode b_SP_set 18 = .ok (.athrow, 1) := by decide +kernel
theorem d_SP_set_19 : decode b_SP_set 19 = .ok (.aload_n 0, 1) := by decide +kernel
theorem d_SP_set_20 : decode b_SP_set 20 = .ok (.getfield 135, 3) := by decide +kernel
theorem d_SP_set_23 : decode b_SP_set 23 = .ok (.ifnonnull 11, 3) := by decide +kernel
theorem d_SP_set_26 : decode b_SP_set 26 = .ok (.new iN_ISE, 3) := by decide +kernel
theorem d_SP_set_29 : decode b_SP_set 29 = .ok (.dup, 1) := by decide +kernel
theorem d_SP_set_30 : decode b_SP_set 30 = .ok (.invokespecial ic_ISE, 3) := by decide +kernel
theorem d_SP_set_33 : decode b_SP_set 33 = .ok (.athrow, 1) := by decide +kernel
theorem d_SP_spot_0 : decode b_SP_spot 0 = .ok (.aload_n 0, 1) := by decide +kernel
theorem d_SP_spot_1 : decode b_SP_spot 1 = .ok (.getfield 172, 3) := by decide +kernel
theorem d_SP_spot_4 : decode b_SP_spot 4 = .ok (.ifnonnull 11, 3) := by decide +kernel
theorem d_SP_spot_7 : decode b_SP_spot 7 = .ok (.new iN_ISE, 3) := by decide +kernel
theorem d_SP_spot_10 : decode b_SP_spot 10 = .ok (.dup, 1) := by decide +kernel
theorem d_SP_spot_11 : decode b_SP_spot 11 = .ok (.invokespecial ic_ISE, 3) := by decide +kernel
theorem d_SP_spot_14 : decode b_SP_spot 14 = .ok (.athrow, 1) := by decide +kernel
theorem d_SP_wavering_0 : decode b_SP_wavering 0 = .ok (.aload_n 0, 1) := by decide +kernel
theorem d_SP_wavering_1 : decode b_SP_wavering 1 = .ok (.getfield 172, 3) := by decide +kernel
theorem d_SP_wavering_4 : decode b_SP_wavering 4 = .ok (.ifnonnull 11, 3) := by decide +kernel
theorem d_SP_wavering_7 : decode b_SP_wavering 7 = .ok (.new iN_ISE, 3) := by decide +kernel
theorem d_SP_wavering_10 : decode b_SP_wavering 10 = .ok (.dup, 1) := by decide +kernel
theorem d_SP_wavering_11 : decode b_SP_wavering 11 = .ok (.invokespecial ic_ISE, 3) := by decide +kernel
theorem d_SP_wavering_14 : decode b_SP_wavering 14 = .ok (.athrow, 1) := by decide +kernel
theorem d_SP_where_0 : decode b_SP_where 0 = .ok (.iload_n 1, 1) := by decide +kernel
theorem d_SP_where_1 : decode b_SP_where 1 = .ok (.ifCond .lt 8, 3) := by decide +kernel
theorem d_SP_where_4 : decode b_SP_where 4 = .ok (.iload_n 1, 1) := by decide +kernel
theorem d_SP_where_5 : decode b_SP_where 5 = .ok (.iconst 5, 1) := by decide +kernel
theorem d_SP_where_6 : decode b_SP_where 6 = .ok (.if_icmp .le 11, 3) := by decide +kernel
theorem d_SP_where_9 : decode b_SP_where 9 = .ok (.new iN_IAE, 3) := by decide +kernel
theorem d_SP_where_12 : decode b_SP_where 12 = .ok (.dup, 1) := by decide +kernel
theorem d_SP_where_13 : decode b_SP_where 13 = .ok (.invokespecial ic_IAE, 3) := by decide +kernel
theorem d_SP_where_16 : decode b_SP_where 16 = .ok (.athrow, 1) := by decide +kernel
theorem d_SP_where_17 : decode b_SP_where 17 = .ok (.aload_n 0, 1) := by decide +kernel
theorem d_SP_where_18 : decode b_SP_where 18 = .ok (.getfield 172, 3) := by decide +kernel
theorem d_SP_where_21 : decode b_SP_where 21 = .ok (.ifnonnull 11, 3) := by decide +kernel
theorem d_SP_where_24 : decode b_SP_where 24 = .ok (.new iN_ISE, 3) := by decide +kernel
theorem d_SP_where_27 : decode b_SP_where 27 = .ok (.dup, 1) := by decide +kernel
theorem d_SP_where_28 : decode b_SP_where 28 = .ok (.invokespecial ic_ISE, 3) := by decide +kernel
theorem d_SP_where_31 : decode b_SP_where 31 = .ok (.athrow, 1) := by decide +kernel
theorem d_SP_word_0 : decode b_SP_word 0 = .ok (.iload_n 1, 1) := by decide +kernel
theorem d_SP_word_1 : decode b_SP_word 1 = .ok (.ifCond .lt 11, 3) := by decide +kernel
theorem d_SP_word_4 : decode b_SP_word 4 = .ok (.iload_n 1, 1) := by decide +kernel
theorem d_SP_word_5 : decode b_SP_word 5 = .ok (.aload_n 0, 1) := by decide +kernel
theorem d_SP_word_6 : decode b_SP_word 6 = .ok (.getfield 293, 3) := by decide +kernel
theorem d_SP_word_9 : decode b_SP_word 9 = .ok (.if_icmp .lt 11, 3) := by decide +kernel
theorem d_SP_word_12 : decode b_SP_word 12 = .ok (.new iN_IOB, 3) := by decide +kernel
theorem d_SP_word_15 : decode b_SP_word 15 = .ok (.dup, 1) := by decide +kernel
theorem d_SP_word_16 : decode b_SP_word 16 = .ok (.invokespecial ic_IOB, 3) := by decide +kernel
theorem d_SP_word_19 : decode b_SP_word 19 = .ok (.athrow, 1) := by decide +kernel
