/-! ===== words: the good ones of lw_tbl; every contract has its own code and all of these ===== -/
def kw : List Cond := lw_tbl.filter goodWord
theorem kw_of {w : Cond} {i : Nat} (h : lw_tbl[i]? = some w) (g : goodWord w = true) : w ∈ kw := List.mem_filter.mpr ⟨List.mem_of_getElem? h, g⟩
theorem kw_sub {ws : List Cond} (ps : List Nat) (hp : ws = ps.filterMap (fun i => lw_tbl[i]?)) (h : ws.all goodWord = true) : ∀ w ∈ ws, w ∈ kw := by
  intro w hw
  have h1 := List.all_eq_true.mp h w hw
  rw [hp] at hw
  obtain ⟨i, -, hi⟩ := List.mem_filterMap.mp hw
  exact kw_of hi h1
def kq (y : MethodName) (b : ByteArray) (n : Nat) (r : Option FieldType) : List Cond := Cond.code y b n r :: kw
theorem kw_good : GoodIn kw kw := fun w h => ⟨h, good_of_word (List.mem_filter.mp h).2⟩
theorem kq_good {y : MethodName} {b : ByteArray} {n : Nat} {r : Option FieldType} (h : Cond.code y b n r ∈ kw) : GoodIn kw (kq y b n r) := fun w hw => (List.mem_cons.mp hw).elim (fun e => e ▸ kw_good _ h) (kw_good w)
theorem kV_good {own C : String} {idx : Nat} {y : MethodName} {b : ByteArray} {n : Nat} {r : Option FieldType} (h : Cond.code y b n r ∈ kw) (h1 : Cond.methodLink own idx y ∈ kw) (h2 : Cond.instanceMethod y ∈ kw) (h3 : Cond.selects C y y ∈ kw) (h4 : Cond.initialized C ∈ kw) : GoodIn kw (wsV own idx C y (kq y b n r)) := by
  intro w hw
  unfold wsV at hw
  rcases List.mem_append.mp hw with q | q
  · refine kw_good w ?_
    rcases List.mem_cons.mp q with rfl | q
    · exact h1
    rcases List.mem_cons.mp q with rfl | q
    · exact h2
    rcases List.mem_cons.mp q with rfl | q
    · exact h3
    rcases List.mem_cons.mp q with rfl | q
    · exact h4
    · exact absurd q List.not_mem_nil
  · exact kq_good h w q
theorem kS_good {own : String} {idx : Nat} {y : MethodName} {b : ByteArray} {n : Nat} {r : Option FieldType} (h : Cond.code y b n r ∈ kw) (h1 : Cond.methodLink own idx y ∈ kw) (h2 : Cond.static y ∈ kw) (h3 : Cond.initialized own ∈ kw) : GoodIn kw (wsS own idx y (kq y b n r)) := by
  intro w hw
  unfold wsS at hw
  rcases List.mem_append.mp hw with q | q
  · refine kw_good w ?_
    rcases List.mem_cons.mp q with rfl | q
    · exact h1
    rcases List.mem_cons.mp q with rfl | q
    · exact h2
    rcases List.mem_cons.mp q with rfl | q
    · exact h3
    · exact absurd q List.not_mem_nil
  · exact kq_good h w q
/-! ===== names: fields, methods ===== -/
def tt_So : u_T := fun k => match k with
  | 0 => ("LayoutTokens$Source", "octets", "[I", true)
  | 1 => ("LayoutTokens$Source", "lines", "[I", true)
  | 2 => ("LayoutTokens$Source", "columns", "[I", true)
  | 3 => ("LayoutTokens$Source", "counted", "[I", true)
  | _ => ("LayoutTokens$Source", "size", "I", false)
def ty_So : Nat → FieldType := fun k => match k with
  | 0 => .array .int
  | 1 => .array .int
  | 2 => .array .int
  | 3 => .array .int
  | _ => .int
theorem nm_So : ∀ a, a < 5 → ∀ b, b < 5 → a ≠ b → (tt_So a).2.1 ≠ (tt_So b).2.1 := by decide +kernel
theorem ty_So_ok : ∀ k, k < 5 → parseFieldDescriptor (tt_So k).2.2.1 = some (ty_So k) := by decide +kernel
theorem i_So : ∀ w ∈ u_ws "LayoutTokens$Source" tt_So 5, w ∈ kw := kw_sub [132, 134, 136, 138, 140] (by decide +kernel) (by decide +kernel)
def tt_Li : u_T := fun k => match k with
  | _ => ("LayoutTokens$LiterateLines", "source", "LLayoutTokens$Source;", true)
def ty_Li : Nat → FieldType := fun k => match k with
  | _ => .object "LayoutTokens$Source"
theorem nm_Li : ∀ a, a < 1 → ∀ b, b < 1 → a ≠ b → (tt_Li a).2.1 ≠ (tt_Li b).2.1 := by decide +kernel
theorem ty_Li_ok : ∀ k, k < 1 → parseFieldDescriptor (tt_Li k).2.2.1 = some (ty_Li k) := by decide +kernel
theorem i_Li : ∀ w ∈ u_ws "LayoutTokens$LiterateLines" tt_Li 1, w ∈ kw := kw_sub [151] (by decide +kernel) (by decide +kernel)
def tt_Le : u_T := fun k => match k with
  | 0 => ("LayoutTokens$Lexemes", "source", "LLayoutTokens$Source;", true)
  | 1 => ("LayoutTokens$Lexemes", "kinds", "[I", true)
  | 2 => ("LayoutTokens$Lexemes", "places", "[I", true)
  | 3 => ("LayoutTokens$Lexemes", "sizes", "[I", true)
  | 4 => ("LayoutTokens$Lexemes", "marks", "[I", true)
  | 5 => ("LayoutTokens$Lexemes", "values", "[J", true)
  | 6 => ("LayoutTokens$Lexemes", "firstSigns", "[I", true)
  | 7 => ("LayoutTokens$Lexemes", "signCounts", "[I", true)
  | 8 => ("LayoutTokens$Lexemes", "signs", "[I", true)
  | 9 => ("LayoutTokens$Lexemes", "count", "I", false)
  | _ => ("LayoutTokens$Lexemes", "signsKept", "I", false)
def ty_Le : Nat → FieldType := fun k => match k with
  | 0 => .object "LayoutTokens$Source"
  | 1 => .array .int
  | 2 => .array .int
  | 3 => .array .int
  | 4 => .array .int
  | 5 => .array .long
  | 6 => .array .int
  | 7 => .array .int
  | 8 => .array .int
  | 9 => .int
  | _ => .int
theorem nm_Le : ∀ a, a < 11 → ∀ b, b < 11 → a ≠ b → (tt_Le a).2.1 ≠ (tt_Le b).2.1 := by decide +kernel
theorem ty_Le_ok : ∀ k, k < 11 → parseFieldDescriptor (tt_Le k).2.2.1 = some (ty_Le k) := by decide +kernel
theorem i_Le : ∀ w ∈ u_ws "LayoutTokens$Lexemes" tt_Le 11, w ∈ kw := kw_sub [171, 173, 175, 177, 179, 181, 183, 185, 187, 189, 191] (by decide +kernel) (by decide +kernel)
def tt_Co : u_T := fun k => match k with
  | 0 => ("LayoutTokens$Comments", "places", "[I", true)
  | 1 => ("LayoutTokens$Comments", "sizes", "[I", true)
  | 2 => ("LayoutTokens$Comments", "nested", "[I", true)
  | 3 => ("LayoutTokens$Comments", "count", "I", false)
  | _ => ("LayoutTokens$Comments", "deepest", "I", false)
def ty_Co : Nat → FieldType := fun k => match k with
  | 0 => .array .int
  | 1 => .array .int
  | 2 => .array .int
  | 3 => .int
  | _ => .int
theorem nm_Co : ∀ a, a < 5 → ∀ b, b < 5 → a ≠ b → (tt_Co a).2.1 ≠ (tt_Co b).2.1 := by decide +kernel
theorem ty_Co_ok : ∀ k, k < 5 → parseFieldDescriptor (tt_Co k).2.2.1 = some (ty_Co k) := by decide +kernel
theorem i_Co : ∀ w ∈ u_ws "LayoutTokens$Comments" tt_Co 5, w ∈ kw := kw_sub [206, 208, 210, 212, 214] (by decide +kernel) (by decide +kernel)
def tt_Qu : u_T := fun k => match k with
  | 0 => ("LayoutTokens$Quotes", "source", "LLayoutTokens$Source;", true)
  | _ => ("LayoutTokens$Quotes", "lexemes", "LLayoutTokens$Lexemes;", true)
def ty_Qu : Nat → FieldType := fun k => match k with
  | 0 => .object "LayoutTokens$Source"
  | _ => .object "LayoutTokens$Lexemes"
theorem nm_Qu : ∀ a, a < 2 → ∀ b, b < 2 → a ≠ b → (tt_Qu a).2.1 ≠ (tt_Qu b).2.1 := by decide +kernel
theorem ty_Qu_ok : ∀ k, k < 2 → parseFieldDescriptor (tt_Qu k).2.2.1 = some (ty_Qu k) := by decide +kernel
theorem i_Qu : ∀ w ∈ u_ws "LayoutTokens$Quotes" tt_Qu 2, w ∈ kw := kw_sub [231, 233] (by decide +kernel) (by decide +kernel)
def tt_Re : u_T := fun k => match k with
  | 0 => ("LayoutTokens$Reader", "source", "LLayoutTokens$Source;", true)
  | 1 => ("LayoutTokens$Reader", "lexemes", "LLayoutTokens$Lexemes;", true)
  | 2 => ("LayoutTokens$Reader", "comments", "LLayoutTokens$Comments;", true)
  | _ => ("LayoutTokens$Reader", "quotes", "LLayoutTokens$Quotes;", true)
def ty_Re : Nat → FieldType := fun k => match k with
  | 0 => .object "LayoutTokens$Source"
  | 1 => .object "LayoutTokens$Lexemes"
  | 2 => .object "LayoutTokens$Comments"
  | _ => .object "LayoutTokens$Quotes"
theorem nm_Re : ∀ a, a < 4 → ∀ b, b < 4 → a ≠ b → (tt_Re a).2.1 ≠ (tt_Re b).2.1 := by decide +kernel
theorem ty_Re_ok : ∀ k, k < 4 → parseFieldDescriptor (tt_Re k).2.2.1 = some (ty_Re k) := by decide +kernel
theorem i_Re : ∀ w ∈ u_ws "LayoutTokens$Reader" tt_Re 4, w ∈ kw := kw_sub [240, 242, 244, 246] (by decide +kernel) (by decide +kernel)
def tt_La : u_T := fun k => match k with
  | 0 => ("LayoutTokens$Laid", "source", "LLayoutTokens$Source;", true)
  | 1 => ("LayoutTokens$Laid", "lexemes", "[I", true)
  | 2 => ("LayoutTokens$Laid", "kinds", "[I", true)
  | 3 => ("LayoutTokens$Laid", "places", "[I", true)
  | 4 => ("LayoutTokens$Laid", "askedOnes", "[Z", true)
  | 5 => ("LayoutTokens$Laid", "count", "I", false)
  | 6 => ("LayoutTokens$Laid", "putInCount", "I", false)
  | 7 => ("LayoutTokens$Laid", "askedCount", "I", false)
  | 8 => ("LayoutTokens$Laid", "end", "I", false)
  | _ => ("LayoutTokens$Laid", "endLine", "I", false)
def ty_La : Nat → FieldType := fun k => match k with
  | 0 => .object "LayoutTokens$Source"
  | 1 => .array .int
  | 2 => .array .int
  | 3 => .array .int
  | 4 => .array .boolean
  | 5 => .int
  | 6 => .int
  | 7 => .int
  | 8 => .int
  | _ => .int
theorem nm_La : ∀ a, a < 10 → ∀ b, b < 10 → a ≠ b → (tt_La a).2.1 ≠ (tt_La b).2.1 := by decide +kernel
theorem ty_La_ok : ∀ k, k < 10 → parseFieldDescriptor (tt_La k).2.2.1 = some (ty_La k) := by decide +kernel
theorem i_La : ∀ w ∈ u_ws "LayoutTokens$Laid" tt_La 10, w ∈ kw := kw_sub [265, 267, 269, 271, 273, 275, 277, 279, 281, 283] (by decide +kernel) (by decide +kernel)
def tt_Ly : u_T := fun k => match k with
  | 0 => ("LayoutTokens$Layout", "source", "LLayoutTokens$Source;", true)
  | 1 => ("LayoutTokens$Layout", "lexemes", "LLayoutTokens$Lexemes;", true)
  | 2 => ("LayoutTokens$Layout", "laid", "LLayoutTokens$Laid;", true)
  | 3 => ("LayoutTokens$Layout", "itemSorts", "[I", true)
  | 4 => ("LayoutTokens$Layout", "itemColumns", "[I", true)
  | 5 => ("LayoutTokens$Layout", "itemLets", "[Z", true)
  | 6 => ("LayoutTokens$Layout", "depth", "I", false)
  | 7 => ("LayoutTokens$Layout", "place", "I", false)
  | 8 => ("LayoutTokens$Layout", "line", "I", false)
  | 9 => ("LayoutTokens$Layout", "column", "I", false)
  | 10 => ("LayoutTokens$Layout", "letBraceEnd", "I", false)
  | 11 => ("LayoutTokens$Layout", "letIsOver", "Z", false)
  | _ => ("LayoutTokens$Layout", "isFaulty", "Z", false)
def ty_Ly : Nat → FieldType := fun k => match k with
  | 0 => .object "LayoutTokens$Source"
  | 1 => .object "LayoutTokens$Lexemes"
  | 2 => .object "LayoutTokens$Laid"
  | 3 => .array .int
  | 4 => .array .int
  | 5 => .array .boolean
  | 6 => .int
  | 7 => .int
  | 8 => .int
  | 9 => .int
  | 10 => .int
  | 11 => .boolean
  | _ => .boolean
theorem nm_Ly : ∀ a, a < 13 → ∀ b, b < 13 → a ≠ b → (tt_Ly a).2.1 ≠ (tt_Ly b).2.1 := by decide +kernel
theorem ty_Ly_ok : ∀ k, k < 13 → parseFieldDescriptor (tt_Ly k).2.2.1 = some (ty_Ly k) := by decide +kernel
theorem i_Ly : ∀ w ∈ u_ws "LayoutTokens$Layout" tt_Ly 13, w ∈ kw := kw_sub [306, 308, 310, 312, 314, 316, 318, 320, 322, 324, 326, 328, 330] (by decide +kernel) (by decide +kernel)
def tt_Pr : u_T := fun k => match k with
  | 0 => ("LayoutTokens$Printer", "lexemes", "LLayoutTokens$Lexemes;", true)
  | 1 => ("LayoutTokens$Printer", "laid", "LLayoutTokens$Laid;", true)
  | 2 => ("LayoutTokens$Printer", "letters", "[I", true)
  | 3 => ("LayoutTokens$Printer", "count", "I", false)
  | 4 => ("LayoutTokens$Printer", "at", "I", false)
  | _ => ("LayoutTokens$Printer", "isMeasuring", "Z", false)
def ty_Pr : Nat → FieldType := fun k => match k with
  | 0 => .object "LayoutTokens$Lexemes"
  | 1 => .object "LayoutTokens$Laid"
  | 2 => .array .int
  | 3 => .int
  | 4 => .int
  | _ => .boolean
theorem nm_Pr : ∀ a, a < 6 → ∀ b, b < 6 → a ≠ b → (tt_Pr a).2.1 ≠ (tt_Pr b).2.1 := by decide +kernel
theorem ty_Pr_ok : ∀ k, k < 6 → parseFieldDescriptor (tt_Pr k).2.2.1 = some (ty_Pr k) := by decide +kernel
theorem i_Pr : ∀ w ∈ u_ws "LayoutTokens$Printer" tt_Pr 6, w ∈ kw := kw_sub [345, 347, 349, 351, 353, 355] (by decide +kernel) (by decide +kernel)
def tt_Lt : u_T := fun k => match k with
  | 0 => ("LayoutTokens", "source", "LLayoutTokens$Source;", true)
  | 1 => ("LayoutTokens", "literateLines", "LLayoutTokens$LiterateLines;", true)
  | 2 => ("LayoutTokens", "lexemes", "LLayoutTokens$Lexemes;", true)
  | 3 => ("LayoutTokens", "comments", "LLayoutTokens$Comments;", true)
  | 4 => ("LayoutTokens", "reader", "LLayoutTokens$Reader;", true)
  | 5 => ("LayoutTokens", "laid", "LLayoutTokens$Laid;", true)
  | 6 => ("LayoutTokens", "layout", "LLayoutTokens$Layout;", true)
  | 7 => ("LayoutTokens", "printer", "LLayoutTokens$Printer;", true)
  | _ => ("LayoutTokens", "isRead", "Z", false)
def ty_Lt : Nat → FieldType := fun k => match k with
  | 0 => .object "LayoutTokens$Source"
  | 1 => .object "LayoutTokens$LiterateLines"
  | 2 => .object "LayoutTokens$Lexemes"
  | 3 => .object "LayoutTokens$Comments"
  | 4 => .object "LayoutTokens$Reader"
  | 5 => .object "LayoutTokens$Laid"
  | 6 => .object "LayoutTokens$Layout"
  | 7 => .object "LayoutTokens$Printer"
  | _ => .boolean
theorem nm_Lt : ∀ a, a < 9 → ∀ b, b < 9 → a ≠ b → (tt_Lt a).2.1 ≠ (tt_Lt b).2.1 := by decide +kernel
theorem ty_Lt_ok : ∀ k, k < 9 → parseFieldDescriptor (tt_Lt k).2.2.1 = some (ty_Lt k) := by decide +kernel
theorem i_Lt : ∀ w ∈ u_ws "LayoutTokens" tt_Lt 9, w ∈ kw := kw_sub [367, 369, 371, 373, 375, 377, 379, 381, 383] (by decide +kernel) (by decide +kernel)
def tt_Mo : u_T := fun k => match k with
  | 0 => ("LayoutTokensModel", "thrown", "I", false)
  | 1 => ("LayoutTokensModel", "text", "[I", true)
  | 2 => ("LayoutTokensModel", "n", "I", false)
  | 3 => ("LayoutTokensModel", "eff", "[I", true)
  | 4 => ("LayoutTokensModel", "columnOf", "[I", true)
  | 5 => ("LayoutTokensModel", "lineOf", "[I", true)
  | 6 => ("LayoutTokensModel", "isRead", "Z", false)
  | 7 => ("LayoutTokensModel", "fault", "I", false)
  | 8 => ("LayoutTokensModel", "raws", "I", false)
  | 9 => ("LayoutTokensModel", "rawKind", "[I", true)
  | 10 => ("LayoutTokensModel", "rawPlace", "[I", true)
  | 11 => ("LayoutTokensModel", "rawSize", "[I", true)
  | 12 => ("LayoutTokensModel", "rawFrom", "[I", true)
  | 13 => ("LayoutTokensModel", "rawSigns", "[I", true)
  | 14 => ("LayoutTokensModel", "rawWord", "[I", true)
  | 15 => ("LayoutTokensModel", "signs", "[I", true)
  | 16 => ("LayoutTokensModel", "signCount", "I", false)
  | 17 => ("LayoutTokensModel", "comments", "I", false)
  | 18 => ("LayoutTokensModel", "commentAt", "[I", true)
  | 19 => ("LayoutTokensModel", "commentSize", "[I", true)
  | 20 => ("LayoutTokensModel", "isBlock", "[Z", true)
  | 21 => ("LayoutTokensModel", "deepest", "I", false)
  | 22 => ("LayoutTokensModel", "tokens", "I", false)
  | 23 => ("LayoutTokensModel", "tokenRaw", "[I", true)
  | 24 => ("LayoutTokensModel", "tokenKind", "[I", true)
  | 25 => ("LayoutTokensModel", "tokenPlace", "[I", true)
  | 26 => ("LayoutTokensModel", "tokenLine", "[I", true)
  | 27 => ("LayoutTokensModel", "tokenColumn", "[I", true)
  | 28 => ("LayoutTokensModel", "isAsked", "[Z", true)
  | 29 => ("LayoutTokensModel", "printed", "I", false)
  | 30 => ("LayoutTokensModel", "letters", "[I", true)
  | 31 => ("LayoutTokensModel", "made", "[I", true)
  | 32 => ("LayoutTokensModel", "making", "I", false)
  | 33 => ("LayoutTokensModel", "lineFirst", "[I", true)
  | 34 => ("LayoutTokensModel", "lineCode", "[Z", true)
  | 35 => ("LayoutTokensModel", "lineFull", "[Z", true)
  | 36 => ("LayoutTokensModel", "end", "I", false)
  | 37 => ("LayoutTokensModel", "kind", "I", false)
  | 38 => ("LayoutTokensModel", "code", "I", false)
  | 39 => ("LayoutTokensModel", "itemKind", "[I", true)
  | 40 => ("LayoutTokensModel", "itemColumn", "[I", true)
  | 41 => ("LayoutTokensModel", "itemLet", "[Z", true)
  | 42 => ("LayoutTokensModel", "items", "I", false)
  | 43 => ("LayoutTokensModel", "herePlace", "I", false)
  | 44 => ("LayoutTokensModel", "hereLine", "I", false)
  | 45 => ("LayoutTokensModel", "hereColumn", "I", false)
  | 46 => ("LayoutTokensModel", "letOver", "Z", false)
  | _ => ("LayoutTokensModel", "braceLet", "Z", false)
def ty_Mo : Nat → FieldType := fun k => match k with
  | 0 => .int
  | 1 => .array .int
  | 2 => .int
  | 3 => .array .int
  | 4 => .array .int
  | 5 => .array .int
  | 6 => .boolean
  | 7 => .int
  | 8 => .int
  | 9 => .array .int
  | 10 => .array .int
  | 11 => .array .int
  | 12 => .array .int
  | 13 => .array .int
  | 14 => .array .int
  | 15 => .array .int
  | 16 => .int
  | 17 => .int
  | 18 => .array .int
  | 19 => .array .int
  | 20 => .array .boolean
  | 21 => .int
  | 22 => .int
  | 23 => .array .int
  | 24 => .array .int
  | 25 => .array .int
  | 26 => .array .int
  | 27 => .array .int
  | 28 => .array .boolean
  | 29 => .int
  | 30 => .array .int
  | 31 => .array .int
  | 32 => .int
  | 33 => .array .int
  | 34 => .array .boolean
  | 35 => .array .boolean
  | 36 => .int
  | 37 => .int
  | 38 => .int
  | 39 => .array .int
  | 40 => .array .int
  | 41 => .array .boolean
  | 42 => .int
  | 43 => .int
  | 44 => .int
  | 45 => .int
  | 46 => .boolean
  | _ => .boolean
theorem nm_Mo : ∀ a, a < 48 → ∀ b, b < 48 → a ≠ b → (tt_Mo a).2.1 ≠ (tt_Mo b).2.1 := by decide +kernel
theorem ty_Mo_ok : ∀ k, k < 48 → parseFieldDescriptor (tt_Mo k).2.2.1 = some (ty_Mo k) := by decide +kernel
theorem i_Mo : ∀ w ∈ u_ws "LayoutTokensModel" tt_Mo 48, w ∈ kw := kw_sub [1036, 1038, 1040, 1042, 1044, 1046, 1048, 1050, 1052, 1054, 1056, 1058, 1060, 1062, 1064, 1066, 1068, 1070, 1072, 1074, 1076, 1078, 1080, 1082, 1084, 1086, 1088, 1090, 1092, 1094, 1096, 1098, 1100, 1102, 1104, 1106, 1108, 1110, 1112, 1114, 1116, 1118, 1120, 1122, 1124, 1126, 1128, 1130] (by decide +kernel) (by decide +kernel)
abbrev classes : List vw_C := [("LayoutTokens$Source", tt_So, 5), ("LayoutTokens$LiterateLines", tt_Li, 1), ("LayoutTokens$Lexemes", tt_Le, 11), ("LayoutTokens$Comments", tt_Co, 5), ("LayoutTokens$Quotes", tt_Qu, 2), ("LayoutTokens$Reader", tt_Re, 4), ("LayoutTokens$Laid", tt_La, 10), ("LayoutTokens$Layout", tt_Ly, 13), ("LayoutTokens$Printer", tt_Pr, 6), ("LayoutTokens", tt_Lt, 9), ("LayoutTokensModel", tt_Mo, 48)]
abbrev kT (aI aJ aZ : ClassId) : List (ClassId × FieldType) := [(aI, .int), (aJ, .long), (aZ, .boolean)]
abbrev kN : Cond := .methodLinkNest "LayoutTokens$LiterateLines" 29 ⟨"LayoutTokens", "faultAt", "(I)I"⟩ "LayoutTokens"
abbrev y_Lt_init : MethodName := ⟨"LayoutTokens", "<init>", "()V"⟩
abbrev y_Lt_asked : MethodName := ⟨"LayoutTokens", "asked", "(I)Z"⟩
abbrev y_Lt_back : MethodName := ⟨"LayoutTokens", "back", "()I"⟩
abbrev y_Lt_clear : MethodName := ⟨"LayoutTokens", "clear", "()I"⟩
abbrev y_Lt_column : MethodName := ⟨"LayoutTokens", "column", "(I)I"⟩
abbrev y_Lt_comment : MethodName := ⟨"LayoutTokens", "comment", "(II)I"⟩
abbrev y_Lt_faultAt : MethodName := ⟨"LayoutTokens", "faultAt", "(I)I"⟩
abbrev y_Lt_forget : MethodName := ⟨"LayoutTokens", "forget", "()V"⟩
abbrev y_Lt_letter : MethodName := ⟨"LayoutTokens", "letter", "(I)I"⟩
abbrev y_Lt_number : MethodName := ⟨"LayoutTokens", "number", "(I)J"⟩
abbrev y_Lt_octets : MethodName := ⟨"LayoutTokens", "octets", "(IJ)I"⟩
abbrev y_Lt_print : MethodName := ⟨"LayoutTokens", "print", "()I"⟩
abbrev y_Lt_read : MethodName := ⟨"LayoutTokens", "read", "(Z)I"⟩
abbrev y_Lt_sign : MethodName := ⟨"LayoutTokens", "sign", "(II)I"⟩
abbrev y_Lt_token : MethodName := ⟨"LayoutTokens", "token", "(II)I"⟩
abbrev y_Lt_told : MethodName := ⟨"LayoutTokens", "told", "(I)I"⟩
abbrev y_Co_init : MethodName := ⟨"LayoutTokens$Comments", "<init>", "()V"⟩
abbrev y_Co_count : MethodName := ⟨"LayoutTokens$Comments", "count", "()I"⟩
abbrev y_Co_deepest : MethodName := ⟨"LayoutTokens$Comments", "deepest", "()I"⟩
abbrev y_Co_empty : MethodName := ⟨"LayoutTokens$Comments", "empty", "()V"⟩
abbrev y_Co_tell : MethodName := ⟨"LayoutTokens$Comments", "tell", "(II)I"⟩
abbrev y_La_init : MethodName := ⟨"LayoutTokens$Laid", "<init>", "(LLayoutTokens$Source;)V"⟩
abbrev y_La_add : MethodName := ⟨"LayoutTokens$Laid", "add", "(IIIZ)Z"⟩
abbrev y_La_count : MethodName := ⟨"LayoutTokens$Laid", "count", "()I"⟩
abbrev y_La_countAsked : MethodName := ⟨"LayoutTokens$Laid", "countAsked", "()I"⟩
abbrev y_La_countPutIn : MethodName := ⟨"LayoutTokens$Laid", "countPutIn", "()I"⟩
abbrev y_La_empty : MethodName := ⟨"LayoutTokens$Laid", "empty", "()V"⟩
abbrev y_La_has : MethodName := ⟨"LayoutTokens$Laid", "has", "(I)Z"⟩
abbrev y_La_isAsked : MethodName := ⟨"LayoutTokens$Laid", "isAsked", "(I)Z"⟩
abbrev y_La_keepEnd : MethodName := ⟨"LayoutTokens$Laid", "keepEnd", "()V"⟩
abbrev y_La_lexemeOf : MethodName := ⟨"LayoutTokens$Laid", "lexemeOf", "(I)I"⟩
abbrev y_Ly_init : MethodName := ⟨"LayoutTokens$Layout", "<init>", "(LLayoutTokens$Source;LLayoutTokens$Lexemes;LLayoutTokens$Laid;)V"⟩
abbrev y_Ly_closeEmpty : MethodName := ⟨"LayoutTokens$Layout", "closeEmpty", "()V"⟩
abbrev y_Ly_finish : MethodName := ⟨"LayoutTokens$Layout", "finish", "()V"⟩
abbrev y_Ly_layAll : MethodName := ⟨"LayoutTokens$Layout", "layAll", "()I"⟩
abbrev y_Ly_putIn : MethodName := ⟨"LayoutTokens$Layout", "putIn", "(IZ)V"⟩
abbrev y_Ly_topColumn : MethodName := ⟨"LayoutTokens$Layout", "topColumn", "()I"⟩
abbrev y_Le_init : MethodName := ⟨"LayoutTokens$Lexemes", "<init>", "(LLayoutTokens$Source;)V"⟩
abbrev y_Le_count : MethodName := ⟨"LayoutTokens$Lexemes", "count", "()I"⟩
abbrev y_Le_empty : MethodName := ⟨"LayoutTokens$Lexemes", "empty", "()V"⟩
abbrev y_Le_has : MethodName := ⟨"LayoutTokens$Lexemes", "has", "(I)Z"⟩
abbrev y_Le_signOf : MethodName := ⟨"LayoutTokens$Lexemes", "signOf", "(II)I"⟩
abbrev y_Le_valueOf : MethodName := ⟨"LayoutTokens$Lexemes", "valueOf", "(I)J"⟩
abbrev y_Li_init : MethodName := ⟨"LayoutTokens$LiterateLines", "<init>", "(LLayoutTokens$Source;)V"⟩
abbrev y_Li_count : MethodName := ⟨"LayoutTokens$LiterateLines", "count", "()I"⟩
abbrev y_Pr_init : MethodName := ⟨"LayoutTokens$Printer", "<init>", "(LLayoutTokens$Lexemes;LLayoutTokens$Laid;)V"⟩
abbrev y_Pr_count : MethodName := ⟨"LayoutTokens$Printer", "count", "()I"⟩
abbrev y_Pr_letterAt : MethodName := ⟨"LayoutTokens$Printer", "letterAt", "(I)I"⟩
abbrev y_Qu_init : MethodName := ⟨"LayoutTokens$Quotes", "<init>", "(LLayoutTokens$Source;LLayoutTokens$Lexemes;)V"⟩
abbrev y_Re_init : MethodName := ⟨"LayoutTokens$Reader", "<init>", "(LLayoutTokens$Source;LLayoutTokens$Lexemes;LLayoutTokens$Comments;)V"⟩
abbrev y_Re_readAll : MethodName := ⟨"LayoutTokens$Reader", "readAll", "()I"⟩
abbrev y_So_init : MethodName := ⟨"LayoutTokens$Source", "<init>", "()V"⟩
abbrev y_So_append : MethodName := ⟨"LayoutTokens$Source", "append", "(I)V"⟩
abbrev y_So_columnAt : MethodName := ⟨"LayoutTokens$Source", "columnAt", "(I)I"⟩
abbrev y_So_columnBehind : MethodName := ⟨"LayoutTokens$Source", "columnBehind", "(II)I"⟩
abbrev y_So_countAll : MethodName := ⟨"LayoutTokens$Source", "countAll", "()I"⟩
abbrev y_So_empty : MethodName := ⟨"LayoutTokens$Source", "empty", "()V"⟩
abbrev y_So_has : MethodName := ⟨"LayoutTokens$Source", "has", "(I)Z"⟩
abbrev y_So_lastLine : MethodName := ⟨"LayoutTokens$Source", "lastLine", "()I"⟩
abbrev y_So_size : MethodName := ⟨"LayoutTokens$Source", "size", "()I"⟩
abbrev y_Mo_init : MethodName := ⟨"LayoutTokensModel", "<init>", "()V"⟩
abbrev y_Mo_addToken : MethodName := ⟨"LayoutTokensModel", "addToken", "(IIZ)V"⟩
abbrev y_Mo_asked : MethodName := ⟨"LayoutTokensModel", "asked", "(I)Z"⟩
abbrev y_Mo_back : MethodName := ⟨"LayoutTokensModel", "back", "()I"⟩
abbrev y_Mo_clear : MethodName := ⟨"LayoutTokensModel", "clear", "()I"⟩
abbrev y_Mo_column : MethodName := ⟨"LayoutTokensModel", "column", "(I)I"⟩
abbrev y_Mo_comment : MethodName := ⟨"LayoutTokensModel", "comment", "(II)I"⟩
abbrev y_Mo_isTop : MethodName := ⟨"LayoutTokensModel", "isTop", "(II)Z"⟩
abbrev y_Mo_layLines : MethodName := ⟨"LayoutTokensModel", "layLines", "()V"⟩
abbrev y_Mo_layout : MethodName := ⟨"LayoutTokensModel", "layout", "()V"⟩
abbrev y_Mo_letter : MethodName := ⟨"LayoutTokensModel", "letter", "(I)I"⟩
abbrev y_Mo_literate : MethodName := ⟨"LayoutTokensModel", "literate", "()V"⟩
abbrev y_Mo_noToken : MethodName := ⟨"LayoutTokensModel", "noToken", "(I)Z"⟩
abbrev y_Mo_number : MethodName := ⟨"LayoutTokensModel", "number", "(I)J"⟩
abbrev y_Mo_octets : MethodName := ⟨"LayoutTokensModel", "octets", "(IJ)I"⟩
abbrev y_Mo_print : MethodName := ⟨"LayoutTokensModel", "print", "()I"⟩
abbrev y_Mo_putIn : MethodName := ⟨"LayoutTokensModel", "putIn", "(I)V"⟩
abbrev y_Mo_read : MethodName := ⟨"LayoutTokensModel", "read", "(Z)I"⟩
abbrev y_Mo_readAll : MethodName := ⟨"LayoutTokensModel", "readAll", "()V"⟩
abbrev y_Mo_room : MethodName := ⟨"LayoutTokensModel", "room", "()V"⟩
abbrev y_Mo_sign : MethodName := ⟨"LayoutTokensModel", "sign", "(II)I"⟩
abbrev y_Mo_stop : MethodName := ⟨"LayoutTokensModel", "stop", "(I)V"⟩
abbrev y_Mo_token : MethodName := ⟨"LayoutTokensModel", "token", "(II)I"⟩
abbrev y_Mo_told : MethodName := ⟨"LayoutTokensModel", "told", "(I)I"⟩
abbrev y_Mo_unread : MethodName := ⟨"LayoutTokensModel", "unread", "()V"⟩
theorem kz_0 : (0 : Int32).toInt = 0 := by decide
theorem kz_1 : (1 : Int32).toInt = 1 := by decide
theorem kz_2 : (2 : Int32).toInt = 2 := by decide
theorem kz_3 : (3 : Int32).toInt = 3 := by decide
theorem kz_4 : (4 : Int32).toInt = 4 := by decide
theorem kz_5 : (5 : Int32).toInt = 5 := by decide
theorem kz_6 : (6 : Int32).toInt = 6 := by decide
theorem kz_7 : (7 : Int32).toInt = 7 := by decide
theorem kz_8 : (8 : Int32).toInt = 8 := by decide
theorem kz_600 : (600 : Int32).toInt = 600 := by decide
/-! ===== what octets and told answer on a new object ===== -/
def koct (n : Int32) : Int32 := if n < 1 ∨ 8 < n then -1 else n
theorem koct_lo {n : Int32} (h : n < 1) : (-1) = koct n := by unfold koct; rw [if_pos (Or.inl h)]
theorem koct_hi {n : Int32} (h : 8 < n) : (-1) = koct n := by unfold koct; rw [if_pos (Or.inr h)]
theorem koct_in {n k : Int32} (h1 : ¬ n < 1) (h2 : ¬ 8 < n) (h : k = n) : k = koct n := by unfold koct; rw [if_neg (fun q => q.elim h1 h2)]; exact h
def ktold (n : Int32) : Int32 := if n.toInt < 0 ∨ 6 < n.toInt then -1 else 0
theorem ktold_out {n : Int32} (h : n.toInt < 0 ∨ 6 < n.toInt) : (-1) = ktold n := by unfold ktold; rw [if_pos h]
theorem ktold_in {n r : Int32} (h : ¬ (n.toInt < 0 ∨ 6 < n.toInt)) (hr : r = 0) : r = ktold n := by unfold ktold; rw [if_neg h]; exact hr
theorem ksw_7 {x : Int32} (h : ¬ (x.toInt < 0 ∨ 6 < x.toInt)) : x = 0 ∨ x = 1 ∨ x = 2 ∨ x = 3 ∨ x = 4 ∨ x = 5 ∨ x = 6 := by
  have h1 : x.toInt = 0 ∨ x.toInt = 1 ∨ x.toInt = 2 ∨ x.toInt = 3 ∨ x.toInt = 4 ∨ x.toInt = 5 ∨ x.toInt = 6 := by omega
  rcases h1 with h1 | h1 | h1 | h1 | h1 | h1 | h1
  · exact Or.inl (Int32.toInt_inj.mp h1)
  · exact Or.inr (Or.inl (Int32.toInt_inj.mp h1))
  · exact Or.inr (Or.inr (Or.inl (Int32.toInt_inj.mp h1)))
  · exact Or.inr (Or.inr (Or.inr (Or.inl (Int32.toInt_inj.mp h1))))
  · exact Or.inr (Or.inr (Or.inr (Or.inr (Or.inl (Int32.toInt_inj.mp h1)))))
  · exact Or.inr (Or.inr (Or.inr (Or.inr (Or.inr (Or.inl (Int32.toInt_inj.mp h1))))))
  · exact Or.inr (Or.inr (Or.inr (Or.inr (Or.inr (Or.inr ((Int32.toInt_inj.mp h1)))))))
theorem ksw_13 {x : Int32} (h : ¬ (x.toInt < 0 ∨ 12 < x.toInt)) : x = 0 ∨ x = 1 ∨ x = 2 ∨ x = 3 ∨ x = 4 ∨ x = 5 ∨ x = 6 ∨ x = 7 ∨ x = 8 ∨ x = 9 ∨ x = 10 ∨ x = 11 ∨ x = 12 := by
  have h1 : x.toInt = 0 ∨ x.toInt = 1 ∨ x.toInt = 2 ∨ x.toInt = 3 ∨ x.toInt = 4 ∨ x.toInt = 5 ∨ x.toInt = 6 ∨ x.toInt = 7 ∨ x.toInt = 8 ∨ x.toInt = 9 ∨ x.toInt = 10 ∨ x.toInt = 11 ∨ x.toInt = 12 := by omega
  rcases h1 with h1 | h1 | h1 | h1 | h1 | h1 | h1 | h1 | h1 | h1 | h1 | h1 | h1
  · exact Or.inl (Int32.toInt_inj.mp h1)
  · exact Or.inr (Or.inl (Int32.toInt_inj.mp h1))
  · exact Or.inr (Or.inr (Or.inl (Int32.toInt_inj.mp h1)))
  · exact Or.inr (Or.inr (Or.inr (Or.inl (Int32.toInt_inj.mp h1))))
  · exact Or.inr (Or.inr (Or.inr (Or.inr (Or.inl (Int32.toInt_inj.mp h1)))))
  · exact Or.inr (Or.inr (Or.inr (Or.inr (Or.inr (Or.inl (Int32.toInt_inj.mp h1))))))
  · exact Or.inr (Or.inr (Or.inr (Or.inr (Or.inr (Or.inr (Or.inl (Int32.toInt_inj.mp h1)))))))
  · exact Or.inr (Or.inr (Or.inr (Or.inr (Or.inr (Or.inr (Or.inr (Or.inl (Int32.toInt_inj.mp h1))))))))
  · exact Or.inr (Or.inr (Or.inr (Or.inr (Or.inr (Or.inr (Or.inr (Or.inr (Or.inl (Int32.toInt_inj.mp h1)))))))))
  · exact Or.inr (Or.inr (Or.inr (Or.inr (Or.inr (Or.inr (Or.inr (Or.inr (Or.inr (Or.inl (Int32.toInt_inj.mp h1))))))))))
  · exact Or.inr (Or.inr (Or.inr (Or.inr (Or.inr (Or.inr (Or.inr (Or.inr (Or.inr (Or.inr (Or.inl (Int32.toInt_inj.mp h1)))))))))))
  · exact Or.inr (Or.inr (Or.inr (Or.inr (Or.inr (Or.inr (Or.inr (Or.inr (Or.inr (Or.inr (Or.inr (Or.inl (Int32.toInt_inj.mp h1))))))))))))
  · exact Or.inr (Or.inr (Or.inr (Or.inr (Or.inr (Or.inr (Or.inr (Or.inr (Or.inr (Or.inr (Or.inr (Or.inr ((Int32.toInt_inj.mp h1)))))))))))))
