def T_Row : u_T := fun k => match k with
  | 0 => ("PackageBook$Row", "bytes", "[B", true)
  | _ => ("PackageBook$Row", "size", "I", false)
def t_Row : Nat → FieldType := fun k => match k with
  | 0 => .array .byte
  | _ => .int
theorem t_Row_ok : ∀ k, k < 2 → parseFieldDescriptor (T_Row k).2.2.1 = some (t_Row k) := by decide +kernel
theorem n_Row : ∀ a, a < 2 → ∀ b, b < 2 → a ≠ b → (T_Row a).2.1 ≠ (T_Row b).2.1 := by decide +kernel
def T_Code : u_T := fun k => match k with
  | 0 => ("PackageBook$Code", "counts", "[I", true)
  | 1 => ("PackageBook$Code", "symbols", "[I", true)
  | _ => ("PackageBook$Code", "size", "I", false)
def t_Code : Nat → FieldType := fun k => match k with
  | 0 => .array .int
  | 1 => .array .int
  | _ => .int
theorem t_Code_ok : ∀ k, k < 3 → parseFieldDescriptor (T_Code k).2.2.1 = some (t_Code k) := by decide +kernel
theorem n_Code : ∀ a, a < 3 → ∀ b, b < 3 → a ≠ b → (T_Code a).2.1 ≠ (T_Code b).2.1 := by decide +kernel
def T_Findings : u_T := fun k => match k with
  | 0 => ("PackageBook$Findings", "kinds", "[I", true)
  | 1 => ("PackageBook$Findings", "owners", "[I", true)
  | 2 => ("PackageBook$Findings", "places", "[I", true)
  | _ => ("PackageBook$Findings", "count", "I", false)
def t_Findings : Nat → FieldType := fun k => match k with
  | 0 => .array .int
  | 1 => .array .int
  | 2 => .array .int
  | _ => .int
theorem t_Findings_ok : ∀ k, k < 4 → parseFieldDescriptor (T_Findings k).2.2.1 = some (t_Findings k) := by decide +kernel
theorem n_Findings : ∀ a, a < 4 → ∀ b, b < 4 → a ≠ b → (T_Findings a).2.1 ≠ (T_Findings b).2.1 := by decide +kernel
def T_Shelf : u_T := fun k => match k with
  | 0 => ("PackageBook$Shelf", "names", "[B", true)
  | 1 => ("PackageBook$Shelf", "nameSizes", "[I", true)
  | 2 => ("PackageBook$Shelf", "bytes", "[B", true)
  | 3 => ("PackageBook$Shelf", "begins", "[I", true)
  | _ => ("PackageBook$Shelf", "count", "I", false)
def t_Shelf : Nat → FieldType := fun k => match k with
  | 0 => .array .byte
  | 1 => .array .int
  | 2 => .array .byte
  | 3 => .array .int
  | _ => .int
theorem t_Shelf_ok : ∀ k, k < 5 → parseFieldDescriptor (T_Shelf k).2.2.1 = some (t_Shelf k) := by decide +kernel
theorem n_Shelf : ∀ a, a < 5 → ∀ b, b < 5 → a ≠ b → (T_Shelf a).2.1 ≠ (T_Shelf b).2.1 := by decide +kernel
def T_Presser : u_T := fun k => match k with
  | 0 => ("PackageBook$Presser", "pressed", "LPackageBook$Row;", true)
  | 1 => ("PackageBook$Presser", "latest", "[I", true)
  | 2 => ("PackageBook$Presser", "earlier", "[I", true)
  | 3 => ("PackageBook$Presser", "row", "[B", false)
  | 4 => ("PackageBook$Presser", "begin", "I", false)
  | 5 => ("PackageBook$Presser", "size", "I", false)
  | 6 => ("PackageBook$Presser", "bits", "I", false)
  | 7 => ("PackageBook$Presser", "length", "I", false)
  | _ => ("PackageBook$Presser", "distance", "I", false)
def t_Presser : Nat → FieldType := fun k => match k with
  | 0 => .object "PackageBook$Row"
  | 1 => .array .int
  | 2 => .array .int
  | 3 => .array .byte
  | 4 => .int
  | 5 => .int
  | 6 => .int
  | 7 => .int
  | _ => .int
theorem t_Presser_ok : ∀ k, k < 9 → parseFieldDescriptor (T_Presser k).2.2.1 = some (t_Presser k) := by decide +kernel
theorem n_Presser : ∀ a, a < 9 → ∀ b, b < 9 → a ≠ b → (T_Presser a).2.1 ≠ (T_Presser b).2.1 := by decide +kernel
def T_Expander : u_T := fun k => match k with
  | 0 => ("PackageBook$Expander", "expanded", "LPackageBook$Row;", true)
  | 1 => ("PackageBook$Expander", "told", "[I", true)
  | 2 => ("PackageBook$Expander", "fixedFirst", "LPackageBook$Code;", true)
  | 3 => ("PackageBook$Expander", "fixedSecond", "LPackageBook$Code;", true)
  | 4 => ("PackageBook$Expander", "first", "LPackageBook$Code;", true)
  | 5 => ("PackageBook$Expander", "second", "LPackageBook$Code;", true)
  | 6 => ("PackageBook$Expander", "third", "LPackageBook$Code;", true)
  | 7 => ("PackageBook$Expander", "row", "[B", false)
  | 8 => ("PackageBook$Expander", "at", "I", false)
  | 9 => ("PackageBook$Expander", "end", "I", false)
  | _ => ("PackageBook$Expander", "fault", "I", false)
def t_Expander : Nat → FieldType := fun k => match k with
  | 0 => .object "PackageBook$Row"
  | 1 => .array .int
  | 2 => .object "PackageBook$Code"
  | 3 => .object "PackageBook$Code"
  | 4 => .object "PackageBook$Code"
  | 5 => .object "PackageBook$Code"
  | 6 => .object "PackageBook$Code"
  | 7 => .array .byte
  | 8 => .int
  | 9 => .int
  | _ => .int
theorem t_Expander_ok : ∀ k, k < 11 → parseFieldDescriptor (T_Expander k).2.2.1 = some (t_Expander k) := by decide +kernel
theorem n_Expander : ∀ a, a < 11 → ∀ b, b < 11 → a ≠ b → (T_Expander a).2.1 ≠ (T_Expander b).2.1 := by decide +kernel
def T_FileMaker : u_T := fun k => match k with
  | 0 => ("PackageBook$FileMaker", "made", "LPackageBook$Row;", true)
  | _ => ("PackageBook$FileMaker", "records", "[I", true)
def t_FileMaker : Nat → FieldType := fun k => match k with
  | 0 => .object "PackageBook$Row"
  | _ => .array .int
theorem t_FileMaker_ok : ∀ k, k < 2 → parseFieldDescriptor (T_FileMaker k).2.2.1 = some (t_FileMaker k) := by decide +kernel
theorem n_FileMaker : ∀ a, a < 2 → ∀ b, b < 2 → a ≠ b → (T_FileMaker a).2.1 ≠ (T_FileMaker b).2.1 := by decide +kernel
def T_FileReader : u_T := fun k => match k with
  | _ => ("PackageBook$FileReader", "row", "[B", false)
def t_FileReader : Nat → FieldType := fun k => match k with
  | _ => .array .byte
theorem t_FileReader_ok : ∀ k, k < 1 → parseFieldDescriptor (T_FileReader k).2.2.1 = some (t_FileReader k) := by decide +kernel
theorem n_FileReader : ∀ a, a < 1 → ∀ b, b < 1 → a ≠ b → (T_FileReader a).2.1 ≠ (T_FileReader b).2.1 := by decide +kernel
def T_Markup : u_T := fun k => match k with
  | 0 => ("PackageBook$Markup", "ids", "[J", true)
  | 1 => ("PackageBook$Markup", "goals", "[I", true)
  | 2 => ("PackageBook$Markup", "value", "[B", true)
  | 3 => ("PackageBook$Markup", "row", "[B", false)
  | 4 => ("PackageBook$Markup", "count", "I", false)
  | 5 => ("PackageBook$Markup", "fault", "I", false)
  | 6 => ("PackageBook$Markup", "begin", "I", false)
  | 7 => ("PackageBook$Markup", "at", "I", false)
  | 8 => ("PackageBook$Markup", "end", "I", false)
  | 9 => ("PackageBook$Markup", "valueSize", "I", false)
  | 10 => ("PackageBook$Markup", "isOpen", "Z", false)
  | 11 => ("PackageBook$Markup", "hasId", "Z", false)
  | _ => ("PackageBook$Markup", "hasTo", "Z", false)
def t_Markup : Nat → FieldType := fun k => match k with
  | 0 => .array .long
  | 1 => .array .int
  | 2 => .array .byte
  | 3 => .array .byte
  | 4 => .int
  | 5 => .int
  | 6 => .int
  | 7 => .int
  | 8 => .int
  | 9 => .int
  | 10 => .boolean
  | 11 => .boolean
  | _ => .boolean
theorem t_Markup_ok : ∀ k, k < 13 → parseFieldDescriptor (T_Markup k).2.2.1 = some (t_Markup k) := by decide +kernel
theorem n_Markup : ∀ a, a < 13 → ∀ b, b < 13 → a ≠ b → (T_Markup a).2.1 ≠ (T_Markup b).2.1 := by decide +kernel
def T_Book : u_T := fun k => match k with
  | 0 => ("PackageBook", "tape", "LPackageBook$Row;", true)
  | 1 => ("PackageBook", "came", "LPackageBook$Row;", true)
  | 2 => ("PackageBook", "presser", "LPackageBook$Presser;", true)
  | 3 => ("PackageBook", "expander", "LPackageBook$Expander;", true)
  | 4 => ("PackageBook", "maker", "LPackageBook$FileMaker;", true)
  | 5 => ("PackageBook", "reader", "LPackageBook$FileReader;", true)
  | 6 => ("PackageBook", "markup", "LPackageBook$Markup;", true)
  | 7 => ("PackageBook", "findings", "LPackageBook$Findings;", true)
  | 8 => ("PackageBook", "goals", "[I", true)
  | 9 => ("PackageBook", "parts", "LPackageBook$Shelf;", false)
  | _ => ("PackageBook", "spare", "LPackageBook$Shelf;", false)
def t_Book : Nat → FieldType := fun k => match k with
  | 0 => .object "PackageBook$Row"
  | 1 => .object "PackageBook$Row"
  | 2 => .object "PackageBook$Presser"
  | 3 => .object "PackageBook$Expander"
  | 4 => .object "PackageBook$FileMaker"
  | 5 => .object "PackageBook$FileReader"
  | 6 => .object "PackageBook$Markup"
  | 7 => .object "PackageBook$Findings"
  | 8 => .array .int
  | 9 => .object "PackageBook$Shelf"
  | _ => .object "PackageBook$Shelf"
theorem t_Book_ok : ∀ k, k < 11 → parseFieldDescriptor (T_Book k).2.2.1 = some (t_Book k) := by decide +kernel
theorem n_Book : ∀ a, a < 11 → ∀ b, b < 11 → a ≠ b → (T_Book a).2.1 ≠ (T_Book b).2.1 := by decide +kernel
def T_Mod : u_T := fun k => match k with
  | 0 => ("PackageBookModel", "rels", "[B", true)
  | 1 => ("PackageBookModel", "openRels", "[B", true)
  | 2 => ("PackageBookModel", "closeRels", "[B", true)
  | 3 => ("PackageBookModel", "openRel", "[B", true)
  | 4 => ("PackageBookModel", "closeRel", "[B", true)
  | 5 => ("PackageBookModel", "comment", "[B", true)
  | 6 => ("PackageBookModel", "ends", "[B", true)
  | 7 => ("PackageBookModel", "order", "[B", true)
  | 8 => ("PackageBookModel", "thrown", "I", false)
  | 9 => ("PackageBookModel", "taped", "I", false)
  | 10 => ("PackageBookModel", "tape", "[B", true)
  | 11 => ("PackageBookModel", "count", "[I", true)
  | 12 => ("PackageBookModel", "nameSize", "[I", true)
  | 13 => ("PackageBookModel", "names", "[B", true)
  | 14 => ("PackageBookModel", "size", "[I", true)
  | 15 => ("PackageBookModel", "data", "[B", true)
  | 16 => ("PackageBookModel", "lookedSize", "I", false)
  | 17 => ("PackageBookModel", "looked", "[B", true)
  | 18 => ("PackageBookModel", "fileSize", "I", false)
  | 19 => ("PackageBookModel", "file", "[B", true)
  | 20 => ("PackageBookModel", "directorySize", "I", false)
  | 21 => ("PackageBookModel", "directory", "[B", true)
  | 22 => ("PackageBookModel", "outSize", "I", false)
  | 23 => ("PackageBookModel", "out", "[B", true)
  | 24 => ("PackageBookModel", "rowSize", "I", false)
  | 25 => ("PackageBookModel", "row", "[B", true)
  | 26 => ("PackageBookModel", "bitAt", "I", false)
  | 27 => ("PackageBookModel", "bitEnd", "I", false)
  | 28 => ("PackageBookModel", "why", "I", false)
  | 29 => ("PackageBookModel", "madeSize", "I", false)
  | 30 => ("PackageBookModel", "made", "[B", true)
  | 31 => ("PackageBookModel", "length", "[I", true)
  | 32 => ("PackageBookModel", "firstCount", "I", false)
  | 33 => ("PackageBookModel", "secondCount", "I", false)
  | 34 => ("PackageBookModel", "heldBits", "I", false)
  | 35 => ("PackageBookModel", "heldCount", "I", false)
  | 36 => ("PackageBookModel", "pressedSize", "I", false)
  | 37 => ("PackageBookModel", "pressed", "[B", true)
  | 38 => ("PackageBookModel", "at", "I", false)
  | 39 => ("PackageBookModel", "bad", "Z", false)
  | 40 => ("PackageBookModel", "markSize", "I", false)
  | 41 => ("PackageBookModel", "mark", "[B", true)
  | 42 => ("PackageBookModel", "relationCount", "I", false)
  | 43 => ("PackageBookModel", "idSize", "[I", true)
  | 44 => ("PackageBookModel", "ids", "[B", true)
  | 45 => ("PackageBookModel", "goalSize", "[I", true)
  | 46 => ("PackageBookModel", "goals", "[B", true)
  | 47 => ("PackageBookModel", "valueSize", "I", false)
  | 48 => ("PackageBookModel", "value", "[B", true)
  | 49 => ("PackageBookModel", "faultCount", "I", false)
  | 50 => ("PackageBookModel", "faults", "[I", true)
  | _ => ("PackageBookModel", "reached", "[Z", true)
def t_Mod : Nat → FieldType := fun k => match k with
  | 0 => .array .byte
  | 1 => .array .byte
  | 2 => .array .byte
  | 3 => .array .byte
  | 4 => .array .byte
  | 5 => .array .byte
  | 6 => .array .byte
  | 7 => .array .byte
  | 8 => .int
  | 9 => .int
  | 10 => .array .byte
  | 11 => .array .int
  | 12 => .array .int
  | 13 => .array .byte
  | 14 => .array .int
  | 15 => .array .byte
  | 16 => .int
  | 17 => .array .byte
  | 18 => .int
  | 19 => .array .byte
  | 20 => .int
  | 21 => .array .byte
  | 22 => .int
  | 23 => .array .byte
  | 24 => .int
  | 25 => .array .byte
  | 26 => .int
  | 27 => .int
  | 28 => .int
  | 29 => .int
  | 30 => .array .byte
  | 31 => .array .int
  | 32 => .int
  | 33 => .int
  | 34 => .int
  | 35 => .int
  | 36 => .int
  | 37 => .array .byte
  | 38 => .int
  | 39 => .boolean
  | 40 => .int
  | 41 => .array .byte
  | 42 => .int
  | 43 => .array .int
  | 44 => .array .byte
  | 45 => .array .int
  | 46 => .array .byte
  | 47 => .int
  | 48 => .array .byte
  | 49 => .int
  | 50 => .array .int
  | _ => .array .boolean
theorem t_Mod_ok : ∀ k, k < 52 → parseFieldDescriptor (T_Mod k).2.2.1 = some (t_Mod k) := by decide +kernel
theorem n_Mod : ∀ a, a < 52 → ∀ b, b < 52 → a ≠ b → (T_Mod a).2.1 ≠ (T_Mod b).2.1 := by decide +kernel
abbrev vwCl : List vw_C := [("PackageBook$Row", T_Row, 2), ("PackageBook$Code", T_Code, 3), ("PackageBook$Findings", T_Findings, 4), ("PackageBook$Shelf", T_Shelf, 5), ("PackageBook$Presser", T_Presser, 9), ("PackageBook$Expander", T_Expander, 11), ("PackageBook$FileMaker", T_FileMaker, 2), ("PackageBook$FileReader", T_FileReader, 1), ("PackageBook$Markup", T_Markup, 13), ("PackageBook", T_Book, 11), ("PackageBookModel", T_Mod, 52)]
theorem k_167 : (Jvm.Cond.laysFinal "PackageBook$Row" "PackageBook$Row" "bytes" "[B") ∈ uW := uW_c0 50 rfl (by decide +kernel)
theorem k_169 : (Jvm.Cond.lays "PackageBook$Row" "PackageBook$Row" "size" "I") ∈ uW := uW_c0 52 rfl (by decide +kernel)
theorem in_Row : ∀ w ∈ u_ws "PackageBook$Row" T_Row 2, w ∈ uW := List.forall_mem_cons.mpr ⟨k_167, List.forall_mem_cons.mpr ⟨k_169, fun _ h => absurd h List.not_mem_nil⟩⟩
theorem k_232 : (Jvm.Cond.laysFinal "PackageBook$Code" "PackageBook$Code" "counts" "[I") ∈ uW := uW_c0 115 rfl (by decide +kernel)
theorem k_234 : (Jvm.Cond.laysFinal "PackageBook$Code" "PackageBook$Code" "symbols" "[I") ∈ uW := uW_c0 117 rfl (by decide +kernel)
theorem k_236 : (Jvm.Cond.lays "PackageBook$Code" "PackageBook$Code" "size" "I") ∈ uW := uW_c0 119 rfl (by decide +kernel)
theorem in_Code : ∀ w ∈ u_ws "PackageBook$Code" T_Code 3, w ∈ uW := List.forall_mem_cons.mpr ⟨k_232, List.forall_mem_cons.mpr ⟨k_234, List.forall_mem_cons.mpr ⟨k_236, fun _ h => absurd h List.not_mem_nil⟩⟩⟩
theorem k_374 : (Jvm.Cond.laysFinal "PackageBook$Findings" "PackageBook$Findings" "kinds" "[I") ∈ uW := uW_c1 17 rfl (by decide +kernel)
theorem k_376 : (Jvm.Cond.laysFinal "PackageBook$Findings" "PackageBook$Findings" "owners" "[I") ∈ uW := uW_c1 19 rfl (by decide +kernel)
theorem k_378 : (Jvm.Cond.laysFinal "PackageBook$Findings" "PackageBook$Findings" "places" "[I") ∈ uW := uW_c1 21 rfl (by decide +kernel)
theorem k_380 : (Jvm.Cond.lays "PackageBook$Findings" "PackageBook$Findings" "count" "I") ∈ uW := uW_c1 23 rfl (by decide +kernel)
theorem in_Findings : ∀ w ∈ u_ws "PackageBook$Findings" T_Findings 4, w ∈ uW := List.forall_mem_cons.mpr ⟨k_374, List.forall_mem_cons.mpr ⟨k_376, List.forall_mem_cons.mpr ⟨k_378, List.forall_mem_cons.mpr ⟨k_380, fun _ h => absurd h List.not_mem_nil⟩⟩⟩⟩
theorem k_406 : (Jvm.Cond.laysFinal "PackageBook$Shelf" "PackageBook$Shelf" "names" "[B") ∈ uW := uW_c1 49 rfl (by decide +kernel)
theorem k_408 : (Jvm.Cond.laysFinal "PackageBook$Shelf" "PackageBook$Shelf" "nameSizes" "[I") ∈ uW := uW_c1 51 rfl (by decide +kernel)
theorem k_410 : (Jvm.Cond.laysFinal "PackageBook$Shelf" "PackageBook$Shelf" "bytes" "[B") ∈ uW := uW_c1 53 rfl (by decide +kernel)
theorem k_412 : (Jvm.Cond.laysFinal "PackageBook$Shelf" "PackageBook$Shelf" "begins" "[I") ∈ uW := uW_c1 55 rfl (by decide +kernel)
theorem k_414 : (Jvm.Cond.lays "PackageBook$Shelf" "PackageBook$Shelf" "count" "I") ∈ uW := uW_c1 57 rfl (by decide +kernel)
theorem in_Shelf : ∀ w ∈ u_ws "PackageBook$Shelf" T_Shelf 5, w ∈ uW := List.forall_mem_cons.mpr ⟨k_406, List.forall_mem_cons.mpr ⟨k_408, List.forall_mem_cons.mpr ⟨k_410, List.forall_mem_cons.mpr ⟨k_412, List.forall_mem_cons.mpr ⟨k_414, fun _ h => absurd h List.not_mem_nil⟩⟩⟩⟩⟩
theorem k_192 : (Jvm.Cond.laysFinal "PackageBook$Presser" "PackageBook$Presser" "pressed" "LPackageBook$Row;") ∈ uW := uW_c0 75 rfl (by decide +kernel)
theorem k_194 : (Jvm.Cond.laysFinal "PackageBook$Presser" "PackageBook$Presser" "latest" "[I") ∈ uW := uW_c0 77 rfl (by decide +kernel)
theorem k_196 : (Jvm.Cond.laysFinal "PackageBook$Presser" "PackageBook$Presser" "earlier" "[I") ∈ uW := uW_c0 79 rfl (by decide +kernel)
theorem k_198 : (Jvm.Cond.lays "PackageBook$Presser" "PackageBook$Presser" "row" "[B") ∈ uW := uW_c0 81 rfl (by decide +kernel)
theorem k_200 : (Jvm.Cond.lays "PackageBook$Presser" "PackageBook$Presser" "begin" "I") ∈ uW := uW_c0 83 rfl (by decide +kernel)
theorem k_202 : (Jvm.Cond.lays "PackageBook$Presser" "PackageBook$Presser" "size" "I") ∈ uW := uW_c0 85 rfl (by decide +kernel)
theorem k_204 : (Jvm.Cond.lays "PackageBook$Presser" "PackageBook$Presser" "bits" "I") ∈ uW := uW_c0 87 rfl (by decide +kernel)
theorem k_206 : (Jvm.Cond.lays "PackageBook$Presser" "PackageBook$Presser" "length" "I") ∈ uW := uW_c0 89 rfl (by decide +kernel)
theorem k_208 : (Jvm.Cond.lays "PackageBook$Presser" "PackageBook$Presser" "distance" "I") ∈ uW := uW_c0 91 rfl (by decide +kernel)
theorem in_Presser : ∀ w ∈ u_ws "PackageBook$Presser" T_Presser 9, w ∈ uW := List.forall_mem_cons.mpr ⟨k_192, List.forall_mem_cons.mpr ⟨k_194, List.forall_mem_cons.mpr ⟨k_196, List.forall_mem_cons.mpr ⟨k_198, List.forall_mem_cons.mpr ⟨k_200, List.forall_mem_cons.mpr ⟨k_202, List.forall_mem_cons.mpr ⟨k_204, List.forall_mem_cons.mpr ⟨k_206, List.forall_mem_cons.mpr ⟨k_208, fun _ h => absurd h List.not_mem_nil⟩⟩⟩⟩⟩⟩⟩⟩⟩
theorem k_261 : (Jvm.Cond.laysFinal "PackageBook$Expander" "PackageBook$Expander" "expanded" "LPackageBook$Row;") ∈ uW := uW_c0 144 rfl (by decide +kernel)
theorem k_263 : (Jvm.Cond.laysFinal "PackageBook$Expander" "PackageBook$Expander" "told" "[I") ∈ uW := uW_c0 146 rfl (by decide +kernel)
theorem k_265 : (Jvm.Cond.laysFinal "PackageBook$Expander" "PackageBook$Expander" "fixedFirst" "LPackageBook$Code;") ∈ uW := uW_c0 148 rfl (by decide +kernel)
theorem k_267 : (Jvm.Cond.laysFinal "PackageBook$Expander" "PackageBook$Expander" "fixedSecond" "LPackageBook$Code;") ∈ uW := uW_c0 150 rfl (by decide +kernel)
theorem k_269 : (Jvm.Cond.laysFinal "PackageBook$Expander" "PackageBook$Expander" "first" "LPackageBook$Code;") ∈ uW := uW_c0 152 rfl (by decide +kernel)
theorem k_271 : (Jvm.Cond.laysFinal "PackageBook$Expander" "PackageBook$Expander" "second" "LPackageBook$Code;") ∈ uW := uW_c0 154 rfl (by decide +kernel)
theorem k_273 : (Jvm.Cond.laysFinal "PackageBook$Expander" "PackageBook$Expander" "third" "LPackageBook$Code;") ∈ uW := uW_c0 156 rfl (by decide +kernel)
theorem k_275 : (Jvm.Cond.lays "PackageBook$Expander" "PackageBook$Expander" "row" "[B") ∈ uW := uW_c0 158 rfl (by decide +kernel)
theorem k_277 : (Jvm.Cond.lays "PackageBook$Expander" "PackageBook$Expander" "at" "I") ∈ uW := uW_c0 160 rfl (by decide +kernel)
theorem k_279 : (Jvm.Cond.lays "PackageBook$Expander" "PackageBook$Expander" "end" "I") ∈ uW := uW_c0 162 rfl (by decide +kernel)
theorem k_281 : (Jvm.Cond.lays "PackageBook$Expander" "PackageBook$Expander" "fault" "I") ∈ uW := uW_c0 164 rfl (by decide +kernel)
theorem in_Expander : ∀ w ∈ u_ws "PackageBook$Expander" T_Expander 11, w ∈ uW := List.forall_mem_cons.mpr ⟨k_261, List.forall_mem_cons.mpr ⟨k_263, List.forall_mem_cons.mpr ⟨k_265, List.forall_mem_cons.mpr ⟨k_267, List.forall_mem_cons.mpr ⟨k_269, List.forall_mem_cons.mpr ⟨k_271, List.forall_mem_cons.mpr ⟨k_273, List.forall_mem_cons.mpr ⟨k_275, List.forall_mem_cons.mpr ⟨k_277, List.forall_mem_cons.mpr ⟨k_279, List.forall_mem_cons.mpr ⟨k_281, fun _ h => absurd h List.not_mem_nil⟩⟩⟩⟩⟩⟩⟩⟩⟩⟩⟩
theorem k_295 : (Jvm.Cond.laysFinal "PackageBook$FileMaker" "PackageBook$FileMaker" "made" "LPackageBook$Row;") ∈ uW := uW_c0 178 rfl (by decide +kernel)
theorem k_297 : (Jvm.Cond.laysFinal "PackageBook$FileMaker" "PackageBook$FileMaker" "records" "[I") ∈ uW := uW_c0 180 rfl (by decide +kernel)
theorem in_FileMaker : ∀ w ∈ u_ws "PackageBook$FileMaker" T_FileMaker 2, w ∈ uW := List.forall_mem_cons.mpr ⟨k_295, List.forall_mem_cons.mpr ⟨k_297, fun _ h => absurd h List.not_mem_nil⟩⟩
theorem k_307 : (Jvm.Cond.lays "PackageBook$FileReader" "PackageBook$FileReader" "row" "[B") ∈ uW := uW_c0 190 rfl (by decide +kernel)
theorem in_FileReader : ∀ w ∈ u_ws "PackageBook$FileReader" T_FileReader 1, w ∈ uW := List.forall_mem_cons.mpr ⟨k_307, fun _ h => absurd h List.not_mem_nil⟩
theorem k_332 : (Jvm.Cond.laysFinal "PackageBook$Markup" "PackageBook$Markup" "ids" "[J") ∈ uW := uW_c0 215 rfl (by decide +kernel)
theorem k_334 : (Jvm.Cond.laysFinal "PackageBook$Markup" "PackageBook$Markup" "goals" "[I") ∈ uW := uW_c0 217 rfl (by decide +kernel)
theorem k_336 : (Jvm.Cond.laysFinal "PackageBook$Markup" "PackageBook$Markup" "value" "[B") ∈ uW := uW_c0 219 rfl (by decide +kernel)
theorem k_338 : (Jvm.Cond.lays "PackageBook$Markup" "PackageBook$Markup" "row" "[B") ∈ uW := uW_c0 221 rfl (by decide +kernel)
theorem k_340 : (Jvm.Cond.lays "PackageBook$Markup" "PackageBook$Markup" "count" "I") ∈ uW := uW_c0 223 rfl (by decide +kernel)
theorem k_342 : (Jvm.Cond.lays "PackageBook$Markup" "PackageBook$Markup" "fault" "I") ∈ uW := uW_c0 225 rfl (by decide +kernel)
theorem k_344 : (Jvm.Cond.lays "PackageBook$Markup" "PackageBook$Markup" "begin" "I") ∈ uW := uW_c0 227 rfl (by decide +kernel)
theorem k_346 : (Jvm.Cond.lays "PackageBook$Markup" "PackageBook$Markup" "at" "I") ∈ uW := uW_c0 229 rfl (by decide +kernel)
theorem k_348 : (Jvm.Cond.lays "PackageBook$Markup" "PackageBook$Markup" "end" "I") ∈ uW := uW_c0 231 rfl (by decide +kernel)
theorem k_350 : (Jvm.Cond.lays "PackageBook$Markup" "PackageBook$Markup" "valueSize" "I") ∈ uW := uW_c0 233 rfl (by decide +kernel)
theorem k_352 : (Jvm.Cond.lays "PackageBook$Markup" "PackageBook$Markup" "isOpen" "Z") ∈ uW := uW_c0 235 rfl (by decide +kernel)
theorem k_354 : (Jvm.Cond.lays "PackageBook$Markup" "PackageBook$Markup" "hasId" "Z") ∈ uW := uW_c0 237 rfl (by decide +kernel)
theorem k_356 : (Jvm.Cond.lays "PackageBook$Markup" "PackageBook$Markup" "hasTo" "Z") ∈ uW := uW_c0 239 rfl (by decide +kernel)
theorem in_Markup : ∀ w ∈ u_ws "PackageBook$Markup" T_Markup 13, w ∈ uW := List.forall_mem_cons.mpr ⟨k_332, List.forall_mem_cons.mpr ⟨k_334, List.forall_mem_cons.mpr ⟨k_336, List.forall_mem_cons.mpr ⟨k_338, List.forall_mem_cons.mpr ⟨k_340, List.forall_mem_cons.mpr ⟨k_342, List.forall_mem_cons.mpr ⟨k_344, List.forall_mem_cons.mpr ⟨k_346, List.forall_mem_cons.mpr ⟨k_348, List.forall_mem_cons.mpr ⟨k_350, List.forall_mem_cons.mpr ⟨k_352, List.forall_mem_cons.mpr ⟨k_354, List.forall_mem_cons.mpr ⟨k_356, fun _ h => absurd h List.not_mem_nil⟩⟩⟩⟩⟩⟩⟩⟩⟩⟩⟩⟩⟩
theorem k_428 : (Jvm.Cond.laysFinal "PackageBook" "PackageBook" "tape" "LPackageBook$Row;") ∈ uW := uW_c1 71 rfl (by decide +kernel)
theorem k_430 : (Jvm.Cond.laysFinal "PackageBook" "PackageBook" "came" "LPackageBook$Row;") ∈ uW := uW_c1 73 rfl (by decide +kernel)
theorem k_432 : (Jvm.Cond.laysFinal "PackageBook" "PackageBook" "presser" "LPackageBook$Presser;") ∈ uW := uW_c1 75 rfl (by decide +kernel)
theorem k_434 : (Jvm.Cond.laysFinal "PackageBook" "PackageBook" "expander" "LPackageBook$Expander;") ∈ uW := uW_c1 77 rfl (by decide +kernel)
theorem k_436 : (Jvm.Cond.laysFinal "PackageBook" "PackageBook" "maker" "LPackageBook$FileMaker;") ∈ uW := uW_c1 79 rfl (by decide +kernel)
theorem k_438 : (Jvm.Cond.laysFinal "PackageBook" "PackageBook" "reader" "LPackageBook$FileReader;") ∈ uW := uW_c1 81 rfl (by decide +kernel)
theorem k_440 : (Jvm.Cond.laysFinal "PackageBook" "PackageBook" "markup" "LPackageBook$Markup;") ∈ uW := uW_c1 83 rfl (by decide +kernel)
theorem k_442 : (Jvm.Cond.laysFinal "PackageBook" "PackageBook" "findings" "LPackageBook$Findings;") ∈ uW := uW_c1 85 rfl (by decide +kernel)
theorem k_444 : (Jvm.Cond.laysFinal "PackageBook" "PackageBook" "goals" "[I") ∈ uW := uW_c1 87 rfl (by decide +kernel)
theorem k_446 : (Jvm.Cond.lays "PackageBook" "PackageBook" "parts" "LPackageBook$Shelf;") ∈ uW := uW_c1 89 rfl (by decide +kernel)
theorem k_448 : (Jvm.Cond.lays "PackageBook" "PackageBook" "spare" "LPackageBook$Shelf;") ∈ uW := uW_c1 91 rfl (by decide +kernel)
theorem in_Book : ∀ w ∈ u_ws "PackageBook" T_Book 11, w ∈ uW := List.forall_mem_cons.mpr ⟨k_428, List.forall_mem_cons.mpr ⟨k_430, List.forall_mem_cons.mpr ⟨k_432, List.forall_mem_cons.mpr ⟨k_434, List.forall_mem_cons.mpr ⟨k_436, List.forall_mem_cons.mpr ⟨k_438, List.forall_mem_cons.mpr ⟨k_440, List.forall_mem_cons.mpr ⟨k_442, List.forall_mem_cons.mpr ⟨k_444, List.forall_mem_cons.mpr ⟨k_446, List.forall_mem_cons.mpr ⟨k_448, fun _ h => absurd h List.not_mem_nil⟩⟩⟩⟩⟩⟩⟩⟩⟩⟩⟩
theorem k_1198 : (Jvm.Cond.laysFinal "PackageBookModel" "PackageBookModel" "rels" "[B") ∈ uW := uW_c4 121 rfl (by decide +kernel)
theorem k_1200 : (Jvm.Cond.laysFinal "PackageBookModel" "PackageBookModel" "openRels" "[B") ∈ uW := uW_c4 123 rfl (by decide +kernel)
theorem k_1202 : (Jvm.Cond.laysFinal "PackageBookModel" "PackageBookModel" "closeRels" "[B") ∈ uW := uW_c4 125 rfl (by decide +kernel)
theorem k_1204 : (Jvm.Cond.laysFinal "PackageBookModel" "PackageBookModel" "openRel" "[B") ∈ uW := uW_c4 127 rfl (by decide +kernel)
theorem k_1206 : (Jvm.Cond.laysFinal "PackageBookModel" "PackageBookModel" "closeRel" "[B") ∈ uW := uW_c4 129 rfl (by decide +kernel)
theorem k_1208 : (Jvm.Cond.laysFinal "PackageBookModel" "PackageBookModel" "comment" "[B") ∈ uW := uW_c4 131 rfl (by decide +kernel)
theorem k_1210 : (Jvm.Cond.laysFinal "PackageBookModel" "PackageBookModel" "ends" "[B") ∈ uW := uW_c4 133 rfl (by decide +kernel)
theorem k_1212 : (Jvm.Cond.laysFinal "PackageBookModel" "PackageBookModel" "order" "[B") ∈ uW := uW_c4 135 rfl (by decide +kernel)
theorem k_1214 : (Jvm.Cond.lays "PackageBookModel" "PackageBookModel" "thrown" "I") ∈ uW := uW_c4 137 rfl (by decide +kernel)
theorem k_1216 : (Jvm.Cond.lays "PackageBookModel" "PackageBookModel" "taped" "I") ∈ uW := uW_c4 139 rfl (by decide +kernel)
theorem k_1218 : (Jvm.Cond.laysFinal "PackageBookModel" "PackageBookModel" "tape" "[B") ∈ uW := uW_c4 141 rfl (by decide +kernel)
theorem k_1220 : (Jvm.Cond.laysFinal "PackageBookModel" "PackageBookModel" "count" "[I") ∈ uW := uW_c4 143 rfl (by decide +kernel)
theorem k_1222 : (Jvm.Cond.laysFinal "PackageBookModel" "PackageBookModel" "nameSize" "[I") ∈ uW := uW_c4 145 rfl (by decide +kernel)
theorem k_1224 : (Jvm.Cond.laysFinal "PackageBookModel" "PackageBookModel" "names" "[B") ∈ uW := uW_c4 147 rfl (by decide +kernel)
theorem k_1226 : (Jvm.Cond.laysFinal "PackageBookModel" "PackageBookModel" "size" "[I") ∈ uW := uW_c4 149 rfl (by decide +kernel)
theorem k_1228 : (Jvm.Cond.laysFinal "PackageBookModel" "PackageBookModel" "data" "[B") ∈ uW := uW_c4 151 rfl (by decide +kernel)
theorem k_1230 : (Jvm.Cond.lays "PackageBookModel" "PackageBookModel" "lookedSize" "I") ∈ uW := uW_c4 153 rfl (by decide +kernel)
theorem k_1232 : (Jvm.Cond.laysFinal "PackageBookModel" "PackageBookModel" "looked" "[B") ∈ uW := uW_c4 155 rfl (by decide +kernel)
theorem k_1234 : (Jvm.Cond.lays "PackageBookModel" "PackageBookModel" "fileSize" "I") ∈ uW := uW_c4 157 rfl (by decide +kernel)
theorem k_1236 : (Jvm.Cond.laysFinal "PackageBookModel" "PackageBookModel" "file" "[B") ∈ uW := uW_c4 159 rfl (by decide +kernel)
theorem k_1238 : (Jvm.Cond.lays "PackageBookModel" "PackageBookModel" "directorySize" "I") ∈ uW := uW_c4 161 rfl (by decide +kernel)
theorem k_1240 : (Jvm.Cond.laysFinal "PackageBookModel" "PackageBookModel" "directory" "[B") ∈ uW := uW_c4 163 rfl (by decide +kernel)
theorem k_1242 : (Jvm.Cond.lays "PackageBookModel" "PackageBookModel" "outSize" "I") ∈ uW := uW_c4 165 rfl (by decide +kernel)
theorem k_1244 : (Jvm.Cond.laysFinal "PackageBookModel" "PackageBookModel" "out" "[B") ∈ uW := uW_c4 167 rfl (by decide +kernel)
theorem k_1246 : (Jvm.Cond.lays "PackageBookModel" "PackageBookModel" "rowSize" "I") ∈ uW := uW_c4 169 rfl (by decide +kernel)
theorem k_1248 : (Jvm.Cond.laysFinal "PackageBookModel" "PackageBookModel" "row" "[B") ∈ uW := uW_c4 171 rfl (by decide +kernel)
theorem k_1250 : (Jvm.Cond.lays "PackageBookModel" "PackageBookModel" "bitAt" "I") ∈ uW := uW_c4 173 rfl (by decide +kernel)
theorem k_1252 : (Jvm.Cond.lays "PackageBookModel" "PackageBookModel" "bitEnd" "I") ∈ uW := uW_c4 175 rfl (by decide +kernel)
theorem k_1254 : (Jvm.Cond.lays "PackageBookModel" "PackageBookModel" "why" "I") ∈ uW := uW_c4 177 rfl (by decide +kernel)
theorem k_1256 : (Jvm.Cond.lays "PackageBookModel" "PackageBookModel" "madeSize" "I") ∈ uW := uW_c4 179 rfl (by decide +kernel)
theorem k_1258 : (Jvm.Cond.laysFinal "PackageBookModel" "PackageBookModel" "made" "[B") ∈ uW := uW_c4 181 rfl (by decide +kernel)
theorem k_1260 : (Jvm.Cond.laysFinal "PackageBookModel" "PackageBookModel" "length" "[I") ∈ uW := uW_c4 183 rfl (by decide +kernel)
theorem k_1262 : (Jvm.Cond.lays "PackageBookModel" "PackageBookModel" "firstCount" "I") ∈ uW := uW_c4 185 rfl (by decide +kernel)
theorem k_1264 : (Jvm.Cond.lays "PackageBookModel" "PackageBookModel" "secondCount" "I") ∈ uW := uW_c4 187 rfl (by decide +kernel)
theorem k_1266 : (Jvm.Cond.lays "PackageBookModel" "PackageBookModel" "heldBits" "I") ∈ uW := uW_c4 189 rfl (by decide +kernel)
theorem k_1268 : (Jvm.Cond.lays "PackageBookModel" "PackageBookModel" "heldCount" "I") ∈ uW := uW_c4 191 rfl (by decide +kernel)
theorem k_1270 : (Jvm.Cond.lays "PackageBookModel" "PackageBookModel" "pressedSize" "I") ∈ uW := uW_c4 193 rfl (by decide +kernel)
theorem k_1272 : (Jvm.Cond.laysFinal "PackageBookModel" "PackageBookModel" "pressed" "[B") ∈ uW := uW_c4 195 rfl (by decide +kernel)
theorem k_1274 : (Jvm.Cond.lays "PackageBookModel" "PackageBookModel" "at" "I") ∈ uW := uW_c4 197 rfl (by decide +kernel)
theorem k_1276 : (Jvm.Cond.lays "PackageBookModel" "PackageBookModel" "bad" "Z") ∈ uW := uW_c4 199 rfl (by decide +kernel)
theorem k_1278 : (Jvm.Cond.lays "PackageBookModel" "PackageBookModel" "markSize" "I") ∈ uW := uW_c4 201 rfl (by decide +kernel)
theorem k_1280 : (Jvm.Cond.laysFinal "PackageBookModel" "PackageBookModel" "mark" "[B") ∈ uW := uW_c4 203 rfl (by decide +kernel)
theorem k_1282 : (Jvm.Cond.lays "PackageBookModel" "PackageBookModel" "relationCount" "I") ∈ uW := uW_c4 205 rfl (by decide +kernel)
theorem k_1284 : (Jvm.Cond.laysFinal "PackageBookModel" "PackageBookModel" "idSize" "[I") ∈ uW := uW_c4 207 rfl (by decide +kernel)
theorem k_1286 : (Jvm.Cond.laysFinal "PackageBookModel" "PackageBookModel" "ids" "[B") ∈ uW := uW_c4 209 rfl (by decide +kernel)
theorem k_1288 : (Jvm.Cond.laysFinal "PackageBookModel" "PackageBookModel" "goalSize" "[I") ∈ uW := uW_c4 211 rfl (by decide +kernel)
theorem k_1290 : (Jvm.Cond.laysFinal "PackageBookModel" "PackageBookModel" "goals" "[B") ∈ uW := uW_c4 213 rfl (by decide +kernel)
theorem k_1292 : (Jvm.Cond.lays "PackageBookModel" "PackageBookModel" "valueSize" "I") ∈ uW := uW_c4 215 rfl (by decide +kernel)
theorem k_1294 : (Jvm.Cond.laysFinal "PackageBookModel" "PackageBookModel" "value" "[B") ∈ uW := uW_c4 217 rfl (by decide +kernel)
theorem k_1296 : (Jvm.Cond.lays "PackageBookModel" "PackageBookModel" "faultCount" "I") ∈ uW := uW_c4 219 rfl (by decide +kernel)
theorem k_1298 : (Jvm.Cond.laysFinal "PackageBookModel" "PackageBookModel" "faults" "[I") ∈ uW := uW_c4 221 rfl (by decide +kernel)
theorem k_1300 : (Jvm.Cond.laysFinal "PackageBookModel" "PackageBookModel" "reached" "[Z") ∈ uW := uW_c4 223 rfl (by decide +kernel)
theorem in_Mod : ∀ w ∈ u_ws "PackageBookModel" T_Mod 52, w ∈ uW := List.forall_mem_cons.mpr ⟨k_1198, List.forall_mem_cons.mpr ⟨k_1200, List.forall_mem_cons.mpr ⟨k_1202, List.forall_mem_cons.mpr ⟨k_1204, List.forall_mem_cons.mpr ⟨k_1206, List.forall_mem_cons.mpr ⟨k_1208, List.forall_mem_cons.mpr ⟨k_1210, List.forall_mem_cons.mpr ⟨k_1212, List.forall_mem_cons.mpr ⟨k_1214, List.forall_mem_cons.mpr ⟨k_1216, List.forall_mem_cons.mpr ⟨k_1218, List.forall_mem_cons.mpr ⟨k_1220, List.forall_mem_cons.mpr ⟨k_1222, List.forall_mem_cons.mpr ⟨k_1224, List.forall_mem_cons.mpr ⟨k_1226, List.forall_mem_cons.mpr ⟨k_1228, List.forall_mem_cons.mpr ⟨k_1230, List.forall_mem_cons.mpr ⟨k_1232, List.forall_mem_cons.mpr ⟨k_1234, List.forall_mem_cons.mpr ⟨k_1236, List.forall_mem_cons.mpr ⟨k_1238, List.forall_mem_cons.mpr ⟨k_1240, List.forall_mem_cons.mpr ⟨k_1242, List.forall_mem_cons.mpr ⟨k_1244, List.forall_mem_cons.mpr ⟨k_1246, List.forall_mem_cons.mpr ⟨k_1248, List.forall_mem_cons.mpr ⟨k_1250, List.forall_mem_cons.mpr ⟨k_1252, List.forall_mem_cons.mpr ⟨k_1254, List.forall_mem_cons.mpr ⟨k_1256, List.forall_mem_cons.mpr ⟨k_1258, List.forall_mem_cons.mpr ⟨k_1260, List.forall_mem_cons.mpr ⟨k_1262, List.forall_mem_cons.mpr ⟨k_1264, List.forall_mem_cons.mpr ⟨k_1266, List.forall_mem_cons.mpr ⟨k_1268, List.forall_mem_cons.mpr ⟨k_1270, List.forall_mem_cons.mpr ⟨k_1272, List.forall_mem_cons.mpr ⟨k_1274, List.forall_mem_cons.mpr ⟨k_1276, List.forall_mem_cons.mpr ⟨k_1278, List.forall_mem_cons.mpr ⟨k_1280, List.forall_mem_cons.mpr ⟨k_1282, List.forall_mem_cons.mpr ⟨k_1284, List.forall_mem_cons.mpr ⟨k_1286, List.forall_mem_cons.mpr ⟨k_1288, List.forall_mem_cons.mpr ⟨k_1290, List.forall_mem_cons.mpr ⟨k_1292, List.forall_mem_cons.mpr ⟨k_1294, List.forall_mem_cons.mpr ⟨k_1296, List.forall_mem_cons.mpr ⟨k_1298, List.forall_mem_cons.mpr ⟨k_1300, fun _ h => absurd h List.not_mem_nil⟩⟩⟩⟩⟩⟩⟩⟩⟩⟩⟩⟩⟩⟩⟩⟩⟩⟩⟩⟩⟩⟩⟩⟩⟩⟩⟩⟩⟩⟩⟩⟩⟩⟩⟩⟩⟩⟩⟩⟩⟩⟩⟩⟩⟩⟩⟩⟩⟩⟩⟩⟩

def pb_strs : List (String × Nat × String) := [("PackageBook$Shelf", 72, ".rels"), ("PackageBook$Markup", 168, "<!--"), ("PackageBook$Markup", 170, "-->"), ("PackageBook$Markup", 71, "<rels"), ("PackageBook$Markup", 87, ">"), ("PackageBook$Markup", 89, "/>"), ("PackageBook$Markup", 100, "<rel"), ("PackageBook$Markup", 116, "id"), ("PackageBook$Markup", 122, "to"), ("PackageBook$Markup", 124, "="), ("PackageBook$Markup", 147, "amp"), ("PackageBook$Markup", 149, "lt"), ("PackageBook$Markup", 151, "gt"), ("PackageBook$Markup", 153, "quot"), ("PackageBook$Markup", 155, "apos"), ("PackageBook$Markup", 145, ";"), ("PackageBook$Markup", 111, "</rel"), ("PackageBook$Markup", 91, "</rels"), ("PackageBook", 256, "root"), ("PackageBook", 79, "one to eight bytes can be typed"), ("PackageBook", 90, "the tape is full"), ("PackageBook", 96, "the tape has not so many bytes"), ("PackageBook", 114, "the tape does not begin with such a name"), ("PackageBook", 124, "too many parts or bytes"), ("PackageBook", 145, "no such part or question"), ("PackageBook", 155, "no such part or byte"), ("PackageBook", 182, "no such byte"), ("PackageBook", 184, "a byte is changed by 0 to 255"), ("PackageBook", 186, "too many bytes"), ("PackageBook", 222, "no such fault or question"), ("PackageBook", 233, "no such part"), ("PackageBook", 240, "no such relation")]
/-! what a method takes as given of the start, and what no call changes: nest words, strings, the table THIRD_ORDER, two statics of Throwable -/
def pb_isN : Cond → Bool
  | .fieldLinkNest .. => true
  | .methodLinkNest .. => true
  | .castable .. => true
  | .declares .. => true
  | _ => false
def uN : List Cond := lw_tbl.filter pb_isN
theorem uN_of {w : Cond} (i : Nat) (h : lw_tbl[i]? = some w) (hg : pb_isN w = true) : w ∈ uN := List.mem_filter.mpr ⟨List.mem_of_getElem? h, hg⟩
theorem uN_same {w : Cond} (h : w ∈ uN) {u U : State} (hv : U.vm = u.vm) (hZ : va_Nw w u) : va_Nw w U := by
  have hg := (List.mem_filter.mp h).2
  cases w <;> first | exact va_Nw.same rfl hv.symm hZ | cases hg
theorem uN_warm {w : Cond} (h : w ∈ uN) {s U : State} (hW : s.WarmedH U.vm) (hZ : va_Nw w s) : va_Nw w U := by
  have hg := (List.mem_filter.mp h).2
  cases w <;> first | exact va_Nw.warmF hW hZ | exact va_Nw.warmM hW hZ | exact va_Nw.warmC hW hZ | exact va_Nw.warmD hW hZ | cases hg
theorem uN_use {w : Cond} (h : w ∈ uN) {U : State} {a : Array Value} (hZ : va_Nw w U) : w.before a U = true := by
  have hg := (List.mem_filter.mp h).2
  cases w <;> first | exact va_Nw.use rfl hZ | cases hg
/-- a static of a class that holds a reference or null: its value, its place -/
def tz (C n d : String) (A : Nat → Prop) (U : State) (H : Heap) : Prop := va_Zq C n d A U H ∧ ∃ (c : ClassId) (k : Class) (i : Nat) (f : Field) (a : Nat) (cell : Cell),
  U.vm.findClass C = some c ∧ U.fieldFound? C n d = some (c, k, i, f) ∧ f.isStatic = true ∧ k.statics = some a ∧ H[a]? = some cell ∧ cell.vm.isStatics = true ∧ cell.cls = c ∧ f.slot < cell.slots.size ∧ k.staticTypes[f.slot]? = some f.type ∧ ¬ A a
theorem tz.moved {C n d : String} {A : Nat → Prop} {u U : State} {H : Heap} (hv : u.vm.Alike U.vm) (h : tz C n d A u H) : tz C n d A U H := by
  obtain ⟨h0, c, k, i, f, a, cell, h1, h2, h3, h4, h5, h6, h7, h8, h9, h10⟩ := h
  obtain ⟨k', g1, g2⟩ := State.fieldFound?_setVm hv h2
  exact ⟨h0.moved hv, c, k', i, f, a, cell, by rw [hv.findClass]; exact h1, g1, h3, by rw [g2]; exact h4, h5, h6, h7, h8, by rw [g2]; exact h9, h10⟩
theorem tz.kept {C n d : String} {A : Nat → Prop} {U : State} {H H1 : Heap} (h : tz C n d A U H) (hq : ∀ a : Nat, a < H.size → ¬ A a → H1[a]? = H[a]?) : tz C n d A U H1 := by
  obtain ⟨h0, c, k, i, f, a, cell, h1, h2, h3, h4, h5, h6, h7, h8, h9, h10⟩ := h
  exact ⟨h0.kept hq, c, k, i, f, a, cell, h1, h2, h3, h4, by rw [hq a (Array.getElem?_eq_some_iff.mp h5).1 h10]; exact h5, h6, h7, h8, h9, h10⟩
theorem tz.narrow {C n d : String} {A B : Nat → Prop} {U : State} {H : Heap} (h : tz C n d A U H) (hAB : ∀ q, B q → A q) : tz C n d B U H := by
  obtain ⟨h0, c, k, i, f, a, cell, h1, h2, h3, h4, h5, h6, h7, h8, h9, h10⟩ := h
  exact ⟨h0.narrow hAB, c, k, i, f, a, cell, h1, h2, h3, h4, h5, h6, h7, h8, h9, fun z => h10 (hAB _ z)⟩
theorem tz.lays {C n d : String} {A : Nat → Prop} {s : State} {args : Array Value} (h : tz C n d A s s.heap) : (Cond.laysStatic C n d).before args s = true := by
  obtain ⟨h0, c, k, i, f, a, cell, h1, h2, h3, h4, h5, h6, h7, h8, h9, -⟩ := h
  show (Cond.laysStatic C n d).holds args s none s [] = true
  exact Cond.laysStatic_of h1 h2 h3 h4 h5 h6 h7 h8 h9
theorem tz.isRef {C n d : String} {A : Nat → Prop} {s : State} {args : Array Value} (h : tz C n d A s s.heap) : (Cond.isRef (.static C n d)).before args s = true := by
  have main : ∀ v : Value, v.isRef = true → va_Z C n d v A s s.heap → (Cond.isRef (.static C n d)).before args s = true := by
    intro v hv hz
    obtain ⟨cf, kf, fi, f, a, cell, h1, h2, h3, h4, h5, h6, h7, -⟩ := hz
    have he : (Term.static C n d).eval args s none [] s = some v := by
      simp [Term.eval, State.fieldNamed?, h1, h2, h4, h5, h6, h7]
    simp only [Cond.before, Cond.holds, Cond.value, he]
    cases v <;> simp_all [Value.isRef]
  rcases h.1 with g | ⟨t, g⟩
  · exact main _ rfl g
  · exact main _ rfl g
theorem tz_of {args : Array Value} {s : State} {C n d : String} {A : Nat → Prop} (hl : (Cond.laysStatic C n d).before args s = true) (hini : (Cond.initialized C).before args s = true) (h : (Cond.isRef (.static C n d)).before args s = true) (hA : ∀ a : Nat, a < s.heap.size → ¬ A a) : tz C n d A s s.heap := by
  refine ⟨va_Zqof hl hini h hA, ?_⟩
  obtain ⟨c, k, i, f, a, cell, h1, h2, h3, h4, h5, h6, h7, h8, h9⟩ := Cond.laysStatic_spec hl
  exact ⟨c, k, i, f, a, cell, h1, h2, h3, h4, h5, h6, h7, h8, h9, hA a (Array.getElem?_eq_some_iff.mp h5).1⟩
def pb_third : List Int32 := [16, 17, 18, 0, 8, 7, 9, 6, 10, 5, 11, 4, 12, 3, 13, 2, 14, 1, 15]
/-! the String constants, by their places in pb_strs -/
def st_n : Nat := 19
def st_B (tx : String) : List Int32 := tx.toList.map fun c => Int32.ofNat c.toNat
def st_lens : List Nat := pb_strs.map fun q => q.2.2.length
def st_byts : List (List Int32) := pb_strs.map fun q => st_B q.2.2
def st_len (k : Nat) : Int := ((st_lens.getD k 0 : Nat) : Int)
def sk_S (ad : (Nat → Nat) × (Nat → Nat)) (A : Nat → Prop) (U : State) (H : Heap) : Prop := ∀ i : Nat, i < st_n → va_O "java/lang/String" (ad.1 i) A U H ∧ va_OF "java/lang/String" "coder" "B" (.int 0) (ad.1 i) A U H ∧ va_OF "java/lang/String" "value" "[B" (.ref (ad.2 i)) (ad.1 i) A U H ∧ va_T .byte (ad.2 i) (st_lens.getD i 0) (fun j => .int ((st_byts.getD i []).getD j 0)) A U H
theorem sk_S.moved {ad : (Nat → Nat) × (Nat → Nat)} {A : Nat → Prop} {u U : State} {H : Heap} (hvm : u.vm.Alike U.vm) (h : sk_S ad A u H) : sk_S ad A U H := fun i hi => ⟨va_O.moved hvm (h i hi).1, va_OF.moved hvm (h i hi).2.1, va_OF.moved hvm (h i hi).2.2.1, va_T.moved hvm (h i hi).2.2.2⟩
theorem sk_S.kept {ad : (Nat → Nat) × (Nat → Nat)} {A : Nat → Prop} {U : State} {H H1 : Heap} (h : sk_S ad A U H) (hq : ∀ a : Nat, a < H.size → ¬ A a → H1[a]? = H[a]?) : sk_S ad A U H1 := fun i hi => ⟨(h i hi).1.kept hq, (h i hi).2.1.kept hq, (h i hi).2.2.1.kept hq, (h i hi).2.2.2.kept hq⟩
theorem sk_S.narrow {ad : (Nat → Nat) × (Nat → Nat)} {A B : Nat → Prop} {U : State} {H : Heap} (h : sk_S ad A U H) (hAB : ∀ q, B q → A q) : sk_S ad B U H := fun i hi => ⟨(h i hi).1.narrow hAB, (h i hi).2.1.narrow hAB, (h i hi).2.2.1.narrow hAB, (h i hi).2.2.2.narrow hAB⟩
theorem sk_recv {ad : (Nat → Nat) × (Nat → Nat)} {A : Nat → Prop} {s : State} {H : Heap} {locs : List Loc} {i : Nat} (hE : sk_S ad A s s.heap) (hi : i < st_n) (hS : va_S A s.heap H locs) : ∃ cell : Cell, H[ad.1 i]? = some cell ∧ cell.vm.isStatics = false ∧ s.vm.findClass "java/lang/String" = some cell.cls := by
  obtain ⟨cell, h1, h2, h3, -⟩ := (hE i hi).1.kept hS.2.1
  exact ⟨cell, h1, h2, h3⟩
/-- exceptions that another one's handler does not take -/
def pb_ncs : List (String × String) := [("java/lang/UnsupportedOperationException", "java/lang/IllegalArgumentException"), ("java/lang/IllegalArgumentException", "java/lang/IndexOutOfBoundsException")]
def pb_Z (ad : (Nat → Nat) × (Nat → Nat)) (A : Nat → Prop) (U : State) (H : Heap) : Prop := (∃ t : Nat, va_Z "PackageBook$Expander" "THIRD_ORDER" "[I" (.ref t) A U H ∧ va_T .int t 19 (fun j => .int (pb_third.getD j 0)) A U H) ∧
  (∀ w ∈ uN, va_Nw w U) ∧ (∀ q ∈ pb_strs, ∃ a : Nat, vk_R q.1 q.2.1 q.2.2 a U) ∧ tz Bundle.tN "UNASSIGNED_STACK" Bundle.steD A U H ∧ tz Bundle.tN "SUPPRESSED_SENTINEL" Bundle.listD A U H ∧
  sk_S ad A U H ∧ (∀ k q, k < 19 → pb_strs[k]? = some q → vk_R q.1 q.2.1 q.2.2 (ad.1 k) U) ∧ va_Z "java/lang/String" "COMPACT_STRINGS" "Z" (.int 1) A U H ∧ tz "jdk/internal/util/Preconditions" "SIOOBE_FORMATTER" "Ljava/util/function/BiFunction;" A U H ∧ (∀ q ∈ pb_ncs, va_Nc q.1 q.2 U)
theorem pb_Z.same {ad : (Nat → Nat) × (Nat → Nat)} {A : Nat → Prop} {u U : State} {H : Heap} (hv : U.vm = u.vm) (h : pb_Z ad A u H) : pb_Z ad A U H := by
  obtain ⟨⟨t, h1, h2⟩, h3, h4, h5, h6, h7, h8, h9, h10, h11⟩ := h
  have ha : u.vm.Alike U.vm := by rw [hv]; exact Vm.Alike.refl _
  exact ⟨⟨t, h1.moved ha, h2.moved ha⟩, fun w hw => uN_same hw hv (h3 w hw), fun q hq => (h4 q hq).imp fun a g => vk_R.same hv g, h5.moved ha, h6.moved ha, h7.moved ha, fun k q hk hq => vk_R.same hv (h8 k q hk hq), h9.moved ha, h10.moved ha, fun q hq => (h11 q hq).moved ha⟩
theorem pb_Z.warm {ad : (Nat → Nat) × (Nat → Nat)} {A : Nat → Prop} {s U : State} {H : Heap} (hW : s.WarmedH U.vm) (h : pb_Z ad A s H) : pb_Z ad A U H := by
  obtain ⟨⟨t, h1, h2⟩, h3, h4, h5, h6, h7, h8, h9, h10, h11⟩ := h
  exact ⟨⟨t, h1.moved hW.alike, h2.moved hW.alike⟩, fun w hw => uN_warm hw hW (h3 w hw), fun q hq => (h4 q hq).imp fun a g => vk_R.warm hW g, h5.moved hW.alike, h6.moved hW.alike, h7.moved hW.alike, fun k q hk hq => vk_R.warm hW (h8 k q hk hq), h9.moved hW.alike, h10.moved hW.alike, fun q hq => (h11 q hq).moved hW.alike⟩
theorem pb_Z.narrow {ad : (Nat → Nat) × (Nat → Nat)} {A B : Nat → Prop} {U : State} {H : Heap} (hAB : ∀ q, B q → A q) (h : pb_Z ad A U H) : pb_Z ad B U H := by
  obtain ⟨⟨t, h1, h2⟩, h3, h4, h5, h6, h7, h8, h9, h10, h11⟩ := h
  exact ⟨⟨t, h1.narrow hAB, h2.narrow hAB⟩, h3, h4, h5.narrow hAB, h6.narrow hAB, h7.narrow hAB, h8, h9.narrow hAB, h10.narrow hAB, h11⟩
theorem pb_Z.kept {ad : (Nat → Nat) × (Nat → Nat)} {A : Nat → Prop} {U : State} {H0 H : Heap} {locs : List Loc} (h : pb_Z ad A U H0) (hS : va_S A H0 H locs) : pb_Z ad A U H := by
  obtain ⟨⟨t, h1, h2⟩, h3, h4, h5, h6, h7, h8, h9, h10, h11⟩ := h
  exact ⟨⟨t, h1.kept hS.2.1, h2.kept hS.2.1⟩, h3, h4, h5.kept hS.2.1, h6.kept hS.2.1, h7.kept hS.2.1, h8, h9.kept hS.2.1, h10.kept hS.2.1, h11⟩
theorem st_len_all : ∀ k : Nat, k < 64 → 0 ≤ st_len k ∧ st_len k ≤ 1000 := by decide +kernel
theorem st_len_rng (k : Nat) : 0 ≤ st_len k ∧ st_len k ≤ 1000 := by
  by_cases h : k < 64
  · exact st_len_all k h
  · have e : st_lens.getD k 0 = 0 := by rw [List.getD_eq_getElem?_getD, List.getElem?_eq_none (Nat.le_trans (show st_lens.length ≤ 64 by decide +kernel) (by omega))]; rfl
    unfold st_len
    rw [e]
    decide
