/-! the classes: names, fields, types, by their numbers -/
def cl_nm : List String := ["StainStreet$Image", "StainStreet$Law", "StainStreet$LawBook", "StainStreet$LawReader", "StainStreet$Log", "StainStreet$Notes", "StainStreet$Past", "StainStreet$State", "StainStreet$Street", "StainStreet$StreetReader", "StainStreet$Tape", "StainStreet", "StainStreetModel"]
def cl_fs : List (List (String × String × String × Bool)) := [[("StainStreet$Image", "state", "LStainStreet$State;", true), ("StainStreet$Image", "log", "LStainStreet$Log;", true), ("StainStreet$Image", "isKept", "Z", false)],
  [("StainStreet$Law", "size", "I", false), ("StainStreet$Law", "clauses", "I", false), ("StainStreet$Law", "codes", "[I", true), ("StainStreet$Law", "conditionAt", "[I", true), ("StainStreet$Law", "sumAt", "[I", true), ("StainStreet$Law", "letters", "[I", true), ("StainStreet$Law", "stack", "[I", true)],
  [("StainStreet$LawBook", "laws", "[LStainStreet$Law;", true), ("StainStreet$LawBook", "size", "I", false), ("StainStreet$LawBook", "held", "I", false)],
  [("StainStreet$LawReader", "tape", "LStainStreet$Tape;", true), ("StainStreet$LawReader", "into", "LStainStreet$Law;", false)],
  [("StainStreet$Log", "days", "[I", true), ("StainStreet$Log", "places", "[I", true), ("StainStreet$Log", "forms", "[I", true)],
  [("StainStreet$Notes", "whens", "[I", true), ("StainStreet$Notes", "whats", "[I", true), ("StainStreet$Notes", "truths", "[Z", true), ("StainStreet$Notes", "size", "I", false)],
  [("StainStreet$Past", "states", "[LStainStreet$State;", true), ("StainStreet$Past", "next", "I", false), ("StainStreet$Past", "size", "I", false)],
  [("StainStreet$State", "street", "LStainStreet$Street;", false), ("StainStreet$State", "toldMinds", "[I", true), ("StainStreet$State", "minds", "[I", true), ("StainStreet$State", "shams", "[I", true), ("StainStreet$State", "whites", "[I", true), ("StainStreet$State", "hangings", "[I", true), ("StainStreet$State", "people", "[I", true), ("StainStreet$State", "pianos", "I", false), ("StainStreet$State", "coins", "I", false), ("StainStreet$State", "place", "I", false), ("StainStreet$State", "form", "I", false), ("StainStreet$State", "day", "I", false), ("StainStreet$State", "logged", "I", false)],
  [("StainStreet$Street", "houses", "I", false), ("StainStreet$Street", "forms", "I", false), ("StainStreet$Street", "hasRules", "Z", false), ("StainStreet$Street", "slots", "[I", true)],
  [("StainStreet$StreetReader", "tape", "LStainStreet$Tape;", true)],
  [("StainStreet$Tape", "bytes", "[I", true), ("StainStreet$Tape", "length", "I", false), ("StainStreet$Tape", "head", "I", false), ("StainStreet$Tape", "number", "I", false)],
  [("StainStreet", "tape", "LStainStreet$Tape;", true), ("StainStreet", "streetReader", "LStainStreet$StreetReader;", true), ("StainStreet", "book", "LStainStreet$LawBook;", true), ("StainStreet", "lawReader", "LStainStreet$LawReader;", true), ("StainStreet", "told", "LStainStreet$Street;", false), ("StainStreet", "spare", "LStainStreet$Street;", false), ("StainStreet", "now", "LStainStreet$State;", true), ("StainStreet", "apart", "LStainStreet$State;", true), ("StainStreet", "log", "LStainStreet$Log;", true), ("StainStreet", "past", "LStainStreet$Past;", true), ("StainStreet", "image", "LStainStreet$Image;", true), ("StainStreet", "seen", "LStainStreet$Notes;", true), ("StainStreet", "was", "LStainStreet$Notes;", true), ("StainStreet", "status", "[I", true), ("StainStreet", "moods", "I", false), ("StainStreet", "drawn", "J", false), ("StainStreet", "worths", "[I", true), ("StainStreet", "otherWorths", "[I", true), ("StainStreet", "table", "[I", true)],
  [("StainStreetModel", "thrown", "I", false), ("StainStreetModel", "tape", "[I", true), ("StainStreetModel", "size", "I", false), ("StainStreetModel", "at", "I", false), ("StainStreetModel", "wrong", "I", false), ("StainStreetModel", "deep", "I", false), ("StainStreetModel", "code", "[I", true), ("StainStreetModel", "value", "[I", true), ("StainStreetModel", "codes", "[I", true), ("StainStreetModel", "clauses", "[I", true), ("StainStreetModel", "testFrom", "[I", true), ("StainStreetModel", "sumFrom", "[I", true), ("StainStreetModel", "sumTo", "[I", true), ("StainStreetModel", "laws", "I", false), ("StainStreetModel", "text", "I", false), ("StainStreetModel", "letters", "[I", true), ("StainStreetModel", "stack", "[I", true), ("StainStreetModel", "readRule", "[I", true), ("StainStreetModel", "readHouse", "[I", true), ("StainStreetModel", "readForm", "[I", true), ("StainStreetModel", "readHouses", "I", false), ("StainStreetModel", "readForms", "I", false), ("StainStreetModel", "rule", "[I", true), ("StainStreetModel", "house", "[I", true), ("StainStreetModel", "form", "[I", true), ("StainStreetModel", "houses", "I", false), ("StainStreetModel", "forms", "I", false), ("StainStreetModel", "now", "[I", true), ("StainStreetModel", "refused", "[I", true), ("StainStreetModel", "holding", "I", false), ("StainStreetModel", "moods", "I", false), ("StainStreetModel", "kept", "[I", true), ("StainStreetModel", "acts", "I", false), ("StainStreetModel", "draws", "J", false), ("StainStreetModel", "aside", "[I", true), ("StainStreetModel", "visited", "I", false), ("StainStreetModel", "emptied", "I", false), ("StainStreetModel", "noteDay", "[I", true), ("StainStreetModel", "noteHouse", "[I", true), ("StainStreetModel", "noteIs", "[Z", true), ("StainStreetModel", "noted", "I", false), ("StainStreetModel", "path", "[I", true), ("StainStreetModel", "wasTo", "[I", true), ("StainStreetModel", "wasForm", "[I", true), ("StainStreetModel", "wasIs", "[Z", true), ("StainStreetModel", "wases", "I", false), ("StainStreetModel", "image", "[I", true), ("StainStreetModel", "hasImage", "Z", false)]]
def cl_tl : List (List FieldType) := [[.object "StainStreet$State", .object "StainStreet$Log", .boolean],
  [.int, .int, .array .int, .array .int, .array .int, .array .int, .array .int],
  [.array (.object "StainStreet$Law"), .int, .int],
  [.object "StainStreet$Tape", .object "StainStreet$Law"],
  [.array .int, .array .int, .array .int],
  [.array .int, .array .int, .array .boolean, .int],
  [.array (.object "StainStreet$State"), .int, .int],
  [.object "StainStreet$Street", .array .int, .array .int, .array .int, .array .int, .array .int, .array .int, .int, .int, .int, .int, .int, .int],
  [.int, .int, .boolean, .array .int],
  [.object "StainStreet$Tape"],
  [.array .int, .int, .int, .int],
  [.object "StainStreet$Tape", .object "StainStreet$StreetReader", .object "StainStreet$LawBook", .object "StainStreet$LawReader", .object "StainStreet$Street", .object "StainStreet$Street", .object "StainStreet$State", .object "StainStreet$State", .object "StainStreet$Log", .object "StainStreet$Past", .object "StainStreet$Image", .object "StainStreet$Notes", .object "StainStreet$Notes", .array .int, .int, .long, .array .int, .array .int, .array .int],
  [.int, .array .int, .int, .int, .int, .int, .array .int, .array .int, .array .int, .array .int, .array .int, .array .int, .array .int, .int, .int, .array .int, .array .int, .array .int, .array .int, .array .int, .int, .int, .array .int, .array .int, .array .int, .int, .int, .array .int, .array .int, .int, .int, .array .int, .int, .long, .array .int, .int, .int, .array .int, .array .int, .array .boolean, .int, .array .int, .array .int, .array .int, .array .boolean, .int, .array .int, .boolean]]
def cl_R (c : Nat) : String := cl_nm.getD c ""
def cl_T (c : Nat) : u_T := fun k => (cl_fs.getD c []).getD k ("", "", "", false)
def cl_N (c : Nat) : Nat := (cl_fs.getD c []).length
def cl_ty (c k : Nat) : FieldType := (cl_tl.getD c []).getD k .int
def cl_all : List vw_C := (List.range 13).map (fun c => (cl_R c, cl_T c, cl_N c))
theorem cl_at {c : Nat} (h : c < 13) : cl_all[c]? = some (cl_R c, cl_T c, cl_N c) := by simp [cl_all, h]
/-- a word of the tables that stays true -/
def sx_gd (w : Cond) : Bool := goodWord w || (match w with
  | .fieldLinkNest _ _ _ _ _ _ => true
  | .methodLinkNest _ _ _ _ => true
  | _ => false)
def sx_w (w : Cond) : Prop := w ∈ lw_tbl ∧ sx_gd w = true
theorem sx_at {w : Cond} (i : Nat) (h : tables_1[i]? = some w) (g : sx_gd w = true) : sx_w w := ⟨List.mem_append_right _ (List.mem_of_getElem? h), g⟩
theorem sx_pv {w : Cond} (i : Nat) (h : (k2_sels lw_privs)[i]? = some w) (g : sx_gd w = true) : sx_w w := ⟨List.mem_append_left _ (List.mem_of_getElem? h), g⟩
set_option maxRecDepth 100000 in
theorem cl_own : ∀ c, c < 13 → ∀ k, k < cl_N c → (cl_T c k).1 = cl_R c := by decide +kernel
set_option maxRecDepth 100000 in
theorem cl_nd : ∀ c, c < 13 → ∀ a, a < cl_N c → ∀ b, b < cl_N c → a ≠ b → (cl_T c a).2.1 ≠ (cl_T c b).2.1 := by decide +kernel
set_option maxRecDepth 100000 in
theorem cl_ok : ∀ c, c < 13 → ∀ k, k < cl_N c → parseFieldDescriptor (cl_T c k).2.2.1 = some (cl_ty c k) := by decide +kernel
def cl_pl : List (List Nat) := [[267, 269, 271], [88, 90, 92, 94, 96, 98, 100], [108, 110, 112], [127, 129], [226, 228, 230], [288, 290, 292, 294], [246, 248, 250], [190, 192, 194, 196, 198, 200, 202, 204, 206, 208, 210, 212, 214], [147, 149, 151, 153], [65], [48, 50, 52, 54], [317, 319, 321, 323, 325, 327, 329, 331, 333, 335, 337, 339, 341, 343, 345, 347, 349, 351, 353], [1132, 1134, 1136, 1138, 1140, 1142, 1144, 1146, 1148, 1150, 1152, 1154, 1156, 1158, 1160, 1162, 1164, 1166, 1168, 1170, 1172, 1174, 1176, 1178, 1180, 1182, 1184, 1186, 1188, 1190, 1192, 1194, 1196, 1198, 1200, 1202, 1204, 1206, 1208, 1210, 1212, 1214, 1216, 1218, 1220, 1222, 1224, 1226]]
def cl_p (c k : Nat) : Nat := (cl_pl.getD c []).getD k 0
set_option maxRecDepth 100000 in
theorem cl_lay0 : ∀ c, c < 13 → ∀ k, k < cl_N c → tables_1[cl_p c k]? = some (u_lay (cl_R c) (cl_T c) k) := by decide +kernel
set_option maxRecDepth 100000 in
theorem cl_lay1 : ∀ c, c < 13 → ∀ k, k < cl_N c → sx_gd (u_lay (cl_R c) (cl_T c) k) = true := by decide +kernel
theorem cl_lay {c : Nat} (hc : c < 13) : ∀ w ∈ u_ws (cl_R c) (cl_T c) (cl_N c), sx_w w := by
  intro w hw
  obtain ⟨k, hk, rfl⟩ := List.mem_map.mp hw
  exact sx_at _ (cl_lay0 c hc k (List.mem_range.mp hk)) (cl_lay1 c hc k (List.mem_range.mp hk))
