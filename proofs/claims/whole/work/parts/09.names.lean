/-! names: the sorts of objects with their fields, the words, the shapes -/
def sr_F0 : u_T := fun k => match k with
  | 0 => ("SuiteRunner", "runner", "LSuiteRunner$Runner;", true)
  | 1 => ("SuiteRunner", "catalog", "LSuiteRunner$Catalog;", true)
  | _ => ("SuiteRunner", "selection", "LSuiteRunner$Selection;", true)
def sr_t0 : Nat → FieldType := fun k => match k with
  | 0 => .object "SuiteRunner$Runner"
  | 1 => .object "SuiteRunner$Catalog"
  | _ => .object "SuiteRunner$Selection"
theorem sr_n0 : ∀ a, a < 3 → ∀ b, b < 3 → a ≠ b → (sr_F0 a).2.1 ≠ (sr_F0 b).2.1 := by decide +kernel
theorem sr_t0_ok : ∀ k, k < 3 → parseFieldDescriptor (sr_F0 k).2.2.1 = some (sr_t0 k) := by decide +kernel
def sr_F1 : u_T := fun k => match k with
  | 0 => ("SuiteRunner$Runner", "catalog", "LSuiteRunner$Catalog;", true)
  | 1 => ("SuiteRunner$Runner", "options", "LSuiteRunner$Options;", true)
  | 2 => ("SuiteRunner$Runner", "log", "LSuiteRunner$Log;", true)
  | 3 => ("SuiteRunner$Runner", "progress", "[LSuiteRunner$Progress;", true)
  | 4 => ("SuiteRunner$Runner", "hands", "[I", true)
  | 5 => ("SuiteRunner$Runner", "underWay", "Z", false)
  | 6 => ("SuiteRunner$Runner", "anyOver", "Z", false)
  | 7 => ("SuiteRunner$Runner", "spoiled", "I", false)
  | 8 => ("SuiteRunner$Runner", "needed", "[I", true)
  | 9 => ("SuiteRunner$Runner", "time", "I", false)
  | 10 => ("SuiteRunner$Runner", "chosen", "I", false)
  | 11 => ("SuiteRunner$Runner", "ended", "I", false)
  | 12 => ("SuiteRunner$Runner", "turnPlaces", "I", false)
  | _ => ("SuiteRunner$Runner", "failedPlaces", "I", false)
def sr_t1 : Nat → FieldType := fun k => match k with
  | 0 => .object "SuiteRunner$Catalog"
  | 1 => .object "SuiteRunner$Options"
  | 2 => .object "SuiteRunner$Log"
  | 3 => .array (.object "SuiteRunner$Progress")
  | 4 => .array .int
  | 5 => .boolean
  | 6 => .boolean
  | 7 => .int
  | 8 => .array .int
  | 9 => .int
  | 10 => .int
  | 11 => .int
  | 12 => .int
  | _ => .int
theorem sr_n1 : ∀ a, a < 14 → ∀ b, b < 14 → a ≠ b → (sr_F1 a).2.1 ≠ (sr_F1 b).2.1 := by decide +kernel
theorem sr_t1_ok : ∀ k, k < 14 → parseFieldDescriptor (sr_F1 k).2.2.1 = some (sr_t1 k) := by decide +kernel
def sr_F2 : u_T := fun k => match k with
  | 0 => ("SuiteRunner$Catalog", "methods", "[LSuiteRunner$TestMethod;", true)
  | 1 => ("SuiteRunner$Catalog", "methodCount", "I", false)
  | 2 => ("SuiteRunner$Catalog", "configurations", "[LSuiteRunner$Configuration;", true)
  | 3 => ("SuiteRunner$Catalog", "configurationCount", "I", false)
  | 4 => ("SuiteRunner$Catalog", "rows", "[I", true)
  | _ => ("SuiteRunner$Catalog", "reach", "[I", true)
def sr_t2 : Nat → FieldType := fun k => match k with
  | 0 => .array (.object "SuiteRunner$TestMethod")
  | 1 => .int
  | 2 => .array (.object "SuiteRunner$Configuration")
  | 3 => .int
  | 4 => .array .int
  | _ => .array .int
theorem sr_n2 : ∀ a, a < 6 → ∀ b, b < 6 → a ≠ b → (sr_F2 a).2.1 ≠ (sr_F2 b).2.1 := by decide +kernel
theorem sr_t2_ok : ∀ k, k < 6 → parseFieldDescriptor (sr_F2 k).2.2.1 = some (sr_t2 k) := by decide +kernel
def sr_F3 : u_T := fun k => match k with
  | 0 => ("SuiteRunner$TestMethod", "cls", "I", false)
  | 1 => ("SuiteRunner$TestMethod", "name", "J", false)
  | 2 => ("SuiteRunner$TestMethod", "traits", "[I", true)
  | 3 => ("SuiteRunner$TestMethod", "neededMethods", "I", false)
  | _ => ("SuiteRunner$TestMethod", "neededGroups", "I", false)
def sr_t3 : Nat → FieldType := fun k => match k with
  | 0 => .int
  | 1 => .long
  | 2 => .array .int
  | 3 => .int
  | _ => .int
theorem sr_n3 : ∀ a, a < 5 → ∀ b, b < 5 → a ≠ b → (sr_F3 a).2.1 ≠ (sr_F3 b).2.1 := by decide +kernel
theorem sr_t3_ok : ∀ k, k < 5 → parseFieldDescriptor (sr_F3 k).2.2.1 = some (sr_t3 k) := by decide +kernel
def sr_F4 : u_T := fun k => match k with
  | 0 => ("SuiteRunner$Configuration", "level", "I", false)
  | 1 => ("SuiteRunner$Configuration", "before", "Z", false)
  | 2 => ("SuiteRunner$Configuration", "cls", "I", false)
  | 3 => ("SuiteRunner$Configuration", "behaviour", "I", false)
  | _ => ("SuiteRunner$Configuration", "runs", "I", false)
def sr_t4 : Nat → FieldType := fun k => match k with
  | 0 => .int
  | 1 => .boolean
  | 2 => .int
  | 3 => .int
  | _ => .int
theorem sr_n4 : ∀ a, a < 5 → ∀ b, b < 5 → a ≠ b → (sr_F4 a).2.1 ≠ (sr_F4 b).2.1 := by decide +kernel
theorem sr_t4_ok : ∀ k, k < 5 → parseFieldDescriptor (sr_F4 k).2.2.1 = some (sr_t4 k) := by decide +kernel
def sr_F5 : u_T := fun k => match k with
  | 0 => ("SuiteRunner$Options", "workers", "I", false)
  | 1 => ("SuiteRunner$Options", "byClasses", "Z", false)
  | 2 => ("SuiteRunner$Options", "skips", "Z", false)
  | 3 => ("SuiteRunner$Options", "propagates", "Z", false)
  | _ => ("SuiteRunner$Options", "ignores", "Z", false)
def sr_t5 : Nat → FieldType := fun k => match k with
  | 0 => .int
  | 1 => .boolean
  | 2 => .boolean
  | 3 => .boolean
  | _ => .boolean
theorem sr_n5 : ∀ a, a < 5 → ∀ b, b < 5 → a ≠ b → (sr_F5 a).2.1 ≠ (sr_F5 b).2.1 := by decide +kernel
theorem sr_t5_ok : ∀ k, k < 5 → parseFieldDescriptor (sr_F5 k).2.2.1 = some (sr_t5 k) := by decide +kernel
def sr_F6 : u_T := fun k => match k with
  | 0 => ("SuiteRunner$Log", "events", "[I", true)
  | _ => ("SuiteRunner$Log", "count", "I", false)
def sr_t6 : Nat → FieldType := fun k => match k with
  | 0 => .array .int
  | _ => .int
theorem sr_n6 : ∀ a, a < 2 → ∀ b, b < 2 → a ≠ b → (sr_F6 a).2.1 ≠ (sr_F6 b).2.1 := by decide +kernel
theorem sr_t6_ok : ∀ k, k < 2 → parseFieldDescriptor (sr_F6 k).2.2.1 = some (sr_t6 k) := by decide +kernel
def sr_F7 : u_T := fun k => match k with
  | 0 => ("SuiteRunner$Progress", "status", "I", false)
  | 1 => ("SuiteRunner$Progress", "takenAt", "I", false)
  | 2 => ("SuiteRunner$Progress", "endedAt", "I", false)
  | 3 => ("SuiteRunner$Progress", "due", "I", false)
  | 4 => ("SuiteRunner$Progress", "begun", "I", false)
  | 5 => ("SuiteRunner$Progress", "remaining", "I", false)
  | 6 => ("SuiteRunner$Progress", "passes", "I", false)
  | 7 => ("SuiteRunner$Progress", "fails", "I", false)
  | 8 => ("SuiteRunner$Progress", "skips", "I", false)
  | _ => ("SuiteRunner$Progress", "entered", "I", false)
def sr_t7 : Nat → FieldType := fun k => match k with
  | 0 => .int
  | 1 => .int
  | 2 => .int
  | 3 => .int
  | 4 => .int
  | 5 => .int
  | 6 => .int
  | 7 => .int
  | 8 => .int
  | _ => .int
theorem sr_n7 : ∀ a, a < 10 → ∀ b, b < 10 → a ≠ b → (sr_F7 a).2.1 ≠ (sr_F7 b).2.1 := by decide +kernel
theorem sr_t7_ok : ∀ k, k < 10 → parseFieldDescriptor (sr_F7 k).2.2.1 = some (sr_t7 k) := by decide +kernel
def sr_F8 : u_T := fun k => match k with
  | 0 => ("SuiteRunner$Selection", "including", "LSuiteRunner$Pattern;", true)
  | 1 => ("SuiteRunner$Selection", "excluding", "LSuiteRunner$Pattern;", true)
  | 2 => ("SuiteRunner$Selection", "again", "I", false)
  | 3 => ("SuiteRunner$Selection", "classes", "I", false)
  | 4 => ("SuiteRunner$Selection", "included", "I", false)
  | _ => ("SuiteRunner$Selection", "excluded", "I", false)
def sr_t8 : Nat → FieldType := fun k => match k with
  | 0 => .object "SuiteRunner$Pattern"
  | 1 => .object "SuiteRunner$Pattern"
  | 2 => .int
  | 3 => .int
  | 4 => .int
  | _ => .int
theorem sr_n8 : ∀ a, a < 6 → ∀ b, b < 6 → a ≠ b → (sr_F8 a).2.1 ≠ (sr_F8 b).2.1 := by decide +kernel
theorem sr_t8_ok : ∀ k, k < 6 → parseFieldDescriptor (sr_F8 k).2.2.1 = some (sr_t8 k) := by decide +kernel
def sr_F9 : u_T := fun k => match k with
  | 0 => ("SuiteRunner$Pattern", "signs", "[C", true)
  | _ => ("SuiteRunner$Pattern", "length", "I", false)
def sr_t9 : Nat → FieldType := fun k => match k with
  | 0 => .array .char
  | _ => .int
theorem sr_n9 : ∀ a, a < 2 → ∀ b, b < 2 → a ≠ b → (sr_F9 a).2.1 ≠ (sr_F9 b).2.1 := by decide +kernel
theorem sr_t9_ok : ∀ k, k < 2 → parseFieldDescriptor (sr_F9 k).2.2.1 = some (sr_t9 k) := by decide +kernel
def sr_F10 : u_T := fun k => match k with
  | 0 => ("SuiteRunnerModel", "methods", "I", false)
  | 1 => ("SuiteRunnerModel", "classOf", "[I", true)
  | 2 => ("SuiteRunnerModel", "nameOf", "[J", true)
  | 3 => ("SuiteRunnerModel", "traits", "[I", true)
  | 4 => ("SuiteRunnerModel", "named", "[I", true)
  | 5 => ("SuiteRunnerModel", "namedGroups", "[I", true)
  | 6 => ("SuiteRunnerModel", "rows", "[I", true)
  | 7 => ("SuiteRunnerModel", "configurations", "I", false)
  | 8 => ("SuiteRunnerModel", "levelOf", "[I", true)
  | 9 => ("SuiteRunnerModel", "isBefore", "[Z", true)
  | 10 => ("SuiteRunnerModel", "ofClass", "[I", true)
  | 11 => ("SuiteRunnerModel", "does", "[I", true)
  | 12 => ("SuiteRunnerModel", "signs", "[I", true)
  | 13 => ("SuiteRunnerModel", "length", "[I", true)
  | 14 => ("SuiteRunnerModel", "classes", "I", false)
  | 15 => ("SuiteRunnerModel", "included", "I", false)
  | 16 => ("SuiteRunnerModel", "excluded", "I", false)
  | 17 => ("SuiteRunnerModel", "againSet", "I", false)
  | 18 => ("SuiteRunnerModel", "many", "I", false)
  | 19 => ("SuiteRunnerModel", "byClasses", "Z", false)
  | 20 => ("SuiteRunnerModel", "skips", "Z", false)
  | 21 => ("SuiteRunnerModel", "propagates", "Z", false)
  | 22 => ("SuiteRunnerModel", "ignores", "Z", false)
  | 23 => ("SuiteRunnerModel", "underWay", "Z", false)
  | 24 => ("SuiteRunnerModel", "wasOver", "Z", false)
  | 25 => ("SuiteRunnerModel", "time", "I", false)
  | 26 => ("SuiteRunnerModel", "status", "[I", true)
  | 27 => ("SuiteRunnerModel", "counts", "[I", true)
  | 28 => ("SuiteRunnerModel", "taken", "[I", true)
  | 29 => ("SuiteRunnerModel", "ended", "[I", true)
  | 30 => ("SuiteRunnerModel", "needed", "[I", true)
  | 31 => ("SuiteRunnerModel", "ran", "[I", true)
  | 32 => ("SuiteRunnerModel", "failedOnce", "[Z", true)
  | 33 => ("SuiteRunnerModel", "suiteBegun", "Z", false)
  | 34 => ("SuiteRunnerModel", "classesBegun", "I", false)
  | 35 => ("SuiteRunnerModel", "has", "[I", true)
  | 36 => ("SuiteRunnerModel", "remaining", "[I", true)
  | 37 => ("SuiteRunnerModel", "invocation", "[I", true)
  | 38 => ("SuiteRunnerModel", "events", "I", false)
  | _ => ("SuiteRunnerModel", "event", "[I", true)
def sr_t10 : Nat → FieldType := fun k => match k with
  | 0 => .int
  | 1 => .array .int
  | 2 => .array .long
  | 3 => .array .int
  | 4 => .array .int
  | 5 => .array .int
  | 6 => .array .int
  | 7 => .int
  | 8 => .array .int
  | 9 => .array .boolean
  | 10 => .array .int
  | 11 => .array .int
  | 12 => .array .int
  | 13 => .array .int
  | 14 => .int
  | 15 => .int
  | 16 => .int
  | 17 => .int
  | 18 => .int
  | 19 => .boolean
  | 20 => .boolean
  | 21 => .boolean
  | 22 => .boolean
  | 23 => .boolean
  | 24 => .boolean
  | 25 => .int
  | 26 => .array .int
  | 27 => .array .int
  | 28 => .array .int
  | 29 => .array .int
  | 30 => .array .int
  | 31 => .array .int
  | 32 => .array .boolean
  | 33 => .boolean
  | 34 => .int
  | 35 => .array .int
  | 36 => .array .int
  | 37 => .array .int
  | 38 => .int
  | _ => .array .int
theorem sr_n10 : ∀ a, a < 40 → ∀ b, b < 40 → a ≠ b → (sr_F10 a).2.1 ≠ (sr_F10 b).2.1 := by decide +kernel
theorem sr_t10_ok : ∀ k, k < 40 → parseFieldDescriptor (sr_F10 k).2.2.1 = some (sr_t10 k) := by decide +kernel
def sr_cl : List vw_C := [("SuiteRunner", sr_F0, 3), ("SuiteRunner$Runner", sr_F1, 14), ("SuiteRunner$Catalog", sr_F2, 6), ("SuiteRunner$TestMethod", sr_F3, 5), ("SuiteRunner$Configuration", sr_F4, 5), ("SuiteRunner$Options", sr_F5, 5), ("SuiteRunner$Log", sr_F6, 2), ("SuiteRunner$Progress", sr_F7, 10), ("SuiteRunner$Selection", sr_F8, 6), ("SuiteRunner$Pattern", sr_F9, 2), ("SuiteRunnerModel", sr_F10, 40)]
def sr_WS : List Cond := lw_tbl.filter goodWord
def sr_NW : List Cond := lw_tbl.filter sr_isN
theorem sr_WS_good : ∀ w ∈ sr_WS, (w.onTables && w.keeps) = true ∨ ∃ ty, w = .arrayClass ty := fun w h => good_of_word (List.mem_filter.mp h).2
theorem sr_NW_ok : ∀ w ∈ sr_NW, sr_isN w = true := fun w h => (List.mem_filter.mp h).2
theorem sr_ws {w : Cond} (i : Nat) (h : lw_tbl[i]? = some w) (g : goodWord w = true) : w ∈ sr_WS := List.mem_filter.mpr ⟨List.mem_of_getElem? h, g⟩
theorem sr_nw {w : Cond} (i : Nat) (h : lw_tbl[i]? = some w) (g : sr_isN w = true) : w ∈ sr_NW := List.mem_filter.mpr ⟨List.mem_of_getElem? h, g⟩
-- words with their places: all at once
theorem sr_wl (l : List (Cond × Nat)) (h : l.all (fun x => decide (lw_tbl[x.2]? = some x.1) && goodWord x.1) = true) : ∀ x ∈ l, x.1 ∈ sr_WS := by
  intro x hx
  have := List.all_eq_true.mp h x hx
  simp only [Bool.and_eq_true, decide_eq_true_eq] at this
  exact sr_ws x.2 this.1 this.2
theorem sr_wlm {w : Cond} {l : List (Cond × Nat)} (h : ∀ x ∈ l, x.1 ∈ sr_WS) (hw : ∃ n, (w, n) ∈ l) : w ∈ sr_WS := by
  obtain ⟨n, hn⟩ := hw
  exact h _ hn
set_option maxRecDepth 20000 in
theorem sr_in0 : ∀ w ∈ u_ws "SuiteRunner" sr_F0 3, w ∈ sr_WS := by
  have h := sr_wl ((u_ws "SuiteRunner" sr_F0 3).zip [350, 352, 354]) (by decide +kernel)
  intro w hw
  obtain ⟨k, hk⟩ := List.getElem?_of_mem hw
  have hl := (List.getElem?_eq_some_iff.mp hk).1
  have hl2 : k < 3 := hl
  have h2 : ((u_ws "SuiteRunner" sr_F0 3).zip [350, 352, 354])[k]? = some (w, ([350, 352, 354] : List Nat)[k]) := by
    rw [List.getElem?_zip_eq_some]
    exact ⟨hk, List.getElem?_eq_getElem _⟩
  exact h _ (List.mem_of_getElem? h2)
set_option maxRecDepth 20000 in
theorem sr_in1 : ∀ w ∈ u_ws "SuiteRunner$Runner" sr_F1 14, w ∈ sr_WS := by
  have h := sr_wl ((u_ws "SuiteRunner$Runner" sr_F1 14).zip [276, 278, 280, 282, 284, 286, 288, 290, 292, 294, 296, 298, 300, 302]) (by decide +kernel)
  intro w hw
  obtain ⟨k, hk⟩ := List.getElem?_of_mem hw
  have hl := (List.getElem?_eq_some_iff.mp hk).1
  have hl2 : k < 14 := hl
  have h2 : ((u_ws "SuiteRunner$Runner" sr_F1 14).zip [276, 278, 280, 282, 284, 286, 288, 290, 292, 294, 296, 298, 300, 302])[k]? = some (w, ([276, 278, 280, 282, 284, 286, 288, 290, 292, 294, 296, 298, 300, 302] : List Nat)[k]) := by
    rw [List.getElem?_zip_eq_some]
    exact ⟨hk, List.getElem?_eq_getElem _⟩
  exact h _ (List.mem_of_getElem? h2)
set_option maxRecDepth 20000 in
theorem sr_in2 : ∀ w ∈ u_ws "SuiteRunner$Catalog" sr_F2 6, w ∈ sr_WS := by
  have h := sr_wl ((u_ws "SuiteRunner$Catalog" sr_F2 6).zip [155, 157, 159, 161, 163, 165]) (by decide +kernel)
  intro w hw
  obtain ⟨k, hk⟩ := List.getElem?_of_mem hw
  have hl := (List.getElem?_eq_some_iff.mp hk).1
  have hl2 : k < 6 := hl
  have h2 : ((u_ws "SuiteRunner$Catalog" sr_F2 6).zip [155, 157, 159, 161, 163, 165])[k]? = some (w, ([155, 157, 159, 161, 163, 165] : List Nat)[k]) := by
    rw [List.getElem?_zip_eq_some]
    exact ⟨hk, List.getElem?_eq_getElem _⟩
  exact h _ (List.mem_of_getElem? h2)
set_option maxRecDepth 20000 in
theorem sr_in3 : ∀ w ∈ u_ws "SuiteRunner$TestMethod" sr_F3 5, w ∈ sr_WS := by
  have h := sr_wl ((u_ws "SuiteRunner$TestMethod" sr_F3 5).zip [104, 106, 108, 110, 112]) (by decide +kernel)
  intro w hw
  obtain ⟨k, hk⟩ := List.getElem?_of_mem hw
  have hl := (List.getElem?_eq_some_iff.mp hk).1
  have hl2 : k < 5 := hl
  have h2 : ((u_ws "SuiteRunner$TestMethod" sr_F3 5).zip [104, 106, 108, 110, 112])[k]? = some (w, ([104, 106, 108, 110, 112] : List Nat)[k]) := by
    rw [List.getElem?_zip_eq_some]
    exact ⟨hk, List.getElem?_eq_getElem _⟩
  exact h _ (List.mem_of_getElem? h2)
set_option maxRecDepth 20000 in
theorem sr_in4 : ∀ w ∈ u_ws "SuiteRunner$Configuration" sr_F4 5, w ∈ sr_WS := by
  have h := sr_wl ((u_ws "SuiteRunner$Configuration" sr_F4 5).zip [131, 133, 135, 137, 139]) (by decide +kernel)
  intro w hw
  obtain ⟨k, hk⟩ := List.getElem?_of_mem hw
  have hl := (List.getElem?_eq_some_iff.mp hk).1
  have hl2 : k < 5 := hl
  have h2 : ((u_ws "SuiteRunner$Configuration" sr_F4 5).zip [131, 133, 135, 137, 139])[k]? = some (w, ([131, 133, 135, 137, 139] : List Nat)[k]) := by
    rw [List.getElem?_zip_eq_some]
    exact ⟨hk, List.getElem?_eq_getElem _⟩
  exact h _ (List.mem_of_getElem? h2)
set_option maxRecDepth 20000 in
theorem sr_in5 : ∀ w ∈ u_ws "SuiteRunner$Options" sr_F5 5, w ∈ sr_WS := by
  have h := sr_wl ((u_ws "SuiteRunner$Options" sr_F5 5).zip [185, 187, 189, 191, 193]) (by decide +kernel)
  intro w hw
  obtain ⟨k, hk⟩ := List.getElem?_of_mem hw
  have hl := (List.getElem?_eq_some_iff.mp hk).1
  have hl2 : k < 5 := hl
  have h2 : ((u_ws "SuiteRunner$Options" sr_F5 5).zip [185, 187, 189, 191, 193])[k]? = some (w, ([185, 187, 189, 191, 193] : List Nat)[k]) := by
    rw [List.getElem?_zip_eq_some]
    exact ⟨hk, List.getElem?_eq_getElem _⟩
  exact h _ (List.mem_of_getElem? h2)
set_option maxRecDepth 20000 in
theorem sr_in6 : ∀ w ∈ u_ws "SuiteRunner$Log" sr_F6 2, w ∈ sr_WS := by
  have h := sr_wl ((u_ws "SuiteRunner$Log" sr_F6 2).zip [205, 207]) (by decide +kernel)
  intro w hw
  obtain ⟨k, hk⟩ := List.getElem?_of_mem hw
  have hl := (List.getElem?_eq_some_iff.mp hk).1
  have hl2 : k < 2 := hl
  have h2 : ((u_ws "SuiteRunner$Log" sr_F6 2).zip [205, 207])[k]? = some (w, ([205, 207] : List Nat)[k]) := by
    rw [List.getElem?_zip_eq_some]
    exact ⟨hk, List.getElem?_eq_getElem _⟩
  exact h _ (List.mem_of_getElem? h2)
set_option maxRecDepth 20000 in
theorem sr_in7 : ∀ w ∈ u_ws "SuiteRunner$Progress" sr_F7 10, w ∈ sr_WS := by
  have h := sr_wl ((u_ws "SuiteRunner$Progress" sr_F7 10).zip [233, 235, 237, 239, 241, 243, 245, 247, 249, 251]) (by decide +kernel)
  intro w hw
  obtain ⟨k, hk⟩ := List.getElem?_of_mem hw
  have hl := (List.getElem?_eq_some_iff.mp hk).1
  have hl2 : k < 10 := hl
  have h2 : ((u_ws "SuiteRunner$Progress" sr_F7 10).zip [233, 235, 237, 239, 241, 243, 245, 247, 249, 251])[k]? = some (w, ([233, 235, 237, 239, 241, 243, 245, 247, 249, 251] : List Nat)[k]) := by
    rw [List.getElem?_zip_eq_some]
    exact ⟨hk, List.getElem?_eq_getElem _⟩
  exact h _ (List.mem_of_getElem? h2)
set_option maxRecDepth 20000 in
theorem sr_in8 : ∀ w ∈ u_ws "SuiteRunner$Selection" sr_F8 6, w ∈ sr_WS := by
  have h := sr_wl ((u_ws "SuiteRunner$Selection" sr_F8 6).zip [334, 336, 338, 340, 342, 344]) (by decide +kernel)
  intro w hw
  obtain ⟨k, hk⟩ := List.getElem?_of_mem hw
  have hl := (List.getElem?_eq_some_iff.mp hk).1
  have hl2 : k < 6 := hl
  have h2 : ((u_ws "SuiteRunner$Selection" sr_F8 6).zip [334, 336, 338, 340, 342, 344])[k]? = some (w, ([334, 336, 338, 340, 342, 344] : List Nat)[k]) := by
    rw [List.getElem?_zip_eq_some]
    exact ⟨hk, List.getElem?_eq_getElem _⟩
  exact h _ (List.mem_of_getElem? h2)
set_option maxRecDepth 20000 in
theorem sr_in9 : ∀ w ∈ u_ws "SuiteRunner$Pattern" sr_F9 2, w ∈ sr_WS := by
  have h := sr_wl ((u_ws "SuiteRunner$Pattern" sr_F9 2).zip [319, 321]) (by decide +kernel)
  intro w hw
  obtain ⟨k, hk⟩ := List.getElem?_of_mem hw
  have hl := (List.getElem?_eq_some_iff.mp hk).1
  have hl2 : k < 2 := hl
  have h2 : ((u_ws "SuiteRunner$Pattern" sr_F9 2).zip [319, 321])[k]? = some (w, ([319, 321] : List Nat)[k]) := by
    rw [List.getElem?_zip_eq_some]
    exact ⟨hk, List.getElem?_eq_getElem _⟩
  exact h _ (List.mem_of_getElem? h2)
set_option maxRecDepth 20000 in
theorem sr_in10 : ∀ w ∈ u_ws "SuiteRunnerModel" sr_F10 40, w ∈ sr_WS := by
  have h := sr_wl ((u_ws "SuiteRunnerModel" sr_F10 40).zip [709, 711, 713, 715, 717, 719, 721, 723, 725, 727, 729, 731, 733, 735, 737, 739, 741, 743, 745, 747, 749, 751, 753, 755, 757, 759, 761, 763, 765, 767, 769, 771, 773, 775, 777, 779, 781, 783, 785, 787]) (by decide +kernel)
  intro w hw
  obtain ⟨k, hk⟩ := List.getElem?_of_mem hw
  have hl := (List.getElem?_eq_some_iff.mp hk).1
  have hl2 : k < 40 := hl
  have h2 : ((u_ws "SuiteRunnerModel" sr_F10 40).zip [709, 711, 713, 715, 717, 719, 721, 723, 725, 727, 729, 731, 733, 735, 737, 739, 741, 743, 745, 747, 749, 751, 753, 755, 757, 759, 761, 763, 765, 767, 769, 771, 773, 775, 777, 779, 781, 783, 785, 787])[k]? = some (w, ([709, 711, 713, 715, 717, 719, 721, 723, 725, 727, 729, 731, 733, 735, 737, 739, 741, 743, 745, 747, 749, 751, 753, 755, 757, 759, 761, 763, 765, 767, 769, 771, 773, 775, 777, 779, 781, 783, 785, 787] : List Nat)[k]) := by
    rw [List.getElem?_zip_eq_some]
    exact ⟨hk, List.getElem?_eq_getElem _⟩
  exact h _ (List.mem_of_getElem? h2)
