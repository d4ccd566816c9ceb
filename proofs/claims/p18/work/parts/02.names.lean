def R_C : String := "WeighRecorder$Chip"
def F_C : u_T := fun k => match k with
  | 0 => ("WeighRecorder$Chip", "words", "[I", true)
  | 1 => ("WeighRecorder$Chip", "wear", "[I", true)
  | 2 => ("WeighRecorder$Chip", "failed", "[Z", true)
  | 3 => ("WeighRecorder$Chip", "powered", "Z", false)
  | _ => ("WeighRecorder$Chip", "stepsToCut", "I", false)
def t_C : Nat → FieldType := fun k => match k with
  | 0 => .array .int
  | 1 => .array .int
  | 2 => .array .boolean
  | 3 => .boolean
  | _ => .int
theorem nm_C : ∀ a, a < 5 → ∀ b, b < 5 → a ≠ b → (F_C a).2.1 ≠ (F_C b).2.1 := by decide +kernel
theorem ok_C : ∀ k, k < 5 → parseFieldDescriptor (F_C k).2.2.1 = some (t_C k) := by decide +kernel
def R_N : String := "WeighRecorder$Line"
def F_N : u_T := fun k => match k with
  | 0 => ("WeighRecorder$Line", "bytes", "[B", true)
  | _ => ("WeighRecorder$Line", "used", "I", false)
def t_N : Nat → FieldType := fun k => match k with
  | 0 => .array .byte
  | _ => .int
theorem nm_N : ∀ a, a < 2 → ∀ b, b < 2 → a ≠ b → (F_N a).2.1 ≠ (F_N b).2.1 := by decide +kernel
theorem ok_N : ∀ k, k < 2 → parseFieldDescriptor (F_N k).2.2.1 = some (t_N k) := by decide +kernel
def R_G : String := "WeighRecorder$Log"
def F_G : u_T := fun k => match k with
  | 0 => ("WeighRecorder$Log", "words", "[I", true)
  | 1 => ("WeighRecorder$Log", "recordOfTicket", "[I", true)
  | 2 => ("WeighRecorder$Log", "voidedBy", "[I", true)
  | 3 => ("WeighRecorder$Log", "records", "I", false)
  | _ => ("WeighRecorder$Log", "tickets", "I", false)
def t_G : Nat → FieldType := fun k => match k with
  | 0 => .array .int
  | 1 => .array .int
  | 2 => .array .int
  | 3 => .int
  | _ => .int
theorem nm_G : ∀ a, a < 5 → ∀ b, b < 5 → a ≠ b → (F_G a).2.1 ≠ (F_G b).2.1 := by decide +kernel
theorem ok_G : ∀ k, k < 5 → parseFieldDescriptor (F_G k).2.2.1 = some (t_G k) := by decide +kernel
def R_S : String := "WeighRecorder$Store"
def F_S : u_T := fun k => match k with
  | 0 => ("WeighRecorder$Store", "chip", "LWeighRecorder$Chip;", true)
  | 1 => ("WeighRecorder$Store", "livePages", "[I", true)
  | 2 => ("WeighRecorder$Store", "row", "[I", true)
  | 3 => ("WeighRecorder$Store", "cursor", "I", false)
  | 4 => ("WeighRecorder$Store", "serial", "I", false)
  | 5 => ("WeighRecorder$Store", "durable", "I", false)
  | _ => ("WeighRecorder$Store", "wornOut", "Z", false)
def t_S : Nat → FieldType := fun k => match k with
  | 0 => .object "WeighRecorder$Chip"
  | 1 => .array .int
  | 2 => .array .int
  | 3 => .int
  | 4 => .int
  | 5 => .int
  | _ => .boolean
theorem nm_S : ∀ a, a < 7 → ∀ b, b < 7 → a ≠ b → (F_S a).2.1 ≠ (F_S b).2.1 := by decide +kernel
theorem ok_S : ∀ k, k < 7 → parseFieldDescriptor (F_S k).2.2.1 = some (t_S k) := by decide +kernel
def R_R : String := "WeighRecorder"
def F_R : u_T := fun k => match k with
  | 0 => ("WeighRecorder", "store", "LWeighRecorder$Store;", true)
  | 1 => ("WeighRecorder", "chip", "LWeighRecorder$Chip;", true)
  | 2 => ("WeighRecorder", "log", "LWeighRecorder$Log;", true)
  | 3 => ("WeighRecorder", "line", "LWeighRecorder$Line;", true)
  | 4 => ("WeighRecorder", "active", "[Z", true)
  | 5 => ("WeighRecorder", "readings", "I", false)
  | _ => ("WeighRecorder", "readSteps", "I", false)
def t_R : Nat → FieldType := fun k => match k with
  | 0 => .object "WeighRecorder$Store"
  | 1 => .object "WeighRecorder$Chip"
  | 2 => .object "WeighRecorder$Log"
  | 3 => .object "WeighRecorder$Line"
  | 4 => .array .boolean
  | 5 => .int
  | _ => .int
theorem nm_R : ∀ a, a < 7 → ∀ b, b < 7 → a ≠ b → (F_R a).2.1 ≠ (F_R b).2.1 := by decide +kernel
theorem ok_R : ∀ k, k < 7 → parseFieldDescriptor (F_R k).2.2.1 = some (t_R k) := by decide +kernel
def R_M : String := "WeighRecorderModel"
def F_M : u_T := fun k => match k with
  | 0 => ("WeighRecorderModel", "thrown", "I", false)
  | 1 => ("WeighRecorderModel", "chip", "[I", true)
  | 2 => ("WeighRecorderModel", "wear", "[I", true)
  | 3 => ("WeighRecorderModel", "failed", "[Z", true)
  | 4 => ("WeighRecorderModel", "active", "[Z", true)
  | 5 => ("WeighRecorderModel", "on", "Z", false)
  | 6 => ("WeighRecorderModel", "cut", "I", false)
  | 7 => ("WeighRecorderModel", "records", "I", false)
  | 8 => ("WeighRecorderModel", "log", "[I", true)
  | 9 => ("WeighRecorderModel", "live", "[I", true)
  | 10 => ("WeighRecorderModel", "had", "[I", true)
  | 11 => ("WeighRecorderModel", "serial", "I", false)
  | 12 => ("WeighRecorderModel", "cursor", "I", false)
  | 13 => ("WeighRecorderModel", "readings", "I", false)
  | 14 => ("WeighRecorderModel", "weight", "I", false)
  | 15 => ("WeighRecorderModel", "worn", "Z", false)
  | 16 => ("WeighRecorderModel", "page", "[I", true)
  | 17 => ("WeighRecorderModel", "place", "I", false)
  | 18 => ("WeighRecorderModel", "sought", "I", false)
  | _ => ("WeighRecorderModel", "found", "I", false)
def t_M : Nat → FieldType := fun k => match k with
  | 0 => .int
  | 1 => .array .int
  | 2 => .array .int
  | 3 => .array .boolean
  | 4 => .array .boolean
  | 5 => .boolean
  | 6 => .int
  | 7 => .int
  | 8 => .array .int
  | 9 => .array .int
  | 10 => .array .int
  | 11 => .int
  | 12 => .int
  | 13 => .int
  | 14 => .int
  | 15 => .boolean
  | 16 => .array .int
  | 17 => .int
  | 18 => .int
  | _ => .int
theorem nm_M : ∀ a, a < 20 → ∀ b, b < 20 → a ≠ b → (F_M a).2.1 ≠ (F_M b).2.1 := by decide +kernel
theorem ok_M : ∀ k, k < 20 → parseFieldDescriptor (F_M k).2.2.1 = some (t_M k) := by decide +kernel
def R_L : String := "WeighRecorderLaw"
abbrev vwCl : List vw_C := [(R_C, F_C, 5), (R_N, F_N, 2), (R_G, F_G, 5), (R_S, F_S, 7), (R_R, F_R, 7), (R_M, F_M, 20)]
/-- the tables' good words -/
def gw : List Cond := lw_tbl.filter goodWord
theorem gw_in {w : Cond} (h : w ∈ lw_tbl) (g : goodWord w = true) : w ∈ gw := List.mem_filter.mpr ⟨h, g⟩
theorem gw_good {w : Cond} (h : w ∈ gw) : goodWord w = true := (List.mem_filter.mp h).2
theorem gw_of {w : Cond} (h : w ∈ gw) : w ∈ lw_tbl := (List.mem_filter.mp h).1
theorem tb_1 {w : Cond} (h : w ∈ tables_1_1) : w ∈ lw_tbl := List.mem_append_right _ (show w ∈ tables_1 from List.mem_append_left _ h)
theorem tb_2 {w : Cond} (h : w ∈ tables_1_2) : w ∈ lw_tbl := List.mem_append_right _ (show w ∈ tables_1 from List.mem_append_right _ (List.mem_append_left _ h))
theorem tb_3 {w : Cond} (h : w ∈ tables_1_3) : w ∈ lw_tbl := List.mem_append_right _ (show w ∈ tables_1 from List.mem_append_right _ (List.mem_append_right _ (List.mem_append_left _ h)))
theorem tb_4 {w : Cond} (h : w ∈ tables_1_4) : w ∈ lw_tbl := List.mem_append_right _ (show w ∈ tables_1 from List.mem_append_right _ (List.mem_append_right _ (List.mem_append_right _ (List.mem_append_left _ h))))
theorem tb_5 {w : Cond} (h : w ∈ tables_1_5) : w ∈ lw_tbl := List.mem_append_right _ (show w ∈ tables_1 from List.mem_append_right _ (List.mem_append_right _ (List.mem_append_right _ (List.mem_append_right _ (h)))))
theorem tb_s {q : MethodName × Nat} (h : q ∈ lw_privs) : Cond.selects q.1.cls q.1 q.1 ∈ lw_tbl := List.mem_append_left _ (List.mem_map.mpr ⟨q, h, rfl⟩)
theorem in_C : ∀ w ∈ u_ws R_C F_C 5, w ∈ gw := by
  intro w h
  obtain ⟨k, hk, rfl⟩ := List.mem_map.mp h
  have hk := List.mem_range.mp hk
  rcases (show k = 0 ∨ k = 1 ∨ k = 2 ∨ k = 3 ∨ k = 4 by omega) with rfl | rfl | rfl | rfl | rfl
  · exact gw_in (tb_1 (List.mem_of_getElem? (i := 39) rfl)) (by decide +kernel)
  · exact gw_in (tb_1 (List.mem_of_getElem? (i := 41) rfl)) (by decide +kernel)
  · exact gw_in (tb_1 (List.mem_of_getElem? (i := 43) rfl)) (by decide +kernel)
  · exact gw_in (tb_1 (List.mem_of_getElem? (i := 45) rfl)) (by decide +kernel)
  · exact gw_in (tb_1 (List.mem_of_getElem? (i := 47) rfl)) (by decide +kernel)
theorem in_N : ∀ w ∈ u_ws R_N F_N 2, w ∈ gw := by
  intro w h
  obtain ⟨k, hk, rfl⟩ := List.mem_map.mp h
  have hk := List.mem_range.mp hk
  rcases (show k = 0 ∨ k = 1 by omega) with rfl | rfl
  · exact gw_in (tb_1 (List.mem_of_getElem? (i := 108) rfl)) (by decide +kernel)
  · exact gw_in (tb_1 (List.mem_of_getElem? (i := 110) rfl)) (by decide +kernel)
theorem in_G : ∀ w ∈ u_ws R_G F_G 5, w ∈ gw := by
  intro w h
  obtain ⟨k, hk, rfl⟩ := List.mem_map.mp h
  have hk := List.mem_range.mp hk
  rcases (show k = 0 ∨ k = 1 ∨ k = 2 ∨ k = 3 ∨ k = 4 by omega) with rfl | rfl | rfl | rfl | rfl
  · exact gw_in (tb_1 (List.mem_of_getElem? (i := 89) rfl)) (by decide +kernel)
  · exact gw_in (tb_1 (List.mem_of_getElem? (i := 91) rfl)) (by decide +kernel)
  · exact gw_in (tb_1 (List.mem_of_getElem? (i := 93) rfl)) (by decide +kernel)
  · exact gw_in (tb_1 (List.mem_of_getElem? (i := 95) rfl)) (by decide +kernel)
  · exact gw_in (tb_1 (List.mem_of_getElem? (i := 97) rfl)) (by decide +kernel)
theorem in_S : ∀ w ∈ u_ws R_S F_S 7, w ∈ gw := by
  intro w h
  obtain ⟨k, hk, rfl⟩ := List.mem_map.mp h
  have hk := List.mem_range.mp hk
  rcases (show k = 0 ∨ k = 1 ∨ k = 2 ∨ k = 3 ∨ k = 4 ∨ k = 5 ∨ k = 6 by omega) with rfl | rfl | rfl | rfl | rfl | rfl | rfl
  · exact gw_in (tb_1 (List.mem_of_getElem? (i := 59) rfl)) (by decide +kernel)
  · exact gw_in (tb_1 (List.mem_of_getElem? (i := 61) rfl)) (by decide +kernel)
  · exact gw_in (tb_1 (List.mem_of_getElem? (i := 63) rfl)) (by decide +kernel)
  · exact gw_in (tb_1 (List.mem_of_getElem? (i := 65) rfl)) (by decide +kernel)
  · exact gw_in (tb_1 (List.mem_of_getElem? (i := 67) rfl)) (by decide +kernel)
  · exact gw_in (tb_1 (List.mem_of_getElem? (i := 69) rfl)) (by decide +kernel)
  · exact gw_in (tb_1 (List.mem_of_getElem? (i := 71) rfl)) (by decide +kernel)
theorem in_R : ∀ w ∈ u_ws R_R F_R 7, w ∈ gw := by
  intro w h
  obtain ⟨k, hk, rfl⟩ := List.mem_map.mp h
  have hk := List.mem_range.mp hk
  rcases (show k = 0 ∨ k = 1 ∨ k = 2 ∨ k = 3 ∨ k = 4 ∨ k = 5 ∨ k = 6 by omega) with rfl | rfl | rfl | rfl | rfl | rfl | rfl
  · exact gw_in (tb_1 (List.mem_of_getElem? (i := 121) rfl)) (by decide +kernel)
  · exact gw_in (tb_1 (List.mem_of_getElem? (i := 123) rfl)) (by decide +kernel)
  · exact gw_in (tb_1 (List.mem_of_getElem? (i := 125) rfl)) (by decide +kernel)
  · exact gw_in (tb_1 (List.mem_of_getElem? (i := 127) rfl)) (by decide +kernel)
  · exact gw_in (tb_1 (List.mem_of_getElem? (i := 129) rfl)) (by decide +kernel)
  · exact gw_in (tb_1 (List.mem_of_getElem? (i := 131) rfl)) (by decide +kernel)
  · exact gw_in (tb_1 (List.mem_of_getElem? (i := 133) rfl)) (by decide +kernel)
theorem in_M : ∀ w ∈ u_ws R_M F_M 20, w ∈ gw := by
  intro w h
  obtain ⟨k, hk, rfl⟩ := List.mem_map.mp h
  have hk := List.mem_range.mp hk
  rcases (show k = 0 ∨ k = 1 ∨ k = 2 ∨ k = 3 ∨ k = 4 ∨ k = 5 ∨ k = 6 ∨ k = 7 ∨ k = 8 ∨ k = 9 ∨ k = 10 ∨ k = 11 ∨ k = 12 ∨ k = 13 ∨ k = 14 ∨ k = 15 ∨ k = 16 ∨ k = 17 ∨ k = 18 ∨ k = 19 by omega) with rfl | rfl | rfl | rfl | rfl | rfl | rfl | rfl | rfl | rfl | rfl | rfl | rfl | rfl | rfl | rfl | rfl | rfl | rfl | rfl
  · exact gw_in (tb_4 (List.mem_of_getElem? (i := 12) rfl)) (by decide +kernel)
  · exact gw_in (tb_4 (List.mem_of_getElem? (i := 14) rfl)) (by decide +kernel)
  · exact gw_in (tb_4 (List.mem_of_getElem? (i := 16) rfl)) (by decide +kernel)
  · exact gw_in (tb_4 (List.mem_of_getElem? (i := 18) rfl)) (by decide +kernel)
  · exact gw_in (tb_4 (List.mem_of_getElem? (i := 20) rfl)) (by decide +kernel)
  · exact gw_in (tb_4 (List.mem_of_getElem? (i := 22) rfl)) (by decide +kernel)
  · exact gw_in (tb_4 (List.mem_of_getElem? (i := 24) rfl)) (by decide +kernel)
  · exact gw_in (tb_4 (List.mem_of_getElem? (i := 26) rfl)) (by decide +kernel)
  · exact gw_in (tb_4 (List.mem_of_getElem? (i := 28) rfl)) (by decide +kernel)
  · exact gw_in (tb_4 (List.mem_of_getElem? (i := 30) rfl)) (by decide +kernel)
  · exact gw_in (tb_4 (List.mem_of_getElem? (i := 32) rfl)) (by decide +kernel)
  · exact gw_in (tb_4 (List.mem_of_getElem? (i := 34) rfl)) (by decide +kernel)
  · exact gw_in (tb_4 (List.mem_of_getElem? (i := 36) rfl)) (by decide +kernel)
  · exact gw_in (tb_4 (List.mem_of_getElem? (i := 38) rfl)) (by decide +kernel)
  · exact gw_in (tb_4 (List.mem_of_getElem? (i := 40) rfl)) (by decide +kernel)
  · exact gw_in (tb_4 (List.mem_of_getElem? (i := 42) rfl)) (by decide +kernel)
  · exact gw_in (tb_4 (List.mem_of_getElem? (i := 44) rfl)) (by decide +kernel)
  · exact gw_in (tb_4 (List.mem_of_getElem? (i := 46) rfl)) (by decide +kernel)
  · exact gw_in (tb_4 (List.mem_of_getElem? (i := 48) rfl)) (by decide +kernel)
  · exact gw_in (tb_4 (List.mem_of_getElem? (i := 50) rfl)) (by decide +kernel)
theorem g_c {M y : Cond} (hy : y ∈ gw) : GoodIn (M :: gw) (y :: gw) := fun w h => (List.mem_cons.mp h).elim (fun e => by rw [e]; exact ⟨List.mem_cons_of_mem _ hy, good_of_word (gw_good hy)⟩) (fun h => ⟨List.mem_cons_of_mem _ h, good_of_word (gw_good h)⟩)
theorem g_V {M cy : Cond} {own C : String} {idx : Nat} {y : MethodName} (h1 : .methodLink own idx y ∈ gw) (h2 : .instanceMethod y ∈ gw) (h3 : .selects C y y ∈ gw) (h4 : .initialized C ∈ gw) (h5 : cy ∈ gw) : GoodIn (M :: gw) (wsV own idx C y (cy :: gw)) := by
  intro w h
  have k : ∀ {z : Cond}, z ∈ gw → z ∈ M :: gw ∧ ((z.onTables && z.keeps) = true ∨ ∃ ty, z = .arrayClass ty) := fun hz => ⟨List.mem_cons_of_mem _ hz, good_of_word (gw_good hz)⟩
  rcases List.mem_append.mp h with h | h
  · simp only [List.mem_cons, List.not_mem_nil, or_false] at h
    rcases h with rfl | rfl | rfl | rfl
    · exact k h1
    · exact k h2
    · exact k h3
    · exact k h4
  · exact g_c h5 w h
theorem g_S {M cy : Cond} {own : String} {idx : Nat} {y : MethodName} (h1 : .methodLink own idx y ∈ gw) (h2 : .static y ∈ gw) (h4 : .initialized own ∈ gw) (h5 : cy ∈ gw) : GoodIn (M :: gw) (wsS own idx y (cy :: gw)) := by
  intro w h
  have k : ∀ {z : Cond}, z ∈ gw → z ∈ M :: gw ∧ ((z.onTables && z.keeps) = true ∨ ∃ ty, z = .arrayClass ty) := fun hz => ⟨List.mem_cons_of_mem _ hz, good_of_word (gw_good hz)⟩
  rcases List.mem_append.mp h with h | h
  · simp only [List.mem_cons, List.not_mem_nil, or_false] at h
    rcases h with rfl | rfl | rfl
    · exact k h1
    · exact k h2
    · exact k h4
  · exact g_c h5 w h
