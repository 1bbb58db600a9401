/-! names: classes, fields, the words of the tables, methods, links (written by program) -/
theorem mm_m9 {w : Cond} (h : w ∈ tables_1) : w ∈ lw_tbl := List.mem_append_right _ h
theorem mm_m1 {w : Cond} (h : w ∈ tables_1_1) : w ∈ lw_tbl := mm_m9 (List.mem_append_left _ h)
theorem mm_m2 {w : Cond} (h : w ∈ tables_1_2) : w ∈ lw_tbl := mm_m9 (List.mem_append_right _ (List.mem_append_left _ h))
theorem mm_m3 {w : Cond} (h : w ∈ tables_1_3) : w ∈ lw_tbl := mm_m9 (List.mem_append_right _ (List.mem_append_right _ (List.mem_append_left _ h)))
theorem mm_m4 {w : Cond} (h : w ∈ tables_1_4) : w ∈ lw_tbl := mm_m9 (List.mem_append_right _ (List.mem_append_right _ (List.mem_append_right _ (List.mem_append_left _ h))))
theorem mm_m5 {w : Cond} (h : w ∈ tables_1_5) : w ∈ lw_tbl := mm_m9 (List.mem_append_right _ (List.mem_append_right _ (List.mem_append_right _ (List.mem_append_right _ (List.mem_append_left _ h)))))
theorem mm_m6 {w : Cond} (h : w ∈ tables_1_6) : w ∈ lw_tbl := mm_m9 (List.mem_append_right _ (List.mem_append_right _ (List.mem_append_right _ (List.mem_append_right _ (List.mem_append_right _ (List.mem_append_left _ h))))))
theorem mm_m7 {w : Cond} (h : w ∈ tables_1_7) : w ∈ lw_tbl := mm_m9 (List.mem_append_right _ (List.mem_append_right _ (List.mem_append_right _ (List.mem_append_right _ (List.mem_append_right _ (List.mem_append_right _ (List.mem_append_left _ h)))))))
theorem mm_m8 {w : Cond} (h : w ∈ tables_1_8) : w ∈ lw_tbl := mm_m9 (List.mem_append_right _ (List.mem_append_right _ (List.mem_append_right _ (List.mem_append_right _ (List.mem_append_right _ (List.mem_append_right _ (List.mem_append_right _ (h))))))))
/-- the words that a contract takes along -/
def mm_ws : List Cond := lw_tbl.filter goodWord
theorem mm_in {w : Cond} (h : w ∈ lw_tbl) (g : goodWord w = true) : w ∈ mm_ws := List.mem_filter.mpr ⟨h, g⟩
def mm_isN : Cond → Bool
  | .methodLinkNest .. => true
  | _ => false
def mm_nest : List Cond := lw_tbl.filter mm_isN
def mm_R0 : String := "GodWeathers$Asking"
def mm_F0 : u_T := fun k => match k with
  | 0 => ("GodWeathers$Asking", "askers", "[I", true)
  | 1 => ("GodWeathers$Asking", "bestRow", "[I", true)
  | 2 => ("GodWeathers$Asking", "row", "[I", true)
  | 3 => ("GodWeathers$Asking", "gain", "[I", true)
  | 4 => ("GodWeathers$Asking", "seen", "[I", true)
  | 5 => ("GodWeathers$Asking", "walks", "I", false)
  | 6 => ("GodWeathers$Asking", "coast", "LGodWeathers$Coast;", false)
  | 7 => ("GodWeathers$Asking", "crew", "I", false)
  | _ => ("GodWeathers$Asking", "best", "I", false)
def mm_t0 : Nat → FieldType := fun k => match k with
  | 0 => .array .int
  | 1 => .array .int
  | 2 => .array .int
  | 3 => .array .int
  | 4 => .array .int
  | 5 => .int
  | 6 => .object "GodWeathers$Coast"
  | 7 => .int
  | _ => .int
theorem mm_nm0 : ∀ a, a < 9 → ∀ b, b < 9 → a ≠ b → (mm_F0 a).2.1 ≠ (mm_F0 b).2.1 := by decide +kernel
theorem mm_tok0 : ∀ k, k < 9 → parseFieldDescriptor (mm_F0 k).2.2.1 = some (mm_t0 k) := by decide +kernel
theorem mm_ly0 : ∀ w ∈ u_ws mm_R0 mm_F0 9, w ∈ mm_ws := by
  intro w hw
  obtain ⟨k, hk, rfl⟩ := List.mem_map.mp hw
  have hk := List.mem_range.mp hk
  match k, hk with
  | 0, _ => exact mm_in (mm_m2 (List.mem_of_getElem? (i := 62) rfl)) rfl
  | 1, _ => exact mm_in (mm_m2 (List.mem_of_getElem? (i := 64) rfl)) rfl
  | 2, _ => exact mm_in (mm_m2 (List.mem_of_getElem? (i := 66) rfl)) rfl
  | 3, _ => exact mm_in (mm_m2 (List.mem_of_getElem? (i := 68) rfl)) rfl
  | 4, _ => exact mm_in (mm_m2 (List.mem_of_getElem? (i := 70) rfl)) rfl
  | 5, _ => exact mm_in (mm_m2 (List.mem_of_getElem? (i := 72) rfl)) rfl
  | 6, _ => exact mm_in (mm_m2 (List.mem_of_getElem? (i := 74) rfl)) rfl
  | 7, _ => exact mm_in (mm_m2 (List.mem_of_getElem? (i := 76) rfl)) rfl
  | 8, _ => exact mm_in (mm_m2 (List.mem_of_getElem? (i := 78) rfl)) rfl
  | k + 9, hk => exact absurd hk (by omega)
def mm_R1 : String := "GodWeathers$Boats"
def mm_F1 : u_T := fun k => match k with
  | 0 => ("GodWeathers$Boats", "boatOf", "[I", true)
  | 1 => ("GodWeathers$Boats", "filled", "[I", true)
  | 2 => ("GodWeathers$Boats", "aboard", "[I", true)
  | 3 => ("GodWeathers$Boats", "coast", "LGodWeathers$Coast;", false)
  | _ => ("GodWeathers$Boats", "room", "I", false)
def mm_t1 : Nat → FieldType := fun k => match k with
  | 0 => .array .int
  | 1 => .array .int
  | 2 => .array .int
  | 3 => .object "GodWeathers$Coast"
  | _ => .int
theorem mm_nm1 : ∀ a, a < 5 → ∀ b, b < 5 → a ≠ b → (mm_F1 a).2.1 ≠ (mm_F1 b).2.1 := by decide +kernel
theorem mm_tok1 : ∀ k, k < 5 → parseFieldDescriptor (mm_F1 k).2.2.1 = some (mm_t1 k) := by decide +kernel
theorem mm_ly1 : ∀ w ∈ u_ws mm_R1 mm_F1 5, w ∈ mm_ws := by
  intro w hw
  obtain ⟨k, hk, rfl⟩ := List.mem_map.mp hw
  have hk := List.mem_range.mp hk
  match k, hk with
  | 0, _ => exact mm_in (mm_m2 (List.mem_of_getElem? (i := 93) rfl)) rfl
  | 1, _ => exact mm_in (mm_m2 (List.mem_of_getElem? (i := 95) rfl)) rfl
  | 2, _ => exact mm_in (mm_m2 (List.mem_of_getElem? (i := 97) rfl)) rfl
  | 3, _ => exact mm_in (mm_m2 (List.mem_of_getElem? (i := 99) rfl)) rfl
  | 4, _ => exact mm_in (mm_m2 (List.mem_of_getElem? (i := 101) rfl)) rfl
  | k + 5, hk => exact absurd hk (by omega)
def mm_R2 : String := "GodWeathers$Coast"
def mm_F2 : u_T := fun k => match k with
  | 0 => ("GodWeathers$Coast", "chance", "[I", true)
  | 1 => ("GodWeathers$Coast", "patience", "[I", true)
  | 2 => ("GodWeathers$Coast", "opposing", "[I", true)
  | 3 => ("GodWeathers$Coast", "godparents", "[I", true)
  | 4 => ("GodWeathers$Coast", "worth", "[I", true)
  | 5 => ("GodWeathers$Coast", "need", "[I", true)
  | 6 => ("GodWeathers$Coast", "children", "I", false)
  | _ => ("GodWeathers$Coast", "works", "I", false)
def mm_t2 : Nat → FieldType := fun k => match k with
  | 0 => .array .int
  | 1 => .array .int
  | 2 => .array .int
  | 3 => .array .int
  | 4 => .array .int
  | 5 => .array .int
  | 6 => .int
  | _ => .int
theorem mm_nm2 : ∀ a, a < 8 → ∀ b, b < 8 → a ≠ b → (mm_F2 a).2.1 ≠ (mm_F2 b).2.1 := by decide +kernel
theorem mm_tok2 : ∀ k, k < 8 → parseFieldDescriptor (mm_F2 k).2.2.1 = some (mm_t2 k) := by decide +kernel
theorem mm_ly2 : ∀ w ∈ u_ws mm_R2 mm_F2 8, w ∈ mm_ws := by
  intro w hw
  obtain ⟨k, hk, rfl⟩ := List.mem_map.mp hw
  have hk := List.mem_range.mp hk
  match k, hk with
  | 0, _ => exact mm_in (mm_m1 (List.mem_of_getElem? (i := 73) rfl)) rfl
  | 1, _ => exact mm_in (mm_m1 (List.mem_of_getElem? (i := 75) rfl)) rfl
  | 2, _ => exact mm_in (mm_m1 (List.mem_of_getElem? (i := 77) rfl)) rfl
  | 3, _ => exact mm_in (mm_m1 (List.mem_of_getElem? (i := 79) rfl)) rfl
  | 4, _ => exact mm_in (mm_m1 (List.mem_of_getElem? (i := 81) rfl)) rfl
  | 5, _ => exact mm_in (mm_m1 (List.mem_of_getElem? (i := 83) rfl)) rfl
  | 6, _ => exact mm_in (mm_m1 (List.mem_of_getElem? (i := 85) rfl)) rfl
  | 7, _ => exact mm_in (mm_m1 (List.mem_of_getElem? (i := 87) rfl)) rfl
  | k + 8, hk => exact absurd hk (by omega)
def mm_R3 : String := "GodWeathers$Days"
def mm_F3 : u_T := fun k => match k with
  | 0 => ("GodWeathers$Days", "done", "I", false)
  | 1 => ("GodWeathers$Days", "offence", "I", false)
  | 2 => ("GodWeathers$Days", "whom", "I", false)
  | 3 => ("GodWeathers$Days", "mostHere", "I", false)
  | 4 => ("GodWeathers$Days", "thanks", "I", false)
  | 5 => ("GodWeathers$Days", "offended", "[I", true)
  | 6 => ("GodWeathers$Days", "forgotten", "[I", true)
  | 7 => ("GodWeathers$Days", "asks", "[I", true)
  | 8 => ("GodWeathers$Days", "coast", "LGodWeathers$Coast;", false)
  | 9 => ("GodWeathers$Days", "day", "I", false)
  | 10 => ("GodWeathers$Days", "here", "I", false)
  | 11 => ("GodWeathers$Days", "askedToday", "I", false)
  | 12 => ("GodWeathers$Days", "barns", "I", false)
  | _ => ("GodWeathers$Days", "seed", "I", false)
def mm_t3 : Nat → FieldType := fun k => match k with
  | 0 => .int
  | 1 => .int
  | 2 => .int
  | 3 => .int
  | 4 => .int
  | 5 => .array .int
  | 6 => .array .int
  | 7 => .array .int
  | 8 => .object "GodWeathers$Coast"
  | 9 => .int
  | 10 => .int
  | 11 => .int
  | 12 => .int
  | _ => .int
theorem mm_nm3 : ∀ a, a < 14 → ∀ b, b < 14 → a ≠ b → (mm_F3 a).2.1 ≠ (mm_F3 b).2.1 := by decide +kernel
theorem mm_tok3 : ∀ k, k < 14 → parseFieldDescriptor (mm_F3 k).2.2.1 = some (mm_t3 k) := by decide +kernel
theorem mm_ly3 : ∀ w ∈ u_ws mm_R3 mm_F3 14, w ∈ mm_ws := by
  intro w hw
  obtain ⟨k, hk, rfl⟩ := List.mem_map.mp hw
  have hk := List.mem_range.mp hk
  match k, hk with
  | 0, _ => exact mm_in (mm_m2 (List.mem_of_getElem? (i := 16) rfl)) rfl
  | 1, _ => exact mm_in (mm_m2 (List.mem_of_getElem? (i := 18) rfl)) rfl
  | 2, _ => exact mm_in (mm_m2 (List.mem_of_getElem? (i := 20) rfl)) rfl
  | 3, _ => exact mm_in (mm_m2 (List.mem_of_getElem? (i := 22) rfl)) rfl
  | 4, _ => exact mm_in (mm_m2 (List.mem_of_getElem? (i := 24) rfl)) rfl
  | 5, _ => exact mm_in (mm_m2 (List.mem_of_getElem? (i := 26) rfl)) rfl
  | 6, _ => exact mm_in (mm_m2 (List.mem_of_getElem? (i := 28) rfl)) rfl
  | 7, _ => exact mm_in (mm_m2 (List.mem_of_getElem? (i := 30) rfl)) rfl
  | 8, _ => exact mm_in (mm_m2 (List.mem_of_getElem? (i := 32) rfl)) rfl
  | 9, _ => exact mm_in (mm_m2 (List.mem_of_getElem? (i := 34) rfl)) rfl
  | 10, _ => exact mm_in (mm_m2 (List.mem_of_getElem? (i := 36) rfl)) rfl
  | 11, _ => exact mm_in (mm_m2 (List.mem_of_getElem? (i := 38) rfl)) rfl
  | 12, _ => exact mm_in (mm_m2 (List.mem_of_getElem? (i := 40) rfl)) rfl
  | 13, _ => exact mm_in (mm_m2 (List.mem_of_getElem? (i := 42) rfl)) rfl
  | k + 14, hk => exact absurd hk (by omega)
def mm_R4 : String := "GodWeathers$Log"
def mm_F4 : u_T := fun k => match k with
  | 0 => ("GodWeathers$Log", "kind", "[I", true)
  | 1 => ("GodWeathers$Log", "weather", "[I", true)
  | _ => ("GodWeathers$Log", "size", "I", false)
def mm_t4 : Nat → FieldType := fun k => match k with
  | 0 => .array .int
  | 1 => .array .int
  | _ => .int
theorem mm_nm4 : ∀ a, a < 3 → ∀ b, b < 3 → a ≠ b → (mm_F4 a).2.1 ≠ (mm_F4 b).2.1 := by decide +kernel
theorem mm_tok4 : ∀ k, k < 3 → parseFieldDescriptor (mm_F4 k).2.2.1 = some (mm_t4 k) := by decide +kernel
theorem mm_ly4 : ∀ w ∈ u_ws mm_R4 mm_F4 3, w ∈ mm_ws := by
  intro w hw
  obtain ⟨k, hk, rfl⟩ := List.mem_map.mp hw
  have hk := List.mem_range.mp hk
  match k, hk with
  | 0, _ => exact mm_in (mm_m1 (List.mem_of_getElem? (i := 130) rfl)) rfl
  | 1, _ => exact mm_in (mm_m1 (List.mem_of_getElem? (i := 132) rfl)) rfl
  | 2, _ => exact mm_in (mm_m1 (List.mem_of_getElem? (i := 134) rfl)) rfl
  | k + 3, hk => exact absurd hk (by omega)
def mm_R5 : String := "GodWeathers$Reader"
def mm_F5 : u_T := fun k => match k with
  | 0 => ("GodWeathers$Reader", "coast", "LGodWeathers$Coast;", true)
  | 1 => ("GodWeathers$Reader", "year", "LGodWeathers$Year;", true)
  | 2 => ("GodWeathers$Reader", "log", "LGodWeathers$Log;", true)
  | 3 => ("GodWeathers$Reader", "fault", "I", false)
  | 4 => ("GodWeathers$Reader", "faultPlace", "I", false)
  | 5 => ("GodWeathers$Reader", "numbers", "[I", true)
  | 6 => ("GodWeathers$Reader", "places", "[I", true)
  | 7 => ("GodWeathers$Reader", "tape", "[B", false)
  | 8 => ("GodWeathers$Reader", "length", "I", false)
  | 9 => ("GodWeathers$Reader", "sort", "I", false)
  | 10 => ("GodWeathers$Reader", "worksToldOf", "I", false)
  | 11 => ("GodWeathers$Reader", "next", "I", false)
  | 12 => ("GodWeathers$Reader", "token", "I", false)
  | 13 => ("GodWeathers$Reader", "place", "I", false)
  | _ => ("GodWeathers$Reader", "value", "I", false)
def mm_t5 : Nat → FieldType := fun k => match k with
  | 0 => .object "GodWeathers$Coast"
  | 1 => .object "GodWeathers$Year"
  | 2 => .object "GodWeathers$Log"
  | 3 => .int
  | 4 => .int
  | 5 => .array .int
  | 6 => .array .int
  | 7 => .array .byte
  | 8 => .int
  | 9 => .int
  | 10 => .int
  | 11 => .int
  | 12 => .int
  | 13 => .int
  | _ => .int
theorem mm_nm5 : ∀ a, a < 15 → ∀ b, b < 15 → a ≠ b → (mm_F5 a).2.1 ≠ (mm_F5 b).2.1 := by decide +kernel
theorem mm_tok5 : ∀ k, k < 15 → parseFieldDescriptor (mm_F5 k).2.2.1 = some (mm_t5 k) := by decide +kernel
theorem mm_ly5 : ∀ w ∈ u_ws mm_R5 mm_F5 15, w ∈ mm_ws := by
  intro w hw
  obtain ⟨k, hk, rfl⟩ := List.mem_map.mp hw
  have hk := List.mem_range.mp hk
  match k, hk with
  | 0, _ => exact mm_in (mm_m1 (List.mem_of_getElem? (i := 200) rfl)) rfl
  | 1, _ => exact mm_in (mm_m1 (List.mem_of_getElem? (i := 202) rfl)) rfl
  | 2, _ => exact mm_in (mm_m1 (List.mem_of_getElem? (i := 204) rfl)) rfl
  | 3, _ => exact mm_in (mm_m1 (List.mem_of_getElem? (i := 206) rfl)) rfl
  | 4, _ => exact mm_in (mm_m1 (List.mem_of_getElem? (i := 208) rfl)) rfl
  | 5, _ => exact mm_in (mm_m1 (List.mem_of_getElem? (i := 210) rfl)) rfl
  | 6, _ => exact mm_in (mm_m1 (List.mem_of_getElem? (i := 212) rfl)) rfl
  | 7, _ => exact mm_in (mm_m1 (List.mem_of_getElem? (i := 214) rfl)) rfl
  | 8, _ => exact mm_in (mm_m1 (List.mem_of_getElem? (i := 216) rfl)) rfl
  | 9, _ => exact mm_in (mm_m1 (List.mem_of_getElem? (i := 218) rfl)) rfl
  | 10, _ => exact mm_in (mm_m1 (List.mem_of_getElem? (i := 220) rfl)) rfl
  | 11, _ => exact mm_in (mm_m1 (List.mem_of_getElem? (i := 222) rfl)) rfl
  | 12, _ => exact mm_in (mm_m1 (List.mem_of_getElem? (i := 224) rfl)) rfl
  | 13, _ => exact mm_in (mm_m1 (List.mem_of_getElem? (i := 226) rfl)) rfl
  | 14, _ => exact mm_in (mm_m1 (List.mem_of_getElem? (i := 228) rfl)) rfl
  | k + 15, hk => exact absurd hk (by omega)
def mm_R6 : String := "GodWeathers$Sky"
def mm_F6 : u_T := fun k => match k with
  | 0 => ("GodWeathers$Sky", "bestRow", "[I", true)
  | 1 => ("GodWeathers$Sky", "row", "[I", true)
  | 2 => ("GodWeathers$Sky", "ways", "[J", true)
  | 3 => ("GodWeathers$Sky", "coast", "LGodWeathers$Coast;", false)
  | 4 => ("GodWeathers$Sky", "best", "I", false)
  | _ => ("GodWeathers$Sky", "bound", "I", false)
def mm_t6 : Nat → FieldType := fun k => match k with
  | 0 => .array .int
  | 1 => .array .int
  | 2 => .array .long
  | 3 => .object "GodWeathers$Coast"
  | 4 => .int
  | _ => .int
theorem mm_nm6 : ∀ a, a < 6 → ∀ b, b < 6 → a ≠ b → (mm_F6 a).2.1 ≠ (mm_F6 b).2.1 := by decide +kernel
theorem mm_tok6 : ∀ k, k < 6 → parseFieldDescriptor (mm_F6 k).2.2.1 = some (mm_t6 k) := by decide +kernel
theorem mm_ly6 : ∀ w ∈ u_ws mm_R6 mm_F6 6, w ∈ mm_ws := by
  intro w hw
  obtain ⟨k, hk, rfl⟩ := List.mem_map.mp hw
  have hk := List.mem_range.mp hk
  match k, hk with
  | 0, _ => exact mm_in (mm_m2 (List.mem_of_getElem? (i := 117) rfl)) rfl
  | 1, _ => exact mm_in (mm_m2 (List.mem_of_getElem? (i := 119) rfl)) rfl
  | 2, _ => exact mm_in (mm_m2 (List.mem_of_getElem? (i := 121) rfl)) rfl
  | 3, _ => exact mm_in (mm_m2 (List.mem_of_getElem? (i := 123) rfl)) rfl
  | 4, _ => exact mm_in (mm_m2 (List.mem_of_getElem? (i := 125) rfl)) rfl
  | 5, _ => exact mm_in (mm_m2 (List.mem_of_getElem? (i := 127) rfl)) rfl
  | k + 6, hk => exact absurd hk (by omega)
def mm_R7 : String := "GodWeathers$Told"
def mm_F7 : u_T := fun k => match k with
  | 0 => ("GodWeathers$Told", "tape", "[B", true)
  | 1 => ("GodWeathers$Told", "coasts", "[LGodWeathers$Coast;", true)
  | 2 => ("GodWeathers$Told", "years", "[LGodWeathers$Year;", true)
  | 3 => ("GodWeathers$Told", "logs", "[LGodWeathers$Log;", true)
  | 4 => ("GodWeathers$Told", "counts", "[I", true)
  | 5 => ("GodWeathers$Told", "length", "I", false)
  | 6 => ("GodWeathers$Told", "fault", "I", false)
  | _ => ("GodWeathers$Told", "place", "I", false)
def mm_t7 : Nat → FieldType := fun k => match k with
  | 0 => .array .byte
  | 1 => .array (.object "GodWeathers$Coast")
  | 2 => .array (.object "GodWeathers$Year")
  | 3 => .array (.object "GodWeathers$Log")
  | 4 => .array .int
  | 5 => .int
  | 6 => .int
  | _ => .int
theorem mm_nm7 : ∀ a, a < 8 → ∀ b, b < 8 → a ≠ b → (mm_F7 a).2.1 ≠ (mm_F7 b).2.1 := by decide +kernel
theorem mm_tok7 : ∀ k, k < 8 → parseFieldDescriptor (mm_F7 k).2.2.1 = some (mm_t7 k) := by decide +kernel
theorem mm_ly7 : ∀ w ∈ u_ws mm_R7 mm_F7 8, w ∈ mm_ws := by
  intro w hw
  obtain ⟨k, hk, rfl⟩ := List.mem_map.mp hw
  have hk := List.mem_range.mp hk
  match k, hk with
  | 0, _ => exact mm_in (mm_m1 (List.mem_of_getElem? (i := 150) rfl)) rfl
  | 1, _ => exact mm_in (mm_m1 (List.mem_of_getElem? (i := 152) rfl)) rfl
  | 2, _ => exact mm_in (mm_m1 (List.mem_of_getElem? (i := 154) rfl)) rfl
  | 3, _ => exact mm_in (mm_m1 (List.mem_of_getElem? (i := 156) rfl)) rfl
  | 4, _ => exact mm_in (mm_m1 (List.mem_of_getElem? (i := 158) rfl)) rfl
  | 5, _ => exact mm_in (mm_m1 (List.mem_of_getElem? (i := 160) rfl)) rfl
  | 6, _ => exact mm_in (mm_m1 (List.mem_of_getElem? (i := 162) rfl)) rfl
  | 7, _ => exact mm_in (mm_m1 (List.mem_of_getElem? (i := 164) rfl)) rfl
  | k + 8, hk => exact absurd hk (by omega)
def mm_R8 : String := "GodWeathers$Year"
def mm_F8 : u_T := fun k => match k with
  | 0 => ("GodWeathers$Year", "kind", "[I", true)
  | 1 => ("GodWeathers$Year", "one", "[I", true)
  | 2 => ("GodWeathers$Year", "two", "[I", true)
  | _ => ("GodWeathers$Year", "size", "I", false)
def mm_t8 : Nat → FieldType := fun k => match k with
  | 0 => .array .int
  | 1 => .array .int
  | 2 => .array .int
  | _ => .int
theorem mm_nm8 : ∀ a, a < 4 → ∀ b, b < 4 → a ≠ b → (mm_F8 a).2.1 ≠ (mm_F8 b).2.1 := by decide +kernel
theorem mm_tok8 : ∀ k, k < 4 → parseFieldDescriptor (mm_F8 k).2.2.1 = some (mm_t8 k) := by decide +kernel
theorem mm_ly8 : ∀ w ∈ u_ws mm_R8 mm_F8 4, w ∈ mm_ws := by
  intro w hw
  obtain ⟨k, hk, rfl⟩ := List.mem_map.mp hw
  have hk := List.mem_range.mp hk
  match k, hk with
  | 0, _ => exact mm_in (mm_m1 (List.mem_of_getElem? (i := 109) rfl)) rfl
  | 1, _ => exact mm_in (mm_m1 (List.mem_of_getElem? (i := 111) rfl)) rfl
  | 2, _ => exact mm_in (mm_m1 (List.mem_of_getElem? (i := 113) rfl)) rfl
  | 3, _ => exact mm_in (mm_m1 (List.mem_of_getElem? (i := 115) rfl)) rfl
  | k + 4, hk => exact absurd hk (by omega)
def mm_R9 : String := "GodWeathers"
def mm_F9 : u_T := fun k => match k with
  | 0 => ("GodWeathers", "told", "LGodWeathers$Told;", true)
  | 1 => ("GodWeathers", "images", "[LGodWeathers$Told;", true)
  | 2 => ("GodWeathers", "reader", "LGodWeathers$Reader;", true)
  | 3 => ("GodWeathers", "days", "LGodWeathers$Days;", true)
  | 4 => ("GodWeathers", "asking", "LGodWeathers$Asking;", true)
  | 5 => ("GodWeathers", "seating", "LGodWeathers$Boats;", true)
  | _ => ("GodWeathers", "sky", "LGodWeathers$Sky;", true)
def mm_t9 : Nat → FieldType := fun k => match k with
  | 0 => .object "GodWeathers$Told"
  | 1 => .array (.object "GodWeathers$Told")
  | 2 => .object "GodWeathers$Reader"
  | 3 => .object "GodWeathers$Days"
  | 4 => .object "GodWeathers$Asking"
  | 5 => .object "GodWeathers$Boats"
  | _ => .object "GodWeathers$Sky"
theorem mm_nm9 : ∀ a, a < 7 → ∀ b, b < 7 → a ≠ b → (mm_F9 a).2.1 ≠ (mm_F9 b).2.1 := by decide +kernel
theorem mm_tok9 : ∀ k, k < 7 → parseFieldDescriptor (mm_F9 k).2.2.1 = some (mm_t9 k) := by decide +kernel
theorem mm_ly9 : ∀ w ∈ u_ws mm_R9 mm_F9 7, w ∈ mm_ws := by
  intro w hw
  obtain ⟨k, hk, rfl⟩ := List.mem_map.mp hw
  have hk := List.mem_range.mp hk
  match k, hk with
  | 0, _ => exact mm_in (mm_m2 (List.mem_of_getElem? (i := 138) rfl)) rfl
  | 1, _ => exact mm_in (mm_m2 (List.mem_of_getElem? (i := 140) rfl)) rfl
  | 2, _ => exact mm_in (mm_m2 (List.mem_of_getElem? (i := 142) rfl)) rfl
  | 3, _ => exact mm_in (mm_m2 (List.mem_of_getElem? (i := 144) rfl)) rfl
  | 4, _ => exact mm_in (mm_m2 (List.mem_of_getElem? (i := 146) rfl)) rfl
  | 5, _ => exact mm_in (mm_m2 (List.mem_of_getElem? (i := 148) rfl)) rfl
  | 6, _ => exact mm_in (mm_m2 (List.mem_of_getElem? (i := 150) rfl)) rfl
  | k + 7, hk => exact absurd hk (by omega)
def mm_R10 : String := "GodWeathersModel"
def mm_F10 : u_T := fun k => match k with
  | 0 => ("GodWeathersModel", "code", "I", false)
  | 1 => ("GodWeathersModel", "tape", "[B", true)
  | 2 => ("GodWeathersModel", "size", "[I", true)
  | 3 => ("GodWeathersModel", "fault", "[I", true)
  | 4 => ("GodWeathersModel", "faultPlace", "[I", true)
  | 5 => ("GodWeathersModel", "many", "[I", true)
  | 6 => ("GodWeathersModel", "coasts", "[I", true)
  | 7 => ("GodWeathersModel", "years", "[I", true)
  | 8 => ("GodWeathersModel", "logs", "[I", true)
  | 9 => ("GodWeathersModel", "reached", "I", false)
  | 10 => ("GodWeathersModel", "length", "I", false)
  | 11 => ("GodWeathersModel", "begins", "I", false)
  | 12 => ("GodWeathersModel", "sort", "I", false)
  | 13 => ("GodWeathersModel", "value", "I", false)
  | 14 => ("GodWeathersModel", "word", "J", false)
  | 15 => ("GodWeathersModel", "wrongAt", "I", false)
  | 16 => ("GodWeathersModel", "laterFault", "I", false)
  | 17 => ("GodWeathersModel", "laterPlace", "I", false)
  | 18 => ("GodWeathersModel", "told", "[I", true)
  | 19 => ("GodWeathersModel", "read", "[I", true)
  | 20 => ("GodWeathersModel", "farOne", "I", false)
  | 21 => ("GodWeathersModel", "good", "Z", false)
  | 22 => ("GodWeathersModel", "coast", "I", false)
  | 23 => ("GodWeathersModel", "children", "I", false)
  | 24 => ("GodWeathersModel", "works", "I", false)
  | 25 => ("GodWeathersModel", "here", "I", false)
  | 26 => ("GodWeathersModel", "done", "I", false)
  | 27 => ("GodWeathersModel", "asked", "I", false)
  | 28 => ("GodWeathersModel", "barns", "I", false)
  | 29 => ("GodWeathersModel", "day", "I", false)
  | 30 => ("GodWeathersModel", "cross", "[I", true)
  | 31 => ("GodWeathersModel", "lapse", "[I", true)
  | 32 => ("GodWeathersModel", "asks", "[I", true)
  | 33 => ("GodWeathersModel", "year", "I", false)
  | 34 => ("GodWeathersModel", "calls", "[Z", true)
  | 35 => ("GodWeathersModel", "bestRow", "I", false)
  | 36 => ("GodWeathersModel", "chanceUp", "J", false)
  | 37 => ("GodWeathersModel", "chanceDown", "J", false)
  | 38 => ("GodWeathersModel", "seats", "[I", true)
  | 39 => ("GodWeathersModel", "ends", "[I", true)
  | 40 => ("GodWeathersModel", "which", "I", false)
  | 41 => ("GodWeathersModel", "log", "I", false)
  | 42 => ("GodWeathersModel", "fitting", "[I", true)
  | 43 => ("GodWeathersModel", "found", "I", false)
  | 44 => ("GodWeathersModel", "seed", "I", false)
  | 45 => ("GodWeathersModel", "pairing", "[I", true)
  | 46 => ("GodWeathersModel", "rungs", "[I", true)
  | 47 => ("GodWeathersModel", "ways", "[J", true)
  | 48 => ("GodWeathersModel", "daily", "[Z", true)
  | 49 => ("GodWeathersModel", "needed", "[I", true)
  | _ => ("GodWeathersModel", "saved", "[Z", true)
def mm_t10 : Nat → FieldType := fun k => match k with
  | 0 => .int
  | 1 => .array .byte
  | 2 => .array .int
  | 3 => .array .int
  | 4 => .array .int
  | 5 => .array .int
  | 6 => .array .int
  | 7 => .array .int
  | 8 => .array .int
  | 9 => .int
  | 10 => .int
  | 11 => .int
  | 12 => .int
  | 13 => .int
  | 14 => .long
  | 15 => .int
  | 16 => .int
  | 17 => .int
  | 18 => .array .int
  | 19 => .array .int
  | 20 => .int
  | 21 => .boolean
  | 22 => .int
  | 23 => .int
  | 24 => .int
  | 25 => .int
  | 26 => .int
  | 27 => .int
  | 28 => .int
  | 29 => .int
  | 30 => .array .int
  | 31 => .array .int
  | 32 => .array .int
  | 33 => .int
  | 34 => .array .boolean
  | 35 => .int
  | 36 => .long
  | 37 => .long
  | 38 => .array .int
  | 39 => .array .int
  | 40 => .int
  | 41 => .int
  | 42 => .array .int
  | 43 => .int
  | 44 => .int
  | 45 => .array .int
  | 46 => .array .int
  | 47 => .array .long
  | 48 => .array .boolean
  | 49 => .array .int
  | _ => .array .boolean
theorem mm_nm10 : ∀ a, a < 51 → ∀ b, b < 51 → a ≠ b → (mm_F10 a).2.1 ≠ (mm_F10 b).2.1 := by decide +kernel
theorem mm_tok10 : ∀ k, k < 51 → parseFieldDescriptor (mm_F10 k).2.2.1 = some (mm_t10 k) := by decide +kernel
theorem mm_ly10 : ∀ w ∈ u_ws mm_R10 mm_F10 51, w ∈ mm_ws := by
  intro w hw
  obtain ⟨k, hk, rfl⟩ := List.mem_map.mp hw
  have hk := List.mem_range.mp hk
  match k, hk with
  | 0, _ => exact mm_in (mm_m5 (List.mem_of_getElem? (i := 222) rfl)) rfl
  | 1, _ => exact mm_in (mm_m5 (List.mem_of_getElem? (i := 224) rfl)) rfl
  | 2, _ => exact mm_in (mm_m5 (List.mem_of_getElem? (i := 226) rfl)) rfl
  | 3, _ => exact mm_in (mm_m5 (List.mem_of_getElem? (i := 228) rfl)) rfl
  | 4, _ => exact mm_in (mm_m5 (List.mem_of_getElem? (i := 230) rfl)) rfl
  | 5, _ => exact mm_in (mm_m5 (List.mem_of_getElem? (i := 232) rfl)) rfl
  | 6, _ => exact mm_in (mm_m5 (List.mem_of_getElem? (i := 234) rfl)) rfl
  | 7, _ => exact mm_in (mm_m5 (List.mem_of_getElem? (i := 236) rfl)) rfl
  | 8, _ => exact mm_in (mm_m5 (List.mem_of_getElem? (i := 238) rfl)) rfl
  | 9, _ => exact mm_in (mm_m6 (List.mem_of_getElem? (i := 0) rfl)) rfl
  | 10, _ => exact mm_in (mm_m6 (List.mem_of_getElem? (i := 2) rfl)) rfl
  | 11, _ => exact mm_in (mm_m6 (List.mem_of_getElem? (i := 4) rfl)) rfl
  | 12, _ => exact mm_in (mm_m6 (List.mem_of_getElem? (i := 6) rfl)) rfl
  | 13, _ => exact mm_in (mm_m6 (List.mem_of_getElem? (i := 8) rfl)) rfl
  | 14, _ => exact mm_in (mm_m6 (List.mem_of_getElem? (i := 10) rfl)) rfl
  | 15, _ => exact mm_in (mm_m6 (List.mem_of_getElem? (i := 12) rfl)) rfl
  | 16, _ => exact mm_in (mm_m6 (List.mem_of_getElem? (i := 14) rfl)) rfl
  | 17, _ => exact mm_in (mm_m6 (List.mem_of_getElem? (i := 16) rfl)) rfl
  | 18, _ => exact mm_in (mm_m6 (List.mem_of_getElem? (i := 18) rfl)) rfl
  | 19, _ => exact mm_in (mm_m6 (List.mem_of_getElem? (i := 20) rfl)) rfl
  | 20, _ => exact mm_in (mm_m6 (List.mem_of_getElem? (i := 22) rfl)) rfl
  | 21, _ => exact mm_in (mm_m6 (List.mem_of_getElem? (i := 24) rfl)) rfl
  | 22, _ => exact mm_in (mm_m6 (List.mem_of_getElem? (i := 26) rfl)) rfl
  | 23, _ => exact mm_in (mm_m6 (List.mem_of_getElem? (i := 28) rfl)) rfl
  | 24, _ => exact mm_in (mm_m6 (List.mem_of_getElem? (i := 30) rfl)) rfl
  | 25, _ => exact mm_in (mm_m6 (List.mem_of_getElem? (i := 32) rfl)) rfl
  | 26, _ => exact mm_in (mm_m6 (List.mem_of_getElem? (i := 34) rfl)) rfl
  | 27, _ => exact mm_in (mm_m6 (List.mem_of_getElem? (i := 36) rfl)) rfl
  | 28, _ => exact mm_in (mm_m6 (List.mem_of_getElem? (i := 38) rfl)) rfl
  | 29, _ => exact mm_in (mm_m6 (List.mem_of_getElem? (i := 40) rfl)) rfl
  | 30, _ => exact mm_in (mm_m6 (List.mem_of_getElem? (i := 42) rfl)) rfl
  | 31, _ => exact mm_in (mm_m6 (List.mem_of_getElem? (i := 44) rfl)) rfl
  | 32, _ => exact mm_in (mm_m6 (List.mem_of_getElem? (i := 46) rfl)) rfl
  | 33, _ => exact mm_in (mm_m6 (List.mem_of_getElem? (i := 48) rfl)) rfl
  | 34, _ => exact mm_in (mm_m6 (List.mem_of_getElem? (i := 50) rfl)) rfl
  | 35, _ => exact mm_in (mm_m6 (List.mem_of_getElem? (i := 52) rfl)) rfl
  | 36, _ => exact mm_in (mm_m6 (List.mem_of_getElem? (i := 54) rfl)) rfl
  | 37, _ => exact mm_in (mm_m6 (List.mem_of_getElem? (i := 56) rfl)) rfl
  | 38, _ => exact mm_in (mm_m6 (List.mem_of_getElem? (i := 58) rfl)) rfl
  | 39, _ => exact mm_in (mm_m6 (List.mem_of_getElem? (i := 60) rfl)) rfl
  | 40, _ => exact mm_in (mm_m6 (List.mem_of_getElem? (i := 62) rfl)) rfl
  | 41, _ => exact mm_in (mm_m6 (List.mem_of_getElem? (i := 64) rfl)) rfl
  | 42, _ => exact mm_in (mm_m6 (List.mem_of_getElem? (i := 66) rfl)) rfl
  | 43, _ => exact mm_in (mm_m6 (List.mem_of_getElem? (i := 68) rfl)) rfl
  | 44, _ => exact mm_in (mm_m6 (List.mem_of_getElem? (i := 70) rfl)) rfl
  | 45, _ => exact mm_in (mm_m6 (List.mem_of_getElem? (i := 72) rfl)) rfl
  | 46, _ => exact mm_in (mm_m6 (List.mem_of_getElem? (i := 74) rfl)) rfl
  | 47, _ => exact mm_in (mm_m6 (List.mem_of_getElem? (i := 76) rfl)) rfl
  | 48, _ => exact mm_in (mm_m6 (List.mem_of_getElem? (i := 78) rfl)) rfl
  | 49, _ => exact mm_in (mm_m6 (List.mem_of_getElem? (i := 80) rfl)) rfl
  | 50, _ => exact mm_in (mm_m6 (List.mem_of_getElem? (i := 82) rfl)) rfl
  | k + 51, hk => exact absurd hk (by omega)
abbrev mm_cl : List vw_C := [(mm_R0, mm_F0, 9), (mm_R1, mm_F1, 5), (mm_R2, mm_F2, 8), (mm_R3, mm_F3, 14), (mm_R4, mm_F4, 3), (mm_R5, mm_F5, 15), (mm_R6, mm_F6, 6), (mm_R7, mm_F7, 8), (mm_R8, mm_F8, 4), (mm_R9, mm_F9, 7), (mm_R10, mm_F10, 51)]
def mm_nf : Nat → Nat
  | 0 => 9
  | 1 => 5
  | 2 => 8
  | 3 => 14
  | 4 => 3
  | 5 => 15
  | 6 => 6
  | 7 => 8
  | 8 => 4
  | 9 => 7
  | 10 => 51
  | _ => 0
def mm_F : Nat → u_T
  | 0 => mm_F0
  | 1 => mm_F1
  | 2 => mm_F2
  | 3 => mm_F3
  | 4 => mm_F4
  | 5 => mm_F5
  | 6 => mm_F6
  | 7 => mm_F7
  | 8 => mm_F8
  | 9 => mm_F9
  | _ => mm_F10
def mm_R : Nat → String
  | 0 => mm_R0
  | 1 => mm_R1
  | 2 => mm_R2
  | 3 => mm_R3
  | 4 => mm_R4
  | 5 => mm_R5
  | 6 => mm_R6
  | 7 => mm_R7
  | 8 => mm_R8
  | 9 => mm_R9
  | _ => mm_R10
def mm_ft : Nat → Nat → FieldType
  | 0 => mm_t0
  | 1 => mm_t1
  | 2 => mm_t2
  | 3 => mm_t3
  | 4 => mm_t4
  | 5 => mm_t5
  | 6 => mm_t6
  | 7 => mm_t7
  | 8 => mm_t8
  | 9 => mm_t9
  | _ => mm_t10
theorem mm_clq {c : Nat} (h : c < 11) : mm_cl[c]? = some (mm_R c, mm_F c, mm_nf c) := by
  match c, h with
  | 0, _ => rfl
  | 1, _ => rfl
  | 2, _ => rfl
  | 3, _ => rfl
  | 4, _ => rfl
  | 5, _ => rfl
  | 6, _ => rfl
  | 7, _ => rfl
  | 8, _ => rfl
  | 9, _ => rfl
  | 10, _ => rfl
  | c + 11, h => exact absurd h (by omega)
theorem mm_nm {c : Nat} (h : c < 11) : ∀ a, a < mm_nf c → ∀ b, b < mm_nf c → a ≠ b → (mm_F c a).2.1 ≠ (mm_F c b).2.1 := by
  match c, h with
  | 0, _ => exact mm_nm0
  | 1, _ => exact mm_nm1
  | 2, _ => exact mm_nm2
  | 3, _ => exact mm_nm3
  | 4, _ => exact mm_nm4
  | 5, _ => exact mm_nm5
  | 6, _ => exact mm_nm6
  | 7, _ => exact mm_nm7
  | 8, _ => exact mm_nm8
  | 9, _ => exact mm_nm9
  | 10, _ => exact mm_nm10
  | c + 11, h => exact absurd h (by omega)
theorem mm_tok {c : Nat} (h : c < 11) : ∀ k, k < mm_nf c → parseFieldDescriptor (mm_F c k).2.2.1 = some (mm_ft c k) := by
  match c, h with
  | 0, _ => exact mm_tok0
  | 1, _ => exact mm_tok1
  | 2, _ => exact mm_tok2
  | 3, _ => exact mm_tok3
  | 4, _ => exact mm_tok4
  | 5, _ => exact mm_tok5
  | 6, _ => exact mm_tok6
  | 7, _ => exact mm_tok7
  | 8, _ => exact mm_tok8
  | 9, _ => exact mm_tok9
  | 10, _ => exact mm_tok10
  | c + 11, h => exact absurd h (by omega)
theorem mm_ly {c : Nat} (h : c < 11) : ∀ w ∈ u_ws (mm_R c) (mm_F c) (mm_nf c), w ∈ mm_ws := by
  match c, h with
  | 0, _ => exact mm_ly0
  | 1, _ => exact mm_ly1
  | 2, _ => exact mm_ly2
  | 3, _ => exact mm_ly3
  | 4, _ => exact mm_ly4
  | 5, _ => exact mm_ly5
  | 6, _ => exact mm_ly6
  | 7, _ => exact mm_ly7
  | 8, _ => exact mm_ly8
  | 9, _ => exact mm_ly9
  | 10, _ => exact mm_ly10
  | c + 11, h => exact absurd h (by omega)
