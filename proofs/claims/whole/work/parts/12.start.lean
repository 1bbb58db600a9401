/-! the claim out of the law's walk -/
def mm_0 : mm_M := (0, fun _ => (0, 0), fun _ _ => 0, fun _ _ => 0, fun _ _ => none)
theorem mm_W0 (G : mm_G) : mm_W G mm_0 = [] := rfl
def R_law : String := "GodWeathersLaw"
theorem mm_arr0 {s : State} {args : Array Value} {ty : FieldType} (h : (Cond.arrayClass ty).before args s = true) (hty : ∀ C, ty ≠ .object C) : ∃ cA : ClassId, ArrOfT s cA ty ∧ va_RA s cA ty := by
  obtain ⟨c, k, comp, h1, h2, h3⟩ := Cond.arrayClass_spec h
  refine ⟨c, fun N z => ⟨(fun k h => by cases h), k, h2, comp, h3⟩, ?_⟩
  cases ty <;> first | exact h1 | exact absurd rfl (hty _)
theorem mm_arr1 {s : State} {C : String} (h : va_AO C s) : ∃ cA : ClassId, ArrOfT s cA (.object C) ∧ va_RA s cA (.object C) := by
  obtain ⟨comp, c, k, h1, h2, h3, h4, h5⟩ := Cond.arrayOver_spec h
  exact ⟨c, fun N z => ⟨(fun k h => by cases h), k, h3, comp, h4⟩, k, comp, h3, h4, h1, h5⟩
theorem mm_inst {c : Nat} (h : c < 11) : Cond.instantiable (mm_R c) (mm_nf c) ∈ lw_tbl := by
  match c, h with
  | 0, _ => exact mm_m2 (List.mem_of_getElem? (i := 46) rfl)
  | 1, _ => exact mm_m2 (List.mem_of_getElem? (i := 82) rfl)
  | 2, _ => exact mm_m1 (List.mem_of_getElem? (i := 37) rfl)
  | 3, _ => exact mm_m1 (List.mem_of_getElem? (i := 232) rfl)
  | 4, _ => exact mm_m1 (List.mem_of_getElem? (i := 120) rfl)
  | 5, _ => exact mm_m1 (List.mem_of_getElem? (i := 169) rfl)
  | 6, _ => exact mm_m2 (List.mem_of_getElem? (i := 105) rfl)
  | 7, _ => exact mm_m1 (List.mem_of_getElem? (i := 30) rfl)
  | 8, _ => exact mm_m1 (List.mem_of_getElem? (i := 94) rfl)
  | 9, _ => exact mm_m1 (List.mem_of_getElem? (i := 22) rfl)
  | 10, _ => exact mm_m5 (List.mem_of_getElem? (i := 166) rfl)
  | c + 11, h => exact absurd h (by omega)
theorem mm_down {w : Cond} (h : w ∈ mm_ws) : w ∈ lw_tbl := (List.mem_filter.mp h).1
theorem mm_start0 {s : State} {b : Nat} (hts : ∀ w ∈ lw_tbl, w.before #[Value.ref b] s = true) : ∃ (D : va_G) (aC : Nat → ClassId), va_K D mm_cl (mm_tys aC) s := by
  have h1 : ∀ c : Nat, ∃ q : ClassId × (Nat → Nat), c < 11 → u_Kn s (mm_R c) (mm_F c) (mm_nf c) q.1 q.2 := by
    intro c
    by_cases hc : c < 11
    · obtain ⟨cC, iS, hk⟩ := u_known (C := mm_R c) (T := mm_F c) (N := mm_nf c) (n := mm_nf c) hts (fun w hw => mm_down (mm_ly hc w hw)) (hts _ (mm_inst hc))
      exact ⟨(cC, iS), fun _ => hk⟩
    · exact ⟨((default : ClassId), fun _ => 0), fun h => absurd h hc⟩
  have h2 : ∀ t : Nat, ∃ cA : ClassId, t < 8 → ArrOfT s cA (mm_ty t) ∧ va_RA s cA (mm_ty t) := by
    intro t
    match t with
    | 0 => obtain ⟨cA, h⟩ := mm_arr0 (hts (Cond.arrayClass .int) (mm_m1 (List.mem_of_getElem? (i := 91) rfl))) (fun C h => by cases h); exact ⟨cA, fun _ => h⟩
    | 1 => obtain ⟨cA, h⟩ := mm_arr0 (hts (Cond.arrayClass .byte) (mm_m1 (List.mem_of_getElem? (i := 90) rfl))) (fun C h => by cases h); exact ⟨cA, fun _ => h⟩
    | 2 => obtain ⟨cA, h⟩ := mm_arr0 (hts (Cond.arrayClass .boolean) (mm_m6 (List.mem_of_getElem? (i := 85) rfl))) (fun C h => by cases h); exact ⟨cA, fun _ => h⟩
    | 3 => obtain ⟨cA, h⟩ := mm_arr0 (hts (Cond.arrayClass .long) (mm_m2 (List.mem_of_getElem? (i := 130) rfl))) (fun C h => by cases h); exact ⟨cA, fun _ => h⟩
    | 4 => obtain ⟨cA, h⟩ := mm_arr1 (va_AO.of (hts (Cond.arrayOver (.object "GodWeathers$Coast")) (mm_m1 (List.mem_of_getElem? (i := 36) rfl)))); exact ⟨cA, fun _ => h⟩
    | 5 => obtain ⟨cA, h⟩ := mm_arr1 (va_AO.of (hts (Cond.arrayOver (.object "GodWeathers$Year")) (mm_m1 (List.mem_of_getElem? (i := 93) rfl)))); exact ⟨cA, fun _ => h⟩
    | 6 => obtain ⟨cA, h⟩ := mm_arr1 (va_AO.of (hts (Cond.arrayOver (.object "GodWeathers$Log")) (mm_m1 (List.mem_of_getElem? (i := 119) rfl)))); exact ⟨cA, fun _ => h⟩
    | 7 => obtain ⟨cA, h⟩ := mm_arr1 (va_AO.of (hts (Cond.arrayOver (.object "GodWeathers$Told")) (mm_m1 (List.mem_of_getElem? (i := 167) rfl)))); exact ⟨cA, fun _ => h⟩
    | t + 8 => exact ⟨default, fun h => absurd h (by omega)⟩
  refine ⟨(fun c => (Classical.choose (h1 c)).1, fun c => (Classical.choose (h1 c)).2), fun t => Classical.choose (h2 t), fun c q hq => ?_, fun k q hq => ?_⟩
  · have hc : c < 11 := by
      have := (List.getElem?_eq_some_iff.mp hq).1
      simpa using this
    rw [mm_clq hc] at hq
    cases hq
    exact Classical.choose_spec (h1 c) hc
  · have hk : k < 8 := by
      have := (List.getElem?_eq_some_iff.mp hq).1
      simpa [mm_tys] using this
    rw [mm_tyq _ hk] at hq
    cases hq
    exact Classical.choose_spec (h2 k) hk
theorem mm_start1 {s : State} {b : Nat} (hts : ∀ w ∈ lw_tbl, w.before #[Value.ref b] s = true) : mm_N s := by
  refine ⟨fun w hw => ?_, fun C hC => ?_⟩
  · obtain ⟨h1, h2⟩ := List.mem_filter.mp hw
    exact va_Nw.of (by cases w <;> first | (simp [mm_isN] at h2; done) | rfl) (hts w h1)
  · rcases List.mem_cons.mp hC with rfl | hC
    · exact va_AO.of (hts (Cond.arrayOver (.object "GodWeathers$Coast")) (mm_m1 (List.mem_of_getElem? (i := 36) rfl)))
    rcases List.mem_cons.mp hC with rfl | hC
    · exact va_AO.of (hts (Cond.arrayOver (.object "GodWeathers$Year")) (mm_m1 (List.mem_of_getElem? (i := 93) rfl)))
    rcases List.mem_cons.mp hC with rfl | hC
    · exact va_AO.of (hts (Cond.arrayOver (.object "GodWeathers$Log")) (mm_m1 (List.mem_of_getElem? (i := 119) rfl)))
    rcases List.mem_cons.mp hC with rfl | hC
    · exact va_AO.of (hts (Cond.arrayOver (.object "GodWeathers$Told")) (mm_m1 (List.mem_of_getElem? (i := 167) rfl)))
    cases hC
