def mm_tm (i : Nat) : Term := .string "GodWeathers$Reader" (mm_sx i)
abbrev mm_fl : List Cond := flatC (Jvm.Cond.and given_1 narrow_1)
theorem mm_g1 : ∀ i, i < 13 → Cond.exactly (mm_tm i) "java/lang/String" ∈ mm_fl := by decide +kernel
theorem mm_g2 : ∀ i, i < 13 → Cond.eq (.field (mm_tm i) "java/lang/String" "coder" "B") (.int 0) ∈ mm_fl := by decide +kernel
theorem mm_g3 : ∀ i, i < 13 → Cond.arrayOf (.field (mm_tm i) "java/lang/String" "value" "[B") .byte ∈ mm_fl := by decide +kernel
theorem mm_g4 : ∀ i, i < 13 → Cond.eq (.length (.field (mm_tm i) "java/lang/String" "value" "[B")) (.int (Int32.ofNat (mm_sl.getD i 0))) ∈ mm_fl := by decide +kernel
theorem mm_g5 : ∀ i, i < 13 → ∀ j, j < mm_sl.getD i 0 → Cond.eq (.elem (.field (mm_tm i) "java/lang/String" "value" "[B") (.int (Int32.ofNat j))) (.int ((mm_sb.getD i []).getD j 0)) ∈ mm_fl := by decide +kernel
theorem mm_g6a : ∀ i, i < 13 → ∀ j, j < i → (Cond.not (Cond.eq (mm_tm i) (mm_tm j))) ∈ mm_fl ∨ (Cond.not (Cond.eq (mm_tm j) (mm_tm i))) ∈ mm_fl := by
  intro i hi j hj
  match i, j, hi, hj with
  | 1, 0, _, _ => exact Or.inr (List.mem_of_getElem? (i := 131) (by decide +kernel))
  | 2, 0, _, _ => exact Or.inr (List.mem_of_getElem? (i := 142) (by decide +kernel))
  | 2, 1, _, _ => exact Or.inr (List.mem_of_getElem? (i := 143) (by decide +kernel))
  | 3, 0, _, _ => exact Or.inr (List.mem_of_getElem? (i := 153) (by decide +kernel))
  | 3, 1, _, _ => exact Or.inr (List.mem_of_getElem? (i := 154) (by decide +kernel))
  | 3, 2, _, _ => exact Or.inr (List.mem_of_getElem? (i := 155) (by decide +kernel))
  | 4, 0, _, _ => exact Or.inr (List.mem_of_getElem? (i := 168) (by decide +kernel))
  | 4, 1, _, _ => exact Or.inr (List.mem_of_getElem? (i := 169) (by decide +kernel))
  | 4, 2, _, _ => exact Or.inr (List.mem_of_getElem? (i := 170) (by decide +kernel))
  | 4, 3, _, _ => exact Or.inr (List.mem_of_getElem? (i := 171) (by decide +kernel))
  | 5, 0, _, _ => exact Or.inr (List.mem_of_getElem? (i := 180) (by decide +kernel))
  | 5, 1, _, _ => exact Or.inr (List.mem_of_getElem? (i := 181) (by decide +kernel))
  | 5, 2, _, _ => exact Or.inr (List.mem_of_getElem? (i := 182) (by decide +kernel))
  | 5, 3, _, _ => exact Or.inr (List.mem_of_getElem? (i := 183) (by decide +kernel))
  | 5, 4, _, _ => exact Or.inr (List.mem_of_getElem? (i := 184) (by decide +kernel))
  | 6, 0, _, _ => exact Or.inr (List.mem_of_getElem? (i := 192) (by decide +kernel))
  | 6, 1, _, _ => exact Or.inr (List.mem_of_getElem? (i := 193) (by decide +kernel))
  | 6, 2, _, _ => exact Or.inr (List.mem_of_getElem? (i := 194) (by decide +kernel))
  | 6, 3, _, _ => exact Or.inr (List.mem_of_getElem? (i := 195) (by decide +kernel))
  | 6, 4, _, _ => exact Or.inr (List.mem_of_getElem? (i := 196) (by decide +kernel))
  | 6, 5, _, _ => exact Or.inr (List.mem_of_getElem? (i := 197) (by decide +kernel))
  | 7, 0, _, _ => exact Or.inr (List.mem_of_getElem? (i := 207) (by decide +kernel))
  | 7, 1, _, _ => exact Or.inr (List.mem_of_getElem? (i := 208) (by decide +kernel))
  | 7, 2, _, _ => exact Or.inr (List.mem_of_getElem? (i := 209) (by decide +kernel))
  | 7, 3, _, _ => exact Or.inr (List.mem_of_getElem? (i := 210) (by decide +kernel))
  | 7, 4, _, _ => exact Or.inr (List.mem_of_getElem? (i := 211) (by decide +kernel))
  | 7, 5, _, _ => exact Or.inr (List.mem_of_getElem? (i := 212) (by decide +kernel))
  | 7, 6, _, _ => exact Or.inr (List.mem_of_getElem? (i := 213) (by decide +kernel))
  | 8, 0, _, _ => exact Or.inr (List.mem_of_getElem? (i := 222) (by decide +kernel))
  | 8, 1, _, _ => exact Or.inr (List.mem_of_getElem? (i := 223) (by decide +kernel))
  | 8, 2, _, _ => exact Or.inr (List.mem_of_getElem? (i := 224) (by decide +kernel))
  | 8, 3, _, _ => exact Or.inr (List.mem_of_getElem? (i := 225) (by decide +kernel))
  | 8, 4, _, _ => exact Or.inr (List.mem_of_getElem? (i := 226) (by decide +kernel))
  | 8, 5, _, _ => exact Or.inr (List.mem_of_getElem? (i := 227) (by decide +kernel))
  | 8, 6, _, _ => exact Or.inr (List.mem_of_getElem? (i := 228) (by decide +kernel))
  | 8, 7, _, _ => exact Or.inr (List.mem_of_getElem? (i := 229) (by decide +kernel))
  | 9, 0, _, _ => exact Or.inr (List.mem_of_getElem? (i := 236) (by decide +kernel))
  | 9, 1, _, _ => exact Or.inr (List.mem_of_getElem? (i := 237) (by decide +kernel))
  | 9, 2, _, _ => exact Or.inr (List.mem_of_getElem? (i := 238) (by decide +kernel))
  | 9, 3, _, _ => exact Or.inr (List.mem_of_getElem? (i := 239) (by decide +kernel))
  | 9, 4, _, _ => exact Or.inr (List.mem_of_getElem? (i := 240) (by decide +kernel))
  | 9, 5, _, _ => exact Or.inr (List.mem_of_getElem? (i := 241) (by decide +kernel))
  | 9, 6, _, _ => exact Or.inr (List.mem_of_getElem? (i := 242) (by decide +kernel))
  | 9, 7, _, _ => exact Or.inr (List.mem_of_getElem? (i := 243) (by decide +kernel))
  | 9, 8, _, _ => exact Or.inr (List.mem_of_getElem? (i := 244) (by decide +kernel))
  | 10, 0, _, _ => exact Or.inr (List.mem_of_getElem? (i := 252) (by decide +kernel))
  | 10, 1, _, _ => exact Or.inr (List.mem_of_getElem? (i := 253) (by decide +kernel))
  | 10, 2, _, _ => exact Or.inr (List.mem_of_getElem? (i := 254) (by decide +kernel))
  | 10, 3, _, _ => exact Or.inr (List.mem_of_getElem? (i := 255) (by decide +kernel))
  | 10, 4, _, _ => exact Or.inr (List.mem_of_getElem? (i := 256) (by decide +kernel))
  | 10, 5, _, _ => exact Or.inr (List.mem_of_getElem? (i := 257) (by decide +kernel))
  | 10, 6, _, _ => exact Or.inr (List.mem_of_getElem? (i := 258) (by decide +kernel))
  | 10, 7, _, _ => exact Or.inr (List.mem_of_getElem? (i := 259) (by decide +kernel))
  | 10, 8, _, _ => exact Or.inr (List.mem_of_getElem? (i := 260) (by decide +kernel))
  | 10, 9, _, _ => exact Or.inr (List.mem_of_getElem? (i := 261) (by decide +kernel))
  | 11, 0, _, _ => exact Or.inr (List.mem_of_getElem? (i := 271) (by decide +kernel))
  | 11, 1, _, _ => exact Or.inr (List.mem_of_getElem? (i := 272) (by decide +kernel))
  | 11, 2, _, _ => exact Or.inr (List.mem_of_getElem? (i := 273) (by decide +kernel))
  | 11, 3, _, _ => exact Or.inr (List.mem_of_getElem? (i := 274) (by decide +kernel))
  | 11, 4, _, _ => exact Or.inr (List.mem_of_getElem? (i := 275) (by decide +kernel))
  | 11, 5, _, _ => exact Or.inr (List.mem_of_getElem? (i := 276) (by decide +kernel))
  | 11, 6, _, _ => exact Or.inr (List.mem_of_getElem? (i := 277) (by decide +kernel))
  | 11, 7, _, _ => exact Or.inr (List.mem_of_getElem? (i := 278) (by decide +kernel))
  | 11, 8, _, _ => exact Or.inr (List.mem_of_getElem? (i := 279) (by decide +kernel))
  | 11, 9, _, _ => exact Or.inr (List.mem_of_getElem? (i := 280) (by decide +kernel))
  | 11, 10, _, _ => exact Or.inr (List.mem_of_getElem? (i := 281) (by decide +kernel))
  | 12, 0, _, _ => exact Or.inr (List.mem_of_getElem? (i := 290) (by decide +kernel))
  | 12, 1, _, _ => exact Or.inr (List.mem_of_getElem? (i := 291) (by decide +kernel))
  | 12, 2, _, _ => exact Or.inr (List.mem_of_getElem? (i := 292) (by decide +kernel))
  | 12, 3, _, _ => exact Or.inr (List.mem_of_getElem? (i := 293) (by decide +kernel))
  | 12, 4, _, _ => exact Or.inr (List.mem_of_getElem? (i := 294) (by decide +kernel))
  | 12, 5, _, _ => exact Or.inr (List.mem_of_getElem? (i := 295) (by decide +kernel))
  | 12, 6, _, _ => exact Or.inr (List.mem_of_getElem? (i := 296) (by decide +kernel))
  | 12, 7, _, _ => exact Or.inr (List.mem_of_getElem? (i := 297) (by decide +kernel))
  | 12, 8, _, _ => exact Or.inr (List.mem_of_getElem? (i := 298) (by decide +kernel))
  | 12, 9, _, _ => exact Or.inr (List.mem_of_getElem? (i := 299) (by decide +kernel))
  | 12, 10, _, _ => exact Or.inr (List.mem_of_getElem? (i := 300) (by decide +kernel))
  | 12, 11, _, _ => exact Or.inr (List.mem_of_getElem? (i := 301) (by decide +kernel))
  | 0, j + 0, _, hj => exact absurd hj (by omega)
  | 1, j + 1, _, hj => exact absurd hj (by omega)
  | 2, j + 2, _, hj => exact absurd hj (by omega)
  | 3, j + 3, _, hj => exact absurd hj (by omega)
  | 4, j + 4, _, hj => exact absurd hj (by omega)
  | 5, j + 5, _, hj => exact absurd hj (by omega)
  | 6, j + 6, _, hj => exact absurd hj (by omega)
  | 7, j + 7, _, hj => exact absurd hj (by omega)
  | 8, j + 8, _, hj => exact absurd hj (by omega)
  | 9, j + 9, _, hj => exact absurd hj (by omega)
  | 10, j + 10, _, hj => exact absurd hj (by omega)
  | 11, j + 11, _, hj => exact absurd hj (by omega)
  | 12, j + 12, _, hj => exact absurd hj (by omega)
  | i + 13, _, hi, _ => exact absurd hi (by omega)
theorem mm_g6 : ∀ i, i < 13 → ∀ j, j < 13 → i ≠ j → (Cond.not (Cond.eq (mm_tm i) (mm_tm j))) ∈ mm_fl ∨ (Cond.not (Cond.eq (mm_tm j) (mm_tm i))) ∈ mm_fl := fun i hi j hj hij => (Nat.lt_or_gt_of_ne hij).elim (fun h => (mm_g6a j hj i h).symm) (fun h => mm_g6a i hi j h)
theorem mm_g7 : ∀ i, i < 13 → mm_sl.getD i 0 < 2 ^ 31 := by decide +kernel
abbrev mm_sN : Term := .static "GodWeathers$Reader" "NUMBERS_OF" "[I"
abbrev mm_sH : Term := .static "GodWeathers$Reader" "HIGHEST" "[I"
theorem mm_g8 : Cond.arrayOf mm_sN .int ∈ mm_fl ∧ Cond.eq (.length mm_sN) (.int (Int32.ofNat 13)) ∈ mm_fl ∧ ∀ j, j < 13 → Cond.eq (.elem mm_sN (.int (Int32.ofNat j))) (.int (mm_num.getD j 0)) ∈ mm_fl := by decide +kernel
theorem mm_g9 : Cond.arrayOf mm_sH .int ∈ mm_fl ∧ Cond.eq (.length mm_sH) (.int (Int32.ofNat 39)) ∈ mm_fl ∧ ∀ j, j < 39 → Cond.eq (.elem mm_sH (.int (Int32.ofNat j))) (.int (mm_hig.getD j 0)) ∈ mm_fl := by decide +kernel
theorem mm_g10 : Cond.eq (.static "java/lang/String" "COMPACT_STRINGS" "Z") (.int 1) ∈ mm_fl ∧ Cond.isRef (.static "jdk/internal/util/Preconditions" "SIOOBE_FORMATTER" "Ljava/util/function/BiFunction;") ∈ mm_fl := by decide +kernel
theorem mm_g11 : ∀ k, k < 13 → Cond.stringRef "GodWeathers$Reader" (mm_sx k) (mm_tx k) ∈ lw_tbl := by
  intro k hk
  match k, hk with
  | 0, _ => exact mm_m2 (List.mem_of_getElem? (i := 222) rfl)
  | 1, _ => exact mm_m3 (List.mem_of_getElem? (i := 35) rfl)
  | 2, _ => exact mm_m3 (List.mem_of_getElem? (i := 36) rfl)
  | 3, _ => exact mm_m3 (List.mem_of_getElem? (i := 37) rfl)
  | 4, _ => exact mm_m3 (List.mem_of_getElem? (i := 38) rfl)
  | 5, _ => exact mm_m3 (List.mem_of_getElem? (i := 39) rfl)
  | 6, _ => exact mm_m3 (List.mem_of_getElem? (i := 44) rfl)
  | 7, _ => exact mm_m3 (List.mem_of_getElem? (i := 45) rfl)
  | 8, _ => exact mm_m3 (List.mem_of_getElem? (i := 46) rfl)
  | 9, _ => exact mm_m3 (List.mem_of_getElem? (i := 47) rfl)
  | 10, _ => exact mm_m3 (List.mem_of_getElem? (i := 48) rfl)
  | 11, _ => exact mm_m3 (List.mem_of_getElem? (i := 53) rfl)
  | 12, _ => exact mm_m3 (List.mem_of_getElem? (i := 54) rfl)
  | k + 13, hk => exact absurd hk (by omega)
theorem mm_start2 {s : State} {b : Nat} {X : mm_X} {A : Nat → Prop} (hts : ∀ w ∈ lw_tbl, w.before #[Value.ref b] s = true) (hgv : (Jvm.Cond.and given_1 narrow_1).before #[Value.ref b] s = true) (hX : va_X b X.1 X.2 s s.heap) (hA : ∀ a : Nat, a < s.heap.size → ¬ A a) :
    ∃ β : Nat → Nat, (∀ a, a < 1000000 → β a = s.heap.size + a) ∧ β 2000000 = b ∧ ∀ (D : va_G) (aC : Nat → ClassId) (B : Nat), mm_Z X (D, aC, B, β) A s := by
  have hs := flat_of_before _ hgv
  obtain ⟨adK, adV, hSt, hev⟩ := vk_Sof (N := 13) (tm := mm_tm) (len := mm_sl) (byt := mm_sb) (A := A) mm_g7 (fun i hi => hs _ (mm_g1 i hi)) (fun i hi => hs _ (mm_g2 i hi)) (fun i hi => hs _ (mm_g3 i hi)) (fun i hi => hs _ (mm_g4 i hi)) (fun i hi j hj => hs _ (mm_g5 i hi j hj)) (fun i j hi hj hij => (mm_g6 i hi j hj hij).imp (hs _) (hs _)) hA
  obtain ⟨t1, ht1, hT1⟩ := va_Tof (tm := mm_sN) (ty := .int) (N := 13) (f := fun j => .int (mm_num.getD j 0)) (A := A) (by decide) (hs _ mm_g8.1) (va_eqt (hs _ mm_g8.2.1)) (fun j hj => va_eqt (hs _ (mm_g8.2.2 j hj))) hA
  obtain ⟨t2, ht2, hT2⟩ := va_Tof (tm := mm_sH) (ty := .int) (N := 39) (f := fun j => .int (mm_hig.getD j 0)) (A := A) (by decide) (hs _ mm_g9.1) (va_eqt (hs _ mm_g9.2.1)) (fun j hj => va_eqt (hs _ (mm_g9.2.2 j hj))) hA
  obtain ⟨scr, x1, x2, x3, x4, x5⟩ := hX
  have hbl : b < s.heap.size := (Array.getElem?_eq_some_iff.mp x1).1
  refine ⟨fun a => if a < 1000000 then s.heap.size + a else if a < 1000100 then adK (a - 1000000) else if a < 2000000 then adV (a - 1000100) else if a = 2000000 then b else if a = 2000001 then t1 else t2, fun a ha => if_pos ha, rfl, fun D aC B => ?_⟩
  have ek : ∀ k, k < 13 → (if 1000000 + k < 1000000 then s.heap.size + (1000000 + k) else if 1000000 + k < 1000100 then adK (1000000 + k - 1000000) else if 1000000 + k < 2000000 then adV (1000000 + k - 1000100) else if 1000000 + k = 2000000 then b else if 1000000 + k = 2000001 then t1 else t2) = adK k := by
    intro k hk
    rw [if_neg (by omega), if_pos (by omega), Nat.add_sub_cancel_left]
  have ev : ∀ k, k < 13 → (if 1000100 + k < 1000000 then s.heap.size + (1000100 + k) else if 1000100 + k < 1000100 then adK (1000100 + k - 1000000) else if 1000100 + k < 2000000 then adV (1000100 + k - 1000100) else if 1000100 + k = 2000000 then b else if 1000100 + k = 2000001 then t1 else t2) = adV k := by
    intro k hk
    rw [if_neg (by omega), if_neg (by omega), if_pos (by omega), Nat.add_sub_cancel_left]
  refine ⟨⟨scr, x1, x2, x3, Nat.le_of_eq x4.symm, congrArg Int32.ofNat x4, x5, hA b hbl⟩, hT1, hT2, ?_, ?_, ?_, ?_, ?_, ?_⟩
  · exact va_Zref (hts _ (mm_m3 (List.mem_of_getElem? (i := 60) rfl))) (hts _ (mm_m1 (List.mem_of_getElem? (i := 6) rfl))) ht1 hA
  · exact va_Zref (hts _ (mm_m3 (List.mem_of_getElem? (i := 78) rfl))) (hts _ (mm_m1 (List.mem_of_getElem? (i := 6) rfl))) ht2 hA
  · exact va_Zof (hts _ (mm_m2 (List.mem_of_getElem? (i := 236) rfl))) (hts _ (mm_m1 (List.mem_of_getElem? (i := 14) rfl))) (va_eqt (hs _ mm_g10.1)) hA
  · exact va_Zqof (hts _ (mm_m3 (List.mem_of_getElem? (i := 12) rfl))) (hts _ (mm_m1 (List.mem_of_getElem? (i := 16) rfl))) (hs _ mm_g10.2) hA
  · refine ⟨fun i hi => ?_, fun i j hi hj e => ?_⟩
    · have h := hSt.1 i hi
      rw [← ek i hi, ← ev i hi] at h
      exact h
    · refine hSt.2 i j hi hj ?_
      rw [← ek i hi, ← ek j hj]
      exact e
  · intro k hk
    refine vk_R.of (A := #[Value.ref b]) (hts _ (mm_g11 k hk)) ?_
    have h := hev k hk
    rw [← ek k hk] at h
    exact h
def lw_P (b : Addr) (xs : List Int32) (args : Array Value) (s : State) : Prop := args = #[.ref b] ∧ s.IntsAt b xs ∧ xs.length ≤ 3072 ∧ (Jvm.Cond.and given_1 narrow_1).before args s = true
def lw_Q (_ : Array Value) (s : State) (o : Outcome) (t : State) : Prop := o = .returned (some (.int 1)) ∧ Framed s o t [] 600000 7302250
def lw_Z (below : List Frame) (a : Array Value) (s : State) : State → Prop := fun t => ∃ o, t.status = .running ∧ Ended t below o ∧ lw_Q a s o t
/-- the law's own end, with 1 on the stack, nothing written that was there before, its room as the claim has it -/
theorem lw_ret {p : Program} {l : Launch} {e : Env} {s : State} {m : MethodId} {below : List Frame} {meth : Method} {c : Code} {b : Nat} (hx : p.tables.exec = Jvm.exec) (hb : c.code = code) (hr : meth.sig.returnType = ret) (hlocks : meth.locks = false) {pc : Nat} {H : Heap} {ls : Array Slot} (hdg : decode code pc = .ok (.ireturn, 1)) : W p l e room_1 s m #[Value.ref b] below meth c H [] 600000 7302250 (lw_Z below #[Value.ref b] s) (F0 m pc ls [.int 1]) := by
  intro T hT X
  obtain ⟨fs, hret, hrun, hended, hW, hframe⟩ := X.leave (v := some (.int 1)) (hlocks := hlocks) (fun h => by rw [hr] at h; cases h)
  have hmeth' : T.vm.method? m = some meth := X.method'
  refine ⟨T.setFrames fs, ?_, .returned (some (.int 1)), hrun, hended, rfl, ⟨_, rfl⟩, hW, hframe⟩
  jvm_step X.here [X.here.top, hx, hb, hdg, hmeth', hr, ret, narrow_b1]
  (try refine ⟨rfl, ?_⟩); (try refine ⟨rfl, ?_⟩)
  first | (intro acts; rw [hret _ acts rfl rfl rfl]) | rw [hret _ _ rfl rfl rfl]
  exact Steps.refl _
/-- what holds at the law's entry: the machine, the code, the tables' words (any of lw_tbl by 'hts w (by decide +kernel)'), the script of L ints xs at the cell b, what the Statement gives of the start (any of its parts by flat_of_before) -/
def lw_At (p : Program) (s : State) (m : MethodId) (meth : Method) (c : Code) (b L : Nat) (xs : Nat → Int32) : Prop :=
  p.tables.exec = Jvm.exec ∧ c.code = code ∧ meth.sig.returnType = ret ∧ c.maxLocals = 4 ∧ s.vm.findClass R_law = some m.cls ∧ (∀ w ∈ lw_tbl, w.before #[Value.ref b] s = true) ∧ va_X b L xs s s.heap ∧ b < s.heap.size ∧ meth.locks = false ∧ (Jvm.Cond.and given_1 narrow_1).before #[Value.ref b] s = true
theorem mm_startW {p : Program} {e : Env} {s : State} {m : MethodId} {below : List Frame} {meth : Method} {c : Code} (l : Launch) {b L : Nat} {xs : Nat → Int32} (C0 : lw_At p s m meth c b L xs)
    (hT : mm_C (L, xs) 40 600000 7302250 (x, code, 4, ret) [.ref 2000000] mm_0 (fun v _ => v = some (.int 1))) : W p l e room_1 s m #[Value.ref b] below meth c s.heap [] 0 0 (lw_Z below #[Value.ref b] s) (entryFrame m ([Value.ref b] : List Value).toArray 4) := by
  obtain ⟨hx, hb, hr, hml, hown, hts, hX, hbl, hlocks, hgv⟩ := C0
  obtain ⟨D, aC, hK⟩ := mm_start0 hts
  obtain ⟨β, hβ, hβb, hZ⟩ := mm_start2 (X := (L, xs)) (A := fun q : Nat => s.heap.size ≤ q) hts hgv hX (fun a ha => Nat.not_le.mpr ha)
  have hWo : mm_Wo (L, xs) (D, aC, s.heap.size, β) (fun q : Nat => s.heap.size ≤ q) s := ⟨hK, mm_start1 hts, hZ D aC s.heap.size, fun _ h => h, hβ⟩
  have hl := mm_Lo.entry (β := β) [.ref 2000000] (n := 4) (Nat.le_of_ble_eq_true rfl)
  rw [lg_entry_eq]
  have e0 : ([.ref 2000000] : List Value).map (mm_v β) = [Value.ref b] := by
    show [Value.ref (β 2000000)] = _
    rw [hβb]
  rw [e0] at hl
  have k := hT p l e room_1 s m #[Value.ref b] below meth c (D, aC, s.heap.size, β) (fun q : Nat => s.heap.size ≤ q) s.heap [] 0 0 600000 7302250 _
    ⟨hx, hb, hml, hr, hlocks, fun h => by have : x.name = "law" := rfl; rw [this] at h; exact absurd h (by decide), hown, fun w hw => hts w (mm_down hw)⟩ hWo
    ⟨Nat.le_of_ble_eq_true rfl, Nat.le_of_ble_eq_true rfl, Nat.le_of_ble_eq_true rfl, Nat.le_of_ble_eq_true rfl⟩ (Nat.le_of_ble_eq_true rfl) (Nat.le_of_ble_eq_true rfl) va_S.rf
    ⟨rfl, Nat.zero_le _, fun k q h => by rw [mm_W0] at h; simp at h, ⟨fun i j p q h => by rw [mm_W0] at h; simp at h, fun k q h => by rw [mm_W0] at h; simp at h⟩⟩ hl
  intro T hTh Y
  obtain ⟨t, a1, o, b1, b2, ⟨⟨v, μ', c1, c2, -⟩, -⟩, L9, ⟨d1, d2, d3⟩, d4⟩ := k T hTh Y
  refine ⟨t, a1, o, b1, b2, by rw [c1, c2]; rfl, d1, d2, d3.weaken (fun y hy hlt => absurd hlt (Nat.not_lt.mpr (d4 y hy))) (Nat.le_refl _) (Nat.le_refl _)⟩
