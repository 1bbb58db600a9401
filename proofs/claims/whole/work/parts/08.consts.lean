/-! rules: Math, arraycopy, constants -/
def mm_mw (y : MethodName) (b : ByteArray) : Prop := Cond.static y ∈ mm_ws ∧ Cond.initialized "java/lang/Math" ∈ mm_ws ∧ Cond.code y b 2 (some .int) ∈ mm_ws
theorem mm_maxw : mm_mw Lib.Math.max.name Lib.Math.max.code := ⟨mm_in (mm_m3 (List.mem_of_getElem? (i := 117) rfl)) rfl, mm_in (mm_m1 (List.mem_of_getElem? (i := 12) rfl)) rfl, mm_in (mm_m3 (List.mem_of_getElem? (i := 118) rfl)) rfl⟩
theorem mm_minw : mm_mw Lib.Math.min.name Lib.Math.min.code := ⟨mm_in (mm_m2 (List.mem_of_getElem? (i := 181) rfl)) rfl, mm_in (mm_m1 (List.mem_of_getElem? (i := 12) rfl)) rfl, mm_in (mm_m2 (List.mem_of_getElem? (i := 182) rfl)) rfl⟩
def mm_cm (K : mm_K) (y : MethodName) (pc n : Nat) : Prop := (∃ idx : Nat, decode K.2.1 pc = .ok (.invokestatic idx, 3) ∧ Cond.methodLink K.1.cls idx y ∈ mm_ws) ∧ pc + 3 = n
theorem mm_mmax {X : mm_X} {d nc ns : Nat} {K : mm_K} {pc n : Nat} {ls : List (Option Value)} {st : List Value} {μ : mm_M} {Q : Option Value → mm_M → Prop} {x y : Int32} (hd : mm_cm K Lib.Math.max.name pc n) (h : mm_T X d nc ns K n ls (.int (if x < y then y else x) :: st) μ Q) (hdd : 1 ≤ d := by exact Nat.le_of_ble_eq_true rfl) (hcat : (st.map fun v => v.category).sum ≤ 8 := by exact Nat.le_of_ble_eq_true rfl) : mm_T X d nc ns K pc ls (.int y :: .int x :: st) μ Q := by
  intro p l e R s m args below meth c G A H locs cells slots mc ms lsA hC hW hR h1 h2 hS hH hL
  have k := h p l e R s m args below meth c G A H locs cells slots mc ms lsA hC hW hR h1 h2 hS hH hL
  obtain ⟨⟨idx, h3, h4⟩, rfl⟩ := hd
  obtain ⟨hx, hb, hml, -, -, -, hown, hts⟩ := hC
  obtain ⟨r1, r2, r3, r4⟩ := hR
  rw [← mm_cats (β := G.2.2.2)] at hcat
  exact va_mmax hx hb (by rw [hml]; exact hL.1.symm) hown (hts _ h4) (hts _ mm_maxw.1) (hts _ mm_maxw.2.1) (hts _ mm_maxw.2.2) (by omega) (by omega) (by omega) (by omega) h3 k
theorem mm_mmin {X : mm_X} {d nc ns : Nat} {K : mm_K} {pc n : Nat} {ls : List (Option Value)} {st : List Value} {μ : mm_M} {Q : Option Value → mm_M → Prop} {x y : Int32} (hd : mm_cm K Lib.Math.min.name pc n) (h : mm_T X d nc ns K n ls (.int (if y < x then y else x) :: st) μ Q) (hdd : 1 ≤ d := by exact Nat.le_of_ble_eq_true rfl) (hcat : (st.map fun v => v.category).sum ≤ 8 := by exact Nat.le_of_ble_eq_true rfl) : mm_T X d nc ns K pc ls (.int y :: .int x :: st) μ Q := by
  intro p l e R s m args below meth c G A H locs cells slots mc ms lsA hC hW hR h1 h2 hS hH hL
  have k := h p l e R s m args below meth c G A H locs cells slots mc ms lsA hC hW hR h1 h2 hS hH hL
  obtain ⟨⟨idx, h3, h4⟩, rfl⟩ := hd
  obtain ⟨hx, hb, hml, -, -, -, hown, hts⟩ := hC
  obtain ⟨r1, r2, r3, r4⟩ := hR
  rw [← mm_cats (β := G.2.2.2)] at hcat
  exact va_mmin hx hb (by rw [hml]; exact hL.1.symm) hown (hts _ h4) (hts _ mm_minw.1) (hts _ mm_minw.2.1) (hts _ mm_minw.2.2) (by omega) (by omega) (by omega) (by omega) h3 k
theorem mm_cpw : Cond.native arraycopyName ∈ mm_ws ∧ Cond.static arraycopyName ∈ mm_ws ∧ Cond.initialized "java/lang/System" ∈ mm_ws := ⟨mm_in (mm_m3 (List.mem_of_getElem? (i := 105) rfl)) rfl, mm_in (mm_m3 (List.mem_of_getElem? (i := 104) rfl)) rfl, mm_in (mm_m1 (List.mem_of_getElem? (i := 18) rfl)) rfl⟩
/-- the memory behind an arraycopy of ints or bytes -/
def mm_cp (μ : mm_M) (a b sp dp k : Nat) : mm_M := (μ.1, μ.2.1, fun q => if q = b then va_cpy (μ.2.2.1 a) (μ.2.2.1 b) sp dp k else μ.2.2.1 q, μ.2.2.2.1, μ.2.2.2.2)
theorem mm_cp_at {μ : mm_M} {a b sp dp k : Nat} : mm_I (mm_cp μ a b sp dp k) b = va_cpy (mm_I μ a) (mm_I μ b) sp dp k := by simp [mm_I, mm_cp]
theorem mm_cp_off {μ : mm_M} {a b sp dp k q : Nat} (h : q ≠ b) : mm_I (mm_cp μ a b sp dp k) q = mm_I μ q := by simp [mm_I, mm_cp, h]
theorem mm_acopy {X : mm_X} {d nc ns : Nat} {K : mm_K} {pc n : Nat} {ls : List (Option Value)} {st : List Value} {μ : mm_M} {Q : Option Value → mm_M → Prop} {a b t k0 k1 : Nat} {sp dp k : Int32} (hd : mm_cm K arraycopyName pc n) (ht : t < 3) (ha : mm_ar μ a t k0) (hb0 : mm_ar μ b t k1) (g1 : ¬ sp < 0) (g2 : ¬ dp < 0) (g3 : ¬ k < 0) (g4 : sp.toNatClampNeg + k.toNatClampNeg ≤ k0) (g5 : dp.toNatClampNeg + k.toNatClampNeg ≤ k1) (hfit : ∀ i, i < k.toNatClampNeg → fits (mm_ty t) (.int (mm_I μ a (sp.toNatClampNeg + i))) = true)
    (h : mm_T X d nc ns K n ls st (mm_cp μ a b sp.toNatClampNeg dp.toNatClampNeg k.toNatClampNeg) Q) (hdd : 1 ≤ d := by exact Nat.le_of_ble_eq_true rfl) (hcat : (st.map fun v => v.category).sum ≤ 8 := by exact Nat.le_of_ble_eq_true rfl) : mm_T X d nc ns K pc ls (.int k :: .int dp :: .ref b :: .int sp :: .ref a :: st) μ Q := by
  intro p l e R s m args below meth c G A H locs cells slots mc ms lsA hC hW hR h1 h2 hS hH hL
  obtain ⟨⟨idx, h3, h4⟩, rfl⟩ := hd
  obtain ⟨hx, hb, hml, -, -, -, hown, hts⟩ := id hC
  obtain ⟨r1, r2, r3, r4⟩ := id hR
  rw [← mm_cats (β := G.2.2.2)] at hcat
  show W p l e R s m args below meth c H locs cells slots _ (F0 m pc lsA (.int k :: .int dp :: .ref (G.2.2.2 b) :: .int sp :: .ref (G.2.2.2 a) :: _))
  rw [mm_bad hW hH ha.1, mm_bad hW hH hb0.1]
  have e9 : ∀ μ' q, mm_ac G μ' q t = .inl (mm_I μ' q) := by
    intro μ' q
    match t, ht with
    | 0, _ => rfl
    | 1, _ => rfl
    | 2, _ => rfl
    | t + 3, ht => exact absurd ht (by omega)
  have hprim : refKind (mm_ty t) = false := by
    match t, ht with
    | 0, _ => rfl
    | 1, _ => rfl
    | 2, _ => rfl
    | t + 3, ht => exact absurd ht (by omega)
  have w0 : (mm_W G μ)[a]? = some (G.2.2.1 + a, .inl (G.2.1 t, k0, .inl (mm_I μ a))) := (mm_Wq ha.1).trans (by rw [mm_ce_ar ha, e9])
  have w1 : (mm_W G μ)[b]? = some (G.2.2.1 + b, .inl (G.2.1 t, k1, .inl (mm_I μ b))) := (mm_Wq hb0.1).trans (by rw [mm_ce_ar hb0, e9])
  have nn : ∀ z : Int32, ¬ z < 0 → z.toInt = (z.toNatClampNeg : Int) := by
    intro z hz
    have hz0 : (0 : Int) ≤ z.toInt := by
      have := Int32.not_lt.mp hz
      simpa using Int32.le_iff_toInt_le.mp this
    show z.toInt = ((z.toInt.toNat : Nat) : Int)
    omega
  intro T hT Y
  have hc0 : H[G.2.2.1 + a]? = some (vp_cell (G.2.1 t) (k0, .inl (mm_I μ a))) := hH.2.2.1 a _ w0
  have hc1 : H[G.2.2.1 + b]? = some (vp_cell (G.2.1 t) (k1, .inl (mm_I μ b))) := hH.2.2.1 b _ w1
  have hty := mm_tyq G.2.1 (show t < 8 by omega)
  obtain ⟨-, q0, hq0, cm0, hkk0⟩ := (hW.1.2 t _ hty).1 k0 (fun j => .int (mm_I μ a j))
  have hq0' : s.vm.classes[(vp_cell (G.2.1 t) (k1, .inl (mm_I μ b))).cls]? = some q0 := hq0
  have hm0 : ∀ x y : Nat, x ≤ 8 → nativeFrameWords "java/lang/System" "arraycopy" 5 + 11 ≤ 52 → x + (nativeFrameWords "java/lang/System" "arraycopy" 5 + 11) ≤ 60 := fun x y h1 h2 => by omega
  obtain ⟨vm', Y', step⟩ := Y.arraycopy hx hown (hts _ h4) (hts _ mm_cpw.1) (hts _ mm_cpw.2.1) (hts _ mm_cpw.2.2) (src := G.2.2.1 + a) (dst := G.2.2.1 + b) (cs := vp_cell (G.2.1 t) (k0, .inl (mm_I μ a))) (cd := vp_cell (G.2.1 t) (k1, .inl (mm_I μ b))) (srcPos := sp) (destPos := dp) (n := k) (by rw [hT]; exact hc0) (by rw [hT]; exact hc1)
    (fun _ h => by cases h) (fun _ h => by cases h) (fun h => by cases h) (fun h => by cases h) hq0 hq0' hkk0 hkk0 (by simp [hprim]) g1 g2 g3
    (by rw [nn sp g1, nn k g3]; show ¬ _ > ((arrV (G.2.1 t) k0 (fun j => .int (mm_I μ a j))).slots.size : Int); rw [arrV_size]; omega)
    (by rw [nn dp g2, nn k g3]; show ¬ _ > ((arrV (G.2.1 t) k1 (fun j => .int (mm_I μ b j))).slots.size : Int); rw [arrV_size]; omega)
    (fun vm₁ _ i hi => by
      have e : (vp_cell (G.2.1 t) (k0, .inl (mm_I μ a))).slots.getD (sp.toNatClampNeg + i) .null = .int (mm_I μ a (sp.toNatClampNeg + i)) := by
        show (arrV (G.2.1 t) k0 (fun j => .int (mm_I μ a j))).slots.getD _ _ = _
        rw [Array.getD_eq_getD_getElem?, arrV_read _ _ (by omega)]
        rfl
      refine ⟨?_, ?_⟩
      · rw [e]
        exact hfit i hi
      · rw [e]
        exact trivial)
    (g := F0 m pc lsA (.int k :: .int dp :: .ref (G.2.2.1 + b) :: .int sp :: .ref (G.2.2.1 + a) :: st.map (mm_v G.2.2.2))) rfl (by rw [hml]; exact hL.1) (rest := st.map (mm_v G.2.2.2)) rfl (by rw [hb]; exact h3) (by omega) (by
      have hz : nativeFrameWords "java/lang/System" "arraycopy" 5 + 11 ≤ 52 := by decide
      show 2 * 0 + _ + _ ≤ _
      omega)
  have e1 : copied (vp_cell (G.2.1 t) (k0, .inl (mm_I μ a))) (vp_cell (G.2.1 t) (k1, .inl (mm_I μ b))) sp dp k = vp_cell (G.2.1 t) (k1, .inl (va_cpy (mm_I μ a) (mm_I μ b) sp.toNatClampNeg dp.toNatClampNeg k.toNatClampNeg)) := va_copied (fun z => .int z) (G.2.1 t) (G.2.1 t) (mm_I μ a) (mm_I μ b) g4
  rw [e1] at Y' step
  have hl : G.2.2.1 + b < H.size := (Array.getElem?_eq_some_iff.mp hc1).1
  generalize hcell : vp_cell (G.2.1 t) (k1, .inl (va_cpy (mm_I μ a) (mm_I μ b) sp.toNatClampNeg dp.toNatClampNeg k.toNatClampNeg)) = cell1 at Y' step
  have hheap : ((T.setVm vm').setCell (G.2.2.1 + b) cell1).heap = H.setIfInBounds (G.2.2.1 + b) cell1 := by rw [← hT]; rfl
  have oq : ∀ q : Nat, q ≠ G.2.2.1 + b → (H.setIfInBounds (G.2.2.1 + b) cell1)[q]? = H[q]? := fun q hq => by simp [Array.getElem?_setIfInBounds, Ne.symm hq]
  have hb' : mm_ar (mm_cp μ a b sp.toNatClampNeg dp.toNatClampNeg k.toNatClampNeg) b t k1 := hb0
  have hA := hH.2.2.2.2 b _ w1
  obtain ⟨t9, a1, b1⟩ := h p l e R s m args below meth c G A _ _ cells slots mc ms lsA hC hW hR h1 h2 ⟨by simp; exact hS.1, fun q g1 g2 => by
      rw [oq q (fun e => g2 (by rw [e]; exact hA))]
      exact hS.2.1 q g1 g2, fun q hq => by
      rcases List.mem_append.mp hq with h | h
      · exact hS.2.2 q h
      · obtain ⟨z, -, hz⟩ := List.mem_map.mp h
        rw [← hz]
        exact hA⟩ (hH.put (μ' := mm_cp μ a b sp.toNatClampNeg dp.toNatClampNeg k.toNatClampNeg) hb0.1 rfl (fun q hq => mm_ce_off rfl (mm_cp_off hq) rfl rfl) (by simp) oq (by
        rw [mm_ce_ar hb', e9, mm_cp_at]
        show (H.setIfInBounds (G.2.2.1 + b) cell1)[G.2.2.1 + b]? = some (vp_cell _ _)
        rw [hcell]
        simp [Array.getElem?_setIfInBounds, hl])) hL _ hheap Y'
  exact ⟨t9, step t9 a1, b1⟩
/-! the rows that are constants: 2000000 the script, 2000001 NUMBERS_OF, 2000002 HIGHEST -/
def mm_ka (X : mm_X) : Nat → Nat × (Nat → Int32)
  | 0 => X
  | 1 => (13, fun j => mm_num.getD j 0)
  | _ => (39, fun j => mm_hig.getD j 0)
theorem mm_kat {X : mm_X} {G : mm_G} {A : Nat → Prop} {s : State} (h : mm_Z X G A s) {q : Nat} (hq : q < 3) : va_T .int (G.2.2.2 (2000000 + q)) (mm_ka X q).1 (fun j => .int ((mm_ka X q).2 j)) A s s.heap := by
  match q, hq with
  | 0, _ => exact h.1
  | 1, _ => exact h.2.1
  | 2, _ => exact h.2.2.1
  | q + 3, hq => exact absurd hq (by omega)
theorem mm_kald {X : mm_X} {d nc ns : Nat} {K : mm_K} {pc n : Nat} {ls : List (Option Value)} {st : List Value} {μ : mm_M} {Q : Option Value → mm_M → Prop} {q : Nat} {i : Int32} (hd : mm_d K pc .iaload 1 n) (hq : q < 3) (hi : vp_in i (mm_ka X q).1) (h : mm_T X d nc ns K n ls (.int ((mm_ka X q).2 i.toNatClampNeg) :: st) μ Q) : mm_T X d nc ns K pc ls (.int i :: .ref (2000000 + q) :: st) μ Q := by
  intro p l e R s m args below meth c G A H locs cells slots mc ms lsA hC hW hR h1 h2 hS hH hL
  have k := h p l e R s m args below meth c G A H locs cells slots mc ms lsA hC hW hR h1 h2 hS hH hL
  obtain ⟨h3, rfl⟩ := hd
  exact va_ti hC.1 hC.2.1 (mm_kat hW.2.2.1 hq) hS hi rfl h3 k
theorem mm_klen {X : mm_X} {d nc ns : Nat} {K : mm_K} {pc n : Nat} {ls : List (Option Value)} {st : List Value} {μ : mm_M} {Q : Option Value → mm_M → Prop} {q : Nat} (hd : mm_d K pc .arraylength 1 n) (hq : q < 3) (h : mm_T X d nc ns K n ls (.int (Int32.ofNat (mm_ka X q).1) :: st) μ Q) : mm_T X d nc ns K pc ls (.ref (2000000 + q) :: st) μ Q := by
  intro p l e R s m args below meth c G A H locs cells slots mc ms lsA hC hW hR h1 h2 hS hH hL
  have k := h p l e R s m args below meth c G A H locs cells slots mc ms lsA hC hW hR h1 h2 hS hH hL
  obtain ⟨h3, rfl⟩ := hd
  exact va_tlen hC.1 hC.2.1 (mm_kat hW.2.2.1 hq) hS rfl h3 k
def mm_gs (K : mm_K) (pc q n : Nat) : Prop := (∃ idx : Nat, decode K.2.1 pc = .ok (.getstatic idx, 3) ∧ ((q = 1 ∧ Cond.fieldLink K.1.cls idx "GodWeathers$Reader" "NUMBERS_OF" "[I" ∈ mm_ws) ∨ (q = 2 ∧ Cond.fieldLink K.1.cls idx "GodWeathers$Reader" "HIGHEST" "[I" ∈ mm_ws))) ∧ pc + 3 = n
theorem mm_gets {X : mm_X} {d nc ns : Nat} {K : mm_K} {pc n : Nat} {ls : List (Option Value)} {st : List Value} {μ : mm_M} {Q : Option Value → mm_M → Prop} {q : Nat} (hd : mm_gs K pc q n) (h : mm_T X d nc ns K n ls (.ref (2000000 + q) :: st) μ Q) : mm_T X d nc ns K pc ls st μ Q := by
  intro p l e R s m args below meth c G A H locs cells slots mc ms lsA hC hW hR h1 h2 hS hH hL
  have k := h p l e R s m args below meth c G A H locs cells slots mc ms lsA hC hW hR h1 h2 hS hH hL
  obtain ⟨⟨idx, h3, h4⟩, rfl⟩ := hd
  have hts := hC.2.2.2.2.2.2.2
  rcases h4 with ⟨rfl, h4⟩ | ⟨rfl, h4⟩
  · exact va_gets hC.1 hC.2.1 hW.2.2.1.2.2.2.1 hS hC.2.2.2.2.2.2.1 (hts _ h4) (fun _ h => h) h3 k
  · exact va_gets hC.1 hC.2.1 hW.2.2.1.2.2.2.2.1 hS hC.2.2.2.2.2.2.1 (hts _ h4) (fun _ h => h) h3 k
