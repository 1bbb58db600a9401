/-! rules: new cells -/
def mm_gty : FieldType → Bool
  | .byte => false
  | .short => false
  | .char => false
  | .float => false
  | .double => false
  | _ => true
theorem mm_ftg : ∀ c, c < 11 → ∀ j, j < mm_nf c → mm_gty (mm_ft c j) = true := by decide +kernel
theorem mm_dv {ty : FieldType} (h : mm_gty ty = true) (β : Nat → Nat) (μ : mm_M) (q : Nat × Nat) (j : Nat) : defaultValue ty = mm_fv β (mm_new μ q) ty (mm_n μ) j := by
  cases ty <;> first | (simp [mm_gty] at h; done) | (simp [mm_fv, mm_fk, mm_new, mm_I, mm_J, mm_P, mm_n, defaultValue, va_rf]; done) | rfl
def mm_nw (K : mm_K) (pc c n : Nat) : Prop := (∃ idx : Nat, decode K.2.1 pc = .ok (.new idx, 3) ∧ Cond.classLink K.1.cls idx (mm_R c) ∈ mm_ws) ∧ pc + 3 = n ∧ c < 11 ∧ Cond.instantiable (mm_R c) (mm_nf c) ∈ mm_ws ∧ Cond.initialized (mm_R c) ∈ mm_ws
theorem mm_Re.grow {X : mm_X} {G : mm_G} {A : Nat → Prop} {s : State} {μ : mm_M} {H H1 : Heap} {locs : List Loc} {q : Nat × Nat} (hW : mm_Wo X G A s) (hS : va_S A s.heap H locs) (hH : mm_Re G A μ H) (hn : mm_n μ < 1000000) (z : H1.size = G.2.2.1 + mm_n μ + 1) (o1 : ∀ x : Nat, x < G.2.2.1 + mm_n μ → H1[x]? = H[x]?) (he : va_at G.1 mm_cl (G.2.2.1 + mm_n μ, mm_ce G (mm_new μ q) (mm_n μ)) H1) : mm_Re G A (mm_new μ q) H1 ∧ va_S A s.heap H1 locs := by
  have hle : s.heap.size ≤ G.2.2.1 + mm_n μ := by rw [← hH.1]; exact hS.1
  refine ⟨⟨z, hn, ?_, ?_⟩, by rw [z]; omega, fun x g1 g2 => (o1 x (Nat.lt_of_lt_of_le g1 hle)).trans (hS.2.1 x g1 g2), hS.2.2⟩
  · rw [mm_Wnew]
    refine (hH.2.2.1.kept (fun k x hx => o1 x.1 (by rw [← hH.1]; exact (hH.2.2.1 k x hx).lt))).app (fun k x hx => ?_)
    have hz : k < 1 := (List.getElem?_eq_some_iff.mp hx).1
    rw [show k = 0 by omega] at hx
    cases hx
    exact he
  · rw [mm_Wnew]
    exact hH.2.2.2.push hH.2.2.1 hH.1.symm (hW.2.2.2.1 _ hle)
theorem mm_newO {X : mm_X} {d nc ns : Nat} {K : mm_K} {pc n : Nat} {ls : List (Option Value)} {st : List Value} {μ : mm_M} {Q : Option Value → mm_M → Prop} {cl : Nat} (hd : mm_nw K pc cl n) (hn : mm_n μ < 1000000) (h : mm_T X d nc ns K n ls (.ref (mm_n μ) :: st) (mm_new μ (cl, 0)) Q) : mm_T X d (nc + 1) (ns + mm_nf cl) K pc ls st μ Q := by
  intro p l e R s m args below meth c G A H locs cells slots mc ms lsA hC hW hR h1 h2 hS hH hL
  obtain ⟨⟨idx, h3, h4⟩, rfl, hcl, h5, h6⟩ := hd
  have hc := mm_clq hcl
  have hKn := hW.1.1 cl _ hc
  have hts := hC.2.2.2.2.2.2.2
  have hRc := hR.2.2.1
  have hRs := hR.2.2.2
  have e0 : ((F0 m pc lsA (st.map (mm_v G.2.2.2))).stack) = st.map (mm_v G.2.2.2) := rfl
  refine W.newcK hC.1 hC.2.1 hC.2.2.2.2.2.2.1 (hts _ h4) (hts _ h5) (hts _ h6) rfl h3 (by omega) (by omega) hKn.2.1 hH.1 fun H1 kC hkC e1 z1 o1 => ?_
  have ho' : mm_ob (mm_new μ (cl, 0)) (mm_n μ) cl := ⟨Nat.lt_succ_self _, by simp [mm_sh, mm_new, mm_n], hcl⟩
  obtain ⟨g1, g2⟩ := mm_Re.grow (q := (cl, 0)) hW hS hH hn z1 o1 (by
    rw [mm_ce_ob ho']
    refine ⟨_, hc, (u_born (mm_ft cl) hts (mm_ly hcl) hKn hkC e1 (mm_tok hcl)).to (fun j hj => ?_)⟩
    have hj' : j < mm_nf cl := hj
    show defaultValue (mm_ft cl j) = vp_V _ j
    rw [mm_dv (mm_ftg cl hcl j hj') G.2.2.2 μ (cl, 0) j]
    simp [vp_V, hj'])
  have k := h p l e R s m args below meth c G A H1 locs (cells + 1) (slots + mm_nf cl) mc ms lsA hC hW hR (by omega) (by omega) g2 g1 hL
  rw [List.map_cons, show mm_v G.2.2.2 (.ref (mm_n μ)) = .ref (G.2.2.1 + mm_n μ) from congrArg Value.ref (hW.2.2.2.2 _ hn)] at k
  exact k
def mm_nr (K : mm_K) (pc t n : Nat) : Prop := (∃ ty : ArrayType, decode K.2.1 pc = .ok (.newarray ty, 2) ∧ newarray.typeOf ty = mm_ty t) ∧ pc + 2 = n ∧ t < 4 ∧ Cond.arrayClass (mm_ty t) ∈ mm_ws
theorem mm_newA {X : mm_X} {d nc ns : Nat} {K : mm_K} {pc n : Nat} {ls : List (Option Value)} {st : List Value} {μ : mm_M} {Q : Option Value → mm_M → Prop} {t k : Nat} {x : Int32} (hd : mm_nr K pc t n) (hx : ¬ x < 0 ∧ x.toNatClampNeg = k ∧ k ≤ 10000) (hn : mm_n μ < 1000000) (h : mm_T X d nc ns K n ls (.ref (mm_n μ) :: st) (mm_new μ (20 + t, k)) Q) : mm_T X d (nc + 1) (ns + k) K pc ls (.int x :: st) μ Q := by
  intro p l e R s m args below meth c G A H locs cells slots mc ms lsA hC hW hR h1 h2 hS hH hL
  obtain ⟨⟨ty, h3, h4⟩, rfl, ht, h5⟩ := hd
  obtain ⟨x1, x2, x3⟩ := hx
  have hts := hC.2.2.2.2.2.2.2
  have hRc := hR.2.2.1
  have hRs := hR.2.2.2
  have hby : k * componentBytes (newarray.typeOf ty) ≤ 536870912 := by
    rw [h4]
    have : componentBytes (mm_ty t) ≤ 8 := by
      match t, ht with
      | 0, _ => decide
      | 1, _ => decide
      | 2, _ => decide
      | 3, _ => decide
      | t + 4, ht => exact absurd ht (by omega)
    calc k * componentBytes (mm_ty t) ≤ 10000 * 8 := Nat.mul_le_mul x3 this
      _ ≤ 536870912 := by decide
  refine va_newaK hC.1 hC.2.1 (by rw [h4]; exact hts _ h5) rfl h3 rfl x1 x2 hby (by omega) (by omega) hH.1 fun H1 cA e1 z1 o1 hAr hNm => ?_
  have ha' : mm_ar (mm_new μ (20 + t, k)) (mm_n μ) t k := ⟨Nat.lt_succ_self _, by simp [mm_sh, mm_new, mm_n], by omega⟩
  have hcA : cA = G.2.1 t := by
    have g := (hW.1.2 t _ (mm_tyq G.2.1 (by omega))).2
    have g' : s.vm.findClass ("[" ++ (mm_ty t).toString) = some (G.2.1 t) := by
      match t, ht, g with
      | 0, _, g => exact g
      | 1, _, g => exact g
      | 2, _, g => exact g
      | 3, _, g => exact g
      | t + 4, ht, _ => exact absurd ht (by omega)
    rw [h4] at hNm
    exact Option.some.inj (hNm.symm.trans g')
  subst hcA
  obtain ⟨g1, g2⟩ := mm_Re.grow (q := (20 + t, k)) hW hS hH hn z1 o1 (by
    rw [mm_ce_ar ha']
    show H1[_]? = some (vp_cell _ _)
    rw [e1, h4]
    match t, ht with
    | 0, _ => simp [vp_cell, mm_ac, mm_new, mm_I, mm_n, mm_ty, defaultValue]
    | 1, _ => simp [vp_cell, mm_ac, mm_new, mm_I, mm_n, mm_ty, defaultValue]
    | 2, _ => simp [vp_cell, mm_ac, mm_new, mm_I, mm_n, mm_ty, defaultValue]
    | 3, _ => simp [vp_cell, mm_ac, mm_new, mm_J, mm_n, mm_ty, defaultValue]
    | t + 4, ht => exact absurd ht (by omega))
  have k := h p l e R s m args below meth c G A H1 locs (cells + 1) (slots + k) mc ms lsA hC hW hR (by omega) (by omega) g2 g1 hL
  rw [List.map_cons, show mm_v G.2.2.2 (.ref (mm_n μ)) = .ref (G.2.2.1 + mm_n μ) from congrArg Value.ref (hW.2.2.2.2 _ hn)] at k
  exact k
def mm_nq (K : mm_K) (pc t n : Nat) : Prop := (∃ (idx : Nat) (C : String), decode K.2.1 pc = .ok (.anewarray idx, 3) ∧ mm_ty (4 + t) = .object C ∧ Cond.classLink K.1.cls idx C ∈ mm_ws ∧ C ∈ mm_rc) ∧ pc + 3 = n ∧ t < 4
theorem mm_newQ {X : mm_X} {d nc ns : Nat} {K : mm_K} {pc n : Nat} {ls : List (Option Value)} {st : List Value} {μ : mm_M} {Q : Option Value → mm_M → Prop} {t k : Nat} {x : Int32} (hd : mm_nq K pc t n) (hx : ¬ x < 0 ∧ x.toNatClampNeg = k ∧ k ≤ 10000) (hn : mm_n μ < 1000000) (h : mm_T X d nc ns K n ls (.ref (mm_n μ) :: st) (mm_new μ (20 + (4 + t), k)) Q) : mm_T X d (nc + 1) (ns + k) K pc ls (.int x :: st) μ Q := by
  intro p l e R s m args below meth c G A H locs cells slots mc ms lsA hC hW hR h1 h2 hS hH hL
  obtain ⟨⟨idx, C, h3, h4, h5, h6⟩, rfl, ht⟩ := hd
  obtain ⟨x1, x2, x3⟩ := hx
  subst x2
  have hts := hC.2.2.2.2.2.2.2
  have hRc := hR.2.2.1
  have hRs := hR.2.2.2
  refine W.anew hC.1 hC.2.1 hC.2.2.2.2.2.2.1 (hts _ h5) (va_AO.use (hW.2.1.2 C h6)) rfl h3 rfl x1 (by omega) (by omega) (by omega) fun cA kA comp f1 f2 f3 f4 => ?_
  generalize hH1 : H.push ({ cls := cA, slots := Array.replicate x.toNatClampNeg .null, vm := .none } : Cell) = H1
  have z1 : H1.size = G.2.2.1 + mm_n μ + 1 := by rw [← hH1, Array.size_push, hH.1]
  have e1 : H1[G.2.2.1 + mm_n μ]? = some (arrV cA x.toNatClampNeg (fun _ => .null)) := by rw [← hH1, ← hH.1, Array.getElem?_push_size, ← arrV_new]
  have o1 : ∀ q : Nat, q < G.2.2.1 + mm_n μ → H1[q]? = H[q]? := fun q hq => by rw [← hH1, Array.getElem?_push, if_neg (by rw [hH.1]; exact Nat.ne_of_lt hq)]
  have ha' : mm_ar (mm_new μ (20 + (4 + t), x.toNatClampNeg)) (mm_n μ) (4 + t) x.toNatClampNeg := ⟨Nat.lt_succ_self _, by simp [mm_sh, mm_new, mm_n], by omega⟩
  have hcA : cA = G.2.1 (4 + t) := by
    have g := (hW.1.2 (4 + t) _ (mm_tyq G.2.1 (by omega))).2
    rw [h4] at g
    obtain ⟨kB, cB, -, -, -, g4⟩ := g
    exact Option.some.inj (f1.symm.trans g4)
  subst hcA
  obtain ⟨g1, g2⟩ := mm_Re.grow (q := (20 + (4 + t), x.toNatClampNeg)) hW hS hH hn z1 o1 (by
    rw [mm_ce_ar ha']
    show H1[_]? = some (vp_cell _ _)
    rw [e1]
    have e2 : mm_ac G (mm_new μ (20 + (4 + t), x.toNatClampNeg)) (mm_n μ) (4 + t) = .inr (.inr (.inr (.inr (fun _ => none)))) := by
      rw [Nat.add_comm 4 t]
      simp [mm_ac, mm_P, mm_new, mm_n]
    rw [e2]
    rfl)
  have k := h p l e R s m args below meth c G A H1 locs (cells + 1) (slots + x.toNatClampNeg) mc ms lsA hC hW hR (by omega) (by omega) g2 g1 hL
  rw [List.map_cons, show mm_v G.2.2.2 (.ref (mm_n μ)) = .ref (H.size) from congrArg Value.ref ((hW.2.2.2.2 _ hn).trans hH.1.symm)] at k
  exact k
theorem mm_aast {X : mm_X} {d nc ns : Nat} {K : mm_K} {pc n : Nat} {ls : List (Option Value)} {st : List Value} {μ : mm_M} {Q : Option Value → mm_M → Prop} {a t k r cl : Nat} {i : Int32} (hd : mm_d K pc .aastore 1 n) (ha : mm_ar μ a (4 + t) k) (hi : vp_in i k) (hr : mm_ob μ r cl) (hty : mm_ty (4 + t) = .object (mm_R cl)) (h : mm_T X d nc ns K n ls st (mm_sP μ a i.toNatClampNeg (some r)) Q) : mm_T X d nc ns K pc ls (.ref r :: .int i :: .ref a :: st) μ Q := by
  intro p l e R s m args below meth c G A H locs cells slots mc ms lsA hC hW hR h1 h2 hS hH hL
  obtain ⟨h3, rfl⟩ := hd
  show W p l e R s m args below meth c H locs cells slots _ (F0 m pc lsA (.ref (G.2.2.2 r) :: .int i :: .ref (G.2.2.2 a) :: _))
  rw [mm_bad hW hH ha.1, mm_bad hW hH hr.1]
  have e2 : ∀ μ' : mm_M, mm_ac G μ' a (4 + t) = .inr (.inr (.inr (.inr (fun i => (mm_P μ' a i).map G.2.2.2)))) := by
    intro μ'
    rw [Nat.add_comm 4 t]
    rfl
  have e0 : (mm_W G μ)[a]? = some (G.2.2.1 + a, .inl (G.2.1 (4 + t), k, mm_ac G μ a (4 + t))) := (mm_Wq ha.1).trans (by rw [mm_ce_ar ha])
  have hlt : i.toNatClampNeg < k := Nat.not_le.mp fun q => hi (Or.inr q)
  have h0 : ¬ i < 0 := fun q => hi (Or.inl q)
  obtain ⟨r', hr', cellV, g1, g2, g3, -⟩ := hH.2.2.1 r _ ((mm_Wq hr.1).trans (by rw [mm_ce_ob hr]))
  have hcls := (hW.1.1 cl _ (mm_clq hr.2.2)).2
  have hRA := (hW.1.2 (4 + t) _ (mm_tyq G.2.1 ha.2.2)).2
  rw [hty] at hRA
  obtain ⟨kA, comp, k1, k2, k3, -⟩ := hRA
  have hcomp : comp = G.1.1 cl := Option.some.inj (k3.symm.trans hcls.1)
  subst hcomp
  obtain ⟨kC, hkC, -⟩ := hcls.2
  rw [e2] at e0
  have hcell := hH.2.2.1 a _ e0
  refine W.aast hC.1 hC.2.1 hcell (fun q h => by cases h) (fun h => by cases h) k1 k2 rfl hkC ⟨h0, by show _ < (arrV _ _ _).slots.size; rw [arrV_size]; exact hlt⟩ g1 (fun q h => by rw [g3] at h; cases h) (by rw [g2]; exact hkC) (by rw [g2]; exact va_assign hcls) rfl rfl h3 (fun H1 e1 z oq => ?_)
  have ha' : mm_ar (mm_sP μ a i.toNatClampNeg (some r)) a (4 + t) k := ha
  refine h p l e R s m args below meth c G A H1 _ cells slots mc ms lsA hC hW hR h1 h2 (hS.put z oq (hH.2.2.2.2 a _ e0)) (hH.put ha.1 rfl (fun b hb => mm_ce_sP hb) z oq ?_) hL
  rw [mm_ce_ar ha', e2]
  show H1[_]? = some (vp_cell _ _)
  rw [e1]
  show some ((arrV (G.2.1 (4 + t)) k (fun j => va_rf ((mm_P μ a j).map G.2.2.2))).setSlot i.toNatClampNeg _) = some (arrV (G.2.1 (4 + t)) k (fun j => va_rf ((mm_P (mm_sP μ a i.toNatClampNeg (some r)) a j).map G.2.2.2)))
  rw [arrV_store]
  congr 2
  funext q
  by_cases hq : q = i.toNatClampNeg
  · subst hq
    simp [updV, va_up, va_rf, mm_sP_at, mm_bad hW hH hr.1]
  · simp [updV, va_up, hq, mm_sP_at]
