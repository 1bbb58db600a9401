/-! rules: fields -/
def mm_gf (K : mm_K) (pc c j n : Nat) : Prop := (∃ idx : Nat, decode K.2.1 pc = .ok (.getfield idx, 3) ∧ Cond.fieldLink K.1.cls idx (mm_F c j).1 (mm_F c j).2.1 (mm_F c j).2.2.1 ∈ mm_ws) ∧ pc + 3 = n ∧ j < mm_nf c
def mm_pf (K : mm_K) (pc c j n : Nat) : Prop := (∃ idx : Nat, decode K.2.1 pc = .ok (.putfield idx, 3) ∧ Cond.fieldLink K.1.cls idx (mm_F c j).1 (mm_F c j).2.1 (mm_F c j).2.2.1 ∈ mm_ws) ∧ pc + 3 = n ∧ j < mm_nf c
theorem mm_bad {X : mm_X} {G : mm_G} {A : Nat → Prop} {s : State} {μ : mm_M} {H : Heap} {a : Nat} (hW : mm_Wo X G A s) (hH : mm_Re G A μ H) (ha : a < mm_n μ) : G.2.2.2 a = G.2.2.1 + a := hW.2.2.2.2 a (Nat.lt_of_lt_of_le ha hH.2.1)
theorem mm_Re.put {G : mm_G} {A : Nat → Prop} {μ μ' : mm_M} {H H1 : Heap} {a : Nat} (hH : mm_Re G A μ H) (ha : a < mm_n μ) (hn : mm_n μ' = mm_n μ) (ho : ∀ b, b ≠ a → mm_ce G μ' b = mm_ce G μ b) (z : H1.size = H.size) (oq : ∀ q : Nat, q ≠ G.2.2.1 + a → H1[q]? = H[q]?) (he : va_at G.1 mm_cl (G.2.2.1 + a, mm_ce G μ' a) H1) : mm_Re G A μ' H1 := by
  refine ⟨by rw [z, hH.1, hn], by rw [hn]; exact hH.2.1, ?_, ?_⟩
  · rw [mm_Wset hn ho]
    exact hH.2.2.1.set hH.2.2.2 (mm_Wq ha) he oq
  · rw [mm_Wset hn ho]
    exact hH.2.2.2.set (mm_Wq ha)
/-- a getfield, of any type -/
theorem mm_get0 {X : mm_X} {d nc ns : Nat} {K : mm_K} {pc n : Nat} {ls : List (Option Value)} {st : List Value} {μ : mm_M} {Q : Option Value → mm_M → Prop} {a cl j : Nat} {v : Value} (hd : mm_gf K pc cl j n) (ho : mm_ob μ a cl) (hv : ∀ β : Nat → Nat, mm_fv β μ (mm_ft cl j) a j = mm_v β v) (h : mm_T X d nc ns K n ls (v :: st) μ Q) : mm_T X d nc ns K pc ls (.ref a :: st) μ Q := by
  intro p l e R s m args below meth c G A H locs cells slots mc ms lsA hC hW hR h1 h2 hS hH hL
  have k := h p l e R s m args below meth c G A H locs cells slots mc ms lsA hC hW hR h1 h2 hS hH hL
  obtain ⟨hx, hb, -, -, -, -, hown, hts⟩ := hC
  obtain ⟨⟨idx, h3, h4⟩, rfl, hj⟩ := hd
  show W p l e R s m args below meth c H locs cells slots _ (F0 m pc lsA (.ref (G.2.2.2 a) :: _))
  rw [mm_bad hW hH ho.1]
  exact va_get (C := mm_R cl) (T := mm_F cl) (N := mm_nf cl) hx hb hts (mm_ly ho.2.2) hown hW.1 hH.2.2.1 a ((mm_Wq ho.1).trans (by rw [mm_ce_ob ho])) (mm_clq ho.2.2) j hj (hts _ h4) (fun _ h => h) (v := mm_v G.2.2.2 v) (by simp [hj, hv]) h3 k
theorem mm_getI {X : mm_X} {d nc ns : Nat} {K : mm_K} {pc n : Nat} {ls : List (Option Value)} {st : List Value} {μ : mm_M} {Q : Option Value → mm_M → Prop} {a cl j : Nat} (hd : mm_gf K pc cl j n) (hk : mm_fk (mm_ft cl j) = 0) (ho : mm_ob μ a cl) (h : mm_T X d nc ns K n ls (.int (mm_I μ a j) :: st) μ Q) : mm_T X d nc ns K pc ls (.ref a :: st) μ Q := mm_get0 hd ho (fun β => mm_fv_int hk) h
theorem mm_getJ {X : mm_X} {d nc ns : Nat} {K : mm_K} {pc n : Nat} {ls : List (Option Value)} {st : List Value} {μ : mm_M} {Q : Option Value → mm_M → Prop} {a cl j : Nat} (hd : mm_gf K pc cl j n) (hk : mm_fk (mm_ft cl j) = 1) (ho : mm_ob μ a cl) (h : mm_T X d nc ns K n ls (.long (mm_J μ a j) :: st) μ Q) : mm_T X d nc ns K pc ls (.ref a :: st) μ Q := mm_get0 hd ho (fun β => mm_fv_long hk) h
theorem mm_getP {X : mm_X} {d nc ns : Nat} {K : mm_K} {pc n : Nat} {ls : List (Option Value)} {st : List Value} {μ : mm_M} {Q : Option Value → mm_M → Prop} {a cl j r : Nat} (hd : mm_gf K pc cl j n) (hk : mm_fk (mm_ft cl j) = 2) (ho : mm_ob μ a cl) (hr : mm_P μ a j = some r) (h : mm_T X d nc ns K n ls (.ref r :: st) μ Q) : mm_T X d nc ns K pc ls (.ref a :: st) μ Q := mm_get0 (v := .ref r) hd ho (fun β => (mm_fv_ref hk).trans (by rw [hr]; rfl)) h
theorem mm_getN {X : mm_X} {d nc ns : Nat} {K : mm_K} {pc n : Nat} {ls : List (Option Value)} {st : List Value} {μ : mm_M} {Q : Option Value → mm_M → Prop} {a cl j : Nat} (hd : mm_gf K pc cl j n) (hk : mm_fk (mm_ft cl j) = 2) (ho : mm_ob μ a cl) (hr : mm_P μ a j = none) (h : mm_T X d nc ns K n ls (.null :: st) μ Q) : mm_T X d nc ns K pc ls (.ref a :: st) μ Q := mm_get0 (v := .null) hd ho (fun β => (mm_fv_ref hk).trans (by rw [hr]; rfl)) h
/-- a putfield, of any type; a final field in a constructor of its own class -/
theorem mm_put0 {X : mm_X} {d nc ns : Nat} {K : mm_K} {pc n : Nat} {ls : List (Option Value)} {st : List Value} {μ : mm_M} {Q : Option Value → mm_M → Prop} {a cl j : Nat} {v : Value} {μ' : mm_M} (hd : mm_pf K pc cl j n) (ho : mm_ob μ a cl) (hf : (mm_F cl j).2.2.2 = false ∨ (K.1.name = "<init>" ∧ (mm_F cl j).1 = K.1.cls)) (hn : ∀ β : Nat → Nat, narrow (mm_ft cl j) (mm_v β v) = mm_v β v ∧ fits (mm_ft cl j) (mm_v β v) = true)
    (hm : mm_n μ' = mm_n μ) (hs : mm_sh μ' = mm_sh μ) (hc0 : ∀ (G : mm_G) (b : Nat), b ≠ a → mm_ce G μ' b = mm_ce G μ b) (hv : ∀ β : Nat → Nat, mm_fv β μ' (mm_ft cl j) a j = mm_v β v) (hv2 : ∀ (β : Nat → Nat) (i : Nat), i ≠ j → mm_fv β μ' (mm_ft cl i) a i = mm_fv β μ (mm_ft cl i) a i)
    (h : mm_T X d nc ns K n ls st μ' Q) : mm_T X d nc ns K pc ls (v :: .ref a :: st) μ Q := by
  intro p l e R s m args below meth c G A H locs cells slots mc ms lsA hC hW hR h1 h2 hS hH hL
  have ho' : mm_ob μ' a cl := ⟨by rw [hm]; exact ho.1, by rw [hs]; exact ho.2.1, ho.2.2⟩
  have kk : ∀ (H1 : Heap) (k0 : Nat), H1.size = H.size → (∀ q : Nat, q ≠ G.2.2.1 + a → H1[q]? = H[q]?) → va_at G.1 mm_cl (G.2.2.1 + a, mm_ce G μ' a) H1 → W p l e R s m args below meth c H1 (locs ++ [⟨G.2.2.1 + a, k0⟩]) cells slots (MQ below (mm_Q G Q A) args s mc ms A) (F0 m n lsA (st.map (mm_v G.2.2.2))) := fun H1 k0 z oq he =>
    h p l e R s m args below meth c G A H1 _ cells slots mc ms lsA hC hW hR h1 h2 (hS.put z oq (hH.2.2.2.2 a _ (mm_Wq ho.1))) (hH.put ho.1 hm (hc0 G) z oq he) hL
  obtain ⟨hx, hb, -, -, -, hname, hown, hts⟩ := hC
  obtain ⟨⟨idx, h3, h4⟩, rfl, hj⟩ := hd
  show W p l e R s m args below meth c H locs cells slots _ (F0 m pc lsA (mm_v G.2.2.2 v :: .ref (G.2.2.2 a) :: _))
  rw [mm_bad hW hH ho.1]
  have hc := mm_clq ho.2.2
  have hK := hW.1
  have hty := mm_tok ho.2.2 j hj
  have hap := va_apart (own := K.1.cls) hts (mm_ly ho.2.2) (mm_ft cl) (mm_tok ho.2.2) (mm_nm ho.2.2) hK hc
  obtain ⟨r, g1, cell, q1, q2, q3, q4⟩ := hH.2.2.1 a _ ((mm_Wq ho.1).trans (by rw [mm_ce_ob ho]))
  have hr : r = (mm_R cl, mm_F cl, mm_nf cl) := Option.some.inj (g1.symm.trans hc)
  subst hr
  obtain ⟨hSl, hfc, kC, hkC, hkind⟩ := hK.1 cl _ hc
  obtain ⟨cf, kf, fi, f, hi, hsl⟩ := hSl j hj
  have hlay := hts _ (mm_ly ho.2.2 _ (u_in_lay hj))
  unfold u_lay at hlay
  have hst := (u_facts hfc hkC (u_lays hts (mm_ly ho.2.2) hj) hi).1
  have fin : ∀ H' : Heap, H'[G.2.2.1 + a]? = some (cell.setSlot f.slot (mm_v G.2.2.2 v)) → va_at G.1 mm_cl (G.2.2.1 + a, mm_ce G μ' a) H' := by
    intro H' e1
    rw [hsl] at e1
    rw [mm_ce_ob ho']
    refine ⟨_, hc, t_OB.to (V := updV (vp_V ((List.range (mm_nf cl)).map (fun j => mm_fv G.2.2.2 μ (mm_ft cl j) a j))) j (mm_v G.2.2.2 v)) ⟨_, e1, q2, q3, t_set q4 hap hj _⟩ (fun i _ => ?_)⟩
    show updV _ j _ i = vp_V ((List.range (mm_nf cl)).map (fun j => mm_fv G.2.2.2 μ' (mm_ft cl j) a j)) i
    rw [vp_updV_set (by simp; exact hj), mm_set_range (g := fun j => mm_fv G.2.2.2 μ' (mm_ft cl j) a j) (hv _) (fun i hi => hv2 _ i hi)]
  by_cases hfin : (mm_F cl j).2.2.2 = true
  · rcases hf with hf | ⟨hf1, hf2⟩
    · rw [hf] at hfin; cases hfin
    rw [if_pos hfin] at hlay
    have hcf : m.cls = cf := by
      obtain ⟨_, _, c', _, _, _, -, -, hf', -, -, -, hown2, -⟩ := Cond.laysFinal_spec hlay
      have e1 : c' = cf := by have := hi.symm.trans hf'; simp at this; exact this.1.symm
      rw [hf2] at hown2
      rw [← e1]; exact Option.some.inj (hown.symm.trans hown2)
    have h6 := u_fits hfc hkC hkind (Or.inr hlay) hi hty (hn G.2.2.2).1 (hn G.2.2.2).2
    exact W.putFinK hx hb hown (hts _ h4) hi hst hcf (hname hf1) (by rw [q2]; exact h6) q1 q3 (by rw [hsl]; exact k2_hasslot (q4 j hj)) rfl rfl h3 (fun H' e1 e2 e3 => kk H' _ e2 e3 (fin H' e1))
  · have hfin : (mm_F cl j).2.2.2 = false := by simpa using hfin
    rw [if_neg (by rw [hfin]; decide)] at hlay
    have h6 := u_store hfc hkC hkind hlay hi hty (hn G.2.2.2).1 (hn G.2.2.2).2
    exact W.putK hx hb (f := f) ⟨hown, hts _ h4, ⟨_, _, _, hi⟩, hst⟩ (by rw [q2]; exact h6) q1 q3 (by rw [hsl]; exact k2_hasslot (q4 j hj)) rfl rfl h3 (fun H' e1 e2 e3 => kk H' _ e2 e3 (fin H' e1))
theorem mm_fits_ref {ty : FieldType} (h : mm_fk ty = 2) (hb : ty ≠ .byte ∧ ty ≠ .short ∧ ty ≠ .char ∧ ty ≠ .float ∧ ty ≠ .double) (β : Nat → Nat) (r : Option Nat) : narrow ty (mm_v β (mm_rf r)) = mm_v β (mm_rf r) ∧ fits ty (mm_v β (mm_rf r)) = true := by
  cases r <;> cases ty <;> first | exact ⟨rfl, rfl⟩ | (simp [mm_fk] at h; done) | (simp at hb; done)
theorem mm_putI {X : mm_X} {d nc ns : Nat} {K : mm_K} {pc n : Nat} {ls : List (Option Value)} {st : List Value} {μ : mm_M} {Q : Option Value → mm_M → Prop} {a cl j : Nat} {x : Int32} (hd : mm_pf K pc cl j n) (hk : mm_ft cl j = .int) (ho : mm_ob μ a cl) (hf : (mm_F cl j).2.2.2 = false ∨ (K.1.name = "<init>" ∧ (mm_F cl j).1 = K.1.cls)) (h : mm_T X d nc ns K n ls st (mm_sI μ a j x) Q) : mm_T X d nc ns K pc ls (.int x :: .ref a :: st) μ Q := by
  refine mm_put0 (v := .int x) (μ' := mm_sI μ a j x) hd ho hf (fun β => by rw [hk]; exact ⟨rfl, rfl⟩) rfl rfl (fun G b hb => mm_ce_sI hb) (fun β => ?_) (fun β i hi => ?_) h
  · rw [mm_fv_int (by rw [hk]; rfl), mm_sI_at]
    simp [upd, mm_v]
  · unfold mm_fv
    rw [mm_sI_at]
    simp [upd, hi, mm_J, mm_P, mm_sI]
theorem mm_putZ {X : mm_X} {d nc ns : Nat} {K : mm_K} {pc n : Nat} {ls : List (Option Value)} {st : List Value} {μ : mm_M} {Q : Option Value → mm_M → Prop} {a cl j : Nat} {x : Int32} (hd : mm_pf K pc cl j n) (hk : mm_ft cl j = .boolean) (hx : x = 0 ∨ x = 1) (ho : mm_ob μ a cl) (hf : (mm_F cl j).2.2.2 = false ∨ (K.1.name = "<init>" ∧ (mm_F cl j).1 = K.1.cls)) (h : mm_T X d nc ns K n ls st (mm_sI μ a j x) Q) : mm_T X d nc ns K pc ls (.int x :: .ref a :: st) μ Q := by
  refine mm_put0 (v := .int x) (μ' := mm_sI μ a j x) hd ho hf (fun β => by rw [hk]; rcases hx with rfl | rfl; exact (by decide : narrow .boolean (.int 0) = .int 0 ∧ fits .boolean (.int 0) = true); exact (by decide : narrow .boolean (.int 1) = .int 1 ∧ fits .boolean (.int 1) = true)) rfl rfl (fun G b hb => mm_ce_sI hb) (fun β => ?_) (fun β i hi => ?_) h
  · rw [mm_fv_int (by rw [hk]; rfl), mm_sI_at]
    simp [upd, mm_v]
  · unfold mm_fv
    rw [mm_sI_at]
    simp [upd, hi, mm_J, mm_P, mm_sI]
theorem mm_putJ {X : mm_X} {d nc ns : Nat} {K : mm_K} {pc n : Nat} {ls : List (Option Value)} {st : List Value} {μ : mm_M} {Q : Option Value → mm_M → Prop} {a cl j : Nat} {x : Int64} (hd : mm_pf K pc cl j n) (hk : mm_ft cl j = .long) (ho : mm_ob μ a cl) (hf : (mm_F cl j).2.2.2 = false ∨ (K.1.name = "<init>" ∧ (mm_F cl j).1 = K.1.cls)) (h : mm_T X d nc ns K n ls st (mm_sJ μ a j x) Q) : mm_T X d nc ns K pc ls (.long x :: .ref a :: st) μ Q := by
  refine mm_put0 (v := .long x) (μ' := mm_sJ μ a j x) hd ho hf (fun β => by rw [hk]; exact ⟨rfl, rfl⟩) rfl rfl (fun G b hb => mm_ce_sJ hb) (fun β => ?_) (fun β i hi => ?_) h
  · rw [mm_fv_long (by rw [hk]; rfl), mm_sJ_at]
    simp [vp_updL, mm_v]
  · unfold mm_fv
    rw [mm_sJ_at]
    simp [vp_updL, hi, mm_I, mm_P, mm_sJ]
theorem mm_putR {X : mm_X} {d nc ns : Nat} {K : mm_K} {pc n : Nat} {ls : List (Option Value)} {st : List Value} {μ : mm_M} {Q : Option Value → mm_M → Prop} {a cl j : Nat} {r : Option Nat} (hd : mm_pf K pc cl j n) (hk : mm_fk (mm_ft cl j) = 2) (hb : mm_ft cl j ≠ .byte ∧ mm_ft cl j ≠ .short ∧ mm_ft cl j ≠ .char ∧ mm_ft cl j ≠ .float ∧ mm_ft cl j ≠ .double) (ho : mm_ob μ a cl) (hf : (mm_F cl j).2.2.2 = false ∨ (K.1.name = "<init>" ∧ (mm_F cl j).1 = K.1.cls)) (h : mm_T X d nc ns K n ls st (mm_sP μ a j r) Q) : mm_T X d nc ns K pc ls (mm_rf r :: .ref a :: st) μ Q := by
  refine mm_put0 (v := mm_rf r) (μ' := mm_sP μ a j r) hd ho hf (fun β => mm_fits_ref hk hb β r) rfl rfl (fun G b hb => mm_ce_sP hb) (fun β => ?_) (fun β i hi => ?_) h
  · rw [mm_fv_ref hk, mm_sP_at, mm_v_rf]
    simp [va_up]
  · unfold mm_fv
    rw [mm_sP_at]
    simp [va_up, hi, mm_I, mm_J, mm_sP]
theorem mm_putP {X : mm_X} {d nc ns : Nat} {K : mm_K} {pc n : Nat} {ls : List (Option Value)} {st : List Value} {μ : mm_M} {Q : Option Value → mm_M → Prop} {a cl j r : Nat} (hd : mm_pf K pc cl j n) (hk : mm_fk (mm_ft cl j) = 2) (hb : mm_ft cl j ≠ .byte ∧ mm_ft cl j ≠ .short ∧ mm_ft cl j ≠ .char ∧ mm_ft cl j ≠ .float ∧ mm_ft cl j ≠ .double) (ho : mm_ob μ a cl) (hf : (mm_F cl j).2.2.2 = false ∨ (K.1.name = "<init>" ∧ (mm_F cl j).1 = K.1.cls)) (h : mm_T X d nc ns K n ls st (mm_sP μ a j (some r)) Q) : mm_T X d nc ns K pc ls (.ref r :: .ref a :: st) μ Q := mm_putR (r := some r) hd hk hb ho hf h
/-! rules: arrays -/
theorem mm_iald {X : mm_X} {d nc ns : Nat} {K : mm_K} {pc n : Nat} {ls : List (Option Value)} {st : List Value} {μ : mm_M} {Q : Option Value → mm_M → Prop} {a k : Nat} {i : Int32} (hd : mm_d K pc .iaload 1 n) (ha : mm_ar μ a 0 k) (hi : vp_in i k) (h : mm_T X d nc ns K n ls (.int (mm_I μ a i.toNatClampNeg) :: st) μ Q) : mm_T X d nc ns K pc ls (.int i :: .ref a :: st) μ Q := by
  intro p l e R s m args below meth c G A H locs cells slots mc ms lsA hC hW hR h1 h2 hS hH hL
  have k := h p l e R s m args below meth c G A H locs cells slots mc ms lsA hC hW hR h1 h2 hS hH hL
  obtain ⟨h3, rfl⟩ := hd
  show W p l e R s m args below meth c H locs cells slots _ (F0 m pc lsA (.int i :: .ref (G.2.2.2 a) :: _))
  rw [mm_bad hW hH ha.1]
  exact va_iald hC.1 hC.2.1 hW.1 hH.2.2.1 a 0 ((mm_Wq ha.1).trans (by rw [mm_ce_ar ha]; rfl)) (mm_tyq G.2.1 (by decide)) hi h3 k
theorem mm_bald {X : mm_X} {d nc ns : Nat} {K : mm_K} {pc n : Nat} {ls : List (Option Value)} {st : List Value} {μ : mm_M} {Q : Option Value → mm_M → Prop} {a k : Nat} {i : Int32} (hd : mm_d K pc .baload 1 n) (ha : mm_ar μ a 1 k) (hi : vp_in i k) (h : mm_T X d nc ns K n ls (.int (mm_I μ a i.toNatClampNeg) :: st) μ Q) : mm_T X d nc ns K pc ls (.int i :: .ref a :: st) μ Q := by
  intro p l e R s m args below meth c G A H locs cells slots mc ms lsA hC hW hR h1 h2 hS hH hL
  have k := h p l e R s m args below meth c G A H locs cells slots mc ms lsA hC hW hR h1 h2 hS hH hL
  obtain ⟨h3, rfl⟩ := hd
  show W p l e R s m args below meth c H locs cells slots _ (F0 m pc lsA (.int i :: .ref (G.2.2.2 a) :: _))
  rw [mm_bad hW hH ha.1]
  exact va_bald hC.1 hC.2.1 hW.1 hH.2.2.1 a 1 ((mm_Wq ha.1).trans (by rw [mm_ce_ar ha]; rfl)) (mm_tyq G.2.1 (by decide)) hi h3 k
theorem mm_zald {X : mm_X} {d nc ns : Nat} {K : mm_K} {pc n : Nat} {ls : List (Option Value)} {st : List Value} {μ : mm_M} {Q : Option Value → mm_M → Prop} {a k : Nat} {i : Int32} (hd : mm_d K pc .baload 1 n) (ha : mm_ar μ a 2 k) (hi : vp_in i k) (h : mm_T X d nc ns K n ls (.int (mm_I μ a i.toNatClampNeg) :: st) μ Q) : mm_T X d nc ns K pc ls (.int i :: .ref a :: st) μ Q := by
  intro p l e R s m args below meth c G A H locs cells slots mc ms lsA hC hW hR h1 h2 hS hH hL
  have k := h p l e R s m args below meth c G A H locs cells slots mc ms lsA hC hW hR h1 h2 hS hH hL
  obtain ⟨h3, rfl⟩ := hd
  show W p l e R s m args below meth c H locs cells slots _ (F0 m pc lsA (.int i :: .ref (G.2.2.2 a) :: _))
  rw [mm_bad hW hH ha.1]
  exact va_zald hC.1 hC.2.1 hW.1 hH.2.2.1 a 2 ((mm_Wq ha.1).trans (by rw [mm_ce_ar ha]; rfl)) (mm_tyq G.2.1 (by decide)) hi h3 k
theorem mm_lald {X : mm_X} {d nc ns : Nat} {K : mm_K} {pc n : Nat} {ls : List (Option Value)} {st : List Value} {μ : mm_M} {Q : Option Value → mm_M → Prop} {a k : Nat} {i : Int32} (hd : mm_d K pc .laload 1 n) (ha : mm_ar μ a 3 k) (hi : vp_in i k) (h : mm_T X d nc ns K n ls (.long (mm_J μ a i.toNatClampNeg) :: st) μ Q) : mm_T X d nc ns K pc ls (.int i :: .ref a :: st) μ Q := by
  intro p l e R s m args below meth c G A H locs cells slots mc ms lsA hC hW hR h1 h2 hS hH hL
  have k := h p l e R s m args below meth c G A H locs cells slots mc ms lsA hC hW hR h1 h2 hS hH hL
  obtain ⟨h3, rfl⟩ := hd
  show W p l e R s m args below meth c H locs cells slots _ (F0 m pc lsA (.int i :: .ref (G.2.2.2 a) :: _))
  rw [mm_bad hW hH ha.1]
  exact va_lald hC.1 hC.2.1 hW.1 hH.2.2.1 a 3 ((mm_Wq ha.1).trans (by rw [mm_ce_ar ha]; rfl)) (mm_tyq G.2.1 (by decide)) hi h3 k
theorem mm_aald {X : mm_X} {d nc ns : Nat} {K : mm_K} {pc n : Nat} {ls : List (Option Value)} {st : List Value} {μ : mm_M} {Q : Option Value → mm_M → Prop} {a t k r : Nat} {i : Int32} (hd : mm_d K pc .aaload 1 n) (ha : mm_ar μ a (4 + t) k) (hi : vp_in i k) (hr : mm_P μ a i.toNatClampNeg = some r) (h : mm_T X d nc ns K n ls (.ref r :: st) μ Q) : mm_T X d nc ns K pc ls (.int i :: .ref a :: st) μ Q := by
  intro p l e R s m args below meth c G A H locs cells slots mc ms lsA hC hW hR h1 h2 hS hH hL
  have k := h p l e R s m args below meth c G A H locs cells slots mc ms lsA hC hW hR h1 h2 hS hH hL
  obtain ⟨h3, rfl⟩ := hd
  show W p l e R s m args below meth c H locs cells slots _ (F0 m pc lsA (.int i :: .ref (G.2.2.2 a) :: _))
  rw [mm_bad hW hH ha.1]
  have ht : t < 4 := by have := ha.2.2; omega
  have e1 : mm_ac G μ a (4 + t) = .inr (.inr (.inr (.inr (fun i => (mm_P μ a i).map G.2.2.2)))) := by
    rw [Nat.add_comm]; rfl
  obtain ⟨C, hC9⟩ : ∃ C, mm_ty (4 + t) = .object C := by
    match t, ht with
    | 0, _ => exact ⟨_, rfl⟩
    | 1, _ => exact ⟨_, rfl⟩
    | 2, _ => exact ⟨_, rfl⟩
    | 3, _ => exact ⟨_, rfl⟩
    | t + 4, ht => exact absurd ht (by omega)
  refine va_aldq (C := C) hC.1 hC.2.1 hW.1 hH.2.2.1 a (4 + t) ((mm_Wq ha.1).trans (by rw [mm_ce_ar ha, e1])) ((mm_tyq G.2.1 ha.2.2).trans (by rw [hC9])) hi h3 ?_
  rw [hr]
  exact k
theorem mm_alen {X : mm_X} {d nc ns : Nat} {K : mm_K} {pc n : Nat} {ls : List (Option Value)} {st : List Value} {μ : mm_M} {Q : Option Value → mm_M → Prop} {a t k0 : Nat} (hd : mm_d K pc .arraylength 1 n) (ha : mm_ar μ a t k0) (h : mm_T X d nc ns K n ls (.int (Int32.ofNat k0) :: st) μ Q) : mm_T X d nc ns K pc ls (.ref a :: st) μ Q := by
  intro p l e R s m args below meth c G A H locs cells slots mc ms lsA hC hW hR h1 h2 hS hH hL
  have k := h p l e R s m args below meth c G A H locs cells slots mc ms lsA hC hW hR h1 h2 hS hH hL
  obtain ⟨h3, rfl⟩ := hd
  show W p l e R s m args below meth c H locs cells slots _ (F0 m pc lsA (.ref (G.2.2.2 a) :: _))
  rw [mm_bad hW hH ha.1]
  exact va_alen (x := (k0, mm_ac G μ a t)) hC.1 hC.2.1 hW.1 hH.2.2.1 a t ((mm_Wq ha.1).trans (by rw [mm_ce_ar ha])) (mm_tyq G.2.1 ha.2.2) rfl h3 k
theorem mm_iast {X : mm_X} {d nc ns : Nat} {K : mm_K} {pc n : Nat} {ls : List (Option Value)} {st : List Value} {μ : mm_M} {Q : Option Value → mm_M → Prop} {a k : Nat} {i : Int32} {x : Int32} (hd : mm_d K pc .iastore 1 n) (ha : mm_ar μ a 0 k) (hi : vp_in i k) (h : mm_T X d nc ns K n ls st (mm_sI μ a i.toNatClampNeg x) Q) : mm_T X d nc ns K pc ls (.int x :: .int i :: .ref a :: st) μ Q := by
  intro p l e R s m args below meth c G A H locs cells slots mc ms lsA hC hW hR h1 h2 hS hH hL
  obtain ⟨h3, rfl⟩ := hd
  show W p l e R s m args below meth c H locs cells slots _ (F0 m pc lsA (.int x :: .int i :: .ref (G.2.2.2 a) :: _))
  rw [mm_bad hW hH ha.1]
  have e0 : (mm_W G μ)[a]? = some (G.2.2.1 + a, .inl (G.2.1 0, k, mm_ac G μ a 0)) := (mm_Wq ha.1).trans (by rw [mm_ce_ar ha])
  refine W.iast hC.1 hC.2.1 (hH.2.2.1 a _ e0) ((hW.1.2 0 _ (mm_tyq G.2.1 (by decide))).1 k (fun j => .int (mm_I μ a j))) (fun q => by cases q) (by show ¬ (i < 0 ∨ (arrV _ _ _).slots.size ≤ _); rw [arrV_size]; exact hi) rfl rfl h3 (fun H1 e1 z oq => ?_)
  have ha' : mm_ar (mm_sI μ a i.toNatClampNeg x) a 0 k := ha
  refine h p l e R s m args below meth c G A H1 _ cells slots mc ms lsA hC hW hR h1 h2 (hS.put z oq (hH.2.2.2.2 a _ e0)) (hH.put ha.1 rfl (fun b hb => mm_ce_sI hb) z oq ?_) hL
  rw [mm_ce_ar ha']
  show H1[_]? = some (vp_cell _ _)
  rw [e1]
  show some ((arrV (G.2.1 0) k (fun j => .int (mm_I μ a j))).setSlot i.toNatClampNeg _) = some (arrV (G.2.1 0) k (fun j => .int (mm_I (mm_sI μ a i.toNatClampNeg x) a j)))
  rw [arrV_store]
  congr 2
  funext q
  by_cases hq : q = i.toNatClampNeg
  · subst hq
    simp [updV, upd, mm_sI_at]
    try rfl
  · simp [updV, hq, upd, mm_sI_at]
theorem mm_bast {X : mm_X} {d nc ns : Nat} {K : mm_K} {pc n : Nat} {ls : List (Option Value)} {st : List Value} {μ : mm_M} {Q : Option Value → mm_M → Prop} {a k : Nat} {i : Int32} {x : Int32} (hd : mm_d K pc .bastore 1 n) (ha : mm_ar μ a 1 k) (hi : vp_in i k) (h : mm_T X d nc ns K n ls st (mm_sI μ a i.toNatClampNeg (vp_nar .byte x)) Q) : mm_T X d nc ns K pc ls (.int x :: .int i :: .ref a :: st) μ Q := by
  intro p l e R s m args below meth c G A H locs cells slots mc ms lsA hC hW hR h1 h2 hS hH hL
  obtain ⟨h3, rfl⟩ := hd
  show W p l e R s m args below meth c H locs cells slots _ (F0 m pc lsA (.int x :: .int i :: .ref (G.2.2.2 a) :: _))
  rw [mm_bad hW hH ha.1]
  have e0 : (mm_W G μ)[a]? = some (G.2.2.1 + a, .inl (G.2.1 1, k, mm_ac G μ a 1)) := (mm_Wq ha.1).trans (by rw [mm_ce_ar ha])
  refine W.bast hC.1 hC.2.1 (hH.2.2.1 a _ e0) ((hW.1.2 1 _ (mm_tyq G.2.1 (by decide))).1 k (fun j => .int (mm_I μ a j))) (fun q => by cases q) (by show ¬ (i < 0 ∨ (arrV _ _ _).slots.size ≤ _); rw [arrV_size]; exact hi) rfl rfl h3 (fun H1 e1 z oq => ?_)
  have ha' : mm_ar (mm_sI μ a i.toNatClampNeg (vp_nar .byte x)) a 1 k := ha
  refine h p l e R s m args below meth c G A H1 _ cells slots mc ms lsA hC hW hR h1 h2 (hS.put z oq (hH.2.2.2.2 a _ e0)) (hH.put ha.1 rfl (fun b hb => mm_ce_sI hb) z oq ?_) hL
  rw [mm_ce_ar ha']
  show H1[_]? = some (vp_cell _ _)
  rw [e1]
  show some ((arrV (G.2.1 1) k (fun j => .int (mm_I μ a j))).setSlot i.toNatClampNeg _) = some (arrV (G.2.1 1) k (fun j => .int (mm_I (mm_sI μ a i.toNatClampNeg (vp_nar .byte x)) a j)))
  rw [arrV_store]
  congr 2
  funext q
  by_cases hq : q = i.toNatClampNeg
  · subst hq
    simp [updV, upd, mm_sI_at, vp_nar]
    try rfl
  · simp [updV, hq, upd, mm_sI_at, vp_nar]
theorem mm_zast {X : mm_X} {d nc ns : Nat} {K : mm_K} {pc n : Nat} {ls : List (Option Value)} {st : List Value} {μ : mm_M} {Q : Option Value → mm_M → Prop} {a k : Nat} {i : Int32} {x : Int32} (hd : mm_d K pc .bastore 1 n) (ha : mm_ar μ a 2 k) (hi : vp_in i k) (h : mm_T X d nc ns K n ls st (mm_sI μ a i.toNatClampNeg (vp_nar .boolean x)) Q) : mm_T X d nc ns K pc ls (.int x :: .int i :: .ref a :: st) μ Q := by
  intro p l e R s m args below meth c G A H locs cells slots mc ms lsA hC hW hR h1 h2 hS hH hL
  obtain ⟨h3, rfl⟩ := hd
  show W p l e R s m args below meth c H locs cells slots _ (F0 m pc lsA (.int x :: .int i :: .ref (G.2.2.2 a) :: _))
  rw [mm_bad hW hH ha.1]
  have e0 : (mm_W G μ)[a]? = some (G.2.2.1 + a, .inl (G.2.1 2, k, mm_ac G μ a 2)) := (mm_Wq ha.1).trans (by rw [mm_ce_ar ha])
  refine W.zast hC.1 hC.2.1 (hH.2.2.1 a _ e0) ((hW.1.2 2 _ (mm_tyq G.2.1 (by decide))).1 k (fun j => .int (mm_I μ a j))) (fun q => by cases q) (by show ¬ (i < 0 ∨ (arrV _ _ _).slots.size ≤ _); rw [arrV_size]; exact hi) rfl rfl h3 (fun H1 e1 z oq => ?_)
  have ha' : mm_ar (mm_sI μ a i.toNatClampNeg (vp_nar .boolean x)) a 2 k := ha
  refine h p l e R s m args below meth c G A H1 _ cells slots mc ms lsA hC hW hR h1 h2 (hS.put z oq (hH.2.2.2.2 a _ e0)) (hH.put ha.1 rfl (fun b hb => mm_ce_sI hb) z oq ?_) hL
  rw [mm_ce_ar ha']
  show H1[_]? = some (vp_cell _ _)
  rw [e1]
  show some ((arrV (G.2.1 2) k (fun j => .int (mm_I μ a j))).setSlot i.toNatClampNeg _) = some (arrV (G.2.1 2) k (fun j => .int (mm_I (mm_sI μ a i.toNatClampNeg (vp_nar .boolean x)) a j)))
  rw [arrV_store]
  congr 2
  funext q
  by_cases hq : q = i.toNatClampNeg
  · subst hq
    simp [updV, upd, mm_sI_at, vp_nar]
    try rfl
  · simp [updV, hq, upd, mm_sI_at, vp_nar]
theorem mm_last {X : mm_X} {d nc ns : Nat} {K : mm_K} {pc n : Nat} {ls : List (Option Value)} {st : List Value} {μ : mm_M} {Q : Option Value → mm_M → Prop} {a k : Nat} {i : Int32} {x : Int64} (hd : mm_d K pc .lastore 1 n) (ha : mm_ar μ a 3 k) (hi : vp_in i k) (h : mm_T X d nc ns K n ls st (mm_sJ μ a i.toNatClampNeg x) Q) : mm_T X d nc ns K pc ls (.long x :: .int i :: .ref a :: st) μ Q := by
  intro p l e R s m args below meth c G A H locs cells slots mc ms lsA hC hW hR h1 h2 hS hH hL
  obtain ⟨h3, rfl⟩ := hd
  show W p l e R s m args below meth c H locs cells slots _ (F0 m pc lsA (.long x :: .int i :: .ref (G.2.2.2 a) :: _))
  rw [mm_bad hW hH ha.1]
  have e0 : (mm_W G μ)[a]? = some (G.2.2.1 + a, .inl (G.2.1 3, k, mm_ac G μ a 3)) := (mm_Wq ha.1).trans (by rw [mm_ce_ar ha])
  refine W.last hC.1 hC.2.1 (hH.2.2.1 a _ e0) ((hW.1.2 3 _ (mm_tyq G.2.1 (by decide))).1 k (fun j => .long (mm_J μ a j))) (fun q => by cases q) (by show ¬ (i < 0 ∨ (arrV _ _ _).slots.size ≤ _); rw [arrV_size]; exact hi) rfl rfl h3 (fun H1 e1 z oq => ?_)
  have ha' : mm_ar (mm_sJ μ a i.toNatClampNeg x) a 3 k := ha
  refine h p l e R s m args below meth c G A H1 _ cells slots mc ms lsA hC hW hR h1 h2 (hS.put z oq (hH.2.2.2.2 a _ e0)) (hH.put ha.1 rfl (fun b hb => mm_ce_sJ hb) z oq ?_) hL
  rw [mm_ce_ar ha']
  show H1[_]? = some (vp_cell _ _)
  rw [e1]
  show some ((arrV (G.2.1 3) k (fun j => .long (mm_J μ a j))).setSlot i.toNatClampNeg _) = some (arrV (G.2.1 3) k (fun j => .long (mm_J (mm_sJ μ a i.toNatClampNeg x) a j)))
  rw [arrV_store]
  congr 2
  funext q
  by_cases hq : q = i.toNatClampNeg
  · subst hq
    simp [updV, vp_updL, mm_sJ_at]
    try rfl
  · simp [updV, hq, vp_updL, mm_sJ_at]
