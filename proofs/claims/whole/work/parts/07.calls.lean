/-! rules: calls -/
def mm_w (K : mm_K) : List Cond := Cond.code K.1 K.2.1 K.2.2.1 K.2.2.2 :: mm_ws
def mm_A (G : mm_G) (μ : mm_M) : Nat → Prop := va_A (mm_W G μ) (G.2.2.1 + mm_n μ)
def mm_ok (K : mm_K) (np : Nat) : Prop := Cond.code K.1 K.2.1 K.2.2.1 K.2.2.2 ∈ mm_ws ∧ Cond.initialized K.1.cls ∈ mm_ws ∧ plainName K.1.cls = true ∧ (K.1.cls ≠ "java/lang/invoke/MethodHandle" ∧ K.1.cls ≠ "java/lang/invoke/VarHandle") ∧ K.2.2.1 ≤ 41 ∧ (parseMethodDescriptor K.1.desc).map (fun d => d.parameters.length) = some np
theorem mm_good {K : mm_K} {np : Nat} (h : mm_ok K np) : GoodIn mm_ws (mm_w K) := by
  intro w hw
  have hin : w ∈ mm_ws := by
    rcases List.mem_cons.mp hw with rfl | hw
    · exact h.1
    · exact hw
  exact ⟨hin, good_of_word (List.mem_filter.mp hin).2⟩
theorem mm_met {X : mm_X} {d nc ns : Nat} {K : mm_K} {av : List Value} {μ : mm_M} {Q : Option Value → mm_M → Prop} (l : Launch) (G : mm_G) (h : mm_C X d nc ns K av μ Q) (hpn : plainName K.1.cls = true) (hav : (mm_as av).length ≤ K.2.2.1) :
    Met l K.1 (mm_w K) ({ frames := d, cells := nc, slots := ns, locals := 60 * d }) (va_Pc (av.map (mm_v G.2.2.2)) (fun U => mm_Wo X G (mm_A G μ) U ∧ mm_Re G (mm_A G μ) μ U.heap)) (mm_Q G Q (mm_A G μ)) nc ns (mm_A G μ) := by
  refine Met.ofW (cc := K.2.1) (maxL := K.2.2.1) (ret := K.2.2.2) hpn rfl ?_
  intro p e s m args below meth c s₁ B hml hv
  obtain ⟨rfl, hW, hH⟩ := hv
  have hts := atoms_spec (ws := mm_w K) B.pre
  rw [lg_entry_eq]
  exact h p l e _ s m _ below meth c G _ s.heap [] 0 0 nc ns _ ⟨B.exec, B.bytes, hml, B.returns, B.notSynchronized, fun h => (name_of_methodNamed B.named B.method).1.trans h, findClass_of_methodNamed B.named, fun w hw => hts w (List.mem_cons_of_mem _ hw)⟩ hW ⟨Nat.le_refl _, Nat.le_refl _, Nat.le_refl _, Nat.le_refl _⟩ (by omega) (by omega) va_S.rf hH (mm_Lo.entry av hav)
theorem mm_blind {X : mm_X} {G : mm_G} {A : Nat → Prop} {μ : mm_M} {av : List Value} : FrameBlind (va_Pc av (fun U => mm_Wo X G A U ∧ mm_Re G A μ U.heap)) := by
  intro a U g mk q
  obtain ⟨q0, ⟨k1, k2, k3, k4, k5⟩, qH⟩ := q
  exact ⟨q0, ⟨va_K.moved (u := U) (U := U.calling g mk a) (Vm.Alike.refl U.vm) k1, mm_N.same k2 rfl, mm_Z.same k3 rfl rfl, k4, k5⟩, qH⟩
theorem mm_sub {X : mm_X} {G : mm_G} {A : Nat → Prop} {s : State} {μ : mm_M} {H : Heap} {locs : List Loc} (hW : mm_Wo X G A s) (hS : va_S A s.heap H locs) (hH : mm_Re G A μ H) : ∀ q, mm_A G μ q → A q := by
  intro q hq
  rcases hq with ⟨k, e, h⟩ | h
  · exact hH.2.2.2.2 k _ h
  · exact hW.2.2.2.1 q (Nat.le_trans hS.1 (by rw [hH.1]; exact h))
theorem mm_pre {X : mm_X} {G : mm_G} {A : Nat → Prop} {s : State} {μ : mm_M} {H : Heap} {locs : List Loc} (hW : mm_Wo X G A s) (hS : va_S A s.heap H locs) (hH : mm_Re G A μ H) (U : State) (hU : U.heap = H) (hw : s.WarmedH U.vm) : mm_Wo X G (mm_A G μ) U ∧ mm_Re G (mm_A G μ) μ U.heap := by
  have hs := mm_sub hW hS hH
  obtain ⟨k1, k2, k3, k4, k5⟩ := hW
  refine ⟨⟨va_K.moved hw.alike k1, k2.to hw, k3.to hw (fun a h1 h2 => by rw [hU]; exact hS.2.1 a h1 h2) hs, fun q hq => Or.inr (by rw [← hH.1, ← hU]; exact hq), k5⟩, ?_⟩
  rw [hU]
  exact ⟨hH.1, hH.2.1, hH.2.2.1, hH.2.2.2.self⟩
theorem mm_after {p : Program} {l : Launch} {e : Env} {R : Room} {s : State} {m : MethodId} {args : Array Value} {below : List Frame} {meth : Method} {c : Code} {G : mm_G} {A A1 : Nat → Prop} {H : Heap} {locs : List Loc} {cells slots nc' ns' : Nat} {lsA : Array Slot} {pc : Nat} {st0 rest : List Value} {a : Array Value} {Q' : Option Value → mm_M → Prop} {Z : State → Prop}
    (hr : va_Run p l e R s m args below meth c H locs cells slots nc' ns' (F0 m pc lsA st0) rest (mm_Q G Q' A1 a) A1) (hS : va_S A s.heap H locs) (hA : ∀ q, A1 q → A q)
    (kk : ∀ (v : Option Value) (μ' : mm_M) (H1 : Heap) (locs1 : List Loc), Q' v μ' → mm_Re G A μ' H1 → va_S A s.heap H1 locs1 → W p l e R s m args below meth c H1 locs1 (cells + nc') (slots + ns') Z (F0 m (pc + 3) lsA ((v.map (mm_v G.2.2.2)).toList ++ rest))) : W p l e R s m args below meth c H locs cells slots Z (F0 m pc lsA st0) := by
  intro T hT X
  obtain ⟨v, st₀, t, T', L, h0, X', hL, e1, e2, ⟨⟨v', μ', hv, hq, hb⟩, hz, hk⟩, st⟩ := hr T hT X
  cases hv
  rw [h0] at hz hk
  obtain ⟨t2, a1, b1⟩ := kk v' μ' T'.heap (locs ++ L) hq (by rw [e1]; exact ⟨hb.1, hb.2.1, hb.2.2.1, hb.2.2.2.weaken (fun _ q _ h => hA q.1 h)⟩)
    ⟨Nat.le_trans hS.1 (by rw [e1]; exact hz), fun q h1 h2 => by rw [e1, hk q (Nat.lt_of_lt_of_le h1 hS.1) (fun z => h2 (hA q z))]; exact hS.2.1 q h1 h2, fun q hq => by
      rcases List.mem_append.mp hq with h | h
      · exact hS.2.2 q h
      · exact hA _ (hL q h)⟩ T' rfl X'
  exact ⟨t2, st t2 a1, b1⟩
def mm_cs (K K' : mm_K) (pc n np : Nat) : Prop := (∃ idx : Nat, decode K.2.1 pc = .ok (.invokestatic idx, 3) ∧ (Cond.methodLink K.1.cls idx K'.1 ∈ mm_ws ∨ ∃ host : String, Cond.methodLinkNest K.1.cls idx K'.1 host ∈ mm_nest)) ∧ pc + 3 = n ∧ Cond.static K'.1 ∈ mm_ws ∧ mm_ok K' np
def mm_cv (K K' : mm_K) (pc n np cl : Nat) : Prop := (∃ idx : Nat, decode K.2.1 pc = .ok (.invokevirtual idx, 3) ∧ Cond.methodLink K.1.cls idx K'.1 ∈ mm_ws) ∧ pc + 3 = n ∧ Cond.instanceMethod K'.1 ∈ mm_ws ∧ Cond.selects (mm_R cl) K'.1 K'.1 ∈ mm_ws ∧ K'.1.cls = mm_R cl ∧ cl < 11 ∧ mm_ok K' np
def mm_ci' (K K' : mm_K) (pc n np : Nat) : Prop := (∃ idx : Nat, decode K.2.1 pc = .ok (.invokespecial idx, 3) ∧ (Cond.methodLink K.1.cls idx K'.1 ∈ mm_ws ∨ ∃ host : String, Cond.methodLinkNest K.1.cls idx K'.1 host ∈ mm_nest)) ∧ pc + 3 = n ∧ Cond.instanceMethod K'.1 ∈ mm_ws ∧ K'.1.name = "<init>" ∧ K'.2.2.2 = none ∧ mm_ok K' np
theorem mm_cats {β : Nat → Nat} (l : List Value) : (((l.map (mm_v β)).map fun v => v.category).sum) = (l.map fun v => v.category).sum := by
  induction l with
  | nil => rfl
  | cons v t ih =>
    simp only [List.map_cons, List.sum_cons, mm_v_cat]
    rw [ih]
theorem mm_tol {β : Nat → Nat} (v : Option Value) (rest : List Value) : (v.map (mm_v β)).toList ++ rest.map (mm_v β) = (v.toList ++ rest).map (mm_v β) := by cases v <;> rfl
theorem mm_room {R : Room} {d d' mc ms maxL : Nat} (hR : mm_Rm R d mc ms) (hd : d' + 1 ≤ d) (hm : maxL ≤ 41) : d' + 1 ≤ R.frames ∧ 8 + (maxL + 11) + 60 * d' ≤ R.locals := by
  obtain ⟨h1, h2, -⟩ := hR
  exact ⟨Nat.le_trans hd h1, by omega⟩
theorem mm_static {X : mm_X} {d nc ns : Nat} {K : mm_K} {pc n : Nat} {ls : List (Option Value)} {st : List Value} {μ : mm_M} {Q : Option Value → mm_M → Prop} {K' : mm_K} {d' nc' ns' np : Nat} {av rest : List Value} (hd : mm_cs K K' pc n np) (hlen : av.length = np) (hst : st = av.reverse ++ rest) (hav : (mm_as av).length ≤ K'.2.2.1) (hcat : (rest.map fun v => v.category).sum ≤ 8) (hdd : d' + 1 ≤ d) (hc : mm_C X d' nc' ns' K' av μ (fun v μ' => mm_T X d nc ns K n ls (v.toList ++ rest) μ' Q)) : mm_T X d (nc' + nc) (ns' + ns) K pc ls st μ Q := by
  intro p l e R s m args below meth c G A H locs cells slots mc ms lsA hC hW hR h1 h2 hS hH hL
  obtain ⟨⟨idx, h3, h4⟩, rfl, h5, hok⟩ := hd
  subst hst
  have hM := mm_met l G hc hok.2.2.1 hav
  have hts := hC.2.2.2.2.2.2.2
  have hlo : lsA.size = K.2.2.1 := hL.1
  have hrun : va_Run p l e R s m args below meth c H locs cells slots nc' ns' (F0 m pc lsA ((av.reverse ++ rest).map (mm_v G.2.2.2))) (rest.map (mm_v G.2.2.2)) (mm_Q G (fun v μ' => mm_T X d nc ns K (pc + 3) ls (v.toList ++ rest) μ' Q) (mm_A G μ) (av.map (mm_v G.2.2.2)).toArray) (mm_A G μ) := by
    have hRc := hR.2.2.1
    have hRs := hR.2.2.2
    rcases h4 with h4 | ⟨host, h4⟩
    · exact va_runS (cc := K.2.1) (nL := K.2.2.1) (Ts := mm_ws) (own := K.1.cls) (ret := K'.2.2.2) (maxL := K'.2.2.1) (bytes := K'.2.1) ⟨hC.1, hC.2.1, hC.2.2.1, hC.2.2.2.2.2.2.1, hts⟩ hM ⟨callB_of np hts (mm_good hok) rfl rfl rfl (hts _ hok.2.1) (hts _ h4) ⟨hok.2.2.2.1.1, hok.2.2.2.1.2, hok.2.2.2.2.2⟩ (mm_room hR hdd hok.2.2.2.2.1), hts _ h5⟩ ⟨mm_blind, fun U hU hw => ⟨rfl, mm_pre hW hS hH U hU hw⟩⟩ rfl (by rw [List.length_map]; exact hlen) hlo (by simp) (by rw [← mm_cats (β := G.2.2.2)] at hcat; simpa using hcat) h3 ⟨by omega, by omega⟩
    · exact va_runSN (cc := K.2.1) (nL := K.2.2.1) (Ts := mm_ws) (own := K.1.cls) (host := host) (ret := K'.2.2.2) (maxL := K'.2.2.1) (bytes := K'.2.1) ⟨hC.1, hC.2.1, hC.2.2.1, hC.2.2.2.2.2.2.1, hts⟩ hM ⟨va_cnB np hts (mm_good hok) rfl rfl rfl (hW.2.1.1 _ h4) (hts _ hok.2.1) ⟨hok.2.2.2.1.1, hok.2.2.2.1.2, hok.2.2.2.2.2⟩ (mm_room hR hdd hok.2.2.2.2.1), hts _ h5, trivial⟩ ⟨mm_blind, fun U hU hw => ⟨rfl, mm_pre hW hS hH U hU hw⟩⟩ rfl (by rw [List.length_map]; exact hlen) hlo (by simp) (by rw [← mm_cats (β := G.2.2.2)] at hcat; simpa using hcat) h3 ⟨by omega, by omega⟩
  refine mm_after hrun hS (mm_sub hW hS hH) (fun v μ' H1 locs1 hq hH1 hS1 => ?_)
  rw [mm_tol]
  exact hq p l e R s m args below meth c G A H1 locs1 _ _ mc ms lsA hC hW hR (by omega) (by omega) hS1 hH1 hL
theorem mm_virtual {X : mm_X} {d nc ns : Nat} {K : mm_K} {pc n : Nat} {ls : List (Option Value)} {st : List Value} {μ : mm_M} {Q : Option Value → mm_M → Prop} {K' : mm_K} {d' nc' ns' np cl r : Nat} {av rest : List Value} (hd : mm_cv K K' pc n np cl) (ho : mm_ob μ r cl) (hlen : av.length = np) (hst : st = av.reverse ++ .ref r :: rest) (hav : (mm_as (.ref r :: av)).length ≤ K'.2.2.1) (hcat : (rest.map fun v => v.category).sum ≤ 8) (hdd : d' + 1 ≤ d) (hc : mm_C X d' nc' ns' K' (.ref r :: av) μ (fun v μ' => mm_T X d nc ns K n ls (v.toList ++ rest) μ' Q)) : mm_T X d (nc' + nc) (ns' + ns) K pc ls st μ Q := by
  intro p l e R s m args below meth c G A H locs cells slots mc ms lsA hC hW hR h1 h2 hS hH hL
  obtain ⟨⟨idx, h3, h4⟩, rfl, h5, h6, hcls, hcl, hok⟩ := hd
  subst hst
  have hM := mm_met l G hc hok.2.2.1 hav
  have hts := hC.2.2.2.2.2.2.2
  have hlo : lsA.size = K.2.2.1 := hL.1
  have hRc := hR.2.2.1
  have hRs := hR.2.2.2
  have hrecv : ∃ cell : Cell, H[G.2.2.2 r]? = some cell ∧ cell.vm.isStatics = false ∧ s.vm.findClass (mm_R cl) = some cell.cls := by
    rw [mm_bad hW hH ho.1]
    exact va_recv hW.1 hH.2.2.1 (mm_clq ho.2.2) ((mm_Wq ho.1).trans (by rw [mm_ce_ob ho]))
  have hrun : va_Run p l e R s m args below meth c H locs cells slots nc' ns' (F0 m pc lsA ((av.reverse ++ .ref r :: rest).map (mm_v G.2.2.2))) (rest.map (mm_v G.2.2.2)) (mm_Q G (fun v μ' => mm_T X d nc ns K (pc + 3) ls (v.toList ++ rest) μ' Q) (mm_A G μ) (Value.ref (G.2.2.2 r) :: av.map (mm_v G.2.2.2)).toArray) (mm_A G μ) :=
    va_runV (cc := K.2.1) (nL := K.2.2.1) (Ts := mm_ws) (own := K.1.cls) (C := mm_R cl) (ret := K'.2.2.2) (maxL := K'.2.2.1) (bytes := K'.2.1) ⟨hC.1, hC.2.1, hC.2.2.1, hC.2.2.2.2.2.2.1, hts⟩ hM ⟨callB_of np hts (mm_good hok) rfl rfl rfl (hts _ hok.2.1) (hts _ h4) ⟨hok.2.2.2.1.1, hok.2.2.2.1.2, hok.2.2.2.2.2⟩ (mm_room hR hdd hok.2.2.2.2.1), hts _ h5, hts _ h6⟩ ⟨mm_blind, hrecv, fun U hU hw => ⟨rfl, mm_pre hW hS hH U hU hw⟩⟩ rfl (by rw [List.length_map]; exact hlen) hlo (by simp [mm_v]) (by rw [← mm_cats (β := G.2.2.2)] at hcat; simpa using hcat) h3 ⟨by omega, by omega⟩
  refine mm_after hrun hS (mm_sub hW hS hH) (fun v μ' H1 locs1 hq hH1 hS1 => ?_)
  rw [mm_tol]
  exact hq p l e R s m args below meth c G A H1 locs1 _ _ mc ms lsA hC hW hR (by omega) (by omega) hS1 hH1 hL
theorem mm_special {X : mm_X} {d nc ns : Nat} {K : mm_K} {pc n : Nat} {ls : List (Option Value)} {st : List Value} {μ : mm_M} {Q : Option Value → mm_M → Prop} {K' : mm_K} {d' nc' ns' np r : Nat} {av rest : List Value} (hd : mm_ci' K K' pc n np) (hlen : av.length = np) (hst : st = av.reverse ++ .ref r :: rest) (hav : (mm_as (.ref r :: av)).length ≤ K'.2.2.1) (hcat : (rest.map fun v => v.category).sum ≤ 8) (hdd : d' + 1 ≤ d) (hc : mm_C X d' nc' ns' K' (.ref r :: av) μ (fun v μ' => mm_T X d nc ns K n ls (v.toList ++ rest) μ' Q)) : mm_T X d (nc' + nc) (ns' + ns) K pc ls st μ Q := by
  intro p l e R s m args below meth c G A H locs cells slots mc ms lsA hC hW hR h1 h2 hS hH hL
  obtain ⟨⟨idx, h3, h4⟩, rfl, h5, h6, h7, hok⟩ := hd
  subst hst
  have hM := mm_met l G hc hok.2.2.1 hav
  have hts := hC.2.2.2.2.2.2.2
  have hlo : lsA.size = K.2.2.1 := hL.1
  have hrun : va_Run p l e R s m args below meth c H locs cells slots nc' ns' (F0 m pc lsA ((av.reverse ++ .ref r :: rest).map (mm_v G.2.2.2))) (rest.map (mm_v G.2.2.2)) (mm_Q G (fun v μ' => mm_T X d nc ns K (pc + 3) ls (v.toList ++ rest) μ' Q) (mm_A G μ) (Value.ref (G.2.2.2 r) :: av.map (mm_v G.2.2.2)).toArray) (mm_A G μ) := by
    have hRc := hR.2.2.1
    have hRs := hR.2.2.2
    have hgo := mm_good hok
    unfold mm_w at hM hgo
    rw [h7] at hM hgo
    rcases h4 with h4 | ⟨host, h4⟩
    · exact va_runI (cc := K.2.1) (nL := K.2.2.1) (Ts := mm_ws) (own := K.1.cls) (maxL := K'.2.2.1) (bytes := K'.2.1) ⟨hC.1, hC.2.1, hC.2.2.1, hC.2.2.2.2.2.2.1, hts⟩ hM ⟨callB_of np hts hgo rfl rfl rfl (hts _ hok.2.1) (hts _ h4) ⟨hok.2.2.2.1.1, hok.2.2.2.1.2, hok.2.2.2.2.2⟩ (mm_room hR hdd hok.2.2.2.2.1), h6, hts _ h5⟩ ⟨mm_blind, fun U hU hw => ⟨rfl, mm_pre hW hS hH U hU hw⟩⟩ rfl (by rw [List.length_map]; exact hlen) hlo (by simp [mm_v]) (by rw [← mm_cats (β := G.2.2.2)] at hcat; simpa using hcat) h3 ⟨by omega, by omega⟩
    · exact va_runIN (cc := K.2.1) (nL := K.2.2.1) (Ts := mm_ws) (own := K.1.cls) (host := host) (maxL := K'.2.2.1) (bytes := K'.2.1) ⟨hC.1, hC.2.1, hC.2.2.1, hC.2.2.2.2.2.2.1, hts⟩ hM ⟨va_cnB np hts hgo rfl rfl rfl (hW.2.1.1 _ h4) (hts _ hok.2.1) ⟨hok.2.2.2.1.1, hok.2.2.2.1.2, hok.2.2.2.2.2⟩ (mm_room hR hdd hok.2.2.2.2.1), h6, hts _ h5⟩ ⟨mm_blind, fun U hU hw => ⟨rfl, mm_pre hW hS hH U hU hw⟩⟩ rfl (by rw [List.length_map]; exact hlen) hlo (by simp [mm_v]) (by rw [← mm_cats (β := G.2.2.2)] at hcat; simpa using hcat) h3 ⟨by omega, by omega⟩
  refine mm_after hrun hS (mm_sub hW hS hH) (fun v μ' H1 locs1 hq hH1 hS1 => ?_)
  rw [mm_tol]
  exact hq p l e R s m args below meth c G A H1 locs1 _ _ mc ms lsA hC hW hR (by omega) (by omega) hS1 hH1 hL
def mm_oi (K : mm_K) (pc n : Nat) : Prop := (∃ idx : Nat, decode K.2.1 pc = .ok (.invokespecial idx, 3) ∧ Cond.methodLink K.1.cls idx objectInit ∈ mm_ws) ∧ pc + 3 = n
theorem mm_oiw : Cond.instanceMethod objectInit ∈ mm_ws ∧ Cond.code objectInit ⟨#[0xb1]⟩ 1 none ∈ mm_ws := ⟨mm_in (mm_m1 (List.mem_of_getElem? (i := 27) rfl)) rfl, mm_in (mm_m1 (List.mem_of_getElem? (i := 28) rfl)) rfl⟩
theorem mm_oinit {X : mm_X} {d nc ns : Nat} {K : mm_K} {pc n : Nat} {ls : List (Option Value)} {st : List Value} {μ : mm_M} {Q : Option Value → mm_M → Prop} {r : Nat} (hd : mm_oi K pc n) (hdd : 1 ≤ d) (hcat : (st.map fun v => v.category).sum ≤ 8) (h : mm_T X d nc ns K n ls st μ Q) : mm_T X d nc ns K pc ls (.ref r :: st) μ Q := by
  intro p l e R s m args below meth c G A H locs cells slots mc ms lsA hC hW hR h1 h2 hS hH hL
  obtain ⟨⟨idx, h3, h4⟩, rfl⟩ := hd
  have hts := hC.2.2.2.2.2.2.2
  have k := h p l e R s m args below meth c G A H locs cells slots mc ms lsA hC hW hR h1 h2 hS hH hL
  obtain ⟨r1, r2, -⟩ := hR
  refine W.objInit hC.1 hC.2.1 hC.2.2.2.2.2.2.1 (hts _ h4) (hts _ mm_oiw.1) (hts _ mm_oiw.2) rfl (by rw [hC.2.2.1]; exact hL.1) rfl h3 (by omega) ?_ k
  rw [← mm_cats (β := G.2.2.2)] at hcat
  have : (F0 m pc lsA ((Value.ref r :: st).map (mm_v G.2.2.2))).monitorRoom = 0 := rfl
  rw [this]
  omega
