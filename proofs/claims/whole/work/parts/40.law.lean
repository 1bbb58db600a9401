/-! the law: its walk, over what each pair of calls keeps -/
theorem mm_Ci.imp {X : mm_X} {d nc ns : Nat} {K : mm_K} {av : List Value} {μ : mm_M} {q q' : Int32 → mm_M → Prop} (h : mm_Ci X d nc ns K av μ q) (hq : ∀ r μ', q r μ' → q' r μ') : mm_Ci X d nc ns K av μ q' := mm_T.post (fun v μ' z => by obtain ⟨r, e, z⟩ := z; exact ⟨r, e, hq r μ' z⟩) h
theorem mm_Cj.imp {X : mm_X} {d nc ns : Nat} {K : mm_K} {av : List Value} {μ : mm_M} {q q' : Int64 → mm_M → Prop} (h : mm_Cj X d nc ns K av μ q) (hq : ∀ r μ', q r μ' → q' r μ') : mm_Cj X d nc ns K av μ q' := mm_T.post (fun v μ' z => by obtain ⟨r, e, z⟩ := z; exact ⟨r, e, hq r μ' z⟩) h
theorem mm_Cv.imp {X : mm_X} {d nc ns : Nat} {K : mm_K} {av : List Value} {μ : mm_M} {q q' : mm_M → Prop} (h : mm_Cv X d nc ns K av μ q) (hq : ∀ μ', q μ' → q' μ') : mm_Cv X d nc ns K av μ q' := mm_T.post (fun v μ' z => ⟨z.1, hq μ' z.2⟩) h
/-- the class's call, then the model's: the same answer, and J behind both -/
def PairI (X : mm_X) (J : mm_M → Prop) (kc km : mm_K) (as : List Value) (μ : mm_M) : Prop := mm_Ci X 30 40 1100 kc (.ref 0 :: as) μ (fun r μ1 => SK μ1 ∧ mm_Ci X 30 0 0 km (.ref 71 :: as) μ1 (fun r' μ2 => r = r' ∧ J μ2))
def PairJ (X : mm_X) (J : mm_M → Prop) (kc km : mm_K) (as : List Value) (μ : mm_M) : Prop := mm_Cj X 30 40 1100 kc (.ref 0 :: as) μ (fun r μ1 => SK μ1 ∧ mm_Cj X 30 0 0 km (.ref 71 :: as) μ1 (fun r' μ2 => r = r' ∧ J μ2))
theorem lg_cmp_self (x : Int64) : lg_cmp x x = 0 := by
  have h : ¬ x < x := fun z => Int64.lt_irrefl z
  simp [lg_cmp, h]
def LT (X : mm_X) (m pc i : Nat) (μ : mm_M) : Prop := mm_T X 40 (40 * m) (1100 * m) k_law pc [some (.ref 2000000), some (.ref 0), some (.ref 71), some (.int (nI i))] [] μ (fun v _ => v = some (.int 1))
theorem mm_sc {L i : Nat} (hi : i + 6 ≤ L) (hL : L ≤ 3072) (k : Nat) (hk : k < 6) : vp_in (nI i + nI k) L := by
  rw [nI_add]
  exact vp_in_nI (by omega) (by omega)
theorem mm_w1i {X : mm_X} {d nc ns : Nat} {K : mm_K} {pc n : Nat} {ls : List (Option Value)} {μ : mm_M} {Q : Option Value → mm_M → Prop} {K' : mm_K} {d' cl r0 : Nat} {v1 : Value} {rest : List Value} (nc' ns' : Nat) (hd : mm_cv K K' pc n 1 cl) (ho : mm_ob μ r0 cl) (hc : mm_Ci X d' nc' ns' K' (.ref r0 :: [v1]) μ (fun r μ' => mm_T X d nc ns K n ls (.int r :: rest) μ' Q)) (hdd : d' + 1 ≤ d := by exact Nat.le_of_ble_eq_true rfl) (hav : (mm_as (.ref r0 :: [v1])).length ≤ K'.2.2.1 := by exact Nat.le_of_ble_eq_true rfl) (hcat : (rest.map fun v => v.category).sum ≤ 8 := by exact Nat.le_of_ble_eq_true rfl) : mm_T X d (nc + nc') (ns + ns') K pc ls (v1 :: .ref r0 :: rest) μ Q := by
  have z := mm_virtual (nc' := nc') (ns' := ns') (nc := nc) (ns := ns) (av := [v1]) (rest := rest) hd ho rfl rfl hav hcat hdd (mm_T.post (fun v μ' h => by obtain ⟨r, rfl, h⟩ := h; exact h) hc)
  rwa [Nat.add_comm nc', Nat.add_comm ns'] at z
theorem mm_w1j {X : mm_X} {d nc ns : Nat} {K : mm_K} {pc n : Nat} {ls : List (Option Value)} {μ : mm_M} {Q : Option Value → mm_M → Prop} {K' : mm_K} {d' cl r0 : Nat} {v1 : Value} {rest : List Value} (nc' ns' : Nat) (hd : mm_cv K K' pc n 1 cl) (ho : mm_ob μ r0 cl) (hc : mm_Cj X d' nc' ns' K' (.ref r0 :: [v1]) μ (fun r μ' => mm_T X d nc ns K n ls (.long r :: rest) μ' Q)) (hdd : d' + 1 ≤ d := by exact Nat.le_of_ble_eq_true rfl) (hav : (mm_as (.ref r0 :: [v1])).length ≤ K'.2.2.1 := by exact Nat.le_of_ble_eq_true rfl) (hcat : (rest.map fun v => v.category).sum ≤ 8 := by exact Nat.le_of_ble_eq_true rfl) : mm_T X d (nc + nc') (ns + ns') K pc ls (v1 :: .ref r0 :: rest) μ Q := by
  have z := mm_virtual (nc' := nc') (ns' := ns') (nc := nc) (ns := ns) (av := [v1]) (rest := rest) hd ho rfl rfl hav hcat hdd (mm_T.post (fun v μ' h => by obtain ⟨r, rfl, h⟩ := h; exact h) hc)
  rwa [Nat.add_comm nc', Nat.add_comm ns'] at z
theorem mm_w2i {X : mm_X} {d nc ns : Nat} {K : mm_K} {pc n : Nat} {ls : List (Option Value)} {μ : mm_M} {Q : Option Value → mm_M → Prop} {K' : mm_K} {d' cl r0 : Nat} {v1 v2 : Value} {rest : List Value} (nc' ns' : Nat) (hd : mm_cv K K' pc n 2 cl) (ho : mm_ob μ r0 cl) (hc : mm_Ci X d' nc' ns' K' (.ref r0 :: [v1, v2]) μ (fun r μ' => mm_T X d nc ns K n ls (.int r :: rest) μ' Q)) (hdd : d' + 1 ≤ d := by exact Nat.le_of_ble_eq_true rfl) (hav : (mm_as (.ref r0 :: [v1, v2])).length ≤ K'.2.2.1 := by exact Nat.le_of_ble_eq_true rfl) (hcat : (rest.map fun v => v.category).sum ≤ 8 := by exact Nat.le_of_ble_eq_true rfl) : mm_T X d (nc + nc') (ns + ns') K pc ls (v2 :: v1 :: .ref r0 :: rest) μ Q := by
  have z := mm_virtual (nc' := nc') (ns' := ns') (nc := nc) (ns := ns) (av := [v1, v2]) (rest := rest) hd ho rfl rfl hav hcat hdd (mm_T.post (fun v μ' h => by obtain ⟨r, rfl, h⟩ := h; exact h) hc)
  rwa [Nat.add_comm nc', Nat.add_comm ns'] at z
theorem mm_w2j {X : mm_X} {d nc ns : Nat} {K : mm_K} {pc n : Nat} {ls : List (Option Value)} {μ : mm_M} {Q : Option Value → mm_M → Prop} {K' : mm_K} {d' cl r0 : Nat} {v1 v2 : Value} {rest : List Value} (nc' ns' : Nat) (hd : mm_cv K K' pc n 2 cl) (ho : mm_ob μ r0 cl) (hc : mm_Cj X d' nc' ns' K' (.ref r0 :: [v1, v2]) μ (fun r μ' => mm_T X d nc ns K n ls (.long r :: rest) μ' Q)) (hdd : d' + 1 ≤ d := by exact Nat.le_of_ble_eq_true rfl) (hav : (mm_as (.ref r0 :: [v1, v2])).length ≤ K'.2.2.1 := by exact Nat.le_of_ble_eq_true rfl) (hcat : (rest.map fun v => v.category).sum ≤ 8 := by exact Nat.le_of_ble_eq_true rfl) : mm_T X d (nc + nc') (ns + ns') K pc ls (v2 :: v1 :: .ref r0 :: rest) μ Q := by
  have z := mm_virtual (nc' := nc') (ns' := ns') (nc := nc) (ns := ns) (av := [v1, v2]) (rest := rest) hd ho rfl rfl hav hcat hdd (mm_T.post (fun v μ' h => by obtain ⟨r, rfl, h⟩ := h; exact h) hc)
  rwa [Nat.add_comm nc', Nat.add_comm ns'] at z
theorem mm_w3i {X : mm_X} {d nc ns : Nat} {K : mm_K} {pc n : Nat} {ls : List (Option Value)} {μ : mm_M} {Q : Option Value → mm_M → Prop} {K' : mm_K} {d' cl r0 : Nat} {v1 v2 v3 : Value} {rest : List Value} (nc' ns' : Nat) (hd : mm_cv K K' pc n 3 cl) (ho : mm_ob μ r0 cl) (hc : mm_Ci X d' nc' ns' K' (.ref r0 :: [v1, v2, v3]) μ (fun r μ' => mm_T X d nc ns K n ls (.int r :: rest) μ' Q)) (hdd : d' + 1 ≤ d := by exact Nat.le_of_ble_eq_true rfl) (hav : (mm_as (.ref r0 :: [v1, v2, v3])).length ≤ K'.2.2.1 := by exact Nat.le_of_ble_eq_true rfl) (hcat : (rest.map fun v => v.category).sum ≤ 8 := by exact Nat.le_of_ble_eq_true rfl) : mm_T X d (nc + nc') (ns + ns') K pc ls (v3 :: v2 :: v1 :: .ref r0 :: rest) μ Q := by
  have z := mm_virtual (nc' := nc') (ns' := ns') (nc := nc) (ns := ns) (av := [v1, v2, v3]) (rest := rest) hd ho rfl rfl hav hcat hdd (mm_T.post (fun v μ' h => by obtain ⟨r, rfl, h⟩ := h; exact h) hc)
  rwa [Nat.add_comm nc', Nat.add_comm ns'] at z
theorem mm_w3j {X : mm_X} {d nc ns : Nat} {K : mm_K} {pc n : Nat} {ls : List (Option Value)} {μ : mm_M} {Q : Option Value → mm_M → Prop} {K' : mm_K} {d' cl r0 : Nat} {v1 v2 v3 : Value} {rest : List Value} (nc' ns' : Nat) (hd : mm_cv K K' pc n 3 cl) (ho : mm_ob μ r0 cl) (hc : mm_Cj X d' nc' ns' K' (.ref r0 :: [v1, v2, v3]) μ (fun r μ' => mm_T X d nc ns K n ls (.long r :: rest) μ' Q)) (hdd : d' + 1 ≤ d := by exact Nat.le_of_ble_eq_true rfl) (hav : (mm_as (.ref r0 :: [v1, v2, v3])).length ≤ K'.2.2.1 := by exact Nat.le_of_ble_eq_true rfl) (hcat : (rest.map fun v => v.category).sum ≤ 8 := by exact Nat.le_of_ble_eq_true rfl) : mm_T X d (nc + nc') (ns + ns') K pc ls (v3 :: v2 :: v1 :: .ref r0 :: rest) μ Q := by
  have z := mm_virtual (nc' := nc') (ns' := ns') (nc := nc) (ns := ns) (av := [v1, v2, v3]) (rest := rest) hd ho rfl rfl hav hcat hdd (mm_T.post (fun v μ' h => by obtain ⟨r, rfl, h⟩ := h; exact h) hc)
  rwa [Nat.add_comm nc', Nat.add_comm ns'] at z
theorem mm_w4i {X : mm_X} {d nc ns : Nat} {K : mm_K} {pc n : Nat} {ls : List (Option Value)} {μ : mm_M} {Q : Option Value → mm_M → Prop} {K' : mm_K} {d' cl r0 : Nat} {v1 v2 v3 v4 : Value} {rest : List Value} (nc' ns' : Nat) (hd : mm_cv K K' pc n 4 cl) (ho : mm_ob μ r0 cl) (hc : mm_Ci X d' nc' ns' K' (.ref r0 :: [v1, v2, v3, v4]) μ (fun r μ' => mm_T X d nc ns K n ls (.int r :: rest) μ' Q)) (hdd : d' + 1 ≤ d := by exact Nat.le_of_ble_eq_true rfl) (hav : (mm_as (.ref r0 :: [v1, v2, v3, v4])).length ≤ K'.2.2.1 := by exact Nat.le_of_ble_eq_true rfl) (hcat : (rest.map fun v => v.category).sum ≤ 8 := by exact Nat.le_of_ble_eq_true rfl) : mm_T X d (nc + nc') (ns + ns') K pc ls (v4 :: v3 :: v2 :: v1 :: .ref r0 :: rest) μ Q := by
  have z := mm_virtual (nc' := nc') (ns' := ns') (nc := nc) (ns := ns) (av := [v1, v2, v3, v4]) (rest := rest) hd ho rfl rfl hav hcat hdd (mm_T.post (fun v μ' h => by obtain ⟨r, rfl, h⟩ := h; exact h) hc)
  rwa [Nat.add_comm nc', Nat.add_comm ns'] at z
theorem mm_w4j {X : mm_X} {d nc ns : Nat} {K : mm_K} {pc n : Nat} {ls : List (Option Value)} {μ : mm_M} {Q : Option Value → mm_M → Prop} {K' : mm_K} {d' cl r0 : Nat} {v1 v2 v3 v4 : Value} {rest : List Value} (nc' ns' : Nat) (hd : mm_cv K K' pc n 4 cl) (ho : mm_ob μ r0 cl) (hc : mm_Cj X d' nc' ns' K' (.ref r0 :: [v1, v2, v3, v4]) μ (fun r μ' => mm_T X d nc ns K n ls (.long r :: rest) μ' Q)) (hdd : d' + 1 ≤ d := by exact Nat.le_of_ble_eq_true rfl) (hav : (mm_as (.ref r0 :: [v1, v2, v3, v4])).length ≤ K'.2.2.1 := by exact Nat.le_of_ble_eq_true rfl) (hcat : (rest.map fun v => v.category).sum ≤ 8 := by exact Nat.le_of_ble_eq_true rfl) : mm_T X d (nc + nc') (ns + ns') K pc ls (v4 :: v3 :: v2 :: v1 :: .ref r0 :: rest) μ Q := by
  have z := mm_virtual (nc' := nc') (ns' := ns') (nc := nc) (ns := ns) (av := [v1, v2, v3, v4]) (rest := rest) hd ho rfl rfl hav hcat hdd (mm_T.post (fun v μ' h => by obtain ⟨r, rfl, h⟩ := h; exact h) hc)
  rwa [Nat.add_comm nc', Nat.add_comm ns'] at z
theorem mm_w5i {X : mm_X} {d nc ns : Nat} {K : mm_K} {pc n : Nat} {ls : List (Option Value)} {μ : mm_M} {Q : Option Value → mm_M → Prop} {K' : mm_K} {d' cl r0 : Nat} {v1 v2 v3 v4 v5 : Value} {rest : List Value} (nc' ns' : Nat) (hd : mm_cv K K' pc n 5 cl) (ho : mm_ob μ r0 cl) (hc : mm_Ci X d' nc' ns' K' (.ref r0 :: [v1, v2, v3, v4, v5]) μ (fun r μ' => mm_T X d nc ns K n ls (.int r :: rest) μ' Q)) (hdd : d' + 1 ≤ d := by exact Nat.le_of_ble_eq_true rfl) (hav : (mm_as (.ref r0 :: [v1, v2, v3, v4, v5])).length ≤ K'.2.2.1 := by exact Nat.le_of_ble_eq_true rfl) (hcat : (rest.map fun v => v.category).sum ≤ 8 := by exact Nat.le_of_ble_eq_true rfl) : mm_T X d (nc + nc') (ns + ns') K pc ls (v5 :: v4 :: v3 :: v2 :: v1 :: .ref r0 :: rest) μ Q := by
  have z := mm_virtual (nc' := nc') (ns' := ns') (nc := nc) (ns := ns) (av := [v1, v2, v3, v4, v5]) (rest := rest) hd ho rfl rfl hav hcat hdd (mm_T.post (fun v μ' h => by obtain ⟨r, rfl, h⟩ := h; exact h) hc)
  rwa [Nat.add_comm nc', Nat.add_comm ns'] at z
theorem mm_w5j {X : mm_X} {d nc ns : Nat} {K : mm_K} {pc n : Nat} {ls : List (Option Value)} {μ : mm_M} {Q : Option Value → mm_M → Prop} {K' : mm_K} {d' cl r0 : Nat} {v1 v2 v3 v4 v5 : Value} {rest : List Value} (nc' ns' : Nat) (hd : mm_cv K K' pc n 5 cl) (ho : mm_ob μ r0 cl) (hc : mm_Cj X d' nc' ns' K' (.ref r0 :: [v1, v2, v3, v4, v5]) μ (fun r μ' => mm_T X d nc ns K n ls (.long r :: rest) μ' Q)) (hdd : d' + 1 ≤ d := by exact Nat.le_of_ble_eq_true rfl) (hav : (mm_as (.ref r0 :: [v1, v2, v3, v4, v5])).length ≤ K'.2.2.1 := by exact Nat.le_of_ble_eq_true rfl) (hcat : (rest.map fun v => v.category).sum ≤ 8 := by exact Nat.le_of_ble_eq_true rfl) : mm_T X d (nc + nc') (ns + ns') K pc ls (v5 :: v4 :: v3 :: v2 :: v1 :: .ref r0 :: rest) μ Q := by
  have z := mm_virtual (nc' := nc') (ns' := ns') (nc := nc) (ns := ns) (av := [v1, v2, v3, v4, v5]) (rest := rest) hd ho rfl rfl hav hcat hdd (mm_T.post (fun v μ' h => by obtain ⟨r, rfl, h⟩ := h; exact h) hc)
  rwa [Nat.add_comm nc', Nat.add_comm ns'] at z
theorem lc_0 {X : mm_X} {J : mm_M → Prop} {i m : Nat} {μ : mm_M} (hi : i + 6 ≤ X.1) (hL : X.1 ≤ 3072) (hS : SK μ) (H : ∀ (y1 y2 y3 y4 y5 : Int32), PairI X J k_G_feed k_M_feed [.int y1, .int y2, .int y3, .int y4, .int y5] μ) (hend : ∀ μ2, J μ2 → LT X m 2053 i μ2) : LT X (m + 1) 220 i μ := by
  show mm_T X 40 (40 * m + 40) (1100 * m + 1100) k_law 220 [some (.ref 2000000), some (.ref 0), some (.ref 71), some (.int (nI i))] [] μ _
  refine mm_aload d_law_220 rfl ?_
  refine mm_aload d_law_221 rfl ?_
  refine mm_iload d_law_222 rfl ?_
  refine mm_ci d_law_223 ?_
  refine mm_iadd d_law_224 ?_
  refine mm_kald (q := 0) d_law_225 (by decide) (mm_sc hi hL 1 (by decide)) ?_
  refine mm_aload d_law_226 rfl ?_
  refine mm_iload d_law_227 rfl ?_
  refine mm_ci d_law_228 ?_
  refine mm_iadd d_law_229 ?_
  refine mm_kald (q := 0) d_law_230 (by decide) (mm_sc hi hL 2 (by decide)) ?_
  refine mm_aload d_law_231 rfl ?_
  refine mm_iload d_law_232 rfl ?_
  refine mm_ci d_law_233 ?_
  refine mm_iadd d_law_234 ?_
  refine mm_kald (q := 0) d_law_235 (by decide) (mm_sc hi hL 3 (by decide)) ?_
  refine mm_aload d_law_236 rfl ?_
  refine mm_iload d_law_237 rfl ?_
  refine mm_ci d_law_238 ?_
  refine mm_iadd d_law_239 ?_
  refine mm_kald (q := 0) d_law_240 (by decide) (mm_sc hi hL 4 (by decide)) ?_
  refine mm_aload d_law_241 rfl ?_
  refine mm_iload d_law_242 rfl ?_
  refine mm_ci d_law_243 ?_
  refine mm_iadd d_law_244 ?_
  refine mm_kald (q := 0) d_law_245 (by decide) (mm_sc hi hL 5 (by decide)) ?_
  refine mm_w5i 40 1100 d_law_246 (sk_o_0 hS) ((H _ _ _ _ _).imp (fun r μ1 hp => ?_))
  obtain ⟨hS1, hp⟩ := hp
  refine mm_aload d_law_249 rfl ?_
  refine mm_aload d_law_250 rfl ?_
  refine mm_iload d_law_251 rfl ?_
  refine mm_ci d_law_252 ?_
  refine mm_iadd d_law_253 ?_
  refine mm_kald (q := 0) d_law_254 (by decide) (mm_sc hi hL 1 (by decide)) ?_
  refine mm_aload d_law_255 rfl ?_
  refine mm_iload d_law_256 rfl ?_
  refine mm_ci d_law_257 ?_
  refine mm_iadd d_law_258 ?_
  refine mm_kald (q := 0) d_law_259 (by decide) (mm_sc hi hL 2 (by decide)) ?_
  refine mm_aload d_law_260 rfl ?_
  refine mm_iload d_law_261 rfl ?_
  refine mm_ci d_law_262 ?_
  refine mm_iadd d_law_263 ?_
  refine mm_kald (q := 0) d_law_264 (by decide) (mm_sc hi hL 3 (by decide)) ?_
  refine mm_aload d_law_265 rfl ?_
  refine mm_iload d_law_266 rfl ?_
  refine mm_ci d_law_267 ?_
  refine mm_iadd d_law_268 ?_
  refine mm_kald (q := 0) d_law_269 (by decide) (mm_sc hi hL 4 (by decide)) ?_
  refine mm_aload d_law_270 rfl ?_
  refine mm_iload d_law_271 rfl ?_
  refine mm_ci d_law_272 ?_
  refine mm_iadd d_law_273 ?_
  refine mm_kald (q := 0) d_law_274 (by decide) (mm_sc hi hL 5 (by decide)) ?_
  refine mm_v5i d_law_275 (sk_o_71 hS1) (hp.imp (fun r' μ2 hq => ?_))
  obtain ⟨rfl, hJ2⟩ := hq
  refine mm_icmp_eq d_law_278 (fun _ => ?_) (fun cc => absurd rfl cc)
  exact hend μ2 hJ2
theorem lc_1 {X : mm_X} {J : mm_M → Prop} {i m : Nat} {μ : mm_M} (hi : i + 6 ≤ X.1) (hL : X.1 ≤ 3072) (hS : SK μ) (H : ∀ (y1 : Int32), PairI X J k_G_end k_M_end [.int y1] μ) (hend : ∀ μ2, J μ2 → LT X m 2053 i μ2) : LT X (m + 1) 283 i μ := by
  show mm_T X 40 (40 * m + 40) (1100 * m + 1100) k_law 283 [some (.ref 2000000), some (.ref 0), some (.ref 71), some (.int (nI i))] [] μ _
  refine mm_aload d_law_283 rfl ?_
  refine mm_aload d_law_284 rfl ?_
  refine mm_iload d_law_285 rfl ?_
  refine mm_ci d_law_286 ?_
  refine mm_iadd d_law_287 ?_
  refine mm_kald (q := 0) d_law_288 (by decide) (mm_sc hi hL 1 (by decide)) ?_
  refine mm_w1i 40 1100 d_law_289 (sk_o_0 hS) ((H _).imp (fun r μ1 hp => ?_))
  obtain ⟨hS1, hp⟩ := hp
  refine mm_aload d_law_292 rfl ?_
  refine mm_aload d_law_293 rfl ?_
  refine mm_iload d_law_294 rfl ?_
  refine mm_ci d_law_295 ?_
  refine mm_iadd d_law_296 ?_
  refine mm_kald (q := 0) d_law_297 (by decide) (mm_sc hi hL 1 (by decide)) ?_
  refine mm_v1i d_law_298 (sk_o_71 hS1) (hp.imp (fun r' μ2 hq => ?_))
  obtain ⟨rfl, hJ2⟩ := hq
  refine mm_icmp_eq d_law_301 (fun _ => ?_) (fun cc => absurd rfl cc)
  exact hend μ2 hJ2
theorem lc_2 {X : mm_X} {J : mm_M → Prop} {i m : Nat} {μ : mm_M} (hi : i + 6 ≤ X.1) (hL : X.1 ≤ 3072) (hS : SK μ) (H : ∀ (y1 y2 : Int32), PairI X J k_G_text k_M_text [.int y1, .int y2] μ) (hend : ∀ μ2, J μ2 → LT X m 2053 i μ2) : LT X (m + 1) 306 i μ := by
  show mm_T X 40 (40 * m + 40) (1100 * m + 1100) k_law 306 [some (.ref 2000000), some (.ref 0), some (.ref 71), some (.int (nI i))] [] μ _
  refine mm_aload d_law_306 rfl ?_
  refine mm_aload d_law_307 rfl ?_
  refine mm_iload d_law_308 rfl ?_
  refine mm_ci d_law_309 ?_
  refine mm_iadd d_law_310 ?_
  refine mm_kald (q := 0) d_law_311 (by decide) (mm_sc hi hL 1 (by decide)) ?_
  refine mm_aload d_law_312 rfl ?_
  refine mm_iload d_law_313 rfl ?_
  refine mm_ci d_law_314 ?_
  refine mm_iadd d_law_315 ?_
  refine mm_kald (q := 0) d_law_316 (by decide) (mm_sc hi hL 2 (by decide)) ?_
  refine mm_w2i 40 1100 d_law_317 (sk_o_0 hS) ((H _ _).imp (fun r μ1 hp => ?_))
  obtain ⟨hS1, hp⟩ := hp
  refine mm_aload d_law_320 rfl ?_
  refine mm_aload d_law_321 rfl ?_
  refine mm_iload d_law_322 rfl ?_
  refine mm_ci d_law_323 ?_
  refine mm_iadd d_law_324 ?_
  refine mm_kald (q := 0) d_law_325 (by decide) (mm_sc hi hL 1 (by decide)) ?_
  refine mm_aload d_law_326 rfl ?_
  refine mm_iload d_law_327 rfl ?_
  refine mm_ci d_law_328 ?_
  refine mm_iadd d_law_329 ?_
  refine mm_kald (q := 0) d_law_330 (by decide) (mm_sc hi hL 2 (by decide)) ?_
  refine mm_v2i d_law_331 (sk_o_71 hS1) (hp.imp (fun r' μ2 hq => ?_))
  obtain ⟨rfl, hJ2⟩ := hq
  refine mm_icmp_eq d_law_334 (fun _ => ?_) (fun cc => absurd rfl cc)
  exact hend μ2 hJ2
theorem lc_3 {X : mm_X} {J : mm_M → Prop} {i m : Nat} {μ : mm_M} (hi : i + 6 ≤ X.1) (hL : X.1 ≤ 3072) (hS : SK μ) (H : ∀ (y1 : Int32), PairI X J k_G_fault k_M_fault [.int y1] μ) (hend : ∀ μ2, J μ2 → LT X m 2053 i μ2) : LT X (m + 1) 339 i μ := by
  show mm_T X 40 (40 * m + 40) (1100 * m + 1100) k_law 339 [some (.ref 2000000), some (.ref 0), some (.ref 71), some (.int (nI i))] [] μ _
  refine mm_aload d_law_339 rfl ?_
  refine mm_aload d_law_340 rfl ?_
  refine mm_iload d_law_341 rfl ?_
  refine mm_ci d_law_342 ?_
  refine mm_iadd d_law_343 ?_
  refine mm_kald (q := 0) d_law_344 (by decide) (mm_sc hi hL 1 (by decide)) ?_
  refine mm_w1i 40 1100 d_law_345 (sk_o_0 hS) ((H _).imp (fun r μ1 hp => ?_))
  obtain ⟨hS1, hp⟩ := hp
  refine mm_aload d_law_348 rfl ?_
  refine mm_aload d_law_349 rfl ?_
  refine mm_iload d_law_350 rfl ?_
  refine mm_ci d_law_351 ?_
  refine mm_iadd d_law_352 ?_
  refine mm_kald (q := 0) d_law_353 (by decide) (mm_sc hi hL 1 (by decide)) ?_
  refine mm_v1i d_law_354 (sk_o_71 hS1) (hp.imp (fun r' μ2 hq => ?_))
  obtain ⟨rfl, hJ2⟩ := hq
  refine mm_icmp_eq d_law_357 (fun _ => ?_) (fun cc => absurd rfl cc)
  exact hend μ2 hJ2
theorem lc_4 {X : mm_X} {J : mm_M → Prop} {i m : Nat} {μ : mm_M} (hi : i + 6 ≤ X.1) (hL : X.1 ≤ 3072) (hS : SK μ) (H : ∀ (y1 y2 : Int32), PairI X J k_G_coast k_M_coast [.int y1, .int y2] μ) (hend : ∀ μ2, J μ2 → LT X m 2053 i μ2) : LT X (m + 1) 362 i μ := by
  show mm_T X 40 (40 * m + 40) (1100 * m + 1100) k_law 362 [some (.ref 2000000), some (.ref 0), some (.ref 71), some (.int (nI i))] [] μ _
  refine mm_aload d_law_362 rfl ?_
  refine mm_aload d_law_363 rfl ?_
  refine mm_iload d_law_364 rfl ?_
  refine mm_ci d_law_365 ?_
  refine mm_iadd d_law_366 ?_
  refine mm_kald (q := 0) d_law_367 (by decide) (mm_sc hi hL 1 (by decide)) ?_
  refine mm_aload d_law_368 rfl ?_
  refine mm_iload d_law_369 rfl ?_
  refine mm_ci d_law_370 ?_
  refine mm_iadd d_law_371 ?_
  refine mm_kald (q := 0) d_law_372 (by decide) (mm_sc hi hL 2 (by decide)) ?_
  refine mm_w2i 40 1100 d_law_373 (sk_o_0 hS) ((H _ _).imp (fun r μ1 hp => ?_))
  obtain ⟨hS1, hp⟩ := hp
  refine mm_aload d_law_376 rfl ?_
  refine mm_aload d_law_377 rfl ?_
  refine mm_iload d_law_378 rfl ?_
  refine mm_ci d_law_379 ?_
  refine mm_iadd d_law_380 ?_
  refine mm_kald (q := 0) d_law_381 (by decide) (mm_sc hi hL 1 (by decide)) ?_
  refine mm_aload d_law_382 rfl ?_
  refine mm_iload d_law_383 rfl ?_
  refine mm_ci d_law_384 ?_
  refine mm_iadd d_law_385 ?_
  refine mm_kald (q := 0) d_law_386 (by decide) (mm_sc hi hL 2 (by decide)) ?_
  refine mm_v2i d_law_387 (sk_o_71 hS1) (hp.imp (fun r' μ2 hq => ?_))
  obtain ⟨rfl, hJ2⟩ := hq
  refine mm_icmp_eq d_law_390 (fun _ => ?_) (fun cc => absurd rfl cc)
  exact hend μ2 hJ2
theorem lc_5 {X : mm_X} {J : mm_M → Prop} {i m : Nat} {μ : mm_M} (hi : i + 6 ≤ X.1) (hL : X.1 ≤ 3072) (hS : SK μ) (H : ∀ (y1 y2 y3 : Int32), PairI X J k_G_deed k_M_deed [.int y1, .int y2, .int y3] μ) (hend : ∀ μ2, J μ2 → LT X m 2053 i μ2) : LT X (m + 1) 395 i μ := by
  show mm_T X 40 (40 * m + 40) (1100 * m + 1100) k_law 395 [some (.ref 2000000), some (.ref 0), some (.ref 71), some (.int (nI i))] [] μ _
  refine mm_aload d_law_395 rfl ?_
  refine mm_aload d_law_396 rfl ?_
  refine mm_iload d_law_397 rfl ?_
  refine mm_ci d_law_398 ?_
  refine mm_iadd d_law_399 ?_
  refine mm_kald (q := 0) d_law_400 (by decide) (mm_sc hi hL 1 (by decide)) ?_
  refine mm_aload d_law_401 rfl ?_
  refine mm_iload d_law_402 rfl ?_
  refine mm_ci d_law_403 ?_
  refine mm_iadd d_law_404 ?_
  refine mm_kald (q := 0) d_law_405 (by decide) (mm_sc hi hL 2 (by decide)) ?_
  refine mm_aload d_law_406 rfl ?_
  refine mm_iload d_law_407 rfl ?_
  refine mm_ci d_law_408 ?_
  refine mm_iadd d_law_409 ?_
  refine mm_kald (q := 0) d_law_410 (by decide) (mm_sc hi hL 3 (by decide)) ?_
  refine mm_w3i 40 1100 d_law_411 (sk_o_0 hS) ((H _ _ _).imp (fun r μ1 hp => ?_))
  obtain ⟨hS1, hp⟩ := hp
  refine mm_aload d_law_414 rfl ?_
  refine mm_aload d_law_415 rfl ?_
  refine mm_iload d_law_416 rfl ?_
  refine mm_ci d_law_417 ?_
  refine mm_iadd d_law_418 ?_
  refine mm_kald (q := 0) d_law_419 (by decide) (mm_sc hi hL 1 (by decide)) ?_
  refine mm_aload d_law_420 rfl ?_
  refine mm_iload d_law_421 rfl ?_
  refine mm_ci d_law_422 ?_
  refine mm_iadd d_law_423 ?_
  refine mm_kald (q := 0) d_law_424 (by decide) (mm_sc hi hL 2 (by decide)) ?_
  refine mm_aload d_law_425 rfl ?_
  refine mm_iload d_law_426 rfl ?_
  refine mm_ci d_law_427 ?_
  refine mm_iadd d_law_428 ?_
  refine mm_kald (q := 0) d_law_429 (by decide) (mm_sc hi hL 3 (by decide)) ?_
  refine mm_v3i d_law_430 (sk_o_71 hS1) (hp.imp (fun r' μ2 hq => ?_))
  obtain ⟨rfl, hJ2⟩ := hq
  refine mm_icmp_eq d_law_433 (fun _ => ?_) (fun cc => absurd rfl cc)
  exact hend μ2 hJ2
theorem lc_6 {X : mm_X} {J : mm_M → Prop} {i m : Nat} {μ : mm_M} (hi : i + 6 ≤ X.1) (hL : X.1 ≤ 3072) (hS : SK μ) (H : ∀ (y1 y2 : Int32), PairI X J k_G_till k_M_till [.int y1, .int y2] μ) (hend : ∀ μ2, J μ2 → LT X m 2053 i μ2) : LT X (m + 1) 438 i μ := by
  show mm_T X 40 (40 * m + 40) (1100 * m + 1100) k_law 438 [some (.ref 2000000), some (.ref 0), some (.ref 71), some (.int (nI i))] [] μ _
  refine mm_aload d_law_438 rfl ?_
  refine mm_aload d_law_439 rfl ?_
  refine mm_iload d_law_440 rfl ?_
  refine mm_ci d_law_441 ?_
  refine mm_iadd d_law_442 ?_
  refine mm_kald (q := 0) d_law_443 (by decide) (mm_sc hi hL 1 (by decide)) ?_
  refine mm_aload d_law_444 rfl ?_
  refine mm_iload d_law_445 rfl ?_
  refine mm_ci d_law_446 ?_
  refine mm_iadd d_law_447 ?_
  refine mm_kald (q := 0) d_law_448 (by decide) (mm_sc hi hL 2 (by decide)) ?_
  refine mm_w2i 40 1100 d_law_449 (sk_o_0 hS) ((H _ _).imp (fun r μ1 hp => ?_))
  obtain ⟨hS1, hp⟩ := hp
  refine mm_aload d_law_452 rfl ?_
  refine mm_aload d_law_453 rfl ?_
  refine mm_iload d_law_454 rfl ?_
  refine mm_ci d_law_455 ?_
  refine mm_iadd d_law_456 ?_
  refine mm_kald (q := 0) d_law_457 (by decide) (mm_sc hi hL 1 (by decide)) ?_
  refine mm_aload d_law_458 rfl ?_
  refine mm_iload d_law_459 rfl ?_
  refine mm_ci d_law_460 ?_
  refine mm_iadd d_law_461 ?_
  refine mm_kald (q := 0) d_law_462 (by decide) (mm_sc hi hL 2 (by decide)) ?_
  refine mm_v2i d_law_463 (sk_o_71 hS1) (hp.imp (fun r' μ2 hq => ?_))
  obtain ⟨rfl, hJ2⟩ := hq
  refine mm_icmp_eq d_law_466 (fun _ => ?_) (fun cc => absurd rfl cc)
  exact hend μ2 hJ2
theorem lc_7 {X : mm_X} {J : mm_M → Prop} {i m : Nat} {μ : mm_M} (hi : i + 6 ≤ X.1) (hL : X.1 ≤ 3072) (hS : SK μ) (H : ∀ (y1 y2 y3 y4 : Int32), PairI X J k_G_state k_M_state [.int y1, .int y2, .int y3, .int y4] μ) (hend : ∀ μ2, J μ2 → LT X m 2053 i μ2) : LT X (m + 1) 471 i μ := by
  show mm_T X 40 (40 * m + 40) (1100 * m + 1100) k_law 471 [some (.ref 2000000), some (.ref 0), some (.ref 71), some (.int (nI i))] [] μ _
  refine mm_aload d_law_471 rfl ?_
  refine mm_aload d_law_472 rfl ?_
  refine mm_iload d_law_473 rfl ?_
  refine mm_ci d_law_474 ?_
  refine mm_iadd d_law_475 ?_
  refine mm_kald (q := 0) d_law_476 (by decide) (mm_sc hi hL 1 (by decide)) ?_
  refine mm_aload d_law_477 rfl ?_
  refine mm_iload d_law_478 rfl ?_
  refine mm_ci d_law_479 ?_
  refine mm_iadd d_law_480 ?_
  refine mm_kald (q := 0) d_law_481 (by decide) (mm_sc hi hL 2 (by decide)) ?_
  refine mm_aload d_law_482 rfl ?_
  refine mm_iload d_law_483 rfl ?_
  refine mm_ci d_law_484 ?_
  refine mm_iadd d_law_485 ?_
  refine mm_kald (q := 0) d_law_486 (by decide) (mm_sc hi hL 3 (by decide)) ?_
  refine mm_aload d_law_487 rfl ?_
  refine mm_iload d_law_488 rfl ?_
  refine mm_ci d_law_489 ?_
  refine mm_iadd d_law_490 ?_
  refine mm_kald (q := 0) d_law_491 (by decide) (mm_sc hi hL 4 (by decide)) ?_
  refine mm_w4i 40 1100 d_law_492 (sk_o_0 hS) ((H _ _ _ _).imp (fun r μ1 hp => ?_))
  obtain ⟨hS1, hp⟩ := hp
  refine mm_aload d_law_495 rfl ?_
  refine mm_aload d_law_496 rfl ?_
  refine mm_iload d_law_497 rfl ?_
  refine mm_ci d_law_498 ?_
  refine mm_iadd d_law_499 ?_
  refine mm_kald (q := 0) d_law_500 (by decide) (mm_sc hi hL 1 (by decide)) ?_
  refine mm_aload d_law_501 rfl ?_
  refine mm_iload d_law_502 rfl ?_
  refine mm_ci d_law_503 ?_
  refine mm_iadd d_law_504 ?_
  refine mm_kald (q := 0) d_law_505 (by decide) (mm_sc hi hL 2 (by decide)) ?_
  refine mm_aload d_law_506 rfl ?_
  refine mm_iload d_law_507 rfl ?_
  refine mm_ci d_law_508 ?_
  refine mm_iadd d_law_509 ?_
  refine mm_kald (q := 0) d_law_510 (by decide) (mm_sc hi hL 3 (by decide)) ?_
  refine mm_aload d_law_511 rfl ?_
  refine mm_iload d_law_512 rfl ?_
  refine mm_ci d_law_513 ?_
  refine mm_iadd d_law_514 ?_
  refine mm_kald (q := 0) d_law_515 (by decide) (mm_sc hi hL 4 (by decide)) ?_
  refine mm_v4i d_law_516 (sk_o_71 hS1) (hp.imp (fun r' μ2 hq => ?_))
  obtain ⟨rfl, hJ2⟩ := hq
  refine mm_icmp_eq d_law_519 (fun _ => ?_) (fun cc => absurd rfl cc)
  exact hend μ2 hJ2
theorem lc_8 {X : mm_X} {J : mm_M → Prop} {i m : Nat} {μ : mm_M} (hi : i + 6 ≤ X.1) (hL : X.1 ≤ 3072) (hS : SK μ) (H : ∀ (y1 y2 y3 : Int32), PairI X J k_G_call k_M_call [.int y1, .int y2, .int y3] μ) (hend : ∀ μ2, J μ2 → LT X m 2053 i μ2) : LT X (m + 1) 524 i μ := by
  show mm_T X 40 (40 * m + 40) (1100 * m + 1100) k_law 524 [some (.ref 2000000), some (.ref 0), some (.ref 71), some (.int (nI i))] [] μ _
  refine mm_aload d_law_524 rfl ?_
  refine mm_aload d_law_525 rfl ?_
  refine mm_iload d_law_526 rfl ?_
  refine mm_ci d_law_527 ?_
  refine mm_iadd d_law_528 ?_
  refine mm_kald (q := 0) d_law_529 (by decide) (mm_sc hi hL 1 (by decide)) ?_
  refine mm_aload d_law_530 rfl ?_
  refine mm_iload d_law_531 rfl ?_
  refine mm_ci d_law_532 ?_
  refine mm_iadd d_law_533 ?_
  refine mm_kald (q := 0) d_law_534 (by decide) (mm_sc hi hL 2 (by decide)) ?_
  refine mm_aload d_law_535 rfl ?_
  refine mm_iload d_law_536 rfl ?_
  refine mm_ci d_law_537 ?_
  refine mm_iadd d_law_538 ?_
  refine mm_kald (q := 0) d_law_539 (by decide) (mm_sc hi hL 3 (by decide)) ?_
  refine mm_w3i 40 1100 d_law_540 (sk_o_0 hS) ((H _ _ _).imp (fun r μ1 hp => ?_))
  obtain ⟨hS1, hp⟩ := hp
  refine mm_aload d_law_543 rfl ?_
  refine mm_aload d_law_544 rfl ?_
  refine mm_iload d_law_545 rfl ?_
  refine mm_ci d_law_546 ?_
  refine mm_iadd d_law_547 ?_
  refine mm_kald (q := 0) d_law_548 (by decide) (mm_sc hi hL 1 (by decide)) ?_
  refine mm_aload d_law_549 rfl ?_
  refine mm_iload d_law_550 rfl ?_
  refine mm_ci d_law_551 ?_
  refine mm_iadd d_law_552 ?_
  refine mm_kald (q := 0) d_law_553 (by decide) (mm_sc hi hL 2 (by decide)) ?_
  refine mm_aload d_law_554 rfl ?_
  refine mm_iload d_law_555 rfl ?_
  refine mm_ci d_law_556 ?_
  refine mm_iadd d_law_557 ?_
  refine mm_kald (q := 0) d_law_558 (by decide) (mm_sc hi hL 3 (by decide)) ?_
  refine mm_v3i d_law_559 (sk_o_71 hS1) (hp.imp (fun r' μ2 hq => ?_))
  obtain ⟨rfl, hJ2⟩ := hq
  refine mm_icmp_eq d_law_562 (fun _ => ?_) (fun cc => absurd rfl cc)
  exact hend μ2 hJ2
theorem lc_9 {X : mm_X} {J : mm_M → Prop} {i m : Nat} {μ : mm_M} (hi : i + 6 ≤ X.1) (hL : X.1 ≤ 3072) (hS : SK μ) (H : ∀ (y1 y2 : Int32), PairI X J k_G_feast k_M_feast [.int y1, .int y2] μ) (hend : ∀ μ2, J μ2 → LT X m 2053 i μ2) : LT X (m + 1) 567 i μ := by
  show mm_T X 40 (40 * m + 40) (1100 * m + 1100) k_law 567 [some (.ref 2000000), some (.ref 0), some (.ref 71), some (.int (nI i))] [] μ _
  refine mm_aload d_law_567 rfl ?_
  refine mm_aload d_law_568 rfl ?_
  refine mm_iload d_law_569 rfl ?_
  refine mm_ci d_law_570 ?_
  refine mm_iadd d_law_571 ?_
  refine mm_kald (q := 0) d_law_572 (by decide) (mm_sc hi hL 1 (by decide)) ?_
  refine mm_aload d_law_573 rfl ?_
  refine mm_iload d_law_574 rfl ?_
  refine mm_ci d_law_575 ?_
  refine mm_iadd d_law_576 ?_
  refine mm_kald (q := 0) d_law_577 (by decide) (mm_sc hi hL 2 (by decide)) ?_
  refine mm_w2i 40 1100 d_law_578 (sk_o_0 hS) ((H _ _).imp (fun r μ1 hp => ?_))
  obtain ⟨hS1, hp⟩ := hp
  refine mm_aload d_law_581 rfl ?_
  refine mm_aload d_law_582 rfl ?_
  refine mm_iload d_law_583 rfl ?_
  refine mm_ci d_law_584 ?_
  refine mm_iadd d_law_585 ?_
  refine mm_kald (q := 0) d_law_586 (by decide) (mm_sc hi hL 1 (by decide)) ?_
  refine mm_aload d_law_587 rfl ?_
  refine mm_iload d_law_588 rfl ?_
  refine mm_ci d_law_589 ?_
  refine mm_iadd d_law_590 ?_
  refine mm_kald (q := 0) d_law_591 (by decide) (mm_sc hi hL 2 (by decide)) ?_
  refine mm_v2i d_law_592 (sk_o_71 hS1) (hp.imp (fun r' μ2 hq => ?_))
  obtain ⟨rfl, hJ2⟩ := hq
  refine mm_icmp_eq d_law_595 (fun _ => ?_) (fun cc => absurd rfl cc)
  exact hend μ2 hJ2
theorem lc_10 {X : mm_X} {J : mm_M → Prop} {i m : Nat} {μ : mm_M} (hi : i + 6 ≤ X.1) (hL : X.1 ≤ 3072) (hS : SK μ) (H : ∀ (y1 y2 y3 : Int32) (b : Int32), b = 0 ∨ b = 1 → PairJ X J k_G_odds k_M_odds [.int y1, .int y2, .int y3, .int b] μ) (hend : ∀ μ2, J μ2 → LT X m 2053 i μ2) : LT X (m + 1) 600 i μ := by
  show mm_T X 40 (40 * m + 40) (1100 * m + 1100) k_law 600 [some (.ref 2000000), some (.ref 0), some (.ref 71), some (.int (nI i))] [] μ _
  refine mm_aload d_law_600 rfl ?_
  refine mm_aload d_law_601 rfl ?_
  refine mm_iload d_law_602 rfl ?_
  refine mm_ci d_law_603 ?_
  refine mm_iadd d_law_604 ?_
  refine mm_kald (q := 0) d_law_605 (by decide) (mm_sc hi hL 1 (by decide)) ?_
  refine mm_aload d_law_606 rfl ?_
  refine mm_iload d_law_607 rfl ?_
  refine mm_ci d_law_608 ?_
  refine mm_iadd d_law_609 ?_
  refine mm_kald (q := 0) d_law_610 (by decide) (mm_sc hi hL 2 (by decide)) ?_
  refine mm_aload d_law_611 rfl ?_
  refine mm_iload d_law_612 rfl ?_
  refine mm_ci d_law_613 ?_
  refine mm_iadd d_law_614 ?_
  refine mm_kald (q := 0) d_law_615 (by decide) (mm_sc hi hL 3 (by decide)) ?_
  refine mm_aload d_law_616 rfl ?_
  refine mm_iload d_law_617 rfl ?_
  refine mm_ci d_law_618 ?_
  refine mm_iadd d_law_619 ?_
  refine mm_kald (q := 0) d_law_620 (by decide) (mm_sc hi hL 4 (by decide)) ?_
  refine mm_if_eq d_law_621 (fun cb => ?_) (fun cb => ?_)
  · refine mm_ci d_law_628 ?_
    refine mm_w4j 40 1100 d_law_629 (sk_o_0 hS) ((H _ _ _ 0 (Or.inl rfl)).imp (fun r μ1 hp => ?_))
    obtain ⟨hS1, hp⟩ := hp
    refine mm_aload d_law_632 rfl ?_
    refine mm_aload d_law_633 rfl ?_
    refine mm_iload d_law_634 rfl ?_
    refine mm_ci d_law_635 ?_
    refine mm_iadd d_law_636 ?_
    refine mm_kald (q := 0) d_law_637 (by decide) (mm_sc hi hL 1 (by decide)) ?_
    refine mm_aload d_law_638 rfl ?_
    refine mm_iload d_law_639 rfl ?_
    refine mm_ci d_law_640 ?_
    refine mm_iadd d_law_641 ?_
    refine mm_kald (q := 0) d_law_642 (by decide) (mm_sc hi hL 2 (by decide)) ?_
    refine mm_aload d_law_643 rfl ?_
    refine mm_iload d_law_644 rfl ?_
    refine mm_ci d_law_645 ?_
    refine mm_iadd d_law_646 ?_
    refine mm_kald (q := 0) d_law_647 (by decide) (mm_sc hi hL 3 (by decide)) ?_
    refine mm_aload d_law_648 rfl ?_
    refine mm_iload d_law_649 rfl ?_
    refine mm_ci d_law_650 ?_
    refine mm_iadd d_law_651 ?_
    refine mm_kald (q := 0) d_law_652 (by decide) (mm_sc hi hL 4 (by decide)) ?_
    refine mm_if_eq d_law_653 (fun _ => ?_) (fun cc => absurd cb cc)
    refine mm_ci d_law_660 ?_
    refine mm_v4j d_law_661 (sk_o_71 hS1) (hp.imp (fun r' μ2 hq => ?_))
    obtain ⟨rfl, hJ2⟩ := hq
    refine mm_lcmp d_law_664 ?_
    rw [lg_cmp_self]
    refine mm_if_eq d_law_665 (fun _ => ?_) (fun cc => absurd rfl cc)
    exact hend μ2 hJ2
  · refine mm_ci d_law_624 ?_
    refine mm_goto d_law_625 ?_
    refine mm_w4j 40 1100 d_law_629 (sk_o_0 hS) ((H _ _ _ 1 (Or.inr rfl)).imp (fun r μ1 hp => ?_))
    obtain ⟨hS1, hp⟩ := hp
    refine mm_aload d_law_632 rfl ?_
    refine mm_aload d_law_633 rfl ?_
    refine mm_iload d_law_634 rfl ?_
    refine mm_ci d_law_635 ?_
    refine mm_iadd d_law_636 ?_
    refine mm_kald (q := 0) d_law_637 (by decide) (mm_sc hi hL 1 (by decide)) ?_
    refine mm_aload d_law_638 rfl ?_
    refine mm_iload d_law_639 rfl ?_
    refine mm_ci d_law_640 ?_
    refine mm_iadd d_law_641 ?_
    refine mm_kald (q := 0) d_law_642 (by decide) (mm_sc hi hL 2 (by decide)) ?_
    refine mm_aload d_law_643 rfl ?_
    refine mm_iload d_law_644 rfl ?_
    refine mm_ci d_law_645 ?_
    refine mm_iadd d_law_646 ?_
    refine mm_kald (q := 0) d_law_647 (by decide) (mm_sc hi hL 3 (by decide)) ?_
    refine mm_aload d_law_648 rfl ?_
    refine mm_iload d_law_649 rfl ?_
    refine mm_ci d_law_650 ?_
    refine mm_iadd d_law_651 ?_
    refine mm_kald (q := 0) d_law_652 (by decide) (mm_sc hi hL 4 (by decide)) ?_
    refine mm_if_eq d_law_653 (fun cc => absurd cc cb) (fun _ => ?_)
    refine mm_ci d_law_656 ?_
    refine mm_goto d_law_657 ?_
    refine mm_v4j d_law_661 (sk_o_71 hS1) (hp.imp (fun r' μ2 hq => ?_))
    obtain ⟨rfl, hJ2⟩ := hq
    refine mm_lcmp d_law_664 ?_
    rw [lg_cmp_self]
    refine mm_if_eq d_law_665 (fun _ => ?_) (fun cc => absurd rfl cc)
    exact hend μ2 hJ2
theorem lc_11 {X : mm_X} {J : mm_M → Prop} {i m : Nat} {μ : mm_M} (hi : i + 6 ≤ X.1) (hL : X.1 ≤ 3072) (hS : SK μ) (H : ∀ (y1 : Int32) (b : Int32), b = 0 ∨ b = 1 → PairI X J k_G_village k_M_village [.int y1, .int b] μ) (hend : ∀ μ2, J μ2 → LT X m 2053 i μ2) : LT X (m + 1) 670 i μ := by
  show mm_T X 40 (40 * m + 40) (1100 * m + 1100) k_law 670 [some (.ref 2000000), some (.ref 0), some (.ref 71), some (.int (nI i))] [] μ _
  refine mm_aload d_law_670 rfl ?_
  refine mm_aload d_law_671 rfl ?_
  refine mm_iload d_law_672 rfl ?_
  refine mm_ci d_law_673 ?_
  refine mm_iadd d_law_674 ?_
  refine mm_kald (q := 0) d_law_675 (by decide) (mm_sc hi hL 1 (by decide)) ?_
  refine mm_aload d_law_676 rfl ?_
  refine mm_iload d_law_677 rfl ?_
  refine mm_ci d_law_678 ?_
  refine mm_iadd d_law_679 ?_
  refine mm_kald (q := 0) d_law_680 (by decide) (mm_sc hi hL 2 (by decide)) ?_
  refine mm_if_eq d_law_681 (fun cb => ?_) (fun cb => ?_)
  · refine mm_ci d_law_688 ?_
    refine mm_w2i 40 1100 d_law_689 (sk_o_0 hS) ((H _ 0 (Or.inl rfl)).imp (fun r μ1 hp => ?_))
    obtain ⟨hS1, hp⟩ := hp
    refine mm_aload d_law_692 rfl ?_
    refine mm_aload d_law_693 rfl ?_
    refine mm_iload d_law_694 rfl ?_
    refine mm_ci d_law_695 ?_
    refine mm_iadd d_law_696 ?_
    refine mm_kald (q := 0) d_law_697 (by decide) (mm_sc hi hL 1 (by decide)) ?_
    refine mm_aload d_law_698 rfl ?_
    refine mm_iload d_law_699 rfl ?_
    refine mm_ci d_law_700 ?_
    refine mm_iadd d_law_701 ?_
    refine mm_kald (q := 0) d_law_702 (by decide) (mm_sc hi hL 2 (by decide)) ?_
    refine mm_if_eq d_law_703 (fun _ => ?_) (fun cc => absurd cb cc)
    refine mm_ci d_law_710 ?_
    refine mm_v2i d_law_711 (sk_o_71 hS1) (hp.imp (fun r' μ2 hq => ?_))
    obtain ⟨rfl, hJ2⟩ := hq
    refine mm_icmp_eq d_law_714 (fun _ => ?_) (fun cc => absurd rfl cc)
    exact hend μ2 hJ2
  · refine mm_ci d_law_684 ?_
    refine mm_goto d_law_685 ?_
    refine mm_w2i 40 1100 d_law_689 (sk_o_0 hS) ((H _ 1 (Or.inr rfl)).imp (fun r μ1 hp => ?_))
    obtain ⟨hS1, hp⟩ := hp
    refine mm_aload d_law_692 rfl ?_
    refine mm_aload d_law_693 rfl ?_
    refine mm_iload d_law_694 rfl ?_
    refine mm_ci d_law_695 ?_
    refine mm_iadd d_law_696 ?_
    refine mm_kald (q := 0) d_law_697 (by decide) (mm_sc hi hL 1 (by decide)) ?_
    refine mm_aload d_law_698 rfl ?_
    refine mm_iload d_law_699 rfl ?_
    refine mm_ci d_law_700 ?_
    refine mm_iadd d_law_701 ?_
    refine mm_kald (q := 0) d_law_702 (by decide) (mm_sc hi hL 2 (by decide)) ?_
    refine mm_if_eq d_law_703 (fun cc => absurd cc cb) (fun _ => ?_)
    refine mm_ci d_law_706 ?_
    refine mm_goto d_law_707 ?_
    refine mm_v2i d_law_711 (sk_o_71 hS1) (hp.imp (fun r' μ2 hq => ?_))
    obtain ⟨rfl, hJ2⟩ := hq
    refine mm_icmp_eq d_law_714 (fun _ => ?_) (fun cc => absurd rfl cc)
    exact hend μ2 hJ2
theorem lc_12 {X : mm_X} {J : mm_M → Prop} {i m : Nat} {μ : mm_M} (hi : i + 6 ≤ X.1) (hL : X.1 ≤ 3072) (hS : SK μ) (H : ∀ (y1 y2 : Int32), PairI X J k_G_boats k_M_boats [.int y1, .int y2] μ) (hend : ∀ μ2, J μ2 → LT X m 2053 i μ2) : LT X (m + 1) 719 i μ := by
  show mm_T X 40 (40 * m + 40) (1100 * m + 1100) k_law 719 [some (.ref 2000000), some (.ref 0), some (.ref 71), some (.int (nI i))] [] μ _
  refine mm_aload d_law_719 rfl ?_
  refine mm_aload d_law_720 rfl ?_
  refine mm_iload d_law_721 rfl ?_
  refine mm_ci d_law_722 ?_
  refine mm_iadd d_law_723 ?_
  refine mm_kald (q := 0) d_law_724 (by decide) (mm_sc hi hL 1 (by decide)) ?_
  refine mm_aload d_law_725 rfl ?_
  refine mm_iload d_law_726 rfl ?_
  refine mm_ci d_law_727 ?_
  refine mm_iadd d_law_728 ?_
  refine mm_kald (q := 0) d_law_729 (by decide) (mm_sc hi hL 2 (by decide)) ?_
  refine mm_w2i 40 1100 d_law_730 (sk_o_0 hS) ((H _ _).imp (fun r μ1 hp => ?_))
  obtain ⟨hS1, hp⟩ := hp
  refine mm_aload d_law_733 rfl ?_
  refine mm_aload d_law_734 rfl ?_
  refine mm_iload d_law_735 rfl ?_
  refine mm_ci d_law_736 ?_
  refine mm_iadd d_law_737 ?_
  refine mm_kald (q := 0) d_law_738 (by decide) (mm_sc hi hL 1 (by decide)) ?_
  refine mm_aload d_law_739 rfl ?_
  refine mm_iload d_law_740 rfl ?_
  refine mm_ci d_law_741 ?_
  refine mm_iadd d_law_742 ?_
  refine mm_kald (q := 0) d_law_743 (by decide) (mm_sc hi hL 2 (by decide)) ?_
  refine mm_v2i d_law_744 (sk_o_71 hS1) (hp.imp (fun r' μ2 hq => ?_))
  obtain ⟨rfl, hJ2⟩ := hq
  refine mm_icmp_eq d_law_747 (fun _ => ?_) (fun cc => absurd rfl cc)
  exact hend μ2 hJ2
theorem lc_13 {X : mm_X} {J : mm_M → Prop} {i m : Nat} {μ : mm_M} (hi : i + 6 ≤ X.1) (hL : X.1 ≤ 3072) (hS : SK μ) (H : ∀ (y1 y2 : Int32) (b : Int32), b = 0 ∨ b = 1 → PairI X J k_G_headland k_M_headland [.int y1, .int y2, .int b] μ) (hend : ∀ μ2, J μ2 → LT X m 2053 i μ2) : LT X (m + 1) 752 i μ := by
  show mm_T X 40 (40 * m + 40) (1100 * m + 1100) k_law 752 [some (.ref 2000000), some (.ref 0), some (.ref 71), some (.int (nI i))] [] μ _
  refine mm_aload d_law_752 rfl ?_
  refine mm_aload d_law_753 rfl ?_
  refine mm_iload d_law_754 rfl ?_
  refine mm_ci d_law_755 ?_
  refine mm_iadd d_law_756 ?_
  refine mm_kald (q := 0) d_law_757 (by decide) (mm_sc hi hL 1 (by decide)) ?_
  refine mm_aload d_law_758 rfl ?_
  refine mm_iload d_law_759 rfl ?_
  refine mm_ci d_law_760 ?_
  refine mm_iadd d_law_761 ?_
  refine mm_kald (q := 0) d_law_762 (by decide) (mm_sc hi hL 2 (by decide)) ?_
  refine mm_aload d_law_763 rfl ?_
  refine mm_iload d_law_764 rfl ?_
  refine mm_ci d_law_765 ?_
  refine mm_iadd d_law_766 ?_
  refine mm_kald (q := 0) d_law_767 (by decide) (mm_sc hi hL 3 (by decide)) ?_
  refine mm_if_eq d_law_768 (fun cb => ?_) (fun cb => ?_)
  · refine mm_ci d_law_775 ?_
    refine mm_w3i 40 1100 d_law_776 (sk_o_0 hS) ((H _ _ 0 (Or.inl rfl)).imp (fun r μ1 hp => ?_))
    obtain ⟨hS1, hp⟩ := hp
    refine mm_aload d_law_779 rfl ?_
    refine mm_aload d_law_780 rfl ?_
    refine mm_iload d_law_781 rfl ?_
    refine mm_ci d_law_782 ?_
    refine mm_iadd d_law_783 ?_
    refine mm_kald (q := 0) d_law_784 (by decide) (mm_sc hi hL 1 (by decide)) ?_
    refine mm_aload d_law_785 rfl ?_
    refine mm_iload d_law_786 rfl ?_
    refine mm_ci d_law_787 ?_
    refine mm_iadd d_law_788 ?_
    refine mm_kald (q := 0) d_law_789 (by decide) (mm_sc hi hL 2 (by decide)) ?_
    refine mm_aload d_law_790 rfl ?_
    refine mm_iload d_law_791 rfl ?_
    refine mm_ci d_law_792 ?_
    refine mm_iadd d_law_793 ?_
    refine mm_kald (q := 0) d_law_794 (by decide) (mm_sc hi hL 3 (by decide)) ?_
    refine mm_if_eq d_law_795 (fun _ => ?_) (fun cc => absurd cb cc)
    refine mm_ci d_law_802 ?_
    refine mm_v3i d_law_803 (sk_o_71 hS1) (hp.imp (fun r' μ2 hq => ?_))
    obtain ⟨rfl, hJ2⟩ := hq
    refine mm_icmp_eq d_law_806 (fun _ => ?_) (fun cc => absurd rfl cc)
    exact hend μ2 hJ2
  · refine mm_ci d_law_771 ?_
    refine mm_goto d_law_772 ?_
    refine mm_w3i 40 1100 d_law_776 (sk_o_0 hS) ((H _ _ 1 (Or.inr rfl)).imp (fun r μ1 hp => ?_))
    obtain ⟨hS1, hp⟩ := hp
    refine mm_aload d_law_779 rfl ?_
    refine mm_aload d_law_780 rfl ?_
    refine mm_iload d_law_781 rfl ?_
    refine mm_ci d_law_782 ?_
    refine mm_iadd d_law_783 ?_
    refine mm_kald (q := 0) d_law_784 (by decide) (mm_sc hi hL 1 (by decide)) ?_
    refine mm_aload d_law_785 rfl ?_
    refine mm_iload d_law_786 rfl ?_
    refine mm_ci d_law_787 ?_
    refine mm_iadd d_law_788 ?_
    refine mm_kald (q := 0) d_law_789 (by decide) (mm_sc hi hL 2 (by decide)) ?_
    refine mm_aload d_law_790 rfl ?_
    refine mm_iload d_law_791 rfl ?_
    refine mm_ci d_law_792 ?_
    refine mm_iadd d_law_793 ?_
    refine mm_kald (q := 0) d_law_794 (by decide) (mm_sc hi hL 3 (by decide)) ?_
    refine mm_if_eq d_law_795 (fun cc => absurd cc cb) (fun _ => ?_)
    refine mm_ci d_law_798 ?_
    refine mm_goto d_law_799 ?_
    refine mm_v3i d_law_803 (sk_o_71 hS1) (hp.imp (fun r' μ2 hq => ?_))
    obtain ⟨rfl, hJ2⟩ := hq
    refine mm_icmp_eq d_law_806 (fun _ => ?_) (fun cc => absurd rfl cc)
    exact hend μ2 hJ2
theorem lc_14 {X : mm_X} {J : mm_M → Prop} {i m : Nat} {μ : mm_M} (hi : i + 6 ≤ X.1) (hL : X.1 ≤ 3072) (hS : SK μ) (H : ∀ (y1 y2 y3 y4 : Int32), PairJ X J k_G_waits k_M_waits [.int y1, .int y2, .int y3, .int y4] μ) (hend : ∀ μ2, J μ2 → LT X m 2053 i μ2) : LT X (m + 1) 811 i μ := by
  show mm_T X 40 (40 * m + 40) (1100 * m + 1100) k_law 811 [some (.ref 2000000), some (.ref 0), some (.ref 71), some (.int (nI i))] [] μ _
  refine mm_aload d_law_811 rfl ?_
  refine mm_aload d_law_812 rfl ?_
  refine mm_iload d_law_813 rfl ?_
  refine mm_ci d_law_814 ?_
  refine mm_iadd d_law_815 ?_
  refine mm_kald (q := 0) d_law_816 (by decide) (mm_sc hi hL 1 (by decide)) ?_
  refine mm_aload d_law_817 rfl ?_
  refine mm_iload d_law_818 rfl ?_
  refine mm_ci d_law_819 ?_
  refine mm_iadd d_law_820 ?_
  refine mm_kald (q := 0) d_law_821 (by decide) (mm_sc hi hL 2 (by decide)) ?_
  refine mm_aload d_law_822 rfl ?_
  refine mm_iload d_law_823 rfl ?_
  refine mm_ci d_law_824 ?_
  refine mm_iadd d_law_825 ?_
  refine mm_kald (q := 0) d_law_826 (by decide) (mm_sc hi hL 3 (by decide)) ?_
  refine mm_aload d_law_827 rfl ?_
  refine mm_iload d_law_828 rfl ?_
  refine mm_ci d_law_829 ?_
  refine mm_iadd d_law_830 ?_
  refine mm_kald (q := 0) d_law_831 (by decide) (mm_sc hi hL 4 (by decide)) ?_
  refine mm_w4j 40 1100 d_law_832 (sk_o_0 hS) ((H _ _ _ _).imp (fun r μ1 hp => ?_))
  obtain ⟨hS1, hp⟩ := hp
  refine mm_aload d_law_835 rfl ?_
  refine mm_aload d_law_836 rfl ?_
  refine mm_iload d_law_837 rfl ?_
  refine mm_ci d_law_838 ?_
  refine mm_iadd d_law_839 ?_
  refine mm_kald (q := 0) d_law_840 (by decide) (mm_sc hi hL 1 (by decide)) ?_
  refine mm_aload d_law_841 rfl ?_
  refine mm_iload d_law_842 rfl ?_
  refine mm_ci d_law_843 ?_
  refine mm_iadd d_law_844 ?_
  refine mm_kald (q := 0) d_law_845 (by decide) (mm_sc hi hL 2 (by decide)) ?_
  refine mm_aload d_law_846 rfl ?_
  refine mm_iload d_law_847 rfl ?_
  refine mm_ci d_law_848 ?_
  refine mm_iadd d_law_849 ?_
  refine mm_kald (q := 0) d_law_850 (by decide) (mm_sc hi hL 3 (by decide)) ?_
  refine mm_aload d_law_851 rfl ?_
  refine mm_iload d_law_852 rfl ?_
  refine mm_ci d_law_853 ?_
  refine mm_iadd d_law_854 ?_
  refine mm_kald (q := 0) d_law_855 (by decide) (mm_sc hi hL 4 (by decide)) ?_
  refine mm_v4j d_law_856 (sk_o_71 hS1) (hp.imp (fun r' μ2 hq => ?_))
  obtain ⟨rfl, hJ2⟩ := hq
  refine mm_lcmp d_law_859 ?_
  rw [lg_cmp_self]
  refine mm_if_eq d_law_860 (fun _ => ?_) (fun cc => absurd rfl cc)
  exact hend μ2 hJ2
theorem lc_15 {X : mm_X} {J : mm_M → Prop} {i m : Nat} {μ : mm_M} (hi : i + 6 ≤ X.1) (hL : X.1 ≤ 3072) (hS : SK μ) (H : ∀ (y1 y2 y3 : Int32), PairI X J k_G_fact k_M_fact [.int y1, .int y2, .int y3] μ) (hend : ∀ μ2, J μ2 → LT X m 2053 i μ2) : LT X (m + 1) 865 i μ := by
  show mm_T X 40 (40 * m + 40) (1100 * m + 1100) k_law 865 [some (.ref 2000000), some (.ref 0), some (.ref 71), some (.int (nI i))] [] μ _
  refine mm_aload d_law_865 rfl ?_
  refine mm_aload d_law_866 rfl ?_
  refine mm_iload d_law_867 rfl ?_
  refine mm_ci d_law_868 ?_
  refine mm_iadd d_law_869 ?_
  refine mm_kald (q := 0) d_law_870 (by decide) (mm_sc hi hL 1 (by decide)) ?_
  refine mm_aload d_law_871 rfl ?_
  refine mm_iload d_law_872 rfl ?_
  refine mm_ci d_law_873 ?_
  refine mm_iadd d_law_874 ?_
  refine mm_kald (q := 0) d_law_875 (by decide) (mm_sc hi hL 2 (by decide)) ?_
  refine mm_aload d_law_876 rfl ?_
  refine mm_iload d_law_877 rfl ?_
  refine mm_ci d_law_878 ?_
  refine mm_iadd d_law_879 ?_
  refine mm_kald (q := 0) d_law_880 (by decide) (mm_sc hi hL 3 (by decide)) ?_
  refine mm_w3i 40 1100 d_law_881 (sk_o_0 hS) ((H _ _ _).imp (fun r μ1 hp => ?_))
  obtain ⟨hS1, hp⟩ := hp
  refine mm_aload d_law_884 rfl ?_
  refine mm_aload d_law_885 rfl ?_
  refine mm_iload d_law_886 rfl ?_
  refine mm_ci d_law_887 ?_
  refine mm_iadd d_law_888 ?_
  refine mm_kald (q := 0) d_law_889 (by decide) (mm_sc hi hL 1 (by decide)) ?_
  refine mm_aload d_law_890 rfl ?_
  refine mm_iload d_law_891 rfl ?_
  refine mm_ci d_law_892 ?_
  refine mm_iadd d_law_893 ?_
  refine mm_kald (q := 0) d_law_894 (by decide) (mm_sc hi hL 2 (by decide)) ?_
  refine mm_aload d_law_895 rfl ?_
  refine mm_iload d_law_896 rfl ?_
  refine mm_ci d_law_897 ?_
  refine mm_iadd d_law_898 ?_
  refine mm_kald (q := 0) d_law_899 (by decide) (mm_sc hi hL 3 (by decide)) ?_
  refine mm_v3i d_law_900 (sk_o_71 hS1) (hp.imp (fun r' μ2 hq => ?_))
  obtain ⟨rfl, hJ2⟩ := hq
  refine mm_icmp_eq d_law_903 (fun _ => ?_) (fun cc => absurd rfl cc)
  exact hend μ2 hJ2
theorem lc_16 {X : mm_X} {J : mm_M → Prop} {i m : Nat} {μ : mm_M} (hi : i + 6 ≤ X.1) (hL : X.1 ≤ 3072) (hS : SK μ) (H : ∀ (y1 y2 : Int32), PairI X J k_G_fits k_M_fits [.int y1, .int y2] μ) (hend : ∀ μ2, J μ2 → LT X m 2053 i μ2) : LT X (m + 1) 908 i μ := by
  show mm_T X 40 (40 * m + 40) (1100 * m + 1100) k_law 908 [some (.ref 2000000), some (.ref 0), some (.ref 71), some (.int (nI i))] [] μ _
  refine mm_aload d_law_908 rfl ?_
  refine mm_aload d_law_909 rfl ?_
  refine mm_iload d_law_910 rfl ?_
  refine mm_ci d_law_911 ?_
  refine mm_iadd d_law_912 ?_
  refine mm_kald (q := 0) d_law_913 (by decide) (mm_sc hi hL 1 (by decide)) ?_
  refine mm_aload d_law_914 rfl ?_
  refine mm_iload d_law_915 rfl ?_
  refine mm_ci d_law_916 ?_
  refine mm_iadd d_law_917 ?_
  refine mm_kald (q := 0) d_law_918 (by decide) (mm_sc hi hL 2 (by decide)) ?_
  refine mm_w2i 40 1100 d_law_919 (sk_o_0 hS) ((H _ _).imp (fun r μ1 hp => ?_))
  obtain ⟨hS1, hp⟩ := hp
  refine mm_aload d_law_922 rfl ?_
  refine mm_aload d_law_923 rfl ?_
  refine mm_iload d_law_924 rfl ?_
  refine mm_ci d_law_925 ?_
  refine mm_iadd d_law_926 ?_
  refine mm_kald (q := 0) d_law_927 (by decide) (mm_sc hi hL 1 (by decide)) ?_
  refine mm_aload d_law_928 rfl ?_
  refine mm_iload d_law_929 rfl ?_
  refine mm_ci d_law_930 ?_
  refine mm_iadd d_law_931 ?_
  refine mm_kald (q := 0) d_law_932 (by decide) (mm_sc hi hL 2 (by decide)) ?_
  refine mm_v2i d_law_933 (sk_o_71 hS1) (hp.imp (fun r' μ2 hq => ?_))
  obtain ⟨rfl, hJ2⟩ := hq
  refine mm_icmp_eq d_law_936 (fun _ => ?_) (fun cc => absurd rfl cc)
  exact hend μ2 hJ2
theorem lc_17 {X : mm_X} {J : mm_M → Prop} {i m : Nat} {μ : mm_M} (hi : i + 6 ≤ X.1) (hL : X.1 ≤ 3072) (hS : SK μ) (H : ∀ (y1 y2 : Int32), PairI X J k_G_whose k_M_whose [.int y1, .int y2] μ) (hend : ∀ μ2, J μ2 → LT X m 2053 i μ2) : LT X (m + 1) 941 i μ := by
  show mm_T X 40 (40 * m + 40) (1100 * m + 1100) k_law 941 [some (.ref 2000000), some (.ref 0), some (.ref 71), some (.int (nI i))] [] μ _
  refine mm_aload d_law_941 rfl ?_
  refine mm_aload d_law_942 rfl ?_
  refine mm_iload d_law_943 rfl ?_
  refine mm_ci d_law_944 ?_
  refine mm_iadd d_law_945 ?_
  refine mm_kald (q := 0) d_law_946 (by decide) (mm_sc hi hL 1 (by decide)) ?_
  refine mm_aload d_law_947 rfl ?_
  refine mm_iload d_law_948 rfl ?_
  refine mm_ci d_law_949 ?_
  refine mm_iadd d_law_950 ?_
  refine mm_kald (q := 0) d_law_951 (by decide) (mm_sc hi hL 2 (by decide)) ?_
  refine mm_w2i 40 1100 d_law_952 (sk_o_0 hS) ((H _ _).imp (fun r μ1 hp => ?_))
  obtain ⟨hS1, hp⟩ := hp
  refine mm_aload d_law_955 rfl ?_
  refine mm_aload d_law_956 rfl ?_
  refine mm_iload d_law_957 rfl ?_
  refine mm_ci d_law_958 ?_
  refine mm_iadd d_law_959 ?_
  refine mm_kald (q := 0) d_law_960 (by decide) (mm_sc hi hL 1 (by decide)) ?_
  refine mm_aload d_law_961 rfl ?_
  refine mm_iload d_law_962 rfl ?_
  refine mm_ci d_law_963 ?_
  refine mm_iadd d_law_964 ?_
  refine mm_kald (q := 0) d_law_965 (by decide) (mm_sc hi hL 2 (by decide)) ?_
  refine mm_v2i d_law_966 (sk_o_71 hS1) (hp.imp (fun r' μ2 hq => ?_))
  obtain ⟨rfl, hJ2⟩ := hq
  refine mm_icmp_eq d_law_969 (fun _ => ?_) (fun cc => absurd rfl cc)
  exact hend μ2 hJ2
theorem lc_18 {X : mm_X} {J : mm_M → Prop} {i m : Nat} {μ : mm_M} (hi : i + 6 ≤ X.1) (hL : X.1 ≤ 3072) (hS : SK μ) (H : ∀ (y1 y2 y3 y4 : Int32), PairI X J k_G_drawn k_M_drawn [.int y1, .int y2, .int y3, .int y4] μ) (hend : ∀ μ2, J μ2 → LT X m 2053 i μ2) : LT X (m + 1) 974 i μ := by
  show mm_T X 40 (40 * m + 40) (1100 * m + 1100) k_law 974 [some (.ref 2000000), some (.ref 0), some (.ref 71), some (.int (nI i))] [] μ _
  refine mm_aload d_law_974 rfl ?_
  refine mm_aload d_law_975 rfl ?_
  refine mm_iload d_law_976 rfl ?_
  refine mm_ci d_law_977 ?_
  refine mm_iadd d_law_978 ?_
  refine mm_kald (q := 0) d_law_979 (by decide) (mm_sc hi hL 1 (by decide)) ?_
  refine mm_aload d_law_980 rfl ?_
  refine mm_iload d_law_981 rfl ?_
  refine mm_ci d_law_982 ?_
  refine mm_iadd d_law_983 ?_
  refine mm_kald (q := 0) d_law_984 (by decide) (mm_sc hi hL 2 (by decide)) ?_
  refine mm_aload d_law_985 rfl ?_
  refine mm_iload d_law_986 rfl ?_
  refine mm_ci d_law_987 ?_
  refine mm_iadd d_law_988 ?_
  refine mm_kald (q := 0) d_law_989 (by decide) (mm_sc hi hL 3 (by decide)) ?_
  refine mm_aload d_law_990 rfl ?_
  refine mm_iload d_law_991 rfl ?_
  refine mm_ci d_law_992 ?_
  refine mm_iadd d_law_993 ?_
  refine mm_kald (q := 0) d_law_994 (by decide) (mm_sc hi hL 4 (by decide)) ?_
  refine mm_w4i 40 1100 d_law_995 (sk_o_0 hS) ((H _ _ _ _).imp (fun r μ1 hp => ?_))
  obtain ⟨hS1, hp⟩ := hp
  refine mm_aload d_law_998 rfl ?_
  refine mm_aload d_law_999 rfl ?_
  refine mm_iload d_law_1000 rfl ?_
  refine mm_ci d_law_1001 ?_
  refine mm_iadd d_law_1002 ?_
  refine mm_kald (q := 0) d_law_1003 (by decide) (mm_sc hi hL 1 (by decide)) ?_
  refine mm_aload d_law_1004 rfl ?_
  refine mm_iload d_law_1005 rfl ?_
  refine mm_ci d_law_1006 ?_
  refine mm_iadd d_law_1007 ?_
  refine mm_kald (q := 0) d_law_1008 (by decide) (mm_sc hi hL 2 (by decide)) ?_
  refine mm_aload d_law_1009 rfl ?_
  refine mm_iload d_law_1010 rfl ?_
  refine mm_ci d_law_1011 ?_
  refine mm_iadd d_law_1012 ?_
  refine mm_kald (q := 0) d_law_1013 (by decide) (mm_sc hi hL 3 (by decide)) ?_
  refine mm_aload d_law_1014 rfl ?_
  refine mm_iload d_law_1015 rfl ?_
  refine mm_ci d_law_1016 ?_
  refine mm_iadd d_law_1017 ?_
  refine mm_kald (q := 0) d_law_1018 (by decide) (mm_sc hi hL 4 (by decide)) ?_
  refine mm_v4i d_law_1019 (sk_o_71 hS1) (hp.imp (fun r' μ2 hq => ?_))
  obtain ⟨rfl, hJ2⟩ := hq
  refine mm_icmp_eq d_law_1022 (fun _ => ?_) (fun cc => absurd rfl cc)
  exact hend μ2 hJ2
theorem lc_19 {X : mm_X} {J : mm_M → Prop} {i m : Nat} {μ : mm_M} (hi : i + 6 ≤ X.1) (hL : X.1 ≤ 3072) (hS : SK μ) (H : ∀ (y1 y2 y3 : Int32), PairI X J k_G_kin k_M_kin [.int y1, .int y2, .int y3] μ) (hend : ∀ μ2, J μ2 → LT X m 2053 i μ2) : LT X (m + 1) 1027 i μ := by
  show mm_T X 40 (40 * m + 40) (1100 * m + 1100) k_law 1027 [some (.ref 2000000), some (.ref 0), some (.ref 71), some (.int (nI i))] [] μ _
  refine mm_aload d_law_1027 rfl ?_
  refine mm_aload d_law_1028 rfl ?_
  refine mm_iload d_law_1029 rfl ?_
  refine mm_ci d_law_1030 ?_
  refine mm_iadd d_law_1031 ?_
  refine mm_kald (q := 0) d_law_1032 (by decide) (mm_sc hi hL 1 (by decide)) ?_
  refine mm_aload d_law_1033 rfl ?_
  refine mm_iload d_law_1034 rfl ?_
  refine mm_ci d_law_1035 ?_
  refine mm_iadd d_law_1036 ?_
  refine mm_kald (q := 0) d_law_1037 (by decide) (mm_sc hi hL 2 (by decide)) ?_
  refine mm_aload d_law_1038 rfl ?_
  refine mm_iload d_law_1039 rfl ?_
  refine mm_ci d_law_1040 ?_
  refine mm_iadd d_law_1041 ?_
  refine mm_kald (q := 0) d_law_1042 (by decide) (mm_sc hi hL 3 (by decide)) ?_
  refine mm_w3i 40 1100 d_law_1043 (sk_o_0 hS) ((H _ _ _).imp (fun r μ1 hp => ?_))
  obtain ⟨hS1, hp⟩ := hp
  refine mm_aload d_law_1046 rfl ?_
  refine mm_aload d_law_1047 rfl ?_
  refine mm_iload d_law_1048 rfl ?_
  refine mm_ci d_law_1049 ?_
  refine mm_iadd d_law_1050 ?_
  refine mm_kald (q := 0) d_law_1051 (by decide) (mm_sc hi hL 1 (by decide)) ?_
  refine mm_aload d_law_1052 rfl ?_
  refine mm_iload d_law_1053 rfl ?_
  refine mm_ci d_law_1054 ?_
  refine mm_iadd d_law_1055 ?_
  refine mm_kald (q := 0) d_law_1056 (by decide) (mm_sc hi hL 2 (by decide)) ?_
  refine mm_aload d_law_1057 rfl ?_
  refine mm_iload d_law_1058 rfl ?_
  refine mm_ci d_law_1059 ?_
  refine mm_iadd d_law_1060 ?_
  refine mm_kald (q := 0) d_law_1061 (by decide) (mm_sc hi hL 3 (by decide)) ?_
  refine mm_v3i d_law_1062 (sk_o_71 hS1) (hp.imp (fun r' μ2 hq => ?_))
  obtain ⟨rfl, hJ2⟩ := hq
  refine mm_icmp_eq d_law_1065 (fun _ => ?_) (fun cc => absurd rfl cc)
  exact hend μ2 hJ2
theorem lc_20 {X : mm_X} {J : mm_M → Prop} {i m : Nat} {μ : mm_M} (hi : i + 6 ≤ X.1) (hL : X.1 ≤ 3072) (hS : SK μ) (H : ∀ (y1 y2 : Int32), PairI X J k_G_clan k_M_clan [.int y1, .int y2] μ) (hend : ∀ μ2, J μ2 → LT X m 2053 i μ2) : LT X (m + 1) 1070 i μ := by
  show mm_T X 40 (40 * m + 40) (1100 * m + 1100) k_law 1070 [some (.ref 2000000), some (.ref 0), some (.ref 71), some (.int (nI i))] [] μ _
  refine mm_aload d_law_1070 rfl ?_
  refine mm_aload d_law_1071 rfl ?_
  refine mm_iload d_law_1072 rfl ?_
  refine mm_ci d_law_1073 ?_
  refine mm_iadd d_law_1074 ?_
  refine mm_kald (q := 0) d_law_1075 (by decide) (mm_sc hi hL 1 (by decide)) ?_
  refine mm_aload d_law_1076 rfl ?_
  refine mm_iload d_law_1077 rfl ?_
  refine mm_ci d_law_1078 ?_
  refine mm_iadd d_law_1079 ?_
  refine mm_kald (q := 0) d_law_1080 (by decide) (mm_sc hi hL 2 (by decide)) ?_
  refine mm_w2i 40 1100 d_law_1081 (sk_o_0 hS) ((H _ _).imp (fun r μ1 hp => ?_))
  obtain ⟨hS1, hp⟩ := hp
  refine mm_aload d_law_1084 rfl ?_
  refine mm_aload d_law_1085 rfl ?_
  refine mm_iload d_law_1086 rfl ?_
  refine mm_ci d_law_1087 ?_
  refine mm_iadd d_law_1088 ?_
  refine mm_kald (q := 0) d_law_1089 (by decide) (mm_sc hi hL 1 (by decide)) ?_
  refine mm_aload d_law_1090 rfl ?_
  refine mm_iload d_law_1091 rfl ?_
  refine mm_ci d_law_1092 ?_
  refine mm_iadd d_law_1093 ?_
  refine mm_kald (q := 0) d_law_1094 (by decide) (mm_sc hi hL 2 (by decide)) ?_
  refine mm_v2i d_law_1095 (sk_o_71 hS1) (hp.imp (fun r' μ2 hq => ?_))
  obtain ⟨rfl, hJ2⟩ := hq
  refine mm_icmp_eq d_law_1098 (fun _ => ?_) (fun cc => absurd rfl cc)
  exact hend μ2 hJ2
theorem lc_21 {X : mm_X} {J : mm_M → Prop} {i m : Nat} {μ : mm_M} (hi : i + 6 ≤ X.1) (hL : X.1 ≤ 3072) (hS : SK μ) (H : ∀ (y1 : Int32) (b : Int32), b = 0 ∨ b = 1 → PairI X J k_G_lone k_M_lone [.int y1, .int b] μ) (hend : ∀ μ2, J μ2 → LT X m 2053 i μ2) : LT X (m + 1) 1103 i μ := by
  show mm_T X 40 (40 * m + 40) (1100 * m + 1100) k_law 1103 [some (.ref 2000000), some (.ref 0), some (.ref 71), some (.int (nI i))] [] μ _
  refine mm_aload d_law_1103 rfl ?_
  refine mm_aload d_law_1104 rfl ?_
  refine mm_iload d_law_1105 rfl ?_
  refine mm_ci d_law_1106 ?_
  refine mm_iadd d_law_1107 ?_
  refine mm_kald (q := 0) d_law_1108 (by decide) (mm_sc hi hL 1 (by decide)) ?_
  refine mm_aload d_law_1109 rfl ?_
  refine mm_iload d_law_1110 rfl ?_
  refine mm_ci d_law_1111 ?_
  refine mm_iadd d_law_1112 ?_
  refine mm_kald (q := 0) d_law_1113 (by decide) (mm_sc hi hL 2 (by decide)) ?_
  refine mm_if_eq d_law_1114 (fun cb => ?_) (fun cb => ?_)
  · refine mm_ci d_law_1121 ?_
    refine mm_w2i 40 1100 d_law_1122 (sk_o_0 hS) ((H _ 0 (Or.inl rfl)).imp (fun r μ1 hp => ?_))
    obtain ⟨hS1, hp⟩ := hp
    refine mm_aload d_law_1125 rfl ?_
    refine mm_aload d_law_1126 rfl ?_
    refine mm_iload d_law_1127 rfl ?_
    refine mm_ci d_law_1128 ?_
    refine mm_iadd d_law_1129 ?_
    refine mm_kald (q := 0) d_law_1130 (by decide) (mm_sc hi hL 1 (by decide)) ?_
    refine mm_aload d_law_1131 rfl ?_
    refine mm_iload d_law_1132 rfl ?_
    refine mm_ci d_law_1133 ?_
    refine mm_iadd d_law_1134 ?_
    refine mm_kald (q := 0) d_law_1135 (by decide) (mm_sc hi hL 2 (by decide)) ?_
    refine mm_if_eq d_law_1136 (fun _ => ?_) (fun cc => absurd cb cc)
    refine mm_ci d_law_1143 ?_
    refine mm_v2i d_law_1144 (sk_o_71 hS1) (hp.imp (fun r' μ2 hq => ?_))
    obtain ⟨rfl, hJ2⟩ := hq
    refine mm_icmp_eq d_law_1147 (fun _ => ?_) (fun cc => absurd rfl cc)
    exact hend μ2 hJ2
  · refine mm_ci d_law_1117 ?_
    refine mm_goto d_law_1118 ?_
    refine mm_w2i 40 1100 d_law_1122 (sk_o_0 hS) ((H _ 1 (Or.inr rfl)).imp (fun r μ1 hp => ?_))
    obtain ⟨hS1, hp⟩ := hp
    refine mm_aload d_law_1125 rfl ?_
    refine mm_aload d_law_1126 rfl ?_
    refine mm_iload d_law_1127 rfl ?_
    refine mm_ci d_law_1128 ?_
    refine mm_iadd d_law_1129 ?_
    refine mm_kald (q := 0) d_law_1130 (by decide) (mm_sc hi hL 1 (by decide)) ?_
    refine mm_aload d_law_1131 rfl ?_
    refine mm_iload d_law_1132 rfl ?_
    refine mm_ci d_law_1133 ?_
    refine mm_iadd d_law_1134 ?_
    refine mm_kald (q := 0) d_law_1135 (by decide) (mm_sc hi hL 2 (by decide)) ?_
    refine mm_if_eq d_law_1136 (fun cc => absurd cc cb) (fun _ => ?_)
    refine mm_ci d_law_1139 ?_
    refine mm_goto d_law_1140 ?_
    refine mm_v2i d_law_1144 (sk_o_71 hS1) (hp.imp (fun r' μ2 hq => ?_))
    obtain ⟨rfl, hJ2⟩ := hq
    refine mm_icmp_eq d_law_1147 (fun _ => ?_) (fun cc => absurd rfl cc)
    exact hend μ2 hJ2
theorem lc_22 {X : mm_X} {J : mm_M → Prop} {i m : Nat} {μ : mm_M} (hi : i + 6 ≤ X.1) (hL : X.1 ≤ 3072) (hS : SK μ) (H : ∀ (y1 y2 : Int32), PairI X J k_G_near k_M_near [.int y1, .int y2] μ) (hend : ∀ μ2, J μ2 → LT X m 2053 i μ2) : LT X (m + 1) 1152 i μ := by
  show mm_T X 40 (40 * m + 40) (1100 * m + 1100) k_law 1152 [some (.ref 2000000), some (.ref 0), some (.ref 71), some (.int (nI i))] [] μ _
  refine mm_aload d_law_1152 rfl ?_
  refine mm_aload d_law_1153 rfl ?_
  refine mm_iload d_law_1154 rfl ?_
  refine mm_ci d_law_1155 ?_
  refine mm_iadd d_law_1156 ?_
  refine mm_kald (q := 0) d_law_1157 (by decide) (mm_sc hi hL 1 (by decide)) ?_
  refine mm_aload d_law_1158 rfl ?_
  refine mm_iload d_law_1159 rfl ?_
  refine mm_ci d_law_1160 ?_
  refine mm_iadd d_law_1161 ?_
  refine mm_kald (q := 0) d_law_1162 (by decide) (mm_sc hi hL 2 (by decide)) ?_
  refine mm_w2i 40 1100 d_law_1163 (sk_o_0 hS) ((H _ _).imp (fun r μ1 hp => ?_))
  obtain ⟨hS1, hp⟩ := hp
  refine mm_aload d_law_1166 rfl ?_
  refine mm_aload d_law_1167 rfl ?_
  refine mm_iload d_law_1168 rfl ?_
  refine mm_ci d_law_1169 ?_
  refine mm_iadd d_law_1170 ?_
  refine mm_kald (q := 0) d_law_1171 (by decide) (mm_sc hi hL 1 (by decide)) ?_
  refine mm_aload d_law_1172 rfl ?_
  refine mm_iload d_law_1173 rfl ?_
  refine mm_ci d_law_1174 ?_
  refine mm_iadd d_law_1175 ?_
  refine mm_kald (q := 0) d_law_1176 (by decide) (mm_sc hi hL 2 (by decide)) ?_
  refine mm_v2i d_law_1177 (sk_o_71 hS1) (hp.imp (fun r' μ2 hq => ?_))
  obtain ⟨rfl, hJ2⟩ := hq
  refine mm_icmp_eq d_law_1180 (fun _ => ?_) (fun cc => absurd rfl cc)
  exact hend μ2 hJ2
theorem lc_23 {X : mm_X} {J : mm_M → Prop} {i m : Nat} {μ : mm_M} (hi : i + 6 ≤ X.1) (hL : X.1 ≤ 3072) (hS : SK μ) (H : ∀ (y1 y2 : Int32), PairI X J k_G_ladder k_M_ladder [.int y1, .int y2] μ) (hend : ∀ μ2, J μ2 → LT X m 2053 i μ2) : LT X (m + 1) 1185 i μ := by
  show mm_T X 40 (40 * m + 40) (1100 * m + 1100) k_law 1185 [some (.ref 2000000), some (.ref 0), some (.ref 71), some (.int (nI i))] [] μ _
  refine mm_aload d_law_1185 rfl ?_
  refine mm_aload d_law_1186 rfl ?_
  refine mm_iload d_law_1187 rfl ?_
  refine mm_ci d_law_1188 ?_
  refine mm_iadd d_law_1189 ?_
  refine mm_kald (q := 0) d_law_1190 (by decide) (mm_sc hi hL 1 (by decide)) ?_
  refine mm_aload d_law_1191 rfl ?_
  refine mm_iload d_law_1192 rfl ?_
  refine mm_ci d_law_1193 ?_
  refine mm_iadd d_law_1194 ?_
  refine mm_kald (q := 0) d_law_1195 (by decide) (mm_sc hi hL 2 (by decide)) ?_
  refine mm_w2i 40 1100 d_law_1196 (sk_o_0 hS) ((H _ _).imp (fun r μ1 hp => ?_))
  obtain ⟨hS1, hp⟩ := hp
  refine mm_aload d_law_1199 rfl ?_
  refine mm_aload d_law_1200 rfl ?_
  refine mm_iload d_law_1201 rfl ?_
  refine mm_ci d_law_1202 ?_
  refine mm_iadd d_law_1203 ?_
  refine mm_kald (q := 0) d_law_1204 (by decide) (mm_sc hi hL 1 (by decide)) ?_
  refine mm_aload d_law_1205 rfl ?_
  refine mm_iload d_law_1206 rfl ?_
  refine mm_ci d_law_1207 ?_
  refine mm_iadd d_law_1208 ?_
  refine mm_kald (q := 0) d_law_1209 (by decide) (mm_sc hi hL 2 (by decide)) ?_
  refine mm_v2i d_law_1210 (sk_o_71 hS1) (hp.imp (fun r' μ2 hq => ?_))
  obtain ⟨rfl, hJ2⟩ := hq
  refine mm_icmp_eq d_law_1213 (fun _ => ?_) (fun cc => absurd rfl cc)
  exact hend μ2 hJ2
theorem lc_24 {X : mm_X} {J : mm_M → Prop} {i m : Nat} {μ : mm_M} (hi : i + 6 ≤ X.1) (hL : X.1 ≤ 3072) (hS : SK μ) (H : ∀ (y1 y2 : Int32) (b : Int32), b = 0 ∨ b = 1 → PairJ X J k_G_storm k_M_storm [.int y1, .int y2, .int b] μ) (hend : ∀ μ2, J μ2 → LT X m 2053 i μ2) : LT X (m + 1) 1218 i μ := by
  show mm_T X 40 (40 * m + 40) (1100 * m + 1100) k_law 1218 [some (.ref 2000000), some (.ref 0), some (.ref 71), some (.int (nI i))] [] μ _
  refine mm_aload d_law_1218 rfl ?_
  refine mm_aload d_law_1219 rfl ?_
  refine mm_iload d_law_1220 rfl ?_
  refine mm_ci d_law_1221 ?_
  refine mm_iadd d_law_1222 ?_
  refine mm_kald (q := 0) d_law_1223 (by decide) (mm_sc hi hL 1 (by decide)) ?_
  refine mm_aload d_law_1224 rfl ?_
  refine mm_iload d_law_1225 rfl ?_
  refine mm_ci d_law_1226 ?_
  refine mm_iadd d_law_1227 ?_
  refine mm_kald (q := 0) d_law_1228 (by decide) (mm_sc hi hL 2 (by decide)) ?_
  refine mm_aload d_law_1229 rfl ?_
  refine mm_iload d_law_1230 rfl ?_
  refine mm_ci d_law_1231 ?_
  refine mm_iadd d_law_1232 ?_
  refine mm_kald (q := 0) d_law_1233 (by decide) (mm_sc hi hL 3 (by decide)) ?_
  refine mm_if_eq d_law_1234 (fun cb => ?_) (fun cb => ?_)
  · refine mm_ci d_law_1241 ?_
    refine mm_w3j 40 1100 d_law_1242 (sk_o_0 hS) ((H _ _ 0 (Or.inl rfl)).imp (fun r μ1 hp => ?_))
    obtain ⟨hS1, hp⟩ := hp
    refine mm_aload d_law_1245 rfl ?_
    refine mm_aload d_law_1246 rfl ?_
    refine mm_iload d_law_1247 rfl ?_
    refine mm_ci d_law_1248 ?_
    refine mm_iadd d_law_1249 ?_
    refine mm_kald (q := 0) d_law_1250 (by decide) (mm_sc hi hL 1 (by decide)) ?_
    refine mm_aload d_law_1251 rfl ?_
    refine mm_iload d_law_1252 rfl ?_
    refine mm_ci d_law_1253 ?_
    refine mm_iadd d_law_1254 ?_
    refine mm_kald (q := 0) d_law_1255 (by decide) (mm_sc hi hL 2 (by decide)) ?_
    refine mm_aload d_law_1256 rfl ?_
    refine mm_iload d_law_1257 rfl ?_
    refine mm_ci d_law_1258 ?_
    refine mm_iadd d_law_1259 ?_
    refine mm_kald (q := 0) d_law_1260 (by decide) (mm_sc hi hL 3 (by decide)) ?_
    refine mm_if_eq d_law_1261 (fun _ => ?_) (fun cc => absurd cb cc)
    refine mm_ci d_law_1268 ?_
    refine mm_v3j d_law_1269 (sk_o_71 hS1) (hp.imp (fun r' μ2 hq => ?_))
    obtain ⟨rfl, hJ2⟩ := hq
    refine mm_lcmp d_law_1272 ?_
    rw [lg_cmp_self]
    refine mm_if_eq d_law_1273 (fun _ => ?_) (fun cc => absurd rfl cc)
    exact hend μ2 hJ2
  · refine mm_ci d_law_1237 ?_
    refine mm_goto d_law_1238 ?_
    refine mm_w3j 40 1100 d_law_1242 (sk_o_0 hS) ((H _ _ 1 (Or.inr rfl)).imp (fun r μ1 hp => ?_))
    obtain ⟨hS1, hp⟩ := hp
    refine mm_aload d_law_1245 rfl ?_
    refine mm_aload d_law_1246 rfl ?_
    refine mm_iload d_law_1247 rfl ?_
    refine mm_ci d_law_1248 ?_
    refine mm_iadd d_law_1249 ?_
    refine mm_kald (q := 0) d_law_1250 (by decide) (mm_sc hi hL 1 (by decide)) ?_
    refine mm_aload d_law_1251 rfl ?_
    refine mm_iload d_law_1252 rfl ?_
    refine mm_ci d_law_1253 ?_
    refine mm_iadd d_law_1254 ?_
    refine mm_kald (q := 0) d_law_1255 (by decide) (mm_sc hi hL 2 (by decide)) ?_
    refine mm_aload d_law_1256 rfl ?_
    refine mm_iload d_law_1257 rfl ?_
    refine mm_ci d_law_1258 ?_
    refine mm_iadd d_law_1259 ?_
    refine mm_kald (q := 0) d_law_1260 (by decide) (mm_sc hi hL 3 (by decide)) ?_
    refine mm_if_eq d_law_1261 (fun cc => absurd cc cb) (fun _ => ?_)
    refine mm_ci d_law_1264 ?_
    refine mm_goto d_law_1265 ?_
    refine mm_v3j d_law_1269 (sk_o_71 hS1) (hp.imp (fun r' μ2 hq => ?_))
    obtain ⟨rfl, hJ2⟩ := hq
    refine mm_lcmp d_law_1272 ?_
    rw [lg_cmp_self]
    refine mm_if_eq d_law_1273 (fun _ => ?_) (fun cc => absurd rfl cc)
    exact hend μ2 hJ2
theorem lc_25 {X : mm_X} {J : mm_M → Prop} {i m : Nat} {μ : mm_M} (hi : i + 6 ≤ X.1) (hL : X.1 ≤ 3072) (hS : SK μ) (H : ∀ (y1 y2 : Int32), PairI X J k_G_lack k_M_lack [.int y1, .int y2] μ) (hend : ∀ μ2, J μ2 → LT X m 2053 i μ2) : LT X (m + 1) 1278 i μ := by
  show mm_T X 40 (40 * m + 40) (1100 * m + 1100) k_law 1278 [some (.ref 2000000), some (.ref 0), some (.ref 71), some (.int (nI i))] [] μ _
  refine mm_aload d_law_1278 rfl ?_
  refine mm_aload d_law_1279 rfl ?_
  refine mm_iload d_law_1280 rfl ?_
  refine mm_ci d_law_1281 ?_
  refine mm_iadd d_law_1282 ?_
  refine mm_kald (q := 0) d_law_1283 (by decide) (mm_sc hi hL 1 (by decide)) ?_
  refine mm_aload d_law_1284 rfl ?_
  refine mm_iload d_law_1285 rfl ?_
  refine mm_ci d_law_1286 ?_
  refine mm_iadd d_law_1287 ?_
  refine mm_kald (q := 0) d_law_1288 (by decide) (mm_sc hi hL 2 (by decide)) ?_
  refine mm_w2i 40 1100 d_law_1289 (sk_o_0 hS) ((H _ _).imp (fun r μ1 hp => ?_))
  obtain ⟨hS1, hp⟩ := hp
  refine mm_aload d_law_1292 rfl ?_
  refine mm_aload d_law_1293 rfl ?_
  refine mm_iload d_law_1294 rfl ?_
  refine mm_ci d_law_1295 ?_
  refine mm_iadd d_law_1296 ?_
  refine mm_kald (q := 0) d_law_1297 (by decide) (mm_sc hi hL 1 (by decide)) ?_
  refine mm_aload d_law_1298 rfl ?_
  refine mm_iload d_law_1299 rfl ?_
  refine mm_ci d_law_1300 ?_
  refine mm_iadd d_law_1301 ?_
  refine mm_kald (q := 0) d_law_1302 (by decide) (mm_sc hi hL 2 (by decide)) ?_
  refine mm_v2i d_law_1303 (sk_o_71 hS1) (hp.imp (fun r' μ2 hq => ?_))
  obtain ⟨rfl, hJ2⟩ := hq
  refine mm_icmp_eq d_law_1306 (fun _ => ?_) (fun cc => absurd rfl cc)
  exact hend μ2 hJ2
theorem lc_26 {X : mm_X} {J : mm_M → Prop} {i m : Nat} {μ : mm_M} (hi : i + 6 ≤ X.1) (hL : X.1 ≤ 3072) (hS : SK μ) (H : ∀ (y1 y2 : Int32), PairI X J k_G_busy k_M_busy [.int y1, .int y2] μ) (hend : ∀ μ2, J μ2 → LT X m 2053 i μ2) : LT X (m + 1) 1311 i μ := by
  show mm_T X 40 (40 * m + 40) (1100 * m + 1100) k_law 1311 [some (.ref 2000000), some (.ref 0), some (.ref 71), some (.int (nI i))] [] μ _
  refine mm_aload d_law_1311 rfl ?_
  refine mm_aload d_law_1312 rfl ?_
  refine mm_iload d_law_1313 rfl ?_
  refine mm_ci d_law_1314 ?_
  refine mm_iadd d_law_1315 ?_
  refine mm_kald (q := 0) d_law_1316 (by decide) (mm_sc hi hL 1 (by decide)) ?_
  refine mm_aload d_law_1317 rfl ?_
  refine mm_iload d_law_1318 rfl ?_
  refine mm_ci d_law_1319 ?_
  refine mm_iadd d_law_1320 ?_
  refine mm_kald (q := 0) d_law_1321 (by decide) (mm_sc hi hL 2 (by decide)) ?_
  refine mm_w2i 40 1100 d_law_1322 (sk_o_0 hS) ((H _ _).imp (fun r μ1 hp => ?_))
  obtain ⟨hS1, hp⟩ := hp
  refine mm_aload d_law_1325 rfl ?_
  refine mm_aload d_law_1326 rfl ?_
  refine mm_iload d_law_1327 rfl ?_
  refine mm_ci d_law_1328 ?_
  refine mm_iadd d_law_1329 ?_
  refine mm_kald (q := 0) d_law_1330 (by decide) (mm_sc hi hL 1 (by decide)) ?_
  refine mm_aload d_law_1331 rfl ?_
  refine mm_iload d_law_1332 rfl ?_
  refine mm_ci d_law_1333 ?_
  refine mm_iadd d_law_1334 ?_
  refine mm_kald (q := 0) d_law_1335 (by decide) (mm_sc hi hL 2 (by decide)) ?_
  refine mm_v2i d_law_1336 (sk_o_71 hS1) (hp.imp (fun r' μ2 hq => ?_))
  obtain ⟨rfl, hJ2⟩ := hq
  refine mm_icmp_eq d_law_1339 (fun _ => ?_) (fun cc => absurd rfl cc)
  exact hend μ2 hJ2
theorem lc_27 {X : mm_X} {J : mm_M → Prop} {i m : Nat} {μ : mm_M} (hi : i + 6 ≤ X.1) (hL : X.1 ≤ 3072) (hS : SK μ) (H : ∀ (y1 y2 : Int32) (b : Int32), b = 0 ∨ b = 1 → PairJ X J k_G_lots k_M_lots [.int y1, .int y2, .int b] μ) (hend : ∀ μ2, J μ2 → LT X m 2053 i μ2) : LT X (m + 1) 1344 i μ := by
  show mm_T X 40 (40 * m + 40) (1100 * m + 1100) k_law 1344 [some (.ref 2000000), some (.ref 0), some (.ref 71), some (.int (nI i))] [] μ _
  refine mm_aload d_law_1344 rfl ?_
  refine mm_aload d_law_1345 rfl ?_
  refine mm_iload d_law_1346 rfl ?_
  refine mm_ci d_law_1347 ?_
  refine mm_iadd d_law_1348 ?_
  refine mm_kald (q := 0) d_law_1349 (by decide) (mm_sc hi hL 1 (by decide)) ?_
  refine mm_aload d_law_1350 rfl ?_
  refine mm_iload d_law_1351 rfl ?_
  refine mm_ci d_law_1352 ?_
  refine mm_iadd d_law_1353 ?_
  refine mm_kald (q := 0) d_law_1354 (by decide) (mm_sc hi hL 2 (by decide)) ?_
  refine mm_aload d_law_1355 rfl ?_
  refine mm_iload d_law_1356 rfl ?_
  refine mm_ci d_law_1357 ?_
  refine mm_iadd d_law_1358 ?_
  refine mm_kald (q := 0) d_law_1359 (by decide) (mm_sc hi hL 3 (by decide)) ?_
  refine mm_if_eq d_law_1360 (fun cb => ?_) (fun cb => ?_)
  · refine mm_ci d_law_1367 ?_
    refine mm_w3j 40 1100 d_law_1368 (sk_o_0 hS) ((H _ _ 0 (Or.inl rfl)).imp (fun r μ1 hp => ?_))
    obtain ⟨hS1, hp⟩ := hp
    refine mm_aload d_law_1371 rfl ?_
    refine mm_aload d_law_1372 rfl ?_
    refine mm_iload d_law_1373 rfl ?_
    refine mm_ci d_law_1374 ?_
    refine mm_iadd d_law_1375 ?_
    refine mm_kald (q := 0) d_law_1376 (by decide) (mm_sc hi hL 1 (by decide)) ?_
    refine mm_aload d_law_1377 rfl ?_
    refine mm_iload d_law_1378 rfl ?_
    refine mm_ci d_law_1379 ?_
    refine mm_iadd d_law_1380 ?_
    refine mm_kald (q := 0) d_law_1381 (by decide) (mm_sc hi hL 2 (by decide)) ?_
    refine mm_aload d_law_1382 rfl ?_
    refine mm_iload d_law_1383 rfl ?_
    refine mm_ci d_law_1384 ?_
    refine mm_iadd d_law_1385 ?_
    refine mm_kald (q := 0) d_law_1386 (by decide) (mm_sc hi hL 3 (by decide)) ?_
    refine mm_if_eq d_law_1387 (fun _ => ?_) (fun cc => absurd cb cc)
    refine mm_ci d_law_1394 ?_
    refine mm_v3j d_law_1395 (sk_o_71 hS1) (hp.imp (fun r' μ2 hq => ?_))
    obtain ⟨rfl, hJ2⟩ := hq
    refine mm_lcmp d_law_1398 ?_
    rw [lg_cmp_self]
    refine mm_if_eq d_law_1399 (fun _ => ?_) (fun cc => absurd rfl cc)
    exact hend μ2 hJ2
  · refine mm_ci d_law_1363 ?_
    refine mm_goto d_law_1364 ?_
    refine mm_w3j 40 1100 d_law_1368 (sk_o_0 hS) ((H _ _ 1 (Or.inr rfl)).imp (fun r μ1 hp => ?_))
    obtain ⟨hS1, hp⟩ := hp
    refine mm_aload d_law_1371 rfl ?_
    refine mm_aload d_law_1372 rfl ?_
    refine mm_iload d_law_1373 rfl ?_
    refine mm_ci d_law_1374 ?_
    refine mm_iadd d_law_1375 ?_
    refine mm_kald (q := 0) d_law_1376 (by decide) (mm_sc hi hL 1 (by decide)) ?_
    refine mm_aload d_law_1377 rfl ?_
    refine mm_iload d_law_1378 rfl ?_
    refine mm_ci d_law_1379 ?_
    refine mm_iadd d_law_1380 ?_
    refine mm_kald (q := 0) d_law_1381 (by decide) (mm_sc hi hL 2 (by decide)) ?_
    refine mm_aload d_law_1382 rfl ?_
    refine mm_iload d_law_1383 rfl ?_
    refine mm_ci d_law_1384 ?_
    refine mm_iadd d_law_1385 ?_
    refine mm_kald (q := 0) d_law_1386 (by decide) (mm_sc hi hL 3 (by decide)) ?_
    refine mm_if_eq d_law_1387 (fun cc => absurd cc cb) (fun _ => ?_)
    refine mm_ci d_law_1390 ?_
    refine mm_goto d_law_1391 ?_
    refine mm_v3j d_law_1395 (sk_o_71 hS1) (hp.imp (fun r' μ2 hq => ?_))
    obtain ⟨rfl, hJ2⟩ := hq
    refine mm_lcmp d_law_1398 ?_
    rw [lg_cmp_self]
    refine mm_if_eq d_law_1399 (fun _ => ?_) (fun cc => absurd rfl cc)
    exact hend μ2 hJ2
theorem lc_28 {X : mm_X} {J : mm_M → Prop} {i m : Nat} {μ : mm_M} (hi : i + 6 ≤ X.1) (hL : X.1 ≤ 3072) (hS : SK μ) (H : ∀ (y1 : Int32) (b : Int32), b = 0 ∨ b = 1 → PairI X J k_G_heir k_M_heir [.int y1, .int b] μ) (hend : ∀ μ2, J μ2 → LT X m 2053 i μ2) : LT X (m + 1) 1404 i μ := by
  show mm_T X 40 (40 * m + 40) (1100 * m + 1100) k_law 1404 [some (.ref 2000000), some (.ref 0), some (.ref 71), some (.int (nI i))] [] μ _
  refine mm_aload d_law_1404 rfl ?_
  refine mm_aload d_law_1405 rfl ?_
  refine mm_iload d_law_1406 rfl ?_
  refine mm_ci d_law_1407 ?_
  refine mm_iadd d_law_1408 ?_
  refine mm_kald (q := 0) d_law_1409 (by decide) (mm_sc hi hL 1 (by decide)) ?_
  refine mm_aload d_law_1410 rfl ?_
  refine mm_iload d_law_1411 rfl ?_
  refine mm_ci d_law_1412 ?_
  refine mm_iadd d_law_1413 ?_
  refine mm_kald (q := 0) d_law_1414 (by decide) (mm_sc hi hL 2 (by decide)) ?_
  refine mm_if_eq d_law_1415 (fun cb => ?_) (fun cb => ?_)
  · refine mm_ci d_law_1422 ?_
    refine mm_w2i 40 1100 d_law_1423 (sk_o_0 hS) ((H _ 0 (Or.inl rfl)).imp (fun r μ1 hp => ?_))
    obtain ⟨hS1, hp⟩ := hp
    refine mm_aload d_law_1426 rfl ?_
    refine mm_aload d_law_1427 rfl ?_
    refine mm_iload d_law_1428 rfl ?_
    refine mm_ci d_law_1429 ?_
    refine mm_iadd d_law_1430 ?_
    refine mm_kald (q := 0) d_law_1431 (by decide) (mm_sc hi hL 1 (by decide)) ?_
    refine mm_aload d_law_1432 rfl ?_
    refine mm_iload d_law_1433 rfl ?_
    refine mm_ci d_law_1434 ?_
    refine mm_iadd d_law_1435 ?_
    refine mm_kald (q := 0) d_law_1436 (by decide) (mm_sc hi hL 2 (by decide)) ?_
    refine mm_if_eq d_law_1437 (fun _ => ?_) (fun cc => absurd cb cc)
    refine mm_ci d_law_1444 ?_
    refine mm_v2i d_law_1445 (sk_o_71 hS1) (hp.imp (fun r' μ2 hq => ?_))
    obtain ⟨rfl, hJ2⟩ := hq
    refine mm_icmp_eq d_law_1448 (fun _ => ?_) (fun cc => absurd rfl cc)
    exact hend μ2 hJ2
  · refine mm_ci d_law_1418 ?_
    refine mm_goto d_law_1419 ?_
    refine mm_w2i 40 1100 d_law_1423 (sk_o_0 hS) ((H _ 1 (Or.inr rfl)).imp (fun r μ1 hp => ?_))
    obtain ⟨hS1, hp⟩ := hp
    refine mm_aload d_law_1426 rfl ?_
    refine mm_aload d_law_1427 rfl ?_
    refine mm_iload d_law_1428 rfl ?_
    refine mm_ci d_law_1429 ?_
    refine mm_iadd d_law_1430 ?_
    refine mm_kald (q := 0) d_law_1431 (by decide) (mm_sc hi hL 1 (by decide)) ?_
    refine mm_aload d_law_1432 rfl ?_
    refine mm_iload d_law_1433 rfl ?_
    refine mm_ci d_law_1434 ?_
    refine mm_iadd d_law_1435 ?_
    refine mm_kald (q := 0) d_law_1436 (by decide) (mm_sc hi hL 2 (by decide)) ?_
    refine mm_if_eq d_law_1437 (fun cc => absurd cc cb) (fun _ => ?_)
    refine mm_ci d_law_1440 ?_
    refine mm_goto d_law_1441 ?_
    refine mm_v2i d_law_1445 (sk_o_71 hS1) (hp.imp (fun r' μ2 hq => ?_))
    obtain ⟨rfl, hJ2⟩ := hq
    refine mm_icmp_eq d_law_1448 (fun _ => ?_) (fun cc => absurd rfl cc)
    exact hend μ2 hJ2
theorem lc_29 {X : mm_X} {J : mm_M → Prop} {i m : Nat} {μ : mm_M} (hi : i + 6 ≤ X.1) (hL : X.1 ≤ 3072) (hS : SK μ) (H : ∀ (y1 : Int32) (b : Int32), b = 0 ∨ b = 1 → PairI X J k_G_plan k_M_plan [.int y1, .int b] μ) (hend : ∀ μ2, J μ2 → LT X m 2053 i μ2) : LT X (m + 1) 1453 i μ := by
  show mm_T X 40 (40 * m + 40) (1100 * m + 1100) k_law 1453 [some (.ref 2000000), some (.ref 0), some (.ref 71), some (.int (nI i))] [] μ _
  refine mm_aload d_law_1453 rfl ?_
  refine mm_aload d_law_1454 rfl ?_
  refine mm_iload d_law_1455 rfl ?_
  refine mm_ci d_law_1456 ?_
  refine mm_iadd d_law_1457 ?_
  refine mm_kald (q := 0) d_law_1458 (by decide) (mm_sc hi hL 1 (by decide)) ?_
  refine mm_aload d_law_1459 rfl ?_
  refine mm_iload d_law_1460 rfl ?_
  refine mm_ci d_law_1461 ?_
  refine mm_iadd d_law_1462 ?_
  refine mm_kald (q := 0) d_law_1463 (by decide) (mm_sc hi hL 2 (by decide)) ?_
  refine mm_if_eq d_law_1464 (fun cb => ?_) (fun cb => ?_)
  · refine mm_ci d_law_1471 ?_
    refine mm_w2i 40 1100 d_law_1472 (sk_o_0 hS) ((H _ 0 (Or.inl rfl)).imp (fun r μ1 hp => ?_))
    obtain ⟨hS1, hp⟩ := hp
    refine mm_aload d_law_1475 rfl ?_
    refine mm_aload d_law_1476 rfl ?_
    refine mm_iload d_law_1477 rfl ?_
    refine mm_ci d_law_1478 ?_
    refine mm_iadd d_law_1479 ?_
    refine mm_kald (q := 0) d_law_1480 (by decide) (mm_sc hi hL 1 (by decide)) ?_
    refine mm_aload d_law_1481 rfl ?_
    refine mm_iload d_law_1482 rfl ?_
    refine mm_ci d_law_1483 ?_
    refine mm_iadd d_law_1484 ?_
    refine mm_kald (q := 0) d_law_1485 (by decide) (mm_sc hi hL 2 (by decide)) ?_
    refine mm_if_eq d_law_1486 (fun _ => ?_) (fun cc => absurd cb cc)
    refine mm_ci d_law_1493 ?_
    refine mm_v2i d_law_1494 (sk_o_71 hS1) (hp.imp (fun r' μ2 hq => ?_))
    obtain ⟨rfl, hJ2⟩ := hq
    refine mm_icmp_eq d_law_1497 (fun _ => ?_) (fun cc => absurd rfl cc)
    exact hend μ2 hJ2
  · refine mm_ci d_law_1467 ?_
    refine mm_goto d_law_1468 ?_
    refine mm_w2i 40 1100 d_law_1472 (sk_o_0 hS) ((H _ 1 (Or.inr rfl)).imp (fun r μ1 hp => ?_))
    obtain ⟨hS1, hp⟩ := hp
    refine mm_aload d_law_1475 rfl ?_
    refine mm_aload d_law_1476 rfl ?_
    refine mm_iload d_law_1477 rfl ?_
    refine mm_ci d_law_1478 ?_
    refine mm_iadd d_law_1479 ?_
    refine mm_kald (q := 0) d_law_1480 (by decide) (mm_sc hi hL 1 (by decide)) ?_
    refine mm_aload d_law_1481 rfl ?_
    refine mm_iload d_law_1482 rfl ?_
    refine mm_ci d_law_1483 ?_
    refine mm_iadd d_law_1484 ?_
    refine mm_kald (q := 0) d_law_1485 (by decide) (mm_sc hi hL 2 (by decide)) ?_
    refine mm_if_eq d_law_1486 (fun cc => absurd cc cb) (fun _ => ?_)
    refine mm_ci d_law_1489 ?_
    refine mm_goto d_law_1490 ?_
    refine mm_v2i d_law_1494 (sk_o_71 hS1) (hp.imp (fun r' μ2 hq => ?_))
    obtain ⟨rfl, hJ2⟩ := hq
    refine mm_icmp_eq d_law_1497 (fun _ => ?_) (fun cc => absurd rfl cc)
    exact hend μ2 hJ2
theorem lc_30 {X : mm_X} {J : mm_M → Prop} {i m : Nat} {μ : mm_M} (hi : i + 6 ≤ X.1) (hL : X.1 ≤ 3072) (hS : SK μ) (H : ∀ (y1 y2 : Int32), PairI X J k_G_levy k_M_levy [.int y1, .int y2] μ) (hend : ∀ μ2, J μ2 → LT X m 2053 i μ2) : LT X (m + 1) 1502 i μ := by
  show mm_T X 40 (40 * m + 40) (1100 * m + 1100) k_law 1502 [some (.ref 2000000), some (.ref 0), some (.ref 71), some (.int (nI i))] [] μ _
  refine mm_aload d_law_1502 rfl ?_
  refine mm_aload d_law_1503 rfl ?_
  refine mm_iload d_law_1504 rfl ?_
  refine mm_ci d_law_1505 ?_
  refine mm_iadd d_law_1506 ?_
  refine mm_kald (q := 0) d_law_1507 (by decide) (mm_sc hi hL 1 (by decide)) ?_
  refine mm_aload d_law_1508 rfl ?_
  refine mm_iload d_law_1509 rfl ?_
  refine mm_ci d_law_1510 ?_
  refine mm_iadd d_law_1511 ?_
  refine mm_kald (q := 0) d_law_1512 (by decide) (mm_sc hi hL 2 (by decide)) ?_
  refine mm_w2i 40 1100 d_law_1513 (sk_o_0 hS) ((H _ _).imp (fun r μ1 hp => ?_))
  obtain ⟨hS1, hp⟩ := hp
  refine mm_aload d_law_1516 rfl ?_
  refine mm_aload d_law_1517 rfl ?_
  refine mm_iload d_law_1518 rfl ?_
  refine mm_ci d_law_1519 ?_
  refine mm_iadd d_law_1520 ?_
  refine mm_kald (q := 0) d_law_1521 (by decide) (mm_sc hi hL 1 (by decide)) ?_
  refine mm_aload d_law_1522 rfl ?_
  refine mm_iload d_law_1523 rfl ?_
  refine mm_ci d_law_1524 ?_
  refine mm_iadd d_law_1525 ?_
  refine mm_kald (q := 0) d_law_1526 (by decide) (mm_sc hi hL 2 (by decide)) ?_
  refine mm_v2i d_law_1527 (sk_o_71 hS1) (hp.imp (fun r' μ2 hq => ?_))
  obtain ⟨rfl, hJ2⟩ := hq
  refine mm_icmp_eq d_law_1530 (fun _ => ?_) (fun cc => absurd rfl cc)
  exact hend μ2 hJ2
theorem lc_31 {X : mm_X} {J : mm_M → Prop} {i m : Nat} {μ : mm_M} (hi : i + 6 ≤ X.1) (hL : X.1 ≤ 3072) (hS : SK μ) (H : ∀ (y1 y2 : Int32), PairI X J k_G_ready k_M_ready [.int y1, .int y2] μ) (hend : ∀ μ2, J μ2 → LT X m 2053 i μ2) : LT X (m + 1) 1535 i μ := by
  show mm_T X 40 (40 * m + 40) (1100 * m + 1100) k_law 1535 [some (.ref 2000000), some (.ref 0), some (.ref 71), some (.int (nI i))] [] μ _
  refine mm_aload d_law_1535 rfl ?_
  refine mm_aload d_law_1536 rfl ?_
  refine mm_iload d_law_1537 rfl ?_
  refine mm_ci d_law_1538 ?_
  refine mm_iadd d_law_1539 ?_
  refine mm_kald (q := 0) d_law_1540 (by decide) (mm_sc hi hL 1 (by decide)) ?_
  refine mm_aload d_law_1541 rfl ?_
  refine mm_iload d_law_1542 rfl ?_
  refine mm_ci d_law_1543 ?_
  refine mm_iadd d_law_1544 ?_
  refine mm_kald (q := 0) d_law_1545 (by decide) (mm_sc hi hL 2 (by decide)) ?_
  refine mm_w2i 40 1100 d_law_1546 (sk_o_0 hS) ((H _ _).imp (fun r μ1 hp => ?_))
  obtain ⟨hS1, hp⟩ := hp
  refine mm_aload d_law_1549 rfl ?_
  refine mm_aload d_law_1550 rfl ?_
  refine mm_iload d_law_1551 rfl ?_
  refine mm_ci d_law_1552 ?_
  refine mm_iadd d_law_1553 ?_
  refine mm_kald (q := 0) d_law_1554 (by decide) (mm_sc hi hL 1 (by decide)) ?_
  refine mm_aload d_law_1555 rfl ?_
  refine mm_iload d_law_1556 rfl ?_
  refine mm_ci d_law_1557 ?_
  refine mm_iadd d_law_1558 ?_
  refine mm_kald (q := 0) d_law_1559 (by decide) (mm_sc hi hL 2 (by decide)) ?_
  refine mm_v2i d_law_1560 (sk_o_71 hS1) (hp.imp (fun r' μ2 hq => ?_))
  obtain ⟨rfl, hJ2⟩ := hq
  refine mm_icmp_eq d_law_1563 (fun _ => ?_) (fun cc => absurd rfl cc)
  exact hend μ2 hJ2
theorem lc_32 {X : mm_X} {J : mm_M → Prop} {i m : Nat} {μ : mm_M} (hi : i + 6 ≤ X.1) (hL : X.1 ≤ 3072) (hS : SK μ) (H : ∀ (y1 y2 : Int32) (b : Int32), b = 0 ∨ b = 1 → PairJ X J k_G_hope k_M_hope [.int y1, .int y2, .int b] μ) (hend : ∀ μ2, J μ2 → LT X m 2053 i μ2) : LT X (m + 1) 1568 i μ := by
  show mm_T X 40 (40 * m + 40) (1100 * m + 1100) k_law 1568 [some (.ref 2000000), some (.ref 0), some (.ref 71), some (.int (nI i))] [] μ _
  refine mm_aload d_law_1568 rfl ?_
  refine mm_aload d_law_1569 rfl ?_
  refine mm_iload d_law_1570 rfl ?_
  refine mm_ci d_law_1571 ?_
  refine mm_iadd d_law_1572 ?_
  refine mm_kald (q := 0) d_law_1573 (by decide) (mm_sc hi hL 1 (by decide)) ?_
  refine mm_aload d_law_1574 rfl ?_
  refine mm_iload d_law_1575 rfl ?_
  refine mm_ci d_law_1576 ?_
  refine mm_iadd d_law_1577 ?_
  refine mm_kald (q := 0) d_law_1578 (by decide) (mm_sc hi hL 2 (by decide)) ?_
  refine mm_aload d_law_1579 rfl ?_
  refine mm_iload d_law_1580 rfl ?_
  refine mm_ci d_law_1581 ?_
  refine mm_iadd d_law_1582 ?_
  refine mm_kald (q := 0) d_law_1583 (by decide) (mm_sc hi hL 3 (by decide)) ?_
  refine mm_if_eq d_law_1584 (fun cb => ?_) (fun cb => ?_)
  · refine mm_ci d_law_1591 ?_
    refine mm_w3j 40 1100 d_law_1592 (sk_o_0 hS) ((H _ _ 0 (Or.inl rfl)).imp (fun r μ1 hp => ?_))
    obtain ⟨hS1, hp⟩ := hp
    refine mm_aload d_law_1595 rfl ?_
    refine mm_aload d_law_1596 rfl ?_
    refine mm_iload d_law_1597 rfl ?_
    refine mm_ci d_law_1598 ?_
    refine mm_iadd d_law_1599 ?_
    refine mm_kald (q := 0) d_law_1600 (by decide) (mm_sc hi hL 1 (by decide)) ?_
    refine mm_aload d_law_1601 rfl ?_
    refine mm_iload d_law_1602 rfl ?_
    refine mm_ci d_law_1603 ?_
    refine mm_iadd d_law_1604 ?_
    refine mm_kald (q := 0) d_law_1605 (by decide) (mm_sc hi hL 2 (by decide)) ?_
    refine mm_aload d_law_1606 rfl ?_
    refine mm_iload d_law_1607 rfl ?_
    refine mm_ci d_law_1608 ?_
    refine mm_iadd d_law_1609 ?_
    refine mm_kald (q := 0) d_law_1610 (by decide) (mm_sc hi hL 3 (by decide)) ?_
    refine mm_if_eq d_law_1611 (fun _ => ?_) (fun cc => absurd cb cc)
    refine mm_ci d_law_1618 ?_
    refine mm_v3j d_law_1619 (sk_o_71 hS1) (hp.imp (fun r' μ2 hq => ?_))
    obtain ⟨rfl, hJ2⟩ := hq
    refine mm_lcmp d_law_1622 ?_
    rw [lg_cmp_self]
    refine mm_if_eq d_law_1623 (fun _ => ?_) (fun cc => absurd rfl cc)
    exact hend μ2 hJ2
  · refine mm_ci d_law_1587 ?_
    refine mm_goto d_law_1588 ?_
    refine mm_w3j 40 1100 d_law_1592 (sk_o_0 hS) ((H _ _ 1 (Or.inr rfl)).imp (fun r μ1 hp => ?_))
    obtain ⟨hS1, hp⟩ := hp
    refine mm_aload d_law_1595 rfl ?_
    refine mm_aload d_law_1596 rfl ?_
    refine mm_iload d_law_1597 rfl ?_
    refine mm_ci d_law_1598 ?_
    refine mm_iadd d_law_1599 ?_
    refine mm_kald (q := 0) d_law_1600 (by decide) (mm_sc hi hL 1 (by decide)) ?_
    refine mm_aload d_law_1601 rfl ?_
    refine mm_iload d_law_1602 rfl ?_
    refine mm_ci d_law_1603 ?_
    refine mm_iadd d_law_1604 ?_
    refine mm_kald (q := 0) d_law_1605 (by decide) (mm_sc hi hL 2 (by decide)) ?_
    refine mm_aload d_law_1606 rfl ?_
    refine mm_iload d_law_1607 rfl ?_
    refine mm_ci d_law_1608 ?_
    refine mm_iadd d_law_1609 ?_
    refine mm_kald (q := 0) d_law_1610 (by decide) (mm_sc hi hL 3 (by decide)) ?_
    refine mm_if_eq d_law_1611 (fun cc => absurd cc cb) (fun _ => ?_)
    refine mm_ci d_law_1614 ?_
    refine mm_goto d_law_1615 ?_
    refine mm_v3j d_law_1619 (sk_o_71 hS1) (hp.imp (fun r' μ2 hq => ?_))
    obtain ⟨rfl, hJ2⟩ := hq
    refine mm_lcmp d_law_1622 ?_
    rw [lg_cmp_self]
    refine mm_if_eq d_law_1623 (fun _ => ?_) (fun cc => absurd rfl cc)
    exact hend μ2 hJ2
theorem lc_33 {X : mm_X} {J : mm_M → Prop} {i m : Nat} {μ : mm_M} (hi : i + 6 ≤ X.1) (hL : X.1 ≤ 3072) (hS : SK μ) (H : ∀ (y1 : Int32) (b : Int32), b = 0 ∨ b = 1 → PairI X J k_G_pair k_M_pair [.int y1, .int b] μ) (hend : ∀ μ2, J μ2 → LT X m 2053 i μ2) : LT X (m + 1) 1628 i μ := by
  show mm_T X 40 (40 * m + 40) (1100 * m + 1100) k_law 1628 [some (.ref 2000000), some (.ref 0), some (.ref 71), some (.int (nI i))] [] μ _
  refine mm_aload d_law_1628 rfl ?_
  refine mm_aload d_law_1629 rfl ?_
  refine mm_iload d_law_1630 rfl ?_
  refine mm_ci d_law_1631 ?_
  refine mm_iadd d_law_1632 ?_
  refine mm_kald (q := 0) d_law_1633 (by decide) (mm_sc hi hL 1 (by decide)) ?_
  refine mm_aload d_law_1634 rfl ?_
  refine mm_iload d_law_1635 rfl ?_
  refine mm_ci d_law_1636 ?_
  refine mm_iadd d_law_1637 ?_
  refine mm_kald (q := 0) d_law_1638 (by decide) (mm_sc hi hL 2 (by decide)) ?_
  refine mm_if_eq d_law_1639 (fun cb => ?_) (fun cb => ?_)
  · refine mm_ci d_law_1646 ?_
    refine mm_w2i 40 1100 d_law_1647 (sk_o_0 hS) ((H _ 0 (Or.inl rfl)).imp (fun r μ1 hp => ?_))
    obtain ⟨hS1, hp⟩ := hp
    refine mm_aload d_law_1650 rfl ?_
    refine mm_aload d_law_1651 rfl ?_
    refine mm_iload d_law_1652 rfl ?_
    refine mm_ci d_law_1653 ?_
    refine mm_iadd d_law_1654 ?_
    refine mm_kald (q := 0) d_law_1655 (by decide) (mm_sc hi hL 1 (by decide)) ?_
    refine mm_aload d_law_1656 rfl ?_
    refine mm_iload d_law_1657 rfl ?_
    refine mm_ci d_law_1658 ?_
    refine mm_iadd d_law_1659 ?_
    refine mm_kald (q := 0) d_law_1660 (by decide) (mm_sc hi hL 2 (by decide)) ?_
    refine mm_if_eq d_law_1661 (fun _ => ?_) (fun cc => absurd cb cc)
    refine mm_ci d_law_1668 ?_
    refine mm_v2i d_law_1669 (sk_o_71 hS1) (hp.imp (fun r' μ2 hq => ?_))
    obtain ⟨rfl, hJ2⟩ := hq
    refine mm_icmp_eq d_law_1672 (fun _ => ?_) (fun cc => absurd rfl cc)
    exact hend μ2 hJ2
  · refine mm_ci d_law_1642 ?_
    refine mm_goto d_law_1643 ?_
    refine mm_w2i 40 1100 d_law_1647 (sk_o_0 hS) ((H _ 1 (Or.inr rfl)).imp (fun r μ1 hp => ?_))
    obtain ⟨hS1, hp⟩ := hp
    refine mm_aload d_law_1650 rfl ?_
    refine mm_aload d_law_1651 rfl ?_
    refine mm_iload d_law_1652 rfl ?_
    refine mm_ci d_law_1653 ?_
    refine mm_iadd d_law_1654 ?_
    refine mm_kald (q := 0) d_law_1655 (by decide) (mm_sc hi hL 1 (by decide)) ?_
    refine mm_aload d_law_1656 rfl ?_
    refine mm_iload d_law_1657 rfl ?_
    refine mm_ci d_law_1658 ?_
    refine mm_iadd d_law_1659 ?_
    refine mm_kald (q := 0) d_law_1660 (by decide) (mm_sc hi hL 2 (by decide)) ?_
    refine mm_if_eq d_law_1661 (fun cc => absurd cc cb) (fun _ => ?_)
    refine mm_ci d_law_1664 ?_
    refine mm_goto d_law_1665 ?_
    refine mm_v2i d_law_1669 (sk_o_71 hS1) (hp.imp (fun r' μ2 hq => ?_))
    obtain ⟨rfl, hJ2⟩ := hq
    refine mm_icmp_eq d_law_1672 (fun _ => ?_) (fun cc => absurd rfl cc)
    exact hend μ2 hJ2
theorem lc_34 {X : mm_X} {J : mm_M → Prop} {i m : Nat} {μ : mm_M} (hi : i + 6 ≤ X.1) (hL : X.1 ≤ 3072) (hS : SK μ) (H : ∀ (y1 y2 y3 : Int32), PairI X J k_G_seat k_M_seat [.int y1, .int y2, .int y3] μ) (hend : ∀ μ2, J μ2 → LT X m 2053 i μ2) : LT X (m + 1) 1677 i μ := by
  show mm_T X 40 (40 * m + 40) (1100 * m + 1100) k_law 1677 [some (.ref 2000000), some (.ref 0), some (.ref 71), some (.int (nI i))] [] μ _
  refine mm_aload d_law_1677 rfl ?_
  refine mm_aload d_law_1678 rfl ?_
  refine mm_iload d_law_1679 rfl ?_
  refine mm_ci d_law_1680 ?_
  refine mm_iadd d_law_1681 ?_
  refine mm_kald (q := 0) d_law_1682 (by decide) (mm_sc hi hL 1 (by decide)) ?_
  refine mm_aload d_law_1683 rfl ?_
  refine mm_iload d_law_1684 rfl ?_
  refine mm_ci d_law_1685 ?_
  refine mm_iadd d_law_1686 ?_
  refine mm_kald (q := 0) d_law_1687 (by decide) (mm_sc hi hL 2 (by decide)) ?_
  refine mm_aload d_law_1688 rfl ?_
  refine mm_iload d_law_1689 rfl ?_
  refine mm_ci d_law_1690 ?_
  refine mm_iadd d_law_1691 ?_
  refine mm_kald (q := 0) d_law_1692 (by decide) (mm_sc hi hL 3 (by decide)) ?_
  refine mm_w3i 40 1100 d_law_1693 (sk_o_0 hS) ((H _ _ _).imp (fun r μ1 hp => ?_))
  obtain ⟨hS1, hp⟩ := hp
  refine mm_aload d_law_1696 rfl ?_
  refine mm_aload d_law_1697 rfl ?_
  refine mm_iload d_law_1698 rfl ?_
  refine mm_ci d_law_1699 ?_
  refine mm_iadd d_law_1700 ?_
  refine mm_kald (q := 0) d_law_1701 (by decide) (mm_sc hi hL 1 (by decide)) ?_
  refine mm_aload d_law_1702 rfl ?_
  refine mm_iload d_law_1703 rfl ?_
  refine mm_ci d_law_1704 ?_
  refine mm_iadd d_law_1705 ?_
  refine mm_kald (q := 0) d_law_1706 (by decide) (mm_sc hi hL 2 (by decide)) ?_
  refine mm_aload d_law_1707 rfl ?_
  refine mm_iload d_law_1708 rfl ?_
  refine mm_ci d_law_1709 ?_
  refine mm_iadd d_law_1710 ?_
  refine mm_kald (q := 0) d_law_1711 (by decide) (mm_sc hi hL 3 (by decide)) ?_
  refine mm_v3i d_law_1712 (sk_o_71 hS1) (hp.imp (fun r' μ2 hq => ?_))
  obtain ⟨rfl, hJ2⟩ := hq
  refine mm_icmp_eq d_law_1715 (fun _ => ?_) (fun cc => absurd rfl cc)
  exact hend μ2 hJ2
theorem lc_35 {X : mm_X} {J : mm_M → Prop} {i m : Nat} {μ : mm_M} (hi : i + 6 ≤ X.1) (hL : X.1 ≤ 3072) (hS : SK μ) (H : ∀ (y1 y2 : Int32) (b : Int32), b = 0 ∨ b = 1 → PairI X J k_G_tide k_M_tide [.int y1, .int y2, .int b] μ) (hend : ∀ μ2, J μ2 → LT X m 2053 i μ2) : LT X (m + 1) 1720 i μ := by
  show mm_T X 40 (40 * m + 40) (1100 * m + 1100) k_law 1720 [some (.ref 2000000), some (.ref 0), some (.ref 71), some (.int (nI i))] [] μ _
  refine mm_aload d_law_1720 rfl ?_
  refine mm_aload d_law_1721 rfl ?_
  refine mm_iload d_law_1722 rfl ?_
  refine mm_ci d_law_1723 ?_
  refine mm_iadd d_law_1724 ?_
  refine mm_kald (q := 0) d_law_1725 (by decide) (mm_sc hi hL 1 (by decide)) ?_
  refine mm_aload d_law_1726 rfl ?_
  refine mm_iload d_law_1727 rfl ?_
  refine mm_ci d_law_1728 ?_
  refine mm_iadd d_law_1729 ?_
  refine mm_kald (q := 0) d_law_1730 (by decide) (mm_sc hi hL 2 (by decide)) ?_
  refine mm_aload d_law_1731 rfl ?_
  refine mm_iload d_law_1732 rfl ?_
  refine mm_ci d_law_1733 ?_
  refine mm_iadd d_law_1734 ?_
  refine mm_kald (q := 0) d_law_1735 (by decide) (mm_sc hi hL 3 (by decide)) ?_
  refine mm_if_eq d_law_1736 (fun cb => ?_) (fun cb => ?_)
  · refine mm_ci d_law_1743 ?_
    refine mm_w3i 40 1100 d_law_1744 (sk_o_0 hS) ((H _ _ 0 (Or.inl rfl)).imp (fun r μ1 hp => ?_))
    obtain ⟨hS1, hp⟩ := hp
    refine mm_aload d_law_1747 rfl ?_
    refine mm_aload d_law_1748 rfl ?_
    refine mm_iload d_law_1749 rfl ?_
    refine mm_ci d_law_1750 ?_
    refine mm_iadd d_law_1751 ?_
    refine mm_kald (q := 0) d_law_1752 (by decide) (mm_sc hi hL 1 (by decide)) ?_
    refine mm_aload d_law_1753 rfl ?_
    refine mm_iload d_law_1754 rfl ?_
    refine mm_ci d_law_1755 ?_
    refine mm_iadd d_law_1756 ?_
    refine mm_kald (q := 0) d_law_1757 (by decide) (mm_sc hi hL 2 (by decide)) ?_
    refine mm_aload d_law_1758 rfl ?_
    refine mm_iload d_law_1759 rfl ?_
    refine mm_ci d_law_1760 ?_
    refine mm_iadd d_law_1761 ?_
    refine mm_kald (q := 0) d_law_1762 (by decide) (mm_sc hi hL 3 (by decide)) ?_
    refine mm_if_eq d_law_1763 (fun _ => ?_) (fun cc => absurd cb cc)
    refine mm_ci d_law_1770 ?_
    refine mm_v3i d_law_1771 (sk_o_71 hS1) (hp.imp (fun r' μ2 hq => ?_))
    obtain ⟨rfl, hJ2⟩ := hq
    refine mm_icmp_eq d_law_1774 (fun _ => ?_) (fun cc => absurd rfl cc)
    exact hend μ2 hJ2
  · refine mm_ci d_law_1739 ?_
    refine mm_goto d_law_1740 ?_
    refine mm_w3i 40 1100 d_law_1744 (sk_o_0 hS) ((H _ _ 1 (Or.inr rfl)).imp (fun r μ1 hp => ?_))
    obtain ⟨hS1, hp⟩ := hp
    refine mm_aload d_law_1747 rfl ?_
    refine mm_aload d_law_1748 rfl ?_
    refine mm_iload d_law_1749 rfl ?_
    refine mm_ci d_law_1750 ?_
    refine mm_iadd d_law_1751 ?_
    refine mm_kald (q := 0) d_law_1752 (by decide) (mm_sc hi hL 1 (by decide)) ?_
    refine mm_aload d_law_1753 rfl ?_
    refine mm_iload d_law_1754 rfl ?_
    refine mm_ci d_law_1755 ?_
    refine mm_iadd d_law_1756 ?_
    refine mm_kald (q := 0) d_law_1757 (by decide) (mm_sc hi hL 2 (by decide)) ?_
    refine mm_aload d_law_1758 rfl ?_
    refine mm_iload d_law_1759 rfl ?_
    refine mm_ci d_law_1760 ?_
    refine mm_iadd d_law_1761 ?_
    refine mm_kald (q := 0) d_law_1762 (by decide) (mm_sc hi hL 3 (by decide)) ?_
    refine mm_if_eq d_law_1763 (fun cc => absurd cc cb) (fun _ => ?_)
    refine mm_ci d_law_1766 ?_
    refine mm_goto d_law_1767 ?_
    refine mm_v3i d_law_1771 (sk_o_71 hS1) (hp.imp (fun r' μ2 hq => ?_))
    obtain ⟨rfl, hJ2⟩ := hq
    refine mm_icmp_eq d_law_1774 (fun _ => ?_) (fun cc => absurd rfl cc)
    exact hend μ2 hJ2
theorem lc_36 {X : mm_X} {J : mm_M → Prop} {i m : Nat} {μ : mm_M} (hi : i + 6 ≤ X.1) (hL : X.1 ≤ 3072) (hS : SK μ) (H : ∀ (y1 y2 : Int32) (b : Int32), b = 0 ∨ b = 1 → PairI X J k_G_first k_M_first [.int y1, .int y2, .int b] μ) (hend : ∀ μ2, J μ2 → LT X m 2053 i μ2) : LT X (m + 1) 1779 i μ := by
  show mm_T X 40 (40 * m + 40) (1100 * m + 1100) k_law 1779 [some (.ref 2000000), some (.ref 0), some (.ref 71), some (.int (nI i))] [] μ _
  refine mm_aload d_law_1779 rfl ?_
  refine mm_aload d_law_1780 rfl ?_
  refine mm_iload d_law_1781 rfl ?_
  refine mm_ci d_law_1782 ?_
  refine mm_iadd d_law_1783 ?_
  refine mm_kald (q := 0) d_law_1784 (by decide) (mm_sc hi hL 1 (by decide)) ?_
  refine mm_aload d_law_1785 rfl ?_
  refine mm_iload d_law_1786 rfl ?_
  refine mm_ci d_law_1787 ?_
  refine mm_iadd d_law_1788 ?_
  refine mm_kald (q := 0) d_law_1789 (by decide) (mm_sc hi hL 2 (by decide)) ?_
  refine mm_aload d_law_1790 rfl ?_
  refine mm_iload d_law_1791 rfl ?_
  refine mm_ci d_law_1792 ?_
  refine mm_iadd d_law_1793 ?_
  refine mm_kald (q := 0) d_law_1794 (by decide) (mm_sc hi hL 3 (by decide)) ?_
  refine mm_if_eq d_law_1795 (fun cb => ?_) (fun cb => ?_)
  · refine mm_ci d_law_1802 ?_
    refine mm_w3i 40 1100 d_law_1803 (sk_o_0 hS) ((H _ _ 0 (Or.inl rfl)).imp (fun r μ1 hp => ?_))
    obtain ⟨hS1, hp⟩ := hp
    refine mm_aload d_law_1806 rfl ?_
    refine mm_aload d_law_1807 rfl ?_
    refine mm_iload d_law_1808 rfl ?_
    refine mm_ci d_law_1809 ?_
    refine mm_iadd d_law_1810 ?_
    refine mm_kald (q := 0) d_law_1811 (by decide) (mm_sc hi hL 1 (by decide)) ?_
    refine mm_aload d_law_1812 rfl ?_
    refine mm_iload d_law_1813 rfl ?_
    refine mm_ci d_law_1814 ?_
    refine mm_iadd d_law_1815 ?_
    refine mm_kald (q := 0) d_law_1816 (by decide) (mm_sc hi hL 2 (by decide)) ?_
    refine mm_aload d_law_1817 rfl ?_
    refine mm_iload d_law_1818 rfl ?_
    refine mm_ci d_law_1819 ?_
    refine mm_iadd d_law_1820 ?_
    refine mm_kald (q := 0) d_law_1821 (by decide) (mm_sc hi hL 3 (by decide)) ?_
    refine mm_if_eq d_law_1822 (fun _ => ?_) (fun cc => absurd cb cc)
    refine mm_ci d_law_1829 ?_
    refine mm_v3i d_law_1830 (sk_o_71 hS1) (hp.imp (fun r' μ2 hq => ?_))
    obtain ⟨rfl, hJ2⟩ := hq
    refine mm_icmp_eq d_law_1833 (fun _ => ?_) (fun cc => absurd rfl cc)
    exact hend μ2 hJ2
  · refine mm_ci d_law_1798 ?_
    refine mm_goto d_law_1799 ?_
    refine mm_w3i 40 1100 d_law_1803 (sk_o_0 hS) ((H _ _ 1 (Or.inr rfl)).imp (fun r μ1 hp => ?_))
    obtain ⟨hS1, hp⟩ := hp
    refine mm_aload d_law_1806 rfl ?_
    refine mm_aload d_law_1807 rfl ?_
    refine mm_iload d_law_1808 rfl ?_
    refine mm_ci d_law_1809 ?_
    refine mm_iadd d_law_1810 ?_
    refine mm_kald (q := 0) d_law_1811 (by decide) (mm_sc hi hL 1 (by decide)) ?_
    refine mm_aload d_law_1812 rfl ?_
    refine mm_iload d_law_1813 rfl ?_
    refine mm_ci d_law_1814 ?_
    refine mm_iadd d_law_1815 ?_
    refine mm_kald (q := 0) d_law_1816 (by decide) (mm_sc hi hL 2 (by decide)) ?_
    refine mm_aload d_law_1817 rfl ?_
    refine mm_iload d_law_1818 rfl ?_
    refine mm_ci d_law_1819 ?_
    refine mm_iadd d_law_1820 ?_
    refine mm_kald (q := 0) d_law_1821 (by decide) (mm_sc hi hL 3 (by decide)) ?_
    refine mm_if_eq d_law_1822 (fun cc => absurd cc cb) (fun _ => ?_)
    refine mm_ci d_law_1825 ?_
    refine mm_goto d_law_1826 ?_
    refine mm_v3i d_law_1830 (sk_o_71 hS1) (hp.imp (fun r' μ2 hq => ?_))
    obtain ⟨rfl, hJ2⟩ := hq
    refine mm_icmp_eq d_law_1833 (fun _ => ?_) (fun cc => absurd rfl cc)
    exact hend μ2 hJ2
theorem lc_37 {X : mm_X} {J : mm_M → Prop} {i m : Nat} {μ : mm_M} (hi : i + 6 ≤ X.1) (hL : X.1 ≤ 3072) (hS : SK μ) (H : ∀ (y1 y2 y3 : Int32), PairI X J k_G_kept k_M_kept [.int y1, .int y2, .int y3] μ) (hend : ∀ μ2, J μ2 → LT X m 2053 i μ2) : LT X (m + 1) 1838 i μ := by
  show mm_T X 40 (40 * m + 40) (1100 * m + 1100) k_law 1838 [some (.ref 2000000), some (.ref 0), some (.ref 71), some (.int (nI i))] [] μ _
  refine mm_aload d_law_1838 rfl ?_
  refine mm_aload d_law_1839 rfl ?_
  refine mm_iload d_law_1840 rfl ?_
  refine mm_ci d_law_1841 ?_
  refine mm_iadd d_law_1842 ?_
  refine mm_kald (q := 0) d_law_1843 (by decide) (mm_sc hi hL 1 (by decide)) ?_
  refine mm_aload d_law_1844 rfl ?_
  refine mm_iload d_law_1845 rfl ?_
  refine mm_ci d_law_1846 ?_
  refine mm_iadd d_law_1847 ?_
  refine mm_kald (q := 0) d_law_1848 (by decide) (mm_sc hi hL 2 (by decide)) ?_
  refine mm_aload d_law_1849 rfl ?_
  refine mm_iload d_law_1850 rfl ?_
  refine mm_ci d_law_1851 ?_
  refine mm_iadd d_law_1852 ?_
  refine mm_kald (q := 0) d_law_1853 (by decide) (mm_sc hi hL 3 (by decide)) ?_
  refine mm_w3i 40 1100 d_law_1854 (sk_o_0 hS) ((H _ _ _).imp (fun r μ1 hp => ?_))
  obtain ⟨hS1, hp⟩ := hp
  refine mm_aload d_law_1857 rfl ?_
  refine mm_aload d_law_1858 rfl ?_
  refine mm_iload d_law_1859 rfl ?_
  refine mm_ci d_law_1860 ?_
  refine mm_iadd d_law_1861 ?_
  refine mm_kald (q := 0) d_law_1862 (by decide) (mm_sc hi hL 1 (by decide)) ?_
  refine mm_aload d_law_1863 rfl ?_
  refine mm_iload d_law_1864 rfl ?_
  refine mm_ci d_law_1865 ?_
  refine mm_iadd d_law_1866 ?_
  refine mm_kald (q := 0) d_law_1867 (by decide) (mm_sc hi hL 2 (by decide)) ?_
  refine mm_aload d_law_1868 rfl ?_
  refine mm_iload d_law_1869 rfl ?_
  refine mm_ci d_law_1870 ?_
  refine mm_iadd d_law_1871 ?_
  refine mm_kald (q := 0) d_law_1872 (by decide) (mm_sc hi hL 3 (by decide)) ?_
  refine mm_v3i d_law_1873 (sk_o_71 hS1) (hp.imp (fun r' μ2 hq => ?_))
  obtain ⟨rfl, hJ2⟩ := hq
  refine mm_icmp_eq d_law_1876 (fun _ => ?_) (fun cc => absurd rfl cc)
  exact hend μ2 hJ2
theorem lc_38 {X : mm_X} {J : mm_M → Prop} {i m : Nat} {μ : mm_M} (hi : i + 6 ≤ X.1) (hL : X.1 ≤ 3072) (hS : SK μ) (H : ∀ (y1 y2 y3 : Int32), PairI X J k_G_after k_M_after [.int y1, .int y2, .int y3] μ) (hend : ∀ μ2, J μ2 → LT X m 2053 i μ2) : LT X (m + 1) 1881 i μ := by
  show mm_T X 40 (40 * m + 40) (1100 * m + 1100) k_law 1881 [some (.ref 2000000), some (.ref 0), some (.ref 71), some (.int (nI i))] [] μ _
  refine mm_aload d_law_1881 rfl ?_
  refine mm_aload d_law_1882 rfl ?_
  refine mm_iload d_law_1883 rfl ?_
  refine mm_ci d_law_1884 ?_
  refine mm_iadd d_law_1885 ?_
  refine mm_kald (q := 0) d_law_1886 (by decide) (mm_sc hi hL 1 (by decide)) ?_
  refine mm_aload d_law_1887 rfl ?_
  refine mm_iload d_law_1888 rfl ?_
  refine mm_ci d_law_1889 ?_
  refine mm_iadd d_law_1890 ?_
  refine mm_kald (q := 0) d_law_1891 (by decide) (mm_sc hi hL 2 (by decide)) ?_
  refine mm_aload d_law_1892 rfl ?_
  refine mm_iload d_law_1893 rfl ?_
  refine mm_ci d_law_1894 ?_
  refine mm_iadd d_law_1895 ?_
  refine mm_kald (q := 0) d_law_1896 (by decide) (mm_sc hi hL 3 (by decide)) ?_
  refine mm_w3i 40 1100 d_law_1897 (sk_o_0 hS) ((H _ _ _).imp (fun r μ1 hp => ?_))
  obtain ⟨hS1, hp⟩ := hp
  refine mm_aload d_law_1900 rfl ?_
  refine mm_aload d_law_1901 rfl ?_
  refine mm_iload d_law_1902 rfl ?_
  refine mm_ci d_law_1903 ?_
  refine mm_iadd d_law_1904 ?_
  refine mm_kald (q := 0) d_law_1905 (by decide) (mm_sc hi hL 1 (by decide)) ?_
  refine mm_aload d_law_1906 rfl ?_
  refine mm_iload d_law_1907 rfl ?_
  refine mm_ci d_law_1908 ?_
  refine mm_iadd d_law_1909 ?_
  refine mm_kald (q := 0) d_law_1910 (by decide) (mm_sc hi hL 2 (by decide)) ?_
  refine mm_aload d_law_1911 rfl ?_
  refine mm_iload d_law_1912 rfl ?_
  refine mm_ci d_law_1913 ?_
  refine mm_iadd d_law_1914 ?_
  refine mm_kald (q := 0) d_law_1915 (by decide) (mm_sc hi hL 3 (by decide)) ?_
  refine mm_v3i d_law_1916 (sk_o_71 hS1) (hp.imp (fun r' μ2 hq => ?_))
  obtain ⟨rfl, hJ2⟩ := hq
  refine mm_icmp_eq d_law_1919 (fun _ => ?_) (fun cc => absurd rfl cc)
  exact hend μ2 hJ2
theorem lc_39 {X : mm_X} {J : mm_M → Prop} {i m : Nat} {μ : mm_M} (hi : i + 6 ≤ X.1) (hL : X.1 ≤ 3072) (hS : SK μ) (H : ∀ (y1 y2 : Int32) (b : Int32), b = 0 ∨ b = 1 → PairJ X J k_G_share k_M_share [.int y1, .int y2, .int b] μ) (hend : ∀ μ2, J μ2 → LT X m 2053 i μ2) : LT X (m + 1) 1924 i μ := by
  show mm_T X 40 (40 * m + 40) (1100 * m + 1100) k_law 1924 [some (.ref 2000000), some (.ref 0), some (.ref 71), some (.int (nI i))] [] μ _
  refine mm_aload d_law_1924 rfl ?_
  refine mm_aload d_law_1925 rfl ?_
  refine mm_iload d_law_1926 rfl ?_
  refine mm_ci d_law_1927 ?_
  refine mm_iadd d_law_1928 ?_
  refine mm_kald (q := 0) d_law_1929 (by decide) (mm_sc hi hL 1 (by decide)) ?_
  refine mm_aload d_law_1930 rfl ?_
  refine mm_iload d_law_1931 rfl ?_
  refine mm_ci d_law_1932 ?_
  refine mm_iadd d_law_1933 ?_
  refine mm_kald (q := 0) d_law_1934 (by decide) (mm_sc hi hL 2 (by decide)) ?_
  refine mm_aload d_law_1935 rfl ?_
  refine mm_iload d_law_1936 rfl ?_
  refine mm_ci d_law_1937 ?_
  refine mm_iadd d_law_1938 ?_
  refine mm_kald (q := 0) d_law_1939 (by decide) (mm_sc hi hL 3 (by decide)) ?_
  refine mm_if_eq d_law_1940 (fun cb => ?_) (fun cb => ?_)
  · refine mm_ci d_law_1947 ?_
    refine mm_w3j 40 1100 d_law_1948 (sk_o_0 hS) ((H _ _ 0 (Or.inl rfl)).imp (fun r μ1 hp => ?_))
    obtain ⟨hS1, hp⟩ := hp
    refine mm_aload d_law_1951 rfl ?_
    refine mm_aload d_law_1952 rfl ?_
    refine mm_iload d_law_1953 rfl ?_
    refine mm_ci d_law_1954 ?_
    refine mm_iadd d_law_1955 ?_
    refine mm_kald (q := 0) d_law_1956 (by decide) (mm_sc hi hL 1 (by decide)) ?_
    refine mm_aload d_law_1957 rfl ?_
    refine mm_iload d_law_1958 rfl ?_
    refine mm_ci d_law_1959 ?_
    refine mm_iadd d_law_1960 ?_
    refine mm_kald (q := 0) d_law_1961 (by decide) (mm_sc hi hL 2 (by decide)) ?_
    refine mm_aload d_law_1962 rfl ?_
    refine mm_iload d_law_1963 rfl ?_
    refine mm_ci d_law_1964 ?_
    refine mm_iadd d_law_1965 ?_
    refine mm_kald (q := 0) d_law_1966 (by decide) (mm_sc hi hL 3 (by decide)) ?_
    refine mm_if_eq d_law_1967 (fun _ => ?_) (fun cc => absurd cb cc)
    refine mm_ci d_law_1974 ?_
    refine mm_v3j d_law_1975 (sk_o_71 hS1) (hp.imp (fun r' μ2 hq => ?_))
    obtain ⟨rfl, hJ2⟩ := hq
    refine mm_lcmp d_law_1978 ?_
    rw [lg_cmp_self]
    refine mm_if_eq d_law_1979 (fun _ => ?_) (fun cc => absurd rfl cc)
    exact hend μ2 hJ2
  · refine mm_ci d_law_1943 ?_
    refine mm_goto d_law_1944 ?_
    refine mm_w3j 40 1100 d_law_1948 (sk_o_0 hS) ((H _ _ 1 (Or.inr rfl)).imp (fun r μ1 hp => ?_))
    obtain ⟨hS1, hp⟩ := hp
    refine mm_aload d_law_1951 rfl ?_
    refine mm_aload d_law_1952 rfl ?_
    refine mm_iload d_law_1953 rfl ?_
    refine mm_ci d_law_1954 ?_
    refine mm_iadd d_law_1955 ?_
    refine mm_kald (q := 0) d_law_1956 (by decide) (mm_sc hi hL 1 (by decide)) ?_
    refine mm_aload d_law_1957 rfl ?_
    refine mm_iload d_law_1958 rfl ?_
    refine mm_ci d_law_1959 ?_
    refine mm_iadd d_law_1960 ?_
    refine mm_kald (q := 0) d_law_1961 (by decide) (mm_sc hi hL 2 (by decide)) ?_
    refine mm_aload d_law_1962 rfl ?_
    refine mm_iload d_law_1963 rfl ?_
    refine mm_ci d_law_1964 ?_
    refine mm_iadd d_law_1965 ?_
    refine mm_kald (q := 0) d_law_1966 (by decide) (mm_sc hi hL 3 (by decide)) ?_
    refine mm_if_eq d_law_1967 (fun cc => absurd cc cb) (fun _ => ?_)
    refine mm_ci d_law_1970 ?_
    refine mm_goto d_law_1971 ?_
    refine mm_v3j d_law_1975 (sk_o_71 hS1) (hp.imp (fun r' μ2 hq => ?_))
    obtain ⟨rfl, hJ2⟩ := hq
    refine mm_lcmp d_law_1978 ?_
    rw [lg_cmp_self]
    refine mm_if_eq d_law_1979 (fun _ => ?_) (fun cc => absurd rfl cc)
    exact hend μ2 hJ2
theorem lc_40 {X : mm_X} {J : mm_M → Prop} {i m : Nat} {μ : mm_M} (hi : i + 6 ≤ X.1) (hL : X.1 ≤ 3072) (hS : SK μ) (H : ∀ (y1 : Int32), PairI X J k_G_count k_M_count [.int y1] μ) (hend : ∀ μ2, J μ2 → LT X m 2053 i μ2) : LT X (m + 1) 1984 i μ := by
  show mm_T X 40 (40 * m + 40) (1100 * m + 1100) k_law 1984 [some (.ref 2000000), some (.ref 0), some (.ref 71), some (.int (nI i))] [] μ _
  refine mm_aload d_law_1984 rfl ?_
  refine mm_aload d_law_1985 rfl ?_
  refine mm_iload d_law_1986 rfl ?_
  refine mm_ci d_law_1987 ?_
  refine mm_iadd d_law_1988 ?_
  refine mm_kald (q := 0) d_law_1989 (by decide) (mm_sc hi hL 1 (by decide)) ?_
  refine mm_w1i 40 1100 d_law_1990 (sk_o_0 hS) ((H _).imp (fun r μ1 hp => ?_))
  obtain ⟨hS1, hp⟩ := hp
  refine mm_aload d_law_1993 rfl ?_
  refine mm_aload d_law_1994 rfl ?_
  refine mm_iload d_law_1995 rfl ?_
  refine mm_ci d_law_1996 ?_
  refine mm_iadd d_law_1997 ?_
  refine mm_kald (q := 0) d_law_1998 (by decide) (mm_sc hi hL 1 (by decide)) ?_
  refine mm_v1i d_law_1999 (sk_o_71 hS1) (hp.imp (fun r' μ2 hq => ?_))
  obtain ⟨rfl, hJ2⟩ := hq
  refine mm_icmp_eq d_law_2002 (fun _ => ?_) (fun cc => absurd rfl cc)
  exact hend μ2 hJ2
theorem lc_41 {X : mm_X} {J : mm_M → Prop} {i m : Nat} {μ : mm_M} (hi : i + 6 ≤ X.1) (hL : X.1 ≤ 3072) (hS : SK μ) (H : ∀ (y1 : Int32), PairI X J k_G_image k_M_image [.int y1] μ) (hend : ∀ μ2, J μ2 → LT X m 2053 i μ2) : LT X (m + 1) 2007 i μ := by
  show mm_T X 40 (40 * m + 40) (1100 * m + 1100) k_law 2007 [some (.ref 2000000), some (.ref 0), some (.ref 71), some (.int (nI i))] [] μ _
  refine mm_aload d_law_2007 rfl ?_
  refine mm_aload d_law_2008 rfl ?_
  refine mm_iload d_law_2009 rfl ?_
  refine mm_ci d_law_2010 ?_
  refine mm_iadd d_law_2011 ?_
  refine mm_kald (q := 0) d_law_2012 (by decide) (mm_sc hi hL 1 (by decide)) ?_
  refine mm_w1i 40 1100 d_law_2013 (sk_o_0 hS) ((H _).imp (fun r μ1 hp => ?_))
  obtain ⟨hS1, hp⟩ := hp
  refine mm_aload d_law_2016 rfl ?_
  refine mm_aload d_law_2017 rfl ?_
  refine mm_iload d_law_2018 rfl ?_
  refine mm_ci d_law_2019 ?_
  refine mm_iadd d_law_2020 ?_
  refine mm_kald (q := 0) d_law_2021 (by decide) (mm_sc hi hL 1 (by decide)) ?_
  refine mm_v1i d_law_2022 (sk_o_71 hS1) (hp.imp (fun r' μ2 hq => ?_))
  obtain ⟨rfl, hJ2⟩ := hq
  refine mm_icmp_eq d_law_2025 (fun _ => ?_) (fun cc => absurd rfl cc)
  exact hend μ2 hJ2
theorem lc_42 {X : mm_X} {J : mm_M → Prop} {i m : Nat} {μ : mm_M} (hi : i + 6 ≤ X.1) (hL : X.1 ≤ 3072) (hS : SK μ) (H : ∀ (y1 : Int32), PairI X J k_G_again k_M_again [.int y1] μ) (hend : ∀ μ2, J μ2 → LT X m 2053 i μ2) : LT X (m + 1) 2030 i μ := by
  show mm_T X 40 (40 * m + 40) (1100 * m + 1100) k_law 2030 [some (.ref 2000000), some (.ref 0), some (.ref 71), some (.int (nI i))] [] μ _
  refine mm_aload d_law_2030 rfl ?_
  refine mm_aload d_law_2031 rfl ?_
  refine mm_iload d_law_2032 rfl ?_
  refine mm_ci d_law_2033 ?_
  refine mm_iadd d_law_2034 ?_
  refine mm_kald (q := 0) d_law_2035 (by decide) (mm_sc hi hL 1 (by decide)) ?_
  refine mm_w1i 40 1100 d_law_2036 (sk_o_0 hS) ((H _).imp (fun r μ1 hp => ?_))
  obtain ⟨hS1, hp⟩ := hp
  refine mm_aload d_law_2039 rfl ?_
  refine mm_aload d_law_2040 rfl ?_
  refine mm_iload d_law_2041 rfl ?_
  refine mm_ci d_law_2042 ?_
  refine mm_iadd d_law_2043 ?_
  refine mm_kald (q := 0) d_law_2044 (by decide) (mm_sc hi hL 1 (by decide)) ?_
  refine mm_v1i d_law_2045 (sk_o_71 hS1) (hp.imp (fun r' μ2 hq => ?_))
  obtain ⟨rfl, hJ2⟩ := hq
  refine mm_icmp_eq d_law_2048 (fun _ => ?_) (fun cc => absurd rfl cc)
  exact hend μ2 hJ2
/-- all that the law asks of the pairs of calls at a memory -/
def Pairs (X : mm_X) (J : mm_M → Prop) (μ : mm_M) : Prop :=
  (∀ (y1 y2 y3 y4 y5 : Int32), PairI X J k_G_feed k_M_feed [.int y1, .int y2, .int y3, .int y4, .int y5] μ) ∧
  (∀ (y1 : Int32), PairI X J k_G_end k_M_end [.int y1] μ) ∧
  (∀ (y1 y2 : Int32), PairI X J k_G_text k_M_text [.int y1, .int y2] μ) ∧
  (∀ (y1 : Int32), PairI X J k_G_fault k_M_fault [.int y1] μ) ∧
  (∀ (y1 y2 : Int32), PairI X J k_G_coast k_M_coast [.int y1, .int y2] μ) ∧
  (∀ (y1 y2 y3 : Int32), PairI X J k_G_deed k_M_deed [.int y1, .int y2, .int y3] μ) ∧
  (∀ (y1 y2 : Int32), PairI X J k_G_till k_M_till [.int y1, .int y2] μ) ∧
  (∀ (y1 y2 y3 y4 : Int32), PairI X J k_G_state k_M_state [.int y1, .int y2, .int y3, .int y4] μ) ∧
  (∀ (y1 y2 y3 : Int32), PairI X J k_G_call k_M_call [.int y1, .int y2, .int y3] μ) ∧
  (∀ (y1 y2 : Int32), PairI X J k_G_feast k_M_feast [.int y1, .int y2] μ) ∧
  (∀ (y1 y2 y3 : Int32) (b : Int32), b = 0 ∨ b = 1 → PairJ X J k_G_odds k_M_odds [.int y1, .int y2, .int y3, .int b] μ) ∧
  (∀ (y1 : Int32) (b : Int32), b = 0 ∨ b = 1 → PairI X J k_G_village k_M_village [.int y1, .int b] μ) ∧
  (∀ (y1 y2 : Int32), PairI X J k_G_boats k_M_boats [.int y1, .int y2] μ) ∧
  (∀ (y1 y2 : Int32) (b : Int32), b = 0 ∨ b = 1 → PairI X J k_G_headland k_M_headland [.int y1, .int y2, .int b] μ) ∧
  (∀ (y1 y2 y3 y4 : Int32), PairJ X J k_G_waits k_M_waits [.int y1, .int y2, .int y3, .int y4] μ) ∧
  (∀ (y1 y2 y3 : Int32), PairI X J k_G_fact k_M_fact [.int y1, .int y2, .int y3] μ) ∧
  (∀ (y1 y2 : Int32), PairI X J k_G_fits k_M_fits [.int y1, .int y2] μ) ∧
  (∀ (y1 y2 : Int32), PairI X J k_G_whose k_M_whose [.int y1, .int y2] μ) ∧
  (∀ (y1 y2 y3 y4 : Int32), PairI X J k_G_drawn k_M_drawn [.int y1, .int y2, .int y3, .int y4] μ) ∧
  (∀ (y1 y2 y3 : Int32), PairI X J k_G_kin k_M_kin [.int y1, .int y2, .int y3] μ) ∧
  (∀ (y1 y2 : Int32), PairI X J k_G_clan k_M_clan [.int y1, .int y2] μ) ∧
  (∀ (y1 : Int32) (b : Int32), b = 0 ∨ b = 1 → PairI X J k_G_lone k_M_lone [.int y1, .int b] μ) ∧
  (∀ (y1 y2 : Int32), PairI X J k_G_near k_M_near [.int y1, .int y2] μ) ∧
  (∀ (y1 y2 : Int32), PairI X J k_G_ladder k_M_ladder [.int y1, .int y2] μ) ∧
  (∀ (y1 y2 : Int32) (b : Int32), b = 0 ∨ b = 1 → PairJ X J k_G_storm k_M_storm [.int y1, .int y2, .int b] μ) ∧
  (∀ (y1 y2 : Int32), PairI X J k_G_lack k_M_lack [.int y1, .int y2] μ) ∧
  (∀ (y1 y2 : Int32), PairI X J k_G_busy k_M_busy [.int y1, .int y2] μ) ∧
  (∀ (y1 y2 : Int32) (b : Int32), b = 0 ∨ b = 1 → PairJ X J k_G_lots k_M_lots [.int y1, .int y2, .int b] μ) ∧
  (∀ (y1 : Int32) (b : Int32), b = 0 ∨ b = 1 → PairI X J k_G_heir k_M_heir [.int y1, .int b] μ) ∧
  (∀ (y1 : Int32) (b : Int32), b = 0 ∨ b = 1 → PairI X J k_G_plan k_M_plan [.int y1, .int b] μ) ∧
  (∀ (y1 y2 : Int32), PairI X J k_G_levy k_M_levy [.int y1, .int y2] μ) ∧
  (∀ (y1 y2 : Int32), PairI X J k_G_ready k_M_ready [.int y1, .int y2] μ) ∧
  (∀ (y1 y2 : Int32) (b : Int32), b = 0 ∨ b = 1 → PairJ X J k_G_hope k_M_hope [.int y1, .int y2, .int b] μ) ∧
  (∀ (y1 : Int32) (b : Int32), b = 0 ∨ b = 1 → PairI X J k_G_pair k_M_pair [.int y1, .int b] μ) ∧
  (∀ (y1 y2 y3 : Int32), PairI X J k_G_seat k_M_seat [.int y1, .int y2, .int y3] μ) ∧
  (∀ (y1 y2 : Int32) (b : Int32), b = 0 ∨ b = 1 → PairI X J k_G_tide k_M_tide [.int y1, .int y2, .int b] μ) ∧
  (∀ (y1 y2 : Int32) (b : Int32), b = 0 ∨ b = 1 → PairI X J k_G_first k_M_first [.int y1, .int y2, .int b] μ) ∧
  (∀ (y1 y2 y3 : Int32), PairI X J k_G_kept k_M_kept [.int y1, .int y2, .int y3] μ) ∧
  (∀ (y1 y2 y3 : Int32), PairI X J k_G_after k_M_after [.int y1, .int y2, .int y3] μ) ∧
  (∀ (y1 y2 : Int32) (b : Int32), b = 0 ∨ b = 1 → PairJ X J k_G_share k_M_share [.int y1, .int y2, .int b] μ) ∧
  (∀ (y1 : Int32), PairI X J k_G_count k_M_count [.int y1] μ) ∧
  (∀ (y1 : Int32), PairI X J k_G_image k_M_image [.int y1] μ) ∧
  (∀ (y1 : Int32), PairI X J k_G_again k_M_again [.int y1] μ)
theorem law_step {X : mm_X} {J : mm_M → Prop} {i m : Nat} {μ : mm_M} (hi : i + 6 ≤ X.1) (hL : X.1 ≤ 3072) (hS : SK μ) (hP : Pairs X J μ) (hstay : J μ) (hend : ∀ μ2, J μ2 → LT X m 2053 i μ2) : LT X (m + 1) 27 i μ := by
  show mm_T X 40 (40 * m + 40) (1100 * m + 1100) k_law 27 [some (.ref 2000000), some (.ref 0), some (.ref 71), some (.int (nI i))] [] μ _
  refine mm_aload d_law_27 rfl ?_
  refine mm_iload d_law_28 rfl ?_
  refine mm_kald (q := 0) d_law_29 (by decide) (vp_in_nI (by show i < X.1; omega) (by show X.1 < 2 ^ 31; omega)) ?_
  refine mm_ci d_law_30 ?_
  refine mm_iand d_law_32 ?_
  obtain ⟨j, hj, ej⟩ := pk_andE ((mm_ka X 0).2 (nI i).toNatClampNeg) (m := 63) 6 (by decide)
  rw [ej]
  by_cases h43 : j < 43
  · match j, h43 with
    | 0, _ => exact mm_switchIn (n := 0) d_law_33 0 (by decide) (by decide) rfl (lc_0 hi hL hS hP.1 hend)
    | 1, _ => exact mm_switchIn (n := 0) d_law_33 1 (by decide) (by decide) rfl (lc_1 hi hL hS hP.2.1 hend)
    | 2, _ => exact mm_switchIn (n := 0) d_law_33 2 (by decide) (by decide) rfl (lc_2 hi hL hS hP.2.2.1 hend)
    | 3, _ => exact mm_switchIn (n := 0) d_law_33 3 (by decide) (by decide) rfl (lc_3 hi hL hS hP.2.2.2.1 hend)
    | 4, _ => exact mm_switchIn (n := 0) d_law_33 4 (by decide) (by decide) rfl (lc_4 hi hL hS hP.2.2.2.2.1 hend)
    | 5, _ => exact mm_switchIn (n := 0) d_law_33 5 (by decide) (by decide) rfl (lc_5 hi hL hS hP.2.2.2.2.2.1 hend)
    | 6, _ => exact mm_switchIn (n := 0) d_law_33 6 (by decide) (by decide) rfl (lc_6 hi hL hS hP.2.2.2.2.2.2.1 hend)
    | 7, _ => exact mm_switchIn (n := 0) d_law_33 7 (by decide) (by decide) rfl (lc_7 hi hL hS hP.2.2.2.2.2.2.2.1 hend)
    | 8, _ => exact mm_switchIn (n := 0) d_law_33 8 (by decide) (by decide) rfl (lc_8 hi hL hS hP.2.2.2.2.2.2.2.2.1 hend)
    | 9, _ => exact mm_switchIn (n := 0) d_law_33 9 (by decide) (by decide) rfl (lc_9 hi hL hS hP.2.2.2.2.2.2.2.2.2.1 hend)
    | 10, _ => exact mm_switchIn (n := 0) d_law_33 10 (by decide) (by decide) rfl (lc_10 hi hL hS hP.2.2.2.2.2.2.2.2.2.2.1 hend)
    | 11, _ => exact mm_switchIn (n := 0) d_law_33 11 (by decide) (by decide) rfl (lc_11 hi hL hS hP.2.2.2.2.2.2.2.2.2.2.2.1 hend)
    | 12, _ => exact mm_switchIn (n := 0) d_law_33 12 (by decide) (by decide) rfl (lc_12 hi hL hS hP.2.2.2.2.2.2.2.2.2.2.2.2.1 hend)
    | 13, _ => exact mm_switchIn (n := 0) d_law_33 13 (by decide) (by decide) rfl (lc_13 hi hL hS hP.2.2.2.2.2.2.2.2.2.2.2.2.2.1 hend)
    | 14, _ => exact mm_switchIn (n := 0) d_law_33 14 (by decide) (by decide) rfl (lc_14 hi hL hS hP.2.2.2.2.2.2.2.2.2.2.2.2.2.2.1 hend)
    | 15, _ => exact mm_switchIn (n := 0) d_law_33 15 (by decide) (by decide) rfl (lc_15 hi hL hS hP.2.2.2.2.2.2.2.2.2.2.2.2.2.2.2.1 hend)
    | 16, _ => exact mm_switchIn (n := 0) d_law_33 16 (by decide) (by decide) rfl (lc_16 hi hL hS hP.2.2.2.2.2.2.2.2.2.2.2.2.2.2.2.2.1 hend)
    | 17, _ => exact mm_switchIn (n := 0) d_law_33 17 (by decide) (by decide) rfl (lc_17 hi hL hS hP.2.2.2.2.2.2.2.2.2.2.2.2.2.2.2.2.2.1 hend)
    | 18, _ => exact mm_switchIn (n := 0) d_law_33 18 (by decide) (by decide) rfl (lc_18 hi hL hS hP.2.2.2.2.2.2.2.2.2.2.2.2.2.2.2.2.2.2.1 hend)
    | 19, _ => exact mm_switchIn (n := 0) d_law_33 19 (by decide) (by decide) rfl (lc_19 hi hL hS hP.2.2.2.2.2.2.2.2.2.2.2.2.2.2.2.2.2.2.2.1 hend)
    | 20, _ => exact mm_switchIn (n := 0) d_law_33 20 (by decide) (by decide) rfl (lc_20 hi hL hS hP.2.2.2.2.2.2.2.2.2.2.2.2.2.2.2.2.2.2.2.2.1 hend)
    | 21, _ => exact mm_switchIn (n := 0) d_law_33 21 (by decide) (by decide) rfl (lc_21 hi hL hS hP.2.2.2.2.2.2.2.2.2.2.2.2.2.2.2.2.2.2.2.2.2.1 hend)
    | 22, _ => exact mm_switchIn (n := 0) d_law_33 22 (by decide) (by decide) rfl (lc_22 hi hL hS hP.2.2.2.2.2.2.2.2.2.2.2.2.2.2.2.2.2.2.2.2.2.2.1 hend)
    | 23, _ => exact mm_switchIn (n := 0) d_law_33 23 (by decide) (by decide) rfl (lc_23 hi hL hS hP.2.2.2.2.2.2.2.2.2.2.2.2.2.2.2.2.2.2.2.2.2.2.2.1 hend)
    | 24, _ => exact mm_switchIn (n := 0) d_law_33 24 (by decide) (by decide) rfl (lc_24 hi hL hS hP.2.2.2.2.2.2.2.2.2.2.2.2.2.2.2.2.2.2.2.2.2.2.2.2.1 hend)
    | 25, _ => exact mm_switchIn (n := 0) d_law_33 25 (by decide) (by decide) rfl (lc_25 hi hL hS hP.2.2.2.2.2.2.2.2.2.2.2.2.2.2.2.2.2.2.2.2.2.2.2.2.2.1 hend)
    | 26, _ => exact mm_switchIn (n := 0) d_law_33 26 (by decide) (by decide) rfl (lc_26 hi hL hS hP.2.2.2.2.2.2.2.2.2.2.2.2.2.2.2.2.2.2.2.2.2.2.2.2.2.2.1 hend)
    | 27, _ => exact mm_switchIn (n := 0) d_law_33 27 (by decide) (by decide) rfl (lc_27 hi hL hS hP.2.2.2.2.2.2.2.2.2.2.2.2.2.2.2.2.2.2.2.2.2.2.2.2.2.2.2.1 hend)
    | 28, _ => exact mm_switchIn (n := 0) d_law_33 28 (by decide) (by decide) rfl (lc_28 hi hL hS hP.2.2.2.2.2.2.2.2.2.2.2.2.2.2.2.2.2.2.2.2.2.2.2.2.2.2.2.2.1 hend)
    | 29, _ => exact mm_switchIn (n := 0) d_law_33 29 (by decide) (by decide) rfl (lc_29 hi hL hS hP.2.2.2.2.2.2.2.2.2.2.2.2.2.2.2.2.2.2.2.2.2.2.2.2.2.2.2.2.2.1 hend)
    | 30, _ => exact mm_switchIn (n := 0) d_law_33 30 (by decide) (by decide) rfl (lc_30 hi hL hS hP.2.2.2.2.2.2.2.2.2.2.2.2.2.2.2.2.2.2.2.2.2.2.2.2.2.2.2.2.2.2.1 hend)
    | 31, _ => exact mm_switchIn (n := 0) d_law_33 31 (by decide) (by decide) rfl (lc_31 hi hL hS hP.2.2.2.2.2.2.2.2.2.2.2.2.2.2.2.2.2.2.2.2.2.2.2.2.2.2.2.2.2.2.2.1 hend)
    | 32, _ => exact mm_switchIn (n := 0) d_law_33 32 (by decide) (by decide) rfl (lc_32 hi hL hS hP.2.2.2.2.2.2.2.2.2.2.2.2.2.2.2.2.2.2.2.2.2.2.2.2.2.2.2.2.2.2.2.2.1 hend)
    | 33, _ => exact mm_switchIn (n := 0) d_law_33 33 (by decide) (by decide) rfl (lc_33 hi hL hS hP.2.2.2.2.2.2.2.2.2.2.2.2.2.2.2.2.2.2.2.2.2.2.2.2.2.2.2.2.2.2.2.2.2.1 hend)
    | 34, _ => exact mm_switchIn (n := 0) d_law_33 34 (by decide) (by decide) rfl (lc_34 hi hL hS hP.2.2.2.2.2.2.2.2.2.2.2.2.2.2.2.2.2.2.2.2.2.2.2.2.2.2.2.2.2.2.2.2.2.2.1 hend)
    | 35, _ => exact mm_switchIn (n := 0) d_law_33 35 (by decide) (by decide) rfl (lc_35 hi hL hS hP.2.2.2.2.2.2.2.2.2.2.2.2.2.2.2.2.2.2.2.2.2.2.2.2.2.2.2.2.2.2.2.2.2.2.2.1 hend)
    | 36, _ => exact mm_switchIn (n := 0) d_law_33 36 (by decide) (by decide) rfl (lc_36 hi hL hS hP.2.2.2.2.2.2.2.2.2.2.2.2.2.2.2.2.2.2.2.2.2.2.2.2.2.2.2.2.2.2.2.2.2.2.2.2.1 hend)
    | 37, _ => exact mm_switchIn (n := 0) d_law_33 37 (by decide) (by decide) rfl (lc_37 hi hL hS hP.2.2.2.2.2.2.2.2.2.2.2.2.2.2.2.2.2.2.2.2.2.2.2.2.2.2.2.2.2.2.2.2.2.2.2.2.2.1 hend)
    | 38, _ => exact mm_switchIn (n := 0) d_law_33 38 (by decide) (by decide) rfl (lc_38 hi hL hS hP.2.2.2.2.2.2.2.2.2.2.2.2.2.2.2.2.2.2.2.2.2.2.2.2.2.2.2.2.2.2.2.2.2.2.2.2.2.2.1 hend)
    | 39, _ => exact mm_switchIn (n := 0) d_law_33 39 (by decide) (by decide) rfl (lc_39 hi hL hS hP.2.2.2.2.2.2.2.2.2.2.2.2.2.2.2.2.2.2.2.2.2.2.2.2.2.2.2.2.2.2.2.2.2.2.2.2.2.2.2.1 hend)
    | 40, _ => exact mm_switchIn (n := 0) d_law_33 40 (by decide) (by decide) rfl (lc_40 hi hL hS hP.2.2.2.2.2.2.2.2.2.2.2.2.2.2.2.2.2.2.2.2.2.2.2.2.2.2.2.2.2.2.2.2.2.2.2.2.2.2.2.2.1 hend)
    | 41, _ => exact mm_switchIn (n := 0) d_law_33 41 (by decide) (by decide) rfl (lc_41 hi hL hS hP.2.2.2.2.2.2.2.2.2.2.2.2.2.2.2.2.2.2.2.2.2.2.2.2.2.2.2.2.2.2.2.2.2.2.2.2.2.2.2.2.2.1 hend)
    | 42, _ => exact mm_switchIn (n := 0) d_law_33 42 (by decide) (by decide) rfl (lc_42 hi hL hS hP.2.2.2.2.2.2.2.2.2.2.2.2.2.2.2.2.2.2.2.2.2.2.2.2.2.2.2.2.2.2.2.2.2.2.2.2.2.2.2.2.2.2 hend)
    | j + 43, h => exact absurd h (by omega)
  · refine mm_switchOut (n := 0) d_law_33 (Or.inr ?_) ?_
    · have hj : j < 64 := hj
      rw [nI_toInt (by omega)]
      omega
    · have z := hend μ hstay
      exact mm_T.more (by omega) (by omega) z
theorem law_exit {X : mm_X} {m i : Nat} {μ : mm_M} (hL : X.1 ≤ 3072) (hi : i ≤ 4000) (h : X.1 < i + 6) : LT X m 18 i μ := by
  show mm_T X 40 (40 * m) (1100 * m) k_law 18 [some (.ref 2000000), some (.ref 0), some (.ref 71), some (.int (nI i))] [] μ _
  refine mm_iload d_law_18 rfl ?_
  refine mm_aload d_law_19 rfl ?_
  refine mm_klen (q := 0) d_law_20 (by decide) ?_
  refine mm_ci d_law_21 ?_
  refine mm_isub d_law_23 ?_
  have e1 : ((Int32.ofNat (mm_ka X 0).1) - 6).toInt = (X.1 : Int) - 6 := by
    show (nI X.1 - nI 6).toInt = _
    exact pk_sub_toInt (by omega) (by decide)
  refine mm_icmp_gt d_law_24 (fun _ => ?_) (fun c => absurd (Int32.lt_iff_toInt_lt.mpr ?_) c)
  · refine mm_ci d_law_2059 ?_
    exact mm_zreturn d_law_2060 rfl (by decide) rfl
  · rw [e1, nI_toInt (by omega)]
    omega
theorem law_loop {X : mm_X} (J : Nat → mm_M → Prop) (hL : X.1 ≤ 3072) (hSK : ∀ k μ, J k μ → SK μ) (hP : ∀ k μ, 6 * k + 6 ≤ X.1 → J k μ → Pairs X (J (k + 1)) μ ∧ J (k + 1) μ) : ∀ (m k : Nat) (μ : mm_M), X.1 < 6 * (k + m) + 6 → 6 * k ≤ 3072 → J k μ → LT X m 18 (6 * k) μ := by
  intro m
  induction m with
  | zero => intro k μ h1 h2 hJ; exact law_exit hL (by omega) (by omega)
  | succ m ih =>
    intro k μ h1 h2 hJ
    by_cases hx : X.1 < 6 * k + 6
    · exact law_exit hL (by omega) hx
    · have hi : 6 * k + 6 ≤ X.1 := by omega
      obtain ⟨hp, hs⟩ := hP k μ hi hJ
      have body := law_step (m := m) hi hL (hSK k μ hJ) hp hs (fun μ2 hJ2 => by
        show mm_T X 40 (40 * m) (1100 * m) k_law 2053 [some (.ref 2000000), some (.ref 0), some (.ref 71), some (.int (nI (6 * k)))] [] μ2 _
        refine mm_inc3 d_law_2053 ?_
        refine mm_goto d_law_2056 ?_
        have z := ih (k + 1) μ2 (by omega) (by omega) hJ2
        rw [show nI (6 * k) + 6 = nI (6 * (k + 1)) from (nI_add (6 * k) 6).trans (congrArg nI (by omega))]
        exact z)
      show mm_T X 40 (40 * (m + 1)) (1100 * (m + 1)) k_law 18 [some (.ref 2000000), some (.ref 0), some (.ref 71), some (.int (nI (6 * k)))] [] μ _
      refine mm_iload d_law_18 rfl ?_
      refine mm_aload d_law_19 rfl ?_
      refine mm_klen (q := 0) d_law_20 (by decide) ?_
      refine mm_ci d_law_21 ?_
      refine mm_isub d_law_23 ?_
      have e1 : ((Int32.ofNat (mm_ka X 0).1) - 6).toInt = (X.1 : Int) - 6 := by
        show (nI X.1 - nI 6).toInt = _
        exact pk_sub_toInt (by omega) (by decide)
      refine mm_icmp_gt d_law_24 (fun c => ?_) (fun _ => body)
      have := Int32.lt_iff_toInt_lt.mp c
      rw [e1, nI_toInt (by omega)] at this
      omega
/-- the claim's contract, out of what the pairs of calls keep -/
theorem law_all {X : mm_X} (J : Nat → mm_M → Prop) (hL : X.1 ≤ 3072) (h0 : J 0 mm_1) (hSK : ∀ k μ, J k μ → SK μ) (hP : ∀ k μ, 6 * k + 6 ≤ X.1 → J k μ → Pairs X (J (k + 1)) μ ∧ J (k + 1) μ) : mm_C X 40 600000 7302250 k_law [.ref 2000000] mm_0 (fun v _ => v = some (.int 1)) := by
  show mm_T X 40 600000 7302250 k_law 0 [some (.ref 2000000), none, none, none] [] mm_0 _
  refine mm_newO' 0 d_law_0 rfl (by decide) (fun h_0 => ?_)
  refine mm_dup d_law_3 rfl ?_
  refine mm_i0w 70 3425 d_law_4 (sp_G_init h_0 (by decide) ?_)
  refine mm_ast1 d_law_7 ?_
  refine mm_newO' 71 d_law_8 (by decide +kernel) (by decide) (fun h_71 => ?_)
  refine mm_dup d_law_11 rfl ?_
  refine mm_i0w 23 14070 d_law_12 (sp_M_init h_71 (by decide +kernel) ?_)
  refine mm_ast2 d_law_15 ?_
  refine mm_ci d_law_16 ?_
  refine mm_ist3 d_law_17 ?_
  have z := law_loop J hL hSK hP 512 0 mm_1 (by omega) (by omega) h0
  exact mm_T.more (Nat.le_of_ble_eq_true rfl) (Nat.le_of_ble_eq_true rfl) z
