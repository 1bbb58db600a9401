/-! logs: all that fit; share, fits -/
def fitL (E : mm_E) (k : Nat) : List Nat := (List.range k).filter (fitB E)
theorem fitL_1 {E : mm_E} {k : Nat} (h : fitI E k ≠ 0) : fitL E (k + 1) = fitL E k ++ [k] := by
  have hb : fitB E k = true := by
    cases e : fitB E k with
    | true => rfl
    | false => unfold fitI at h; rw [e] at h; exact absurd rfl h
  unfold fitL
  rw [List.range_succ, List.filter_append]
  simp [hb]
theorem fitL_0 {E : mm_E} {k : Nat} (h : fitI E k = 0) : fitL E (k + 1) = fitL E k := by
  have hb : fitB E k = false := by
    cases e : fitB E k with
    | true => unfold fitI at h; rw [e] at h; exact absurd h (by decide)
    | false => rfl
  unfold fitL
  rw [List.range_succ, List.filter_append]
  simp [hb]
def p3L (k : Nat) : List Nat := (List.range k).filter (fun s => decide (pop s = 3))
theorem p3L_256 : (p3L 256).length = 56 := by decide +kernel
theorem fitL_le_p3 (E : mm_E) : ∀ k, (fitL E k).length ≤ (p3L k).length
  | 0 => Nat.le_refl 0
  | k + 1 => by
    have h := fitL_le_p3 E k
    by_cases c : fitI E k = 0
    · rw [fitL_0 c]
      unfold p3L at h ⊢
      rw [List.range_succ, List.filter_append, List.length_append]
      omega
    · have h3 : pop k = 3 := Decidable.byContradiction fun z => c (fitI_p z)
      rw [fitL_1 c, List.length_append]
      unfold p3L at h ⊢
      rw [List.range_succ, List.filter_append, List.length_append]
      simp [h3]
      simpa using h
theorem p3L_mono : ∀ d k, (p3L k).length ≤ (p3L (k + d)).length
  | 0, k => Nat.le_refl _
  | d + 1, k => by
    have h := p3L_mono d k
    unfold p3L at h ⊢
    rw [show k + (d + 1) = (k + d) + 1 by omega, List.range_succ, List.filter_append, List.length_append]
    omega
theorem fitL_le {E : mm_E} {k : Nat} (hk : k ≤ 256) : (fitL E k).length ≤ 56 := by
  have h1 := fitL_le_p3 E k
  have h2 := p3L_mono (256 - k) k
  rw [show k + (256 - k) = 256 by omega, p3L_256] at h2
  omega
theorem fitL_lt {E : mm_E} {k : Nat} (hk : k < 256) (h : fitI E k ≠ 0) : (fitL E k).length < 56 := by
  have := fitL_le (E := E) (k := k + 1) hk
  rw [fitL_1 h, List.length_append] at this
  exact this
theorem getD_app {F : List Nat} {x j : Nat} (h : j < F.length) : (F ++ [x]).getD j 0 = F.getD j 0 := by
  simp [List.getD, List.getElem?_append_left h]
theorem getD_last {F : List Nat} {x : Nat} : (F ++ [x]).getD F.length 0 = x := by
  simp [List.getD]
theorem fitL_pre {E : mm_E} {s : Nat} : ∀ d, (fitL E s).length ≤ (fitL E (s + d)).length ∧ ∀ j, j < (fitL E s).length → (fitL E (s + d)).getD j 0 = (fitL E s).getD j 0
  | 0 => ⟨Nat.le_refl _, fun _ _ => rfl⟩
  | d + 1 => by
    obtain ⟨h1, h2⟩ := fitL_pre (E := E) (s := s) d
    show (fitL E s).length ≤ (fitL E ((s + d) + 1)).length ∧ ∀ j, j < (fitL E s).length → (fitL E ((s + d) + 1)).getD j 0 = (fitL E s).getD j 0
    by_cases c : fitI E (s + d) = 0
    · rw [fitL_0 c]; exact ⟨h1, h2⟩
    · rw [fitL_1 c, List.length_append]
      refine ⟨by omega, fun j hj => ?_⟩
      rw [getD_app (by omega)]
      exact h2 j hj
theorem fitL_lt256 {E : mm_E} : ∀ {k}, k ≤ 256 → ∀ j, j < (fitL E k).length → (fitL E k).getD j 0 < 256
  | 0, _, j, h => absurd h (Nat.not_lt_zero j)
  | k + 1, hk, j, h => by
    by_cases c : fitI E k = 0
    · rw [fitL_0 c] at h ⊢; exact fitL_lt256 (by omega) j h
    · rw [fitL_1 c] at h ⊢
      rw [List.length_append] at h
      simp at h
      by_cases e : j = (fitL E k).length
      · rw [e, getD_last]; omega
      · rw [getD_app (by omega)]; exact fitL_lt256 (by omega) j (by omega)
def hmK (E : mm_E) (w : Nat) : Nat → Nat
  | 0 => 0
  | s + 1 => if w &&& (s ^^^ 4294967295) = 0 ∧ fitI E s ≠ 0 then hmK E w s + 1 else hmK E w s
theorem hmK_le (E : mm_E) (w : Nat) : ∀ k, hmK E w k ≤ k
  | 0 => Nat.le_refl 0
  | k + 1 => by
    have := hmK_le E w k
    unfold hmK
    split <;> omega
theorem hmK_0 (E : mm_E) : ∀ k, hmK E 0 k = (fitL E k).length
  | 0 => rfl
  | k + 1 => by
    have h := hmK_0 E k
    unfold hmK
    by_cases c : fitI E k = 0
    · rw [if_neg (fun z => z.2 c), fitL_0 c]; exact h
    · rw [if_pos ⟨Nat.zero_and _, c⟩, fitL_1 c, List.length_append, h]; rfl
def mhK (F : List Nat) (w : Nat) : Nat → Nat
  | 0 => 0
  | k + 1 => mhK F w k + (if bt8 (F.getD k 0) w = 0 then 0 else 1)
theorem mhK_app {F : List Nat} {x w : Nat} : ∀ j, j ≤ F.length → mhK (F ++ [x]) w j = mhK F w j
  | 0, _ => rfl
  | j + 1, h => by
    unfold mhK
    rw [mhK_app j (by omega), getD_app (by omega)]
theorem mhK_le (F : List Nat) (w : Nat) : ∀ k, mhK F w k ≤ k
  | 0 => Nat.le_refl 0
  | k + 1 => by
    have := mhK_le F w k
    unfold mhK
    split <;> omega
theorem bit_in : ∀ s, s < 256 → ∀ w, w < 8 → (2 ^ w &&& (s ^^^ 4294967295) = 0 ↔ bt8 s w ≠ 0) := by decide +kernel
theorem mhK_hm (E : mm_E) {w : Nat} (hw : w < 8) : ∀ k, k ≤ 256 → mhK (fitL E k) w (fitL E k).length = hmK E (2 ^ w) k
  | 0, _ => rfl
  | k + 1, hk => by
    have h := mhK_hm E hw k (by omega)
    have hb := bit_in k (by omega) w hw
    unfold hmK
    by_cases c : fitI E k = 0
    · rw [if_neg (fun z => z.2 c), fitL_0 c]; exact h
    · rw [fitL_1 c, List.length_append]
      show mhK (fitL E k ++ [k]) w (fitL E k).length + (if bt8 ((fitL E k ++ [k]).getD (fitL E k).length 0) w = 0 then 0 else 1) = _
      rw [mhK_app _ (Nat.le_refl _), h, getD_last]
      by_cases b : bt8 k w = 0
      · rw [if_pos b, if_neg (fun z => hb.mp z.1 b), Nat.add_zero]
      · rw [if_neg b, if_pos ⟨hb.mpr b, c⟩]
theorem sp_Lo_howManyHave {X : mm_X} {μ : mm_M} {q : Int32 → mm_M → Prop} {a w : Nat} {E : mm_E} (hLD : LoD μ a E) (hWE : WfE E) (hw : w < 256) (h : q (nI (hmK E w 256)) μ) : mm_Ci X 2 0 0 k_Lo_howManyHave [.ref a, .int (nI w)] μ q := by
  show mm_T X 2 0 0 k_Lo_howManyHave 0 [some (.ref a), some (.int (nI w)), none, none] [] μ _
  refine mm_ciN 0 d_Lo_howManyHave_0 rfl ?_
  refine mm_ist2 d_Lo_howManyHave_1 ?_
  refine mm_ciN 0 d_Lo_howManyHave_2 rfl ?_
  refine mm_ist3 d_Lo_howManyHave_3 ?_
  refine mm_up (P := fun s => mm_T X _ 0 0 k_Lo_howManyHave 4 [some (.ref a), some (.int (nI w)), some (.int (nI (hmK E w s))), some (.int (nI s))] [] μ _) 256 ?_ (fun s hs ih => ?_)
  · refine mm_iload d_Lo_howManyHave_4 rfl ?_
    refine mm_ciN 255 d_Lo_howManyHave_5 rfl ?_
    refine mm_icmp_gtN d_Lo_howManyHave_8 (by first | omega | exact ite01_lt | exact bt8_lt31 _ _ | exact godB_lt31 _ _ _ | exact pop_lt31 _ | assumption | exact b31 (hW.gp (by omega)) | exact b31 (hW.ne (by omega)) | exact b31 (hW.op (by omega)) | exact and31 (hW.gp (by omega)) | exact and31 (hW.ne (by omega)) | exact and31 (hW.op (by omega)) | exact and31 (by assumption) | exact and31r (hW.ne (by omega)) | exact and31r (hW.gp (by omega)) | exact and31r (by decide)) (by first | omega | exact ite01_lt | exact bt8_lt31 _ _ | exact godB_lt31 _ _ _ | exact pop_lt31 _ | assumption | exact b31 (hW.gp (by omega)) | exact b31 (hW.ne (by omega)) | exact b31 (hW.op (by omega)) | exact and31 (hW.gp (by omega)) | exact and31 (hW.ne (by omega)) | exact and31 (hW.op (by omega)) | exact and31 (by assumption) | exact and31r (hW.ne (by omega)) | exact and31r (hW.gp (by omega)) | exact and31r (by decide)) (fun c_8 => ?_) (fun c_8 => False.elim (by omega))
    refine mm_iload d_Lo_howManyHave_36 rfl ?_
    exact mm_ri d_Lo_howManyHave_37 h
  · have hfi := fitI_lt31 E s
    refine mm_iload d_Lo_howManyHave_4 rfl ?_
    refine mm_ciN 255 d_Lo_howManyHave_5 rfl ?_
    refine mm_icmp_gtN d_Lo_howManyHave_8 (by first | omega | exact ite01_lt | exact bt8_lt31 _ _ | exact godB_lt31 _ _ _ | exact pop_lt31 _ | assumption | exact b31 (hW.gp (by omega)) | exact b31 (hW.ne (by omega)) | exact b31 (hW.op (by omega)) | exact and31 (hW.gp (by omega)) | exact and31 (hW.ne (by omega)) | exact and31 (hW.op (by omega)) | exact and31 (by assumption) | exact and31r (hW.ne (by omega)) | exact and31r (hW.gp (by omega)) | exact and31r (by decide)) (by first | omega | exact ite01_lt | exact bt8_lt31 _ _ | exact godB_lt31 _ _ _ | exact pop_lt31 _ | assumption | exact b31 (hW.gp (by omega)) | exact b31 (hW.ne (by omega)) | exact b31 (hW.op (by omega)) | exact and31 (hW.gp (by omega)) | exact and31 (hW.ne (by omega)) | exact and31 (hW.op (by omega)) | exact and31 (by assumption) | exact and31r (hW.ne (by omega)) | exact and31r (hW.gp (by omega)) | exact and31r (by decide)) (fun c_8 => False.elim (by omega)) (fun c_8 => ?_)
    refine mm_iload d_Lo_howManyHave_11 rfl ?_
    refine mm_iload d_Lo_howManyHave_12 rfl ?_
    refine mm_ci d_Lo_howManyHave_13 ?_
    refine mm_inotN d_Lo_howManyHave_14 ?_
    refine mm_iandN d_Lo_howManyHave_15 ?_
    refine mm_if_neN d_Lo_howManyHave_16 (by first | omega | exact ite01_lt | exact bt8_lt31 _ _ | exact godB_lt31 _ _ _ | exact pop_lt31 _ | assumption | exact b31 (hW.gp (by omega)) | exact b31 (hW.ne (by omega)) | exact b31 (hW.op (by omega)) | exact and31 (hW.gp (by omega)) | exact and31 (hW.ne (by omega)) | exact and31 (hW.op (by omega)) | exact and31 (by assumption) | exact and31r (hW.ne (by omega)) | exact and31r (hW.gp (by omega)) | exact and31r (by decide)) (fun c_16 => ?_) (fun c_16 => ?_)
    · refine mm_inc3N d_Lo_howManyHave_30 ?_
      refine mm_goto d_Lo_howManyHave_33 ?_
      first
        | (rw [show hmK E w (s + 1) = hmK E w s + 1 from if_pos ⟨c_16, c_24⟩] at ih; exact ih)
        | (rw [show hmK E w (s + 1) = hmK E w s from if_neg (fun z => c_16 z.1)] at ih; exact ih)
        | (rw [show hmK E w (s + 1) = hmK E w s from if_neg (fun z => z.2 c_24)] at ih; exact ih)
    · refine mm_aload d_Lo_howManyHave_19 rfl ?_
      refine mm_iload d_Lo_howManyHave_20 rfl ?_
      refine mm_v1i d_Lo_howManyHave_21 hLD.1.1 (sp_Lo_allows hLD hWE hs ?_)
      refine mm_if_eqN d_Lo_howManyHave_24 (by first | omega | exact ite01_lt | exact bt8_lt31 _ _ | exact godB_lt31 _ _ _ | exact pop_lt31 _ | assumption | exact b31 (hW.gp (by omega)) | exact b31 (hW.ne (by omega)) | exact b31 (hW.op (by omega)) | exact and31 (hW.gp (by omega)) | exact and31 (hW.ne (by omega)) | exact and31 (hW.op (by omega)) | exact and31 (by assumption) | exact and31r (hW.ne (by omega)) | exact and31r (hW.gp (by omega)) | exact and31r (by decide)) (fun c_24 => ?_) (fun c_24 => ?_)
      · refine mm_inc3N d_Lo_howManyHave_30 ?_
        refine mm_goto d_Lo_howManyHave_33 ?_
        first
          | (rw [show hmK E w (s + 1) = hmK E w s + 1 from if_pos ⟨c_16, c_24⟩] at ih; exact ih)
          | (rw [show hmK E w (s + 1) = hmK E w s from if_neg (fun z => c_16 z.1)] at ih; exact ih)
          | (rw [show hmK E w (s + 1) = hmK E w s from if_neg (fun z => z.2 c_24)] at ih; exact ih)
      · refine mm_inc2N d_Lo_howManyHave_27 ?_
        refine mm_inc3N d_Lo_howManyHave_30 ?_
        refine mm_goto d_Lo_howManyHave_33 ?_
        first
          | (rw [show hmK E w (s + 1) = hmK E w s + 1 from if_pos ⟨c_16, c_24⟩] at ih; exact ih)
          | (rw [show hmK E w (s + 1) = hmK E w s from if_neg (fun z => c_16 z.1)] at ih; exact ih)
          | (rw [show hmK E w (s + 1) = hmK E w s from if_neg (fun z => z.2 c_24)] at ih; exact ih)
/-- the model, all that fit laid out -/
def FL (μ : mm_M) (F : List Nat) : Prop := mm_I μ 71 43 = nI F.length ∧ ∀ j, j < F.length → mm_I μ 88 j = nI (F.getD j 0)
theorem HL.s71 {μ : mm_M} {i j : Nat} {x : Int32} {E : mm_E} (h : HL μ i E) (hj : j ≠ 41) : HL (mm_sI μ 71 j x) i E := ⟨h.1, h.2.1, by rw [mm_I_sI, if_neg (by omega)]; exact h.2.2.1, h.2.2.2.1.sI, h.2.2.2.2⟩
theorem HL.s88 {μ : mm_M} {i j : Nat} {x : Int32} {E : mm_E} (h : HL μ i E) : HL (mm_sI μ 88 j x) i E := ⟨h.1, h.2.1, by rw [mm_I_sI, if_neg (by omega)]; exact h.2.2.1, by unfold LoM; rw [mm_sI_off (by decide)]; exact h.2.2.2.1, h.2.2.2.2⟩
theorem sp_M_layLog {X : mm_X} {μ : mm_M} {q : Int32 → mm_M → Prop} {c l : Nat} {E : mm_E} (hM : SK μ) (hc : mm_I μ 76 2 = nI c) (hc2 : c ≤ 2) (hl : l < c) (hE : LoM μ (17 * l) E) (hWE : WfE E) (h : ∀ μ', Fr scM μ μ' → SK μ' → FL μ' (fitL E 256) → q (nI 1) μ') : mm_Ci X 3 0 0 k_M_layLog [.ref 71, .int (nI l)] μ q := by
  show mm_T X 3 0 0 k_M_layLog 0 [some (.ref 71), some (.int (nI l)), none] [] μ _
  refine mm_aload d_M_layLog_0 rfl ?_
  refine mm_iload d_M_layLog_1 rfl ?_
  refine mm_v1i d_M_layLog_2 (sk_o_71 hM) (sp_M_hasLogT hM hc hc2 hl hE hWE (fun hL => ?_))
  refine mm_if_neN d_M_layLog_5 (by first | omega | exact ite01_lt | exact bt8_lt31 _ _ | exact godB_lt31 _ _ _ | exact pop_lt31 _ | assumption | exact b31 (hW.gp (by omega)) | exact b31 (hW.ne (by omega)) | exact b31 (hW.op (by omega)) | exact and31 (hW.gp (by omega)) | exact and31 (hW.ne (by omega)) | exact and31 (hW.op (by omega)) | exact and31 (by assumption) | exact and31r (hW.ne (by omega)) | exact and31r (hW.gp (by omega)) | exact and31r (by decide)) (fun c_5 => ?_) (fun c_5 => False.elim (by omega))
  refine mm_aload d_M_layLog_10 rfl ?_
  refine mm_ciN 0 d_M_layLog_11 rfl ?_
  refine mm_putI d_M_layLog_12 rfl (sk_o_71 hM) (Or.inl rfl) ?_
  refine mm_ciN 0 d_M_layLog_15 rfl ?_
  refine mm_ist2 d_M_layLog_16 ?_
  refine mm_up (P := fun s => ∀ ν, (Fr scM μ ν ∧ HL ν l E ∧ FL ν (fitL E s)) → mm_T X _ 0 0 k_M_layLog 17 [some (.ref 71), some (.int (nI l)), some (.int (nI s))] [] ν _) 256 ?_ ?_ _ ⟨(Fr.rf.sI rfl).sI rfl, hL.s71 (by decide), by rw [mm_I_sI, if_pos ⟨rfl, rfl⟩]; rfl, fun j hj => absurd hj (Nat.not_lt_zero j)⟩
  · intro ν hI
    refine mm_iload d_M_layLog_17 rfl ?_
    refine mm_ciN 256 d_M_layLog_18 rfl ?_
    refine mm_icmp_geN d_M_layLog_21 (by first | omega | exact ite01_lt | exact bt8_lt31 _ _ | exact godB_lt31 _ _ _ | exact pop_lt31 _ | assumption | exact b31 (hW.gp (by omega)) | exact b31 (hW.ne (by omega)) | exact b31 (hW.op (by omega)) | exact and31 (hW.gp (by omega)) | exact and31 (hW.ne (by omega)) | exact and31 (hW.op (by omega)) | exact and31 (by assumption) | exact and31r (hW.ne (by omega)) | exact and31r (hW.gp (by omega)) | exact and31r (by decide)) (by first | omega | exact ite01_lt | exact bt8_lt31 _ _ | exact godB_lt31 _ _ _ | exact pop_lt31 _ | assumption | exact b31 (hW.gp (by omega)) | exact b31 (hW.ne (by omega)) | exact b31 (hW.op (by omega)) | exact and31 (hW.gp (by omega)) | exact and31 (hW.ne (by omega)) | exact and31 (hW.op (by omega)) | exact and31 (by assumption) | exact and31r (hW.ne (by omega)) | exact and31r (hW.gp (by omega)) | exact and31r (by decide)) (fun c_21 => ?_) (fun c_21 => False.elim (by omega))
    refine mm_ciN 1 d_M_layLog_58 rfl ?_
    exact mm_rz d_M_layLog_59 (h ν hI.1 hI.2.1.1 hI.2.2)
  · intro s hs ih ν hI
    obtain ⟨hf, hL, hF1, hF2⟩ := hI
    have hM := hL.1
    have hfi := fitI_lt31 E s
    have hle := fitL_le (E := E) (k := s) (by omega)
    refine mm_iload d_M_layLog_17 rfl ?_
    refine mm_ciN 256 d_M_layLog_18 rfl ?_
    refine mm_icmp_geN d_M_layLog_21 (by first | omega | exact ite01_lt | exact bt8_lt31 _ _ | exact godB_lt31 _ _ _ | exact pop_lt31 _ | assumption | exact b31 (hW.gp (by omega)) | exact b31 (hW.ne (by omega)) | exact b31 (hW.op (by omega)) | exact and31 (hW.gp (by omega)) | exact and31 (hW.ne (by omega)) | exact and31 (hW.op (by omega)) | exact and31 (by assumption) | exact and31r (hW.ne (by omega)) | exact and31r (hW.gp (by omega)) | exact and31r (by decide)) (by first | omega | exact ite01_lt | exact bt8_lt31 _ _ | exact godB_lt31 _ _ _ | exact pop_lt31 _ | assumption | exact b31 (hW.gp (by omega)) | exact b31 (hW.ne (by omega)) | exact b31 (hW.op (by omega)) | exact and31 (hW.gp (by omega)) | exact and31 (hW.ne (by omega)) | exact and31 (hW.op (by omega)) | exact and31 (by assumption) | exact and31r (hW.ne (by omega)) | exact and31r (hW.gp (by omega)) | exact and31r (by decide)) (fun c_21 => False.elim (by omega)) (fun c_21 => ?_)
    refine mm_aload d_M_layLog_24 rfl ?_
    refine mm_iload d_M_layLog_25 rfl ?_
    refine mm_v1i d_M_layLog_26 (sk_o_71 hM) (sp_M_isFit hL hs ?_)
    refine mm_if_eqN d_M_layLog_29 (by first | omega | exact ite01_lt | exact bt8_lt31 _ _ | exact godB_lt31 _ _ _ | exact pop_lt31 _ | assumption | exact b31 (hW.gp (by omega)) | exact b31 (hW.ne (by omega)) | exact b31 (hW.op (by omega)) | exact and31 (hW.gp (by omega)) | exact and31 (hW.ne (by omega)) | exact and31 (hW.op (by omega)) | exact and31 (by assumption) | exact and31r (hW.ne (by omega)) | exact and31r (hW.gp (by omega)) | exact and31r (by decide)) (fun c_29 => ?_) (fun c_29 => ?_)
    · refine mm_inc2N d_M_layLog_52 ?_
      refine mm_goto d_M_layLog_55 ?_
      first
        | (rw [fitL_0 c_29] at ih; exact ih ν ⟨hf, hL, hF1, hF2⟩)
        | (rw [fitL_1 c_29] at ih
           refine ih _ ⟨(hf.sI rfl).sI rfl, (hL.s88).s71 (by decide), ?_, fun j hj => ?_⟩
           · rw [mm_I_sI, if_pos ⟨rfl, rfl⟩, List.length_append]; rfl
           · rw [mm_sI_off (by decide), mm_I_sI]
             rw [List.length_append] at hj
             simp at hj
             by_cases e : j = (fitL E s).length
             · rw [if_pos ⟨rfl, e⟩, e, getD_last]
             · rw [if_neg (fun z => e z.2), getD_app (by omega)]; exact hF2 j (by omega))
    · refine mm_aload d_M_layLog_32 rfl ?_
      refine mm_getP d_M_layLog_33 rfl (sk_o_71 hM) (sk_p_71_42 hM) ?_
      refine mm_aload d_M_layLog_36 rfl ?_
      refine mm_getIN d_M_layLog_37 rfl (sk_o_71 hM) hF1 ?_
      refine mm_iload d_M_layLog_40 rfl ?_
      have hlt := fitL_lt hs c_29
      refine mm_iastX d_M_layLog_41 (sk_a_88 hM) (by omega) (by decide) ?_
      refine mm_aload d_M_layLog_42 rfl ?_
      refine mm_dup d_M_layLog_43 rfl ?_
      refine mm_getIN d_M_layLog_44 rfl (sk_o_71 hM) (show mm_I (mm_sI ν 88 (fitL E s).length (nI s)) 71 43 = nI (fitL E s).length by rw [mm_sI_off (by decide)]; exact hF1) ?_
      refine mm_ciN 1 d_M_layLog_47 rfl ?_
      refine mm_iaddN d_M_layLog_48 ?_
      refine mm_putI d_M_layLog_49 rfl (sk_o_71 hM) (Or.inl rfl) ?_
      refine mm_inc2N d_M_layLog_52 ?_
      refine mm_goto d_M_layLog_55 ?_
      first
        | (rw [fitL_0 c_29] at ih; exact ih ν ⟨hf, hL, hF1, hF2⟩)
        | (rw [fitL_1 c_29] at ih
           refine ih _ ⟨(hf.sI rfl).sI rfl, (hL.s88).s71 (by decide), ?_, fun j hj => ?_⟩
           · rw [mm_I_sI, if_pos ⟨rfl, rfl⟩, List.length_append]; rfl
           · rw [mm_sI_off (by decide), mm_I_sI]
             rw [List.length_append] at hj
             simp at hj
             by_cases e : j = (fitL E s).length
             · rw [if_pos ⟨rfl, e⟩, e, getD_last]
             · rw [if_neg (fun z => e z.2), getD_app (by omega)]; exact hF2 j (by omega))
theorem sp_M_manyHave {X : mm_X} {μ : mm_M} {q : Int32 → mm_M → Prop} {w : Nat} {E : mm_E} (hM : SK μ) (hF : FL μ (fitL E 256)) (hw : w < 8) (h : q (nI (hmK E (2 ^ w) 256)) μ) : mm_Ci X 1 0 0 k_M_manyHave [.ref 71, .int (nI w)] μ q := by
  show mm_T X 1 0 0 k_M_manyHave 0 [some (.ref 71), some (.int (nI w)), none, none] [] μ _
  have hle := fitL_le (E := E) (k := 256) (Nat.le_refl _)
  rw [← mhK_hm E hw 256 (Nat.le_refl _)] at h
  have hlt := fitL_lt256 (E := E) (k := 256) (Nat.le_refl _)
  generalize fitL E 256 = F at *
  refine mm_ciN 0 d_M_manyHave_0 rfl ?_
  refine mm_ist2 d_M_manyHave_1 ?_
  refine mm_ciN 0 d_M_manyHave_2 rfl ?_
  refine mm_ist3 d_M_manyHave_3 ?_
  refine mm_up (P := fun i => mm_T X _ 0 0 k_M_manyHave 4 [some (.ref 71), some (.int (nI w)), some (.int (nI (mhK F w i))), some (.int (nI i))] [] μ _) (F.length) ?_ (fun i hi ih => ?_)
  · refine mm_iload d_M_manyHave_4 rfl ?_
    refine mm_aload d_M_manyHave_5 rfl ?_
    refine mm_getIN d_M_manyHave_6 rfl (sk_o_71 hM) hF.1 ?_
    refine mm_icmp_geN d_M_manyHave_9 (by first | omega | exact ite01_lt | exact bt8_lt31 _ _ | exact godB_lt31 _ _ _ | exact pop_lt31 _ | assumption | exact b31 (hW.gp (by omega)) | exact b31 (hW.ne (by omega)) | exact b31 (hW.op (by omega)) | exact and31 (hW.gp (by omega)) | exact and31 (hW.ne (by omega)) | exact and31 (hW.op (by omega)) | exact and31 (by assumption) | exact and31r (hW.ne (by omega)) | exact and31r (hW.gp (by omega)) | exact and31r (by decide)) (by first | omega | exact ite01_lt | exact bt8_lt31 _ _ | exact godB_lt31 _ _ _ | exact pop_lt31 _ | assumption | exact b31 (hW.gp (by omega)) | exact b31 (hW.ne (by omega)) | exact b31 (hW.op (by omega)) | exact and31 (hW.gp (by omega)) | exact and31 (hW.ne (by omega)) | exact and31 (hW.op (by omega)) | exact and31 (by assumption) | exact and31r (hW.ne (by omega)) | exact and31r (hW.gp (by omega)) | exact and31r (by decide)) (fun c_9 => ?_) (fun c_9 => False.elim (by omega))
    refine mm_iload d_M_manyHave_39 rfl ?_
    exact mm_ri d_M_manyHave_40 h
  · refine mm_iload d_M_manyHave_4 rfl ?_
    refine mm_aload d_M_manyHave_5 rfl ?_
    refine mm_getIN d_M_manyHave_6 rfl (sk_o_71 hM) hF.1 ?_
    have hx := hlt i hi
    refine mm_icmp_geN d_M_manyHave_9 (by first | omega | exact ite01_lt | exact bt8_lt31 _ _ | exact godB_lt31 _ _ _ | exact pop_lt31 _ | assumption | exact b31 (hW.gp (by omega)) | exact b31 (hW.ne (by omega)) | exact b31 (hW.op (by omega)) | exact and31 (hW.gp (by omega)) | exact and31 (hW.ne (by omega)) | exact and31 (hW.op (by omega)) | exact and31 (by assumption) | exact and31r (hW.ne (by omega)) | exact and31r (hW.gp (by omega)) | exact and31r (by decide)) (by first | omega | exact ite01_lt | exact bt8_lt31 _ _ | exact godB_lt31 _ _ _ | exact pop_lt31 _ | assumption | exact b31 (hW.gp (by omega)) | exact b31 (hW.ne (by omega)) | exact b31 (hW.op (by omega)) | exact and31 (hW.gp (by omega)) | exact and31 (hW.ne (by omega)) | exact and31 (hW.op (by omega)) | exact and31 (by assumption) | exact and31r (hW.ne (by omega)) | exact and31r (hW.gp (by omega)) | exact and31r (by decide)) (fun c_9 => False.elim (by omega)) (fun c_9 => ?_)
    refine mm_iload d_M_manyHave_12 rfl ?_
    refine mm_aload d_M_manyHave_13 rfl ?_
    refine mm_getP d_M_manyHave_14 rfl (sk_o_71 hM) (sk_p_71_42 hM) ?_
    refine mm_iload d_M_manyHave_17 rfl ?_
    refine mm_ialdN d_M_manyHave_18 (sk_a_88 hM) (by omega) (by decide) (hF.2 i hi) ?_
    refine mm_iload d_M_manyHave_19 rfl ?_
    refine mm_s2i d_M_manyHave_20 (sp_M_has (by first | omega | assumption | exact hW.gp (by omega) | exact hW.ne (by omega) | exact hW.op (by omega) | exact and_lt256 (hW.gp (by omega)) | exact and_lt256 (hW.ne (by omega)) | exact and_lt256 (hW.op (by omega)) | exact and_lt256 (by assumption)) (by omega) ?_)
    refine mm_if_eqN d_M_manyHave_23 (by first | omega | exact ite01_lt | exact bt8_lt31 _ _ | exact godB_lt31 _ _ _ | exact pop_lt31 _ | assumption | exact b31 (hW.gp (by omega)) | exact b31 (hW.ne (by omega)) | exact b31 (hW.op (by omega)) | exact and31 (hW.gp (by omega)) | exact and31 (hW.ne (by omega)) | exact and31 (hW.op (by omega)) | exact and31 (by assumption) | exact and31r (hW.ne (by omega)) | exact and31r (hW.gp (by omega)) | exact and31r (by decide)) (fun c_23 => ?_) (fun c_23 => ?_)
    · refine mm_ciN 0 d_M_manyHave_30 rfl ?_
      refine mm_iaddN d_M_manyHave_31 ?_
      refine mm_ist2 d_M_manyHave_32 ?_
      refine mm_inc3N d_M_manyHave_33 ?_
      refine mm_goto d_M_manyHave_36 ?_
      first
        | exact ih
        | (have z := ih; simp only [mhK, if_pos c_23] at z; exact z)
        | (have z := ih; simp only [mhK, if_pos c_23, Nat.or_zero, Nat.add_zero] at z; exact z)
        | (have z := ih; simp only [mhK, if_pos c_23, Nat.mul_one] at z; exact z)
        | (have z := ih; simp only [mhK, if_neg c_23] at z; exact z)
        | (have z := ih; simp only [mhK, if_neg c_23, Nat.or_zero, Nat.add_zero] at z; exact z)
        | (have z := ih; simp only [mhK, if_neg c_23, Nat.mul_one] at z; exact z)
        | (have z := ih; simp only [mhK, if_neg (Nat.not_lt.mpr c_23)] at z; exact z)
        | (have z := ih; simp only [mhK, if_neg (Nat.not_lt.mpr c_23), Nat.or_zero, Nat.add_zero] at z; exact z)
        | (have z := ih; simp only [mhK, if_neg (Nat.not_lt.mpr c_23), Nat.mul_one] at z; exact z)
        | (have z := ih; simp only [mhK, if_neg (Nat.not_le.mpr c_23)] at z; exact z)
        | (have z := ih; simp only [mhK, if_neg (Nat.not_le.mpr c_23), Nat.or_zero, Nat.add_zero] at z; exact z)
        | (have z := ih; simp only [mhK, if_neg (Nat.not_le.mpr c_23), Nat.mul_one] at z; exact z)
    · refine mm_ciN 1 d_M_manyHave_26 rfl ?_
      refine mm_goto d_M_manyHave_27 ?_
      refine mm_iaddN d_M_manyHave_31 ?_
      refine mm_ist2 d_M_manyHave_32 ?_
      refine mm_inc3N d_M_manyHave_33 ?_
      refine mm_goto d_M_manyHave_36 ?_
      first
        | exact ih
        | (have z := ih; simp only [mhK, if_pos c_23] at z; exact z)
        | (have z := ih; simp only [mhK, if_pos c_23, Nat.or_zero, Nat.add_zero] at z; exact z)
        | (have z := ih; simp only [mhK, if_pos c_23, Nat.mul_one] at z; exact z)
        | (have z := ih; simp only [mhK, if_neg c_23] at z; exact z)
        | (have z := ih; simp only [mhK, if_neg c_23, Nat.or_zero, Nat.add_zero] at z; exact z)
        | (have z := ih; simp only [mhK, if_neg c_23, Nat.mul_one] at z; exact z)
        | (have z := ih; simp only [mhK, if_neg (Nat.not_lt.mpr c_23)] at z; exact z)
        | (have z := ih; simp only [mhK, if_neg (Nat.not_lt.mpr c_23), Nat.or_zero, Nat.add_zero] at z; exact z)
        | (have z := ih; simp only [mhK, if_neg (Nat.not_lt.mpr c_23), Nat.mul_one] at z; exact z)
        | (have z := ih; simp only [mhK, if_neg (Nat.not_le.mpr c_23)] at z; exact z)
        | (have z := ih; simp only [mhK, if_neg (Nat.not_le.mpr c_23), Nat.or_zero, Nat.add_zero] at z; exact z)
        | (have z := ih; simp only [mhK, if_neg (Nat.not_le.mpr c_23), Nat.mul_one] at z; exact z)
theorem pair_share {X : mm_X} {k : Nat} {μ : mm_M} (hJ : JJ k μ) (y1 y2 y3 : Int32) : PairJ X (JJ (k + 1)) k_G_share k_M_share [.int y1, .int y2, .int y3] μ := by
  obtain ⟨c, h02, h0, m0, hv⟩ := hJ.log y1
  have hM := hJ.1
  have hw := hJ.2.2.2.up
  rcases hv with hx | ⟨i, E, hi, rfl, hWE, hLD, hLM⟩
  · exact pairQj (-1) hJ (d := 2) (d' := 4) (by decide) (by decide) (n_G_share hM h0 h02 hx ⟨rfl, Fr.rf, hw⟩) (fun μ1 hf => n_M_share (hf.2.2.2 hM) (by rw [(hf.2.2.1 76 rfl).1]; exact m0) h02 hx (fun μ' hk => ⟨rfl, hk.fr (hf.2.2.2 hM)⟩))
  have h0256 := hmK_0 E 256
  have hle := fitL_le (E := E) (k := 256) (Nat.le_refl _)
  rcases atF_or (c := 8) (by decide) y2 with hz | ⟨w, hw8, rfl⟩
  · have hz7 : inG y2 (nI 0) (nI 7) = 0 := sp_M_in_m1 (c := 8) (by decide) hz
    refine pairQj (-1) hJ (d := 12) (d' := 12) (by decide) (by decide) ?_ (fun μ1 hf => ?_)
    · show mm_T X 12 0 0 k_G_share 0 [some (.ref 0), some (.int (nI i)), some (.int y2), some (.int y3), none, none] [] μ _
      refine mm_aload d_G_share_0 rfl ?_
      refine mm_getP d_G_share_1 rfl (sk_o_0 hM) (sk_p_0_0 hM) ?_
      refine mm_iload d_G_share_4 rfl ?_
      refine mm_v1r d_G_share_5 (sk_o_1 hM) (sp_To_logAtI hM h0 h02 hi ?_)
      refine mm_ast4 d_G_share_8 ?_
      refine mm_aload d_G_share_10 rfl ?_
      refine mm_ifnull d_G_share_12 ?_
      refine mm_iload d_G_share_15 rfl ?_
      refine mm_s1i d_G_share_16 (sp_G_isWeatherB hz ?_)
      refine mm_if_neN d_G_share_19 (by first | omega | exact ite01_lt | exact bt8_lt31 _ _ | exact godB_lt31 _ _ _ | exact pop_lt31 _ | assumption | exact b31 (hW.gp (by omega)) | exact b31 (hW.ne (by omega)) | exact b31 (hW.op (by omega)) | exact and31 (hW.gp (by omega)) | exact and31 (hW.ne (by omega)) | exact and31 (hW.op (by omega)) | exact and31 (by assumption) | exact and31r (hW.ne (by omega)) | exact and31r (hW.gp (by omega)) | exact and31r (by decide)) (fun c_19 => False.elim (by omega)) (fun c_19 => ?_)
      refine mm_lci d_G_share_22 ?_
      exact mm_rj d_G_share_25 ⟨rfl, Fr.rf, hw⟩
    · show mm_T X 12 0 0 k_M_share 0 [some (.ref 71), some (.int (nI i)), some (.int y2), some (.int y3)] [] μ1 _
      replace hM := hf.2.2.2 hM
      replace hz := hz7
      refine mm_aload d_M_share_0 rfl ?_
      refine mm_ciN 0 d_M_share_1 rfl ?_
      refine mm_putI d_M_share_2 rfl (sk_o_71 hM) (Or.inl rfl) ?_
      refine mm_iload d_M_share_5 rfl ?_
      refine mm_ciN 0 d_M_share_6 rfl ?_
      refine mm_ciN 7 d_M_share_7 rfl ?_
      refine mm_s3i d_M_share_9 (sp_M_inB hz ?_)
      refine mm_if_eqN d_M_share_12 (by first | omega | exact ite01_lt | exact bt8_lt31 _ _ | exact godB_lt31 _ _ _ | exact pop_lt31 _ | assumption | exact b31 (hW.gp (by omega)) | exact b31 (hW.ne (by omega)) | exact b31 (hW.op (by omega)) | exact and31 (hW.gp (by omega)) | exact and31 (hW.ne (by omega)) | exact and31 (hW.op (by omega)) | exact and31 (by assumption) | exact and31r (hW.ne (by omega)) | exact and31r (hW.gp (by omega)) | exact and31r (by decide)) (fun c_12 => ?_) (fun c_12 => False.elim (by omega))
      refine mm_lci d_M_share_30 ?_
      exact mm_rj d_M_share_33 ⟨rfl, Fr.rf.sI rfl⟩
  · have h2w : 2 ^ w < 256 := Nat.pow_lt_pow_right (by decide) hw8
    have hmw := hmK_le E (2 ^ w) 256
    by_cases hz0 : hmK E 0 256 = 0
    · refine pairQj (-1) hJ (d := 12) (d' := 12) (by decide) (by decide) ?_ (fun μ1 hf => ?_)
      · show mm_T X 12 0 0 k_G_share 0 [some (.ref 0), some (.int (nI i)), some (.int (nI w)), some (.int y3), none, none] [] μ _
        refine mm_aload d_G_share_0 rfl ?_
        refine mm_getP d_G_share_1 rfl (sk_o_0 hM) (sk_p_0_0 hM) ?_
        refine mm_iload d_G_share_4 rfl ?_
        refine mm_v1r d_G_share_5 (sk_o_1 hM) (sp_To_logAtI hM h0 h02 hi ?_)
        refine mm_ast4 d_G_share_8 ?_
        refine mm_aload d_G_share_10 rfl ?_
        refine mm_ifnull d_G_share_12 ?_
        refine mm_iload d_G_share_15 rfl ?_
        refine mm_s1i d_G_share_16 (sp_G_isWeatherT (by omega) ?_)
        refine mm_if_neN d_G_share_19 (by first | omega | exact ite01_lt | exact bt8_lt31 _ _ | exact godB_lt31 _ _ _ | exact pop_lt31 _ | assumption | exact b31 (hW.gp (by omega)) | exact b31 (hW.ne (by omega)) | exact b31 (hW.op (by omega)) | exact and31 (hW.gp (by omega)) | exact and31 (hW.ne (by omega)) | exact and31 (hW.op (by omega)) | exact and31 (by assumption) | exact and31r (hW.ne (by omega)) | exact and31r (hW.gp (by omega)) | exact and31r (by decide)) (fun c_19 => ?_) (fun c_19 => False.elim (by omega))
        refine mm_aload d_G_share_26 rfl ?_
        refine mm_ciN 0 d_G_share_28 rfl ?_
        refine mm_v1i d_G_share_29 hLD.1.1 (sp_Lo_howManyHave hLD hWE (by decide) ?_)
        refine mm_ist5 d_G_share_32 ?_
        refine mm_iload d_G_share_34 rfl ?_
        refine mm_if_neN d_G_share_36 (by first | omega | exact ite01_lt | exact bt8_lt31 _ _ | exact godB_lt31 _ _ _ | exact pop_lt31 _ | assumption | exact b31 (hW.gp (by omega)) | exact b31 (hW.ne (by omega)) | exact b31 (hW.op (by omega)) | exact and31 (hW.gp (by omega)) | exact and31 (hW.ne (by omega)) | exact and31 (hW.op (by omega)) | exact and31 (by assumption) | exact and31r (hW.ne (by omega)) | exact and31r (hW.gp (by omega)) | exact and31r (by decide)) (fun c_36 => False.elim (by omega)) (fun c_36 => ?_)
        refine mm_lci d_G_share_39 ?_
        exact mm_rj d_G_share_42 ⟨rfl, Fr.rf, hw⟩
      · show mm_T X 12 0 0 k_M_share 0 [some (.ref 71), some (.int (nI i)), some (.int (nI w)), some (.int y3)] [] μ1 _
        replace hM := hf.2.2.2 hM
        refine mm_aload d_M_share_0 rfl ?_
        refine mm_ciN 0 d_M_share_1 rfl ?_
        refine mm_putI d_M_share_2 rfl (sk_o_71 hM) (Or.inl rfl) ?_
        refine mm_iload d_M_share_5 rfl ?_
        refine mm_ciN 0 d_M_share_6 rfl ?_
        refine mm_ciN 7 d_M_share_7 rfl ?_
        refine mm_s3i d_M_share_9 (sp_M_inT (by omega) (by omega) (by omega) ?_)
        refine mm_if_eqN d_M_share_12 (by first | omega | exact ite01_lt | exact bt8_lt31 _ _ | exact godB_lt31 _ _ _ | exact pop_lt31 _ | assumption | exact b31 (hW.gp (by omega)) | exact b31 (hW.ne (by omega)) | exact b31 (hW.op (by omega)) | exact and31 (hW.gp (by omega)) | exact and31 (hW.ne (by omega)) | exact and31 (hW.op (by omega)) | exact and31 (by assumption) | exact and31r (hW.ne (by omega)) | exact and31r (hW.gp (by omega)) | exact and31r (by decide)) (fun c_12 => False.elim (by omega)) (fun c_12 => ?_)
        refine mm_aload d_M_share_15 rfl ?_
        refine mm_iload d_M_share_16 rfl ?_
        refine mm_v1i d_M_share_17 (sk_o_71 hM) (sp_M_layLog hM (by rw [mm_sI_off (by decide), (hf.2.2.1 76 rfl).1]; exact m0) h02 hi ((hLM.frC hf rfl).sI) hWE (fun μ2 g1 hM hF => ?_))
        refine mm_if_eqN d_M_share_20 (by first | omega | exact ite01_lt | exact bt8_lt31 _ _ | exact godB_lt31 _ _ _ | exact pop_lt31 _ | assumption | exact b31 (hW.gp (by omega)) | exact b31 (hW.ne (by omega)) | exact b31 (hW.op (by omega)) | exact and31 (hW.gp (by omega)) | exact and31 (hW.ne (by omega)) | exact and31 (hW.op (by omega)) | exact and31 (by assumption) | exact and31r (hW.ne (by omega)) | exact and31r (hW.gp (by omega)) | exact and31r (by decide)) (fun c_20 => False.elim (by omega)) (fun c_20 => ?_)
        refine mm_aload d_M_share_23 rfl ?_
        refine mm_getIN d_M_share_24 rfl (sk_o_71 hM) hF.1 ?_
        refine mm_if_neN d_M_share_27 (by first | omega | exact ite01_lt | exact bt8_lt31 _ _ | exact godB_lt31 _ _ _ | exact pop_lt31 _ | assumption | exact b31 (hW.gp (by omega)) | exact b31 (hW.ne (by omega)) | exact b31 (hW.op (by omega)) | exact and31 (hW.gp (by omega)) | exact and31 (hW.ne (by omega)) | exact and31 (hW.op (by omega)) | exact and31 (by assumption) | exact and31r (hW.ne (by omega)) | exact and31r (hW.gp (by omega)) | exact and31r (by decide)) (fun c_27 => False.elim (by omega)) (fun c_27 => ?_)
        refine mm_lci d_M_share_30 ?_
        exact mm_rj d_M_share_33 ⟨rfl, (Fr.rf.sI rfl).trans g1⟩
    · refine pairQj (lN (ltN y3 (hmK E (2 ^ w) 256) (hmK E 0 256))) hJ (d := 12) (d' := 12) (by decide) (by decide) ?_ (fun μ1 hf => ?_)
      · show mm_T X 12 0 0 k_G_share 0 [some (.ref 0), some (.int (nI i)), some (.int (nI w)), some (.int y3), none, none] [] μ _
        refine mm_aload d_G_share_0 rfl ?_
        refine mm_getP d_G_share_1 rfl (sk_o_0 hM) (sk_p_0_0 hM) ?_
        refine mm_iload d_G_share_4 rfl ?_
        refine mm_v1r d_G_share_5 (sk_o_1 hM) (sp_To_logAtI hM h0 h02 hi ?_)
        refine mm_ast4 d_G_share_8 ?_
        refine mm_aload d_G_share_10 rfl ?_
        refine mm_ifnull d_G_share_12 ?_
        refine mm_iload d_G_share_15 rfl ?_
        refine mm_s1i d_G_share_16 (sp_G_isWeatherT (by omega) ?_)
        refine mm_if_neN d_G_share_19 (by first | omega | exact ite01_lt | exact bt8_lt31 _ _ | exact godB_lt31 _ _ _ | exact pop_lt31 _ | assumption | exact b31 (hW.gp (by omega)) | exact b31 (hW.ne (by omega)) | exact b31 (hW.op (by omega)) | exact and31 (hW.gp (by omega)) | exact and31 (hW.ne (by omega)) | exact and31 (hW.op (by omega)) | exact and31 (by assumption) | exact and31r (hW.ne (by omega)) | exact and31r (hW.gp (by omega)) | exact and31r (by decide)) (fun c_19 => ?_) (fun c_19 => False.elim (by omega))
        refine mm_aload d_G_share_26 rfl ?_
        refine mm_ciN 0 d_G_share_28 rfl ?_
        refine mm_v1i d_G_share_29 hLD.1.1 (sp_Lo_howManyHave hLD hWE (by decide) ?_)
        refine mm_ist5 d_G_share_32 ?_
        refine mm_iload d_G_share_34 rfl ?_
        refine mm_if_neN d_G_share_36 (by first | omega | exact ite01_lt | exact bt8_lt31 _ _ | exact godB_lt31 _ _ _ | exact pop_lt31 _ | assumption | exact b31 (hW.gp (by omega)) | exact b31 (hW.ne (by omega)) | exact b31 (hW.op (by omega)) | exact and31 (hW.gp (by omega)) | exact and31 (hW.ne (by omega)) | exact and31 (hW.op (by omega)) | exact and31 (by assumption) | exact and31r (hW.ne (by omega)) | exact and31r (hW.gp (by omega)) | exact and31r (by decide)) (fun c_36 => ?_) (fun c_36 => False.elim (by omega))
        refine mm_aload d_G_share_43 rfl ?_
        refine mm_ciN 1 d_G_share_45 rfl ?_
        refine mm_iload d_G_share_46 rfl ?_
        refine mm_ishl1N d_G_share_47 (by omega) ?_
        refine mm_v1i d_G_share_48 hLD.1.1 (sp_Lo_howManyHave hLD hWE h2w ?_)
        refine mm_i2lN d_G_share_51 (by first | omega | exact ite01_lt | exact bt8_lt31 _ _ | exact godB_lt31 _ _ _ | exact pop_lt31 _ | assumption | exact b31 (hW.gp (by omega)) | exact b31 (hW.ne (by omega)) | exact b31 (hW.op (by omega)) | exact and31 (hW.gp (by omega)) | exact and31 (hW.ne (by omega)) | exact and31 (hW.op (by omega)) | exact and31 (by assumption) | exact and31r (hW.ne (by omega)) | exact and31r (hW.gp (by omega)) | exact and31r (by decide)) ?_
        refine mm_iload d_G_share_52 rfl ?_
        refine mm_i2lN d_G_share_54 (by first | omega | exact ite01_lt | exact bt8_lt31 _ _ | exact godB_lt31 _ _ _ | exact pop_lt31 _ | assumption | exact b31 (hW.gp (by omega)) | exact b31 (hW.ne (by omega)) | exact b31 (hW.op (by omega)) | exact and31 (hW.gp (by omega)) | exact and31 (hW.ne (by omega)) | exact and31 (hW.op (by omega)) | exact and31 (by assumption) | exact and31r (hW.ne (by omega)) | exact and31r (hW.gp (by omega)) | exact and31r (by decide)) ?_
        refine mm_iload d_G_share_55 rfl ?_
        refine mm_s3j d_G_share_56 (sp_G_leastTerms (by omega) (by omega) (by omega) ?_)
        exact mm_rj d_G_share_59 ⟨rfl, Fr.rf, hw⟩
      · rw [h0256]
        show mm_T X 12 0 0 k_M_share 0 [some (.ref 71), some (.int (nI i)), some (.int (nI w)), some (.int y3)] [] μ1 _
        replace hM := hf.2.2.2 hM
        refine mm_aload d_M_share_0 rfl ?_
        refine mm_ciN 0 d_M_share_1 rfl ?_
        refine mm_putI d_M_share_2 rfl (sk_o_71 hM) (Or.inl rfl) ?_
        refine mm_iload d_M_share_5 rfl ?_
        refine mm_ciN 0 d_M_share_6 rfl ?_
        refine mm_ciN 7 d_M_share_7 rfl ?_
        refine mm_s3i d_M_share_9 (sp_M_inT (by omega) (by omega) (by omega) ?_)
        refine mm_if_eqN d_M_share_12 (by first | omega | exact ite01_lt | exact bt8_lt31 _ _ | exact godB_lt31 _ _ _ | exact pop_lt31 _ | assumption | exact b31 (hW.gp (by omega)) | exact b31 (hW.ne (by omega)) | exact b31 (hW.op (by omega)) | exact and31 (hW.gp (by omega)) | exact and31 (hW.ne (by omega)) | exact and31 (hW.op (by omega)) | exact and31 (by assumption) | exact and31r (hW.ne (by omega)) | exact and31r (hW.gp (by omega)) | exact and31r (by decide)) (fun c_12 => False.elim (by omega)) (fun c_12 => ?_)
        refine mm_aload d_M_share_15 rfl ?_
        refine mm_iload d_M_share_16 rfl ?_
        refine mm_v1i d_M_share_17 (sk_o_71 hM) (sp_M_layLog hM (by rw [mm_sI_off (by decide), (hf.2.2.1 76 rfl).1]; exact m0) h02 hi ((hLM.frC hf rfl).sI) hWE (fun μ2 g1 hM hF => ?_))
        refine mm_if_eqN d_M_share_20 (by first | omega | exact ite01_lt | exact bt8_lt31 _ _ | exact godB_lt31 _ _ _ | exact pop_lt31 _ | assumption | exact b31 (hW.gp (by omega)) | exact b31 (hW.ne (by omega)) | exact b31 (hW.op (by omega)) | exact and31 (hW.gp (by omega)) | exact and31 (hW.ne (by omega)) | exact and31 (hW.op (by omega)) | exact and31 (by assumption) | exact and31r (hW.ne (by omega)) | exact and31r (hW.gp (by omega)) | exact and31r (by decide)) (fun c_20 => False.elim (by omega)) (fun c_20 => ?_)
        refine mm_aload d_M_share_23 rfl ?_
        refine mm_getIN d_M_share_24 rfl (sk_o_71 hM) hF.1 ?_
        refine mm_if_neN d_M_share_27 (by first | omega | exact ite01_lt | exact bt8_lt31 _ _ | exact godB_lt31 _ _ _ | exact pop_lt31 _ | assumption | exact b31 (hW.gp (by omega)) | exact b31 (hW.ne (by omega)) | exact b31 (hW.op (by omega)) | exact and31 (hW.gp (by omega)) | exact and31 (hW.ne (by omega)) | exact and31 (hW.op (by omega)) | exact and31 (by assumption) | exact and31r (hW.ne (by omega)) | exact and31r (hW.gp (by omega)) | exact and31r (by decide)) (fun c_27 => ?_) (fun c_27 => False.elim (by omega))
        refine mm_aload d_M_share_34 rfl ?_
        refine mm_iload d_M_share_35 rfl ?_
        refine mm_v1i d_M_share_36 (sk_o_71 hM) (sp_M_manyHave hM hF hw8 ?_)
        refine mm_i2lN d_M_share_39 (by first | omega | exact ite01_lt | exact bt8_lt31 _ _ | exact godB_lt31 _ _ _ | exact pop_lt31 _ | assumption | exact b31 (hW.gp (by omega)) | exact b31 (hW.ne (by omega)) | exact b31 (hW.op (by omega)) | exact and31 (hW.gp (by omega)) | exact and31 (hW.ne (by omega)) | exact and31 (hW.op (by omega)) | exact and31 (by assumption) | exact and31r (hW.ne (by omega)) | exact and31r (hW.gp (by omega)) | exact and31r (by decide)) ?_
        refine mm_aload d_M_share_40 rfl ?_
        refine mm_getIN d_M_share_41 rfl (sk_o_71 hM) hF.1 ?_
        refine mm_i2lN d_M_share_44 (by first | omega | exact ite01_lt | exact bt8_lt31 _ _ | exact godB_lt31 _ _ _ | exact pop_lt31 _ | assumption | exact b31 (hW.gp (by omega)) | exact b31 (hW.ne (by omega)) | exact b31 (hW.op (by omega)) | exact and31 (hW.gp (by omega)) | exact and31 (hW.ne (by omega)) | exact and31 (hW.op (by omega)) | exact and31 (by assumption) | exact and31r (hW.ne (by omega)) | exact and31r (hW.gp (by omega)) | exact and31r (by decide)) ?_
        refine mm_iload d_M_share_45 rfl ?_
        refine mm_s3j d_M_share_46 (sp_M_part (by omega) (by omega) (by omega) ?_)
        exact mm_rj d_M_share_49 ⟨rfl, (Fr.rf.sI rfl).trans g1⟩
