/-! after: what the class counts as it goes, against what the model sees behind each deed -/
def FC (σ : mm_S) (c0 w0 : Nat) : Prop := (∀ c, c < c0 → sC σ c = 0) ∧ w0 < 8 ∧ bt8 (sC σ c0) w0 ≠ 0 ∧ ∀ w, w < w0 → bt8 (sC σ c0) w = 0
def Qt (σ : mm_S) (ξ : mm_Xi) : Prop := xO ξ = none ∧ xW ξ = none ∧ sB σ = 0 ∧ ∀ c, c < 6 → sC σ c = 0
theorem day_inv {D : mm_D} {σ : mm_S} {ξ : mm_Xi} {k : Nat} (hx : Qt σ ξ) (hn : dn D ≤ 6) : ∀ i, i ≤ 8 * dn D → Qt (dyK D σ i) (dyX D σ ξ k i) ∨ (xO (dyX D σ ξ k i) = some k ∧ 0 < sB (dyK D σ i) ∧ ∃ c0 w0, 8 * c0 + w0 < i ∧ xW (dyX D σ ξ k i) = some (10 * c0 + w0) ∧ FC (dyK D σ i) c0 w0)
  | 0, _ => Or.inl hx
  | i + 1, hi => by
    have ih := day_inv (k := k) hx hn i (by omega)
    obtain ⟨c, w, hw, rfl⟩ : ∃ c w, w < 8 ∧ i = 8 * c + w := ⟨i / 8, i % 8, by omega, by omega⟩
    by_cases h1 : bt8 (dgp D c) w ≠ 0 ∧ bt8 (sC (dyK D σ (8 * c + w)) c) w = 0
    · by_cases h2 : dpa D w < sL (dyK D σ (8 * c + w)) (8 * c + w) + 1
      · have z := dy_1 (ξ := ξ) (k := k) hw h1 h2
        rw [z.1, z.2]
        rcases ih with ⟨a1, a2, a3, a4⟩ | ⟨b1, b2, c0, w0, b3, b4, b5, b6, b7, b8⟩
        · refine Or.inr ⟨?_, Nat.succ_pos _, c, w, by omega, ?_, ?_⟩
          · unfold xiO; rw [a1]; rfl
          · unfold xiO; rw [a1]; rfl
          · have hc6 : c < 6 := by omega
            refine ⟨fun c' hc' => ?_, hw, ?_, fun w' hw' => ?_⟩
            · show upN _ c _ c' = 0
              unfold upN
              rw [if_neg (by omega)]
              exact a4 c' (by omega)
            · show bt8 (upN _ c _ c) w ≠ 0
              unfold upN
              rw [if_pos rfl, Ne, bt8_or2]
              exact fun e => e.2 rfl
            · show bt8 (upN _ c _ c) w' = 0
              unfold upN
              rw [if_pos rfl, bt8_or2, a4 c hc6]
              exact ⟨by simp [bt8], by omega⟩
        · refine Or.inr ⟨?_, Nat.succ_pos _, c0, w0, by omega, ?_, ?_⟩
          · unfold xiO; rw [b1]; exact b1
          · unfold xiO; rw [b1]; exact b4
          · have hne : c0 ≤ c := by omega
            refine ⟨fun c' hc' => ?_, b6, ?_, fun w' hw' => ?_⟩
            · show upN _ c _ c' = 0
              unfold upN
              rw [if_neg (by omega)]
              exact b5 c' hc'
            · show bt8 (upN _ c _ c0) w0 ≠ 0
              unfold upN
              by_cases e : c0 = c
              · subst e
                rw [if_pos rfl, Ne, bt8_or2]
                exact fun z => b7 z.1
              · rw [if_neg e]; exact b7
            · show bt8 (upN _ c _ c0) w' = 0
              unfold upN
              by_cases e : c0 = c
              · subst e
                rw [if_pos rfl, bt8_or2]
                exact ⟨b8 w' hw', by omega⟩
              · rw [if_neg e]; exact b8 w' hw'
      · have z := dy_0 (ξ := ξ) (k := k) hw h1 h2
        rw [z.1, z.2]
        rcases ih with a | ⟨b1, b2, c0, w0, b3, b4, b5⟩
        · exact Or.inl a
        · exact Or.inr ⟨b1, b2, c0, w0, by omega, b4, b5⟩
    · have z := dy_f (ξ := ξ) (k := k) hw h1
      rw [z.1, z.2]
      rcases ih with a | ⟨b1, b2, c0, w0, b3, b4, b5⟩
      · exact Or.inl a
      · exact Or.inr ⟨b1, b2, c0, w0, by omega, b4, b5⟩
theorem dyX_some {D : mm_D} {σ : mm_S} {ξ : mm_Xi} {k e : Nat} (h : xO ξ = some e) : ∀ i, dyX D σ ξ k i = ξ
  | 0 => rfl
  | i + 1 => by
    unfold dyX
    rw [dyX_some h i]
    split
    · unfold xiO; rw [h]
    · rfl
theorem dyK_B {D : mm_D} {σ : mm_S} : ∀ i, sB σ ≤ sB (dyK D σ i) ∧ sB (dyK D σ i) ≤ sB σ + i ∧ sK (dyK D σ i) = sK σ
  | 0 => ⟨Nat.le_refl _, Nat.le_refl _, rfl⟩
  | i + 1 => by
    have ih := dyK_B (D := D) (σ := σ) i
    show sB σ ≤ sB (dyS D _ i) ∧ sB (dyS D _ i) ≤ _ ∧ sK (dyS D _ i) = _
    unfold dyS
    split
    · split
      · exact ⟨by show sB σ ≤ sB (dyK D σ i) + 1; omega, by show sB (dyK D σ i) + 1 ≤ _; omega, ih.2.2⟩
      · exact ⟨ih.1, by show sB (dyK D σ i) ≤ _; omega, ih.2.2⟩
    · exact ⟨ih.1, by omega, ih.2.2⟩
theorem xT_xiO {ξ : mm_Xi} {k c w : Nat} : xT (xiO ξ k c w) = xT ξ := by
  unfold xiO
  cases xO ξ <;> rfl
theorem xT_dyX {D : mm_D} {σ : mm_S} {ξ : mm_Xi} {k : Nat} : ∀ i, xT (dyX D σ ξ k i) = xT ξ
  | 0 => rfl
  | i + 1 => by
    unfold dyX
    split
    · rw [xT_xiO]; exact xT_dyX i
    · exact xT_dyX i
theorem xT_dlX {D : mm_D} {σ : mm_S} {ξ : mm_Xi} {kd k : Nat} : xT (dlX D σ ξ kd k) = xT ξ + (if kd = 1 then 1 else 0) := by
  unfold dlX
  split
  · rfl
  · split
    · exact xT_dyX _
    · rfl
theorem dl_bd {D : mm_D} (hW : WfD D) {σ σ' : mm_S} {kd x y : Nat} {U V : Int32} (hO : OkD kd U V x y) (h : dl D σ kd x y = some σ') : sB σ' ≤ sB σ + 48 ∧ ∀ c, sK σ' c ≤ sK σ c + 1 := by
  have hn6 := hW.1
  unfold dl at h
  rcases hO with ⟨hkd, -, -, hx, hy⟩ | ⟨rfl, -, hx⟩ | ⟨rfl, -, hx⟩ | rfl
  · have h2 : kd = 0 ∨ kd = 1 := by omega
    rcases h2 with rfl | rfl
    · rw [if_pos rfl] at h
      split at h
      · cases h
        refine ⟨Nat.le_add_right _ _, fun c => ?_⟩
        show upN _ _ _ c ≤ _
        unfold upN
        split
        · rename_i e; rw [e]; exact Nat.le_refl _
        · omega
      · cases h
    · rw [if_neg (by decide), if_pos rfl] at h
      split at h
      · cases h; exact ⟨Nat.le_add_right _ _, fun c => Nat.le_add_right _ _⟩
      · cases h
  · cases h; exact ⟨Nat.le_add_right _ _, fun c => Nat.le_add_right _ _⟩
  · rw [if_neg (by decide), if_neg (by decide), if_neg (by decide), if_pos rfl] at h
    split at h
    · cases h; exact ⟨Nat.le_add_right _ _, fun c => Nat.le_add_right _ _⟩
    · cases h
  · cases h
    have := dyK_B (D := D) (σ := σ) (8 * dn D)
    exact ⟨by show sB (dyK D σ (8 * dn D)) ≤ _; omega, fun c => by show sK (dyK D σ (8 * dn D)) c ≤ _; rw [this.2.2]; omega⟩
theorem rn_bd {D : mm_D} (hW : WfD D) {Y : mm_Y} (hY : WfYY Y) : ∀ {k σ}, k ≤ Y.1 → rn D Y k = some σ → sB σ ≤ 48 * k ∧ ∀ c, sK σ c ≤ k
  | 0, σ, _, h => by cases h; exact ⟨Nat.le_refl _, fun c => Nat.le_refl _⟩
  | k + 1, σ, hk, h => by
    cases e : rn D Y k with
    | none => rw [show rn D Y (k + 1) = none by show (match rn D Y k with | none => none | some σ => dl D σ (yk Y k) (yx Y k) (yy Y k)) = _; rw [e]] at h; cases h
    | some τ =>
      rw [rn_s e] at h
      have h1 := dl_bd hW (WfY_ok (hY.2 k (by omega))).2.2 h
      have h2 := rn_bd hW hY (by omega) e
      exact ⟨by omega, fun c => by have := h1.2 c; have := h2.2 c; omega⟩
theorem stepA {D : mm_D} (hW : WfD D) {σ σ' : mm_S} {ξ : mm_Xi} {k kd x y : Nat} {U V : Int32} (hO : OkD kd U V x y) (hq : Qt σ ξ) (h : dl D σ kd x y = some σ') : Qt σ' (dlX D σ ξ kd k) ∨ (xO (dlX D σ ξ kd k) = some k ∧ 0 < sB σ' ∧ ∃ c0 w0, c0 < dn D ∧ xW (dlX D σ ξ kd k) = some (10 * c0 + w0) ∧ FC σ' c0 w0) := by
  have hn6 := hW.1
  unfold dl at h
  rcases hO with ⟨hkd, -, -, hx, hy⟩ | ⟨rfl, -, hx⟩ | ⟨rfl, -, hx⟩ | rfl
  · have h2 : kd = 0 ∨ kd = 1 := by omega
    rcases h2 with rfl | rfl
    · rw [if_pos rfl] at h
      split at h
      · cases h; exact Or.inl hq
      · cases h
    · rw [if_neg (by decide), if_pos rfl] at h
      split at h
      · cases h
        refine Or.inl ⟨hq.1, hq.2.1, hq.2.2.1, fun c hc => ?_⟩
        show upN _ _ _ c = 0
        unfold upN
        split
        · rw [hq.2.2.2 x hx, Nat.zero_and]
        · exact hq.2.2.2 c hc
      · cases h
  · cases h; exact Or.inl hq
  · rw [if_neg (by decide), if_neg (by decide), if_neg (by decide), if_pos rfl] at h
    split at h
    · cases h; exact Or.inl hq
    · cases h
  · cases h
    rcases day_inv (k := k) hq hn6 (8 * dn D) (Nat.le_refl _) with a | ⟨b1, b2, c0, w0, b3, b4, b5⟩
    · exact Or.inl a
    · exact Or.inr ⟨b1, b2, c0, w0, by omega, b4, b5⟩
theorem stepB {D : mm_D} {σ σ' : mm_S} {ξ : mm_Xi} {k kd x y e : Nat} {U V : Int32} (hO : OkD kd U V x y) (hq : xO ξ = some e) (hb : 0 < sB σ) (h : dl D σ kd x y = some σ') : xO (dlX D σ ξ kd k) = xO ξ ∧ xW (dlX D σ ξ kd k) = xW ξ ∧ 0 < sB σ' := by
  unfold dl at h
  rcases hO with ⟨hkd, -, -, hx, hy⟩ | ⟨rfl, -, hx⟩ | ⟨rfl, -, hx⟩ | rfl
  · have h2 : kd = 0 ∨ kd = 1 := by omega
    rcases h2 with rfl | rfl
    · rw [if_pos rfl] at h
      split at h
      · cases h; exact ⟨rfl, rfl, hb⟩
      · cases h
    · rw [if_neg (by decide), if_pos rfl] at h
      split at h
      · cases h; exact ⟨rfl, rfl, hb⟩
      · cases h
  · cases h; exact ⟨rfl, rfl, hb⟩
  · rw [if_neg (by decide), if_neg (by decide), if_neg (by decide), if_pos rfl] at h
    split at h
    · cases h; exact ⟨rfl, rfl, hb⟩
    · cases h
  · cases h
    have z : dlX D σ ξ 4 k = ξ := dyX_some hq _
    have := dyK_B (D := D) (σ := σ) (8 * dn D)
    exact ⟨by rw [z], by rw [z], by show 0 < sB (dyK D σ (8 * dn D)); omega⟩
theorem popK_0 {s : Nat} : ∀ {w}, (∀ x, x < w → bt8 s x = 0) → popK s w = 0
  | 0, _ => rfl
  | w + 1, h => by
    unfold popK
    rw [popK_0 (fun x hx => h x (by omega)), h w (by omega)]
theorem sp_M_fc0 {X : mm_X} {μ : mm_M} {q : Int32 → mm_M → Prop} {k : Nat} {D : mm_D} {σ : mm_S} (hS : MoS μ k D σ) (hz : ∀ c, c < 6 → sC σ c = 0) (h : q (-1) μ) : mm_Ci X 2 0 0 k_M_firstCross [.ref 71] μ q := by
  show mm_T X 2 0 0 k_M_firstCross 0 [some (.ref 71), none] [] μ _
  obtain ⟨hH, hF⟩ := hS
  have hM := hH.1
  have hn6 := hH.wf.1
  refine mm_ciN 0 d_M_firstCross_0 rfl ?_
  refine mm_ist1 d_M_firstCross_1 ?_
  refine mm_up (P := fun i => mm_T X _ 0 0 k_M_firstCross 2 [some (.ref 71), some (.int (nI i))] [] μ _) (dn D) ?_ (fun i hi ih => ?_)
  · refine mm_iload d_M_firstCross_2 rfl ?_
    refine mm_aload d_M_firstCross_3 rfl ?_
    refine mm_getIN d_M_firstCross_4 rfl (sk_o_71 hM) hH.n ?_
    refine mm_icmp_geN d_M_firstCross_7 (by first | omega | exact ite01_lt | exact bt8_lt31 _ _ | exact godB_lt31 _ _ _ | exact pop_lt31 _ | assumption | exact b31 (hW.gp (by omega)) | exact b31 (hW.ne (by omega)) | exact b31 (hW.op (by omega)) | exact and31 (hW.gp (by omega)) | exact and31 (hW.ne (by omega)) | exact and31 (hW.op (by omega)) | exact and31 (by assumption) | exact and31r (hW.ne (by omega)) | exact and31r (hW.gp (by omega)) | exact and31r (by decide)) (by first | omega | exact ite01_lt | exact bt8_lt31 _ _ | exact godB_lt31 _ _ _ | exact pop_lt31 _ | assumption | exact b31 (hW.gp (by omega)) | exact b31 (hW.ne (by omega)) | exact b31 (hW.op (by omega)) | exact and31 (hW.gp (by omega)) | exact and31 (hW.ne (by omega)) | exact and31 (hW.op (by omega)) | exact and31 (by assumption) | exact and31r (hW.ne (by omega)) | exact and31r (hW.gp (by omega)) | exact and31r (by decide)) (fun c_7 => ?_) (fun c_7 => False.elim (by omega))
    refine mm_ci d_M_firstCross_42 ?_
    exact mm_ri d_M_firstCross_43 h
  · refine mm_iload d_M_firstCross_2 rfl ?_
    refine mm_aload d_M_firstCross_3 rfl ?_
    refine mm_getIN d_M_firstCross_4 rfl (sk_o_71 hM) hH.n ?_
    refine mm_icmp_geN d_M_firstCross_7 (by first | omega | exact ite01_lt | exact bt8_lt31 _ _ | exact godB_lt31 _ _ _ | exact pop_lt31 _ | assumption | exact b31 (hW.gp (by omega)) | exact b31 (hW.ne (by omega)) | exact b31 (hW.op (by omega)) | exact and31 (hW.gp (by omega)) | exact and31 (hW.ne (by omega)) | exact and31 (hW.op (by omega)) | exact and31 (by assumption) | exact and31r (hW.ne (by omega)) | exact and31r (hW.gp (by omega)) | exact and31r (by decide)) (by first | omega | exact ite01_lt | exact bt8_lt31 _ _ | exact godB_lt31 _ _ _ | exact pop_lt31 _ | assumption | exact b31 (hW.gp (by omega)) | exact b31 (hW.ne (by omega)) | exact b31 (hW.op (by omega)) | exact and31 (hW.gp (by omega)) | exact and31 (hW.ne (by omega)) | exact and31 (hW.op (by omega)) | exact and31 (by assumption) | exact and31r (hW.ne (by omega)) | exact and31r (hW.gp (by omega)) | exact and31r (by decide)) (fun c_7 => False.elim (by omega)) (fun c_7 => ?_)
    refine mm_aload d_M_firstCross_10 rfl ?_
    refine mm_getP d_M_firstCross_11 rfl (sk_o_71 hM) (sk_p_71_30 hM) ?_
    refine mm_iload d_M_firstCross_14 rfl ?_
    refine mm_ialdN d_M_firstCross_15 (sk_a_82 hM) (by omega) (by decide) ((hF.C (j := i) (by omega)).trans (by rw [hz i (by omega)])) ?_
    refine mm_if_eqN d_M_firstCross_16 (by first | omega | exact ite01_lt | exact bt8_lt31 _ _ | exact godB_lt31 _ _ _ | exact pop_lt31 _ | assumption | exact b31 (hW.gp (by omega)) | exact b31 (hW.ne (by omega)) | exact b31 (hW.op (by omega)) | exact and31 (hW.gp (by omega)) | exact and31 (hW.ne (by omega)) | exact and31 (hW.op (by omega)) | exact and31 (by assumption) | exact and31r (hW.ne (by omega)) | exact and31r (hW.gp (by omega)) | exact and31r (by decide)) (fun c_16 => ?_) (fun c_16 => False.elim (by omega))
    refine mm_inc1N d_M_firstCross_36 ?_
    refine mm_goto d_M_firstCross_39 ?_
    exact ih
theorem sp_M_fc1 {X : mm_X} {μ : mm_M} {q : Int32 → mm_M → Prop} {k c0 w0 : Nat} {D : mm_D} {σ : mm_S} (hS : MoS μ k D σ) (hT : WfS σ) (hc : c0 < dn D) (hz : FC σ c0 w0) (h : q (nI (10 * c0 + w0)) μ) : mm_Ci X 2 0 0 k_M_firstCross [.ref 71] μ q := by
  show mm_T X 2 0 0 k_M_firstCross 0 [some (.ref 71), none] [] μ _
  obtain ⟨hH, hF⟩ := hS
  have hM := hH.1
  have hn6 := hH.wf.1
  obtain ⟨hz1, hz2, hz3, hz4⟩ := hz
  have hs8 := hT.2.2.2.1 c0 (by omega)
  have hne : sC σ c0 ≠ 0 := fun e => hz3 (by rw [e]; simp [bt8])
  have hb1 : bt8 (sC σ c0) w0 = 1 := (bt8_01 _ _).resolve_left hz3
  refine mm_ciN 0 d_M_firstCross_0 rfl ?_
  refine mm_ist1 d_M_firstCross_1 ?_
  refine mm_up (P := fun c => mm_T X _ 0 0 k_M_firstCross 2 [some (.ref 71), some (.int (nI c))] [] μ _) c0 ?_ (fun c hcc ih => ?_)
  · refine mm_iload d_M_firstCross_2 rfl ?_
    refine mm_aload d_M_firstCross_3 rfl ?_
    refine mm_getIN d_M_firstCross_4 rfl (sk_o_71 hM) hH.n ?_
    refine mm_icmp_geN d_M_firstCross_7 (by first | omega | exact ite01_lt | exact bt8_lt31 _ _ | exact godB_lt31 _ _ _ | exact pop_lt31 _ | assumption | exact b31 (hW.gp (by omega)) | exact b31 (hW.ne (by omega)) | exact b31 (hW.op (by omega)) | exact and31 (hW.gp (by omega)) | exact and31 (hW.ne (by omega)) | exact and31 (hW.op (by omega)) | exact and31 (by assumption) | exact and31r (hW.ne (by omega)) | exact and31r (hW.gp (by omega)) | exact and31r (by decide)) (by first | omega | exact ite01_lt | exact bt8_lt31 _ _ | exact godB_lt31 _ _ _ | exact pop_lt31 _ | assumption | exact b31 (hW.gp (by omega)) | exact b31 (hW.ne (by omega)) | exact b31 (hW.op (by omega)) | exact and31 (hW.gp (by omega)) | exact and31 (hW.ne (by omega)) | exact and31 (hW.op (by omega)) | exact and31 (by assumption) | exact and31r (hW.ne (by omega)) | exact and31r (hW.gp (by omega)) | exact and31r (by decide)) (fun c_7 => False.elim (by omega)) (fun c_7 => ?_)
    refine mm_aload d_M_firstCross_10 rfl ?_
    refine mm_getP d_M_firstCross_11 rfl (sk_o_71 hM) (sk_p_71_30 hM) ?_
    refine mm_iload d_M_firstCross_14 rfl ?_
    refine mm_ialdN d_M_firstCross_15 (sk_a_82 hM) (by omega) (by decide) (hF.C (by omega)) ?_
    refine mm_if_eqN d_M_firstCross_16 (by first | omega | exact ite01_lt | exact bt8_lt31 _ _ | exact godB_lt31 _ _ _ | exact pop_lt31 _ | assumption | exact b31 (hW.gp (by omega)) | exact b31 (hW.ne (by omega)) | exact b31 (hW.op (by omega)) | exact and31 (hW.gp (by omega)) | exact and31 (hW.ne (by omega)) | exact and31 (hW.op (by omega)) | exact and31 (by assumption) | exact and31r (hW.ne (by omega)) | exact and31r (hW.gp (by omega)) | exact and31r (by decide)) (fun c_16 => False.elim (by omega)) (fun c_16 => ?_)
    refine mm_ciN 10 d_M_firstCross_19 rfl ?_
    refine mm_iload d_M_firstCross_21 rfl ?_
    refine mm_imulN d_M_firstCross_22 ?_
    refine mm_aload d_M_firstCross_23 rfl ?_
    refine mm_aload d_M_firstCross_24 rfl ?_
    refine mm_getP d_M_firstCross_25 rfl (sk_o_71 hM) (sk_p_71_30 hM) ?_
    refine mm_iload d_M_firstCross_28 rfl ?_
    refine mm_ialdN d_M_firstCross_29 (sk_a_82 hM) (by omega) (by decide) (hF.C (by omega)) ?_
    refine mm_ciN 0 d_M_firstCross_30 rfl ?_
    refine mm_v2i d_M_firstCross_31 (sk_o_71 hM) (sp_M_kth hM hs8 hz2 hb1 (popK_0 hz4) ?_)
    refine mm_iaddN d_M_firstCross_34 ?_
    exact mm_ri d_M_firstCross_35 h
  · refine mm_iload d_M_firstCross_2 rfl ?_
    refine mm_aload d_M_firstCross_3 rfl ?_
    refine mm_getIN d_M_firstCross_4 rfl (sk_o_71 hM) hH.n ?_
    refine mm_icmp_geN d_M_firstCross_7 (by first | omega | exact ite01_lt | exact bt8_lt31 _ _ | exact godB_lt31 _ _ _ | exact pop_lt31 _ | assumption | exact b31 (hW.gp (by omega)) | exact b31 (hW.ne (by omega)) | exact b31 (hW.op (by omega)) | exact and31 (hW.gp (by omega)) | exact and31 (hW.ne (by omega)) | exact and31 (hW.op (by omega)) | exact and31 (by assumption) | exact and31r (hW.ne (by omega)) | exact and31r (hW.gp (by omega)) | exact and31r (by decide)) (by first | omega | exact ite01_lt | exact bt8_lt31 _ _ | exact godB_lt31 _ _ _ | exact pop_lt31 _ | assumption | exact b31 (hW.gp (by omega)) | exact b31 (hW.ne (by omega)) | exact b31 (hW.op (by omega)) | exact and31 (hW.gp (by omega)) | exact and31 (hW.ne (by omega)) | exact and31 (hW.op (by omega)) | exact and31 (by assumption) | exact and31r (hW.ne (by omega)) | exact and31r (hW.gp (by omega)) | exact and31r (by decide)) (fun c_7 => False.elim (by omega)) (fun c_7 => ?_)
    refine mm_aload d_M_firstCross_10 rfl ?_
    refine mm_getP d_M_firstCross_11 rfl (sk_o_71 hM) (sk_p_71_30 hM) ?_
    refine mm_iload d_M_firstCross_14 rfl ?_
    refine mm_ialdN d_M_firstCross_15 (sk_a_82 hM) (by omega) (by decide) ((hF.C (j := c) (by omega)).trans (by rw [hz1 c hcc])) ?_
    refine mm_if_eqN d_M_firstCross_16 (by first | omega | exact ite01_lt | exact bt8_lt31 _ _ | exact godB_lt31 _ _ _ | exact pop_lt31 _ | assumption | exact b31 (hW.gp (by omega)) | exact b31 (hW.ne (by omega)) | exact b31 (hW.op (by omega)) | exact and31 (hW.gp (by omega)) | exact and31 (hW.ne (by omega)) | exact and31 (hW.op (by omega)) | exact and31 (by assumption) | exact and31r (hW.ne (by omega)) | exact and31r (hW.gp (by omega)) | exact and31r (by decide)) (fun c_16 => ?_) (fun c_16 => False.elim (by omega))
    refine mm_inc1N d_M_firstCross_36 ?_
    refine mm_goto d_M_firstCross_39 ?_
    exact ih
def egL (σ : mm_S) : Option Nat → Nat
  | none => 0
  | some b => sK σ b
def egK (σ : mm_S) : Nat → Option Nat
  | 0 => none
  | k + 1 => if egL σ (egK σ k) < sK σ k then some k else egK σ k
theorem egK_lt {σ : mm_S} : ∀ {k b}, egK σ k = some b → b < k
  | 0, b, h => by cases h
  | k + 1, b, h => by
    unfold egK at h
    split at h
    · cases h; omega
    · have := egK_lt h; omega
theorem sp_Da_eager {X : mm_X} {μ : mm_M} {q : Int32 → mm_M → Prop} {i : Nat} {D : mm_D} {σ : mm_S} {ξ : mm_Xi} (hS : DaS μ i D σ ξ) (hW : WfD D) (hk : ∀ c, sK σ c ≤ 40) (h : q (oI (egK σ (dn D))) μ) : mm_Ci X 0 0 0 k_Da_eager [.ref 53] μ q := by
  show mm_T X 0 0 0 k_Da_eager 0 [some (.ref 53), none, none] [] μ _
  obtain ⟨hM, hi2, hCD, hP, hF⟩ := hS
  have hn6 := hW.1
  refine mm_ci d_Da_eager_0 ?_
  refine mm_ist1 d_Da_eager_1 ?_
  refine mm_ciN 0 d_Da_eager_2 rfl ?_
  refine mm_ist2 d_Da_eager_3 ?_
  refine mm_up (P := fun c => mm_T X _ 0 0 k_Da_eager 4 [some (.ref 53), some (.int (oI (egK σ c))), some (.int (nI c))] [] μ _) (dn D) ?_ (fun c hc ih => ?_)
  · refine mm_iload d_Da_eager_4 rfl ?_
    refine mm_aload d_Da_eager_5 rfl ?_
    refine mm_getP d_Da_eager_6 rfl (sk_o_53 hM) hP ?_
    refine mm_getIN d_Da_eager_9 rfl hCD.1.1 hCD.n ?_
    refine mm_icmp_geN d_Da_eager_12 (by first | omega | exact ite01_lt | exact bt8_lt31 _ _ | exact godB_lt31 _ _ _ | exact pop_lt31 _ | assumption | exact b31 (hW.gp (by omega)) | exact b31 (hW.ne (by omega)) | exact b31 (hW.op (by omega)) | exact and31 (hW.gp (by omega)) | exact and31 (hW.ne (by omega)) | exact and31 (hW.op (by omega)) | exact and31 (by assumption) | exact and31r (hW.ne (by omega)) | exact and31r (hW.gp (by omega)) | exact and31r (by decide)) (by first | omega | exact ite01_lt | exact bt8_lt31 _ _ | exact godB_lt31 _ _ _ | exact pop_lt31 _ | assumption | exact b31 (hW.gp (by omega)) | exact b31 (hW.ne (by omega)) | exact b31 (hW.op (by omega)) | exact and31 (hW.gp (by omega)) | exact and31 (hW.ne (by omega)) | exact and31 (hW.op (by omega)) | exact and31 (by assumption) | exact and31r (hW.ne (by omega)) | exact and31r (hW.gp (by omega)) | exact and31r (by decide)) (fun c_12 => ?_) (fun c_12 => False.elim (by omega))
    refine mm_iload d_Da_eager_47 rfl ?_
    exact mm_ri d_Da_eager_48 h
  · have hkc := hk c
    rcases hb : egK σ c with _ | b
    · refine mm_iload d_Da_eager_4 rfl ?_
      refine mm_aload d_Da_eager_5 rfl ?_
      refine mm_getP d_Da_eager_6 rfl (sk_o_53 hM) hP ?_
      refine mm_getIN d_Da_eager_9 rfl hCD.1.1 hCD.n ?_
      refine mm_icmp_geN d_Da_eager_12 (by first | omega | exact ite01_lt | exact bt8_lt31 _ _ | exact godB_lt31 _ _ _ | exact pop_lt31 _ | assumption | exact b31 (hW.gp (by omega)) | exact b31 (hW.ne (by omega)) | exact b31 (hW.op (by omega)) | exact and31 (hW.gp (by omega)) | exact and31 (hW.ne (by omega)) | exact and31 (hW.op (by omega)) | exact and31 (by assumption) | exact and31r (hW.ne (by omega)) | exact and31r (hW.gp (by omega)) | exact and31r (by decide)) (by first | omega | exact ite01_lt | exact bt8_lt31 _ _ | exact godB_lt31 _ _ _ | exact pop_lt31 _ | assumption | exact b31 (hW.gp (by omega)) | exact b31 (hW.ne (by omega)) | exact b31 (hW.op (by omega)) | exact and31 (hW.gp (by omega)) | exact and31 (hW.ne (by omega)) | exact and31 (hW.op (by omega)) | exact and31 (by assumption) | exact and31r (hW.ne (by omega)) | exact and31r (hW.gp (by omega)) | exact and31r (by decide)) (fun c_12 => False.elim (by omega)) (fun c_12 => ?_)
      refine mm_aload d_Da_eager_15 rfl ?_
      refine mm_getP d_Da_eager_16 rfl (sk_o_53 hM) (sk_p_53_7 hM) ?_
      refine mm_iload d_Da_eager_19 rfl ?_
      refine mm_ialdN d_Da_eager_20 (sk_a_56 hM) (by omega) (by decide) (hF.K (by omega)) ?_
      refine mm_iload d_Da_eager_21 rfl ?_
      refine mm_ci d_Da_eager_22 ?_
      refine mm_icmp_neS d_Da_eager_23 ?_
      refine mm_ciN 0 d_Da_eager_26 rfl ?_
      refine mm_goto d_Da_eager_27 ?_
      refine mm_icmp_leN d_Da_eager_36 (by first | omega | exact ite01_lt | exact bt8_lt31 _ _ | exact godB_lt31 _ _ _ | exact pop_lt31 _ | assumption | exact b31 (hW.gp (by omega)) | exact b31 (hW.ne (by omega)) | exact b31 (hW.op (by omega)) | exact and31 (hW.gp (by omega)) | exact and31 (hW.ne (by omega)) | exact and31 (hW.op (by omega)) | exact and31 (by assumption) | exact and31r (hW.ne (by omega)) | exact and31r (hW.gp (by omega)) | exact and31r (by decide)) (by first | omega | exact ite01_lt | exact bt8_lt31 _ _ | exact godB_lt31 _ _ _ | exact pop_lt31 _ | assumption | exact b31 (hW.gp (by omega)) | exact b31 (hW.ne (by omega)) | exact b31 (hW.op (by omega)) | exact and31 (hW.gp (by omega)) | exact and31 (hW.ne (by omega)) | exact and31 (hW.op (by omega)) | exact and31 (by assumption) | exact and31r (hW.ne (by omega)) | exact and31r (hW.gp (by omega)) | exact and31r (by decide)) (fun c_36 => ?_) (fun c_36 => ?_)
      · refine mm_inc2N d_Da_eager_41 ?_
        refine mm_goto d_Da_eager_44 ?_
        first
          | (rw [show egK σ (c + 1) = some c by unfold egK; rw [hb]; exact if_pos c_36] at ih; exact ih)
          | (rw [show egK σ (c + 1) = none by unfold egK; rw [hb]; exact if_neg (Nat.not_lt.mpr c_36)] at ih; exact ih)
      · refine mm_iload d_Da_eager_39 rfl ?_
        refine mm_ist1 d_Da_eager_40 ?_
        refine mm_inc2N d_Da_eager_41 ?_
        refine mm_goto d_Da_eager_44 ?_
        first
          | (rw [show egK σ (c + 1) = some c by unfold egK; rw [hb]; exact if_pos c_36] at ih; exact ih)
          | (rw [show egK σ (c + 1) = none by unfold egK; rw [hb]; exact if_neg (Nat.not_lt.mpr c_36)] at ih; exact ih)
    · have hb2 := egK_lt hb
      have hkb := hk b
      refine mm_iload d_Da_eager_4 rfl ?_
      refine mm_aload d_Da_eager_5 rfl ?_
      refine mm_getP d_Da_eager_6 rfl (sk_o_53 hM) hP ?_
      refine mm_getIN d_Da_eager_9 rfl hCD.1.1 hCD.n ?_
      refine mm_icmp_geN d_Da_eager_12 (by first | omega | exact ite01_lt | exact bt8_lt31 _ _ | exact godB_lt31 _ _ _ | exact pop_lt31 _ | assumption | exact b31 (hW.gp (by omega)) | exact b31 (hW.ne (by omega)) | exact b31 (hW.op (by omega)) | exact and31 (hW.gp (by omega)) | exact and31 (hW.ne (by omega)) | exact and31 (hW.op (by omega)) | exact and31 (by assumption) | exact and31r (hW.ne (by omega)) | exact and31r (hW.gp (by omega)) | exact and31r (by decide)) (by first | omega | exact ite01_lt | exact bt8_lt31 _ _ | exact godB_lt31 _ _ _ | exact pop_lt31 _ | assumption | exact b31 (hW.gp (by omega)) | exact b31 (hW.ne (by omega)) | exact b31 (hW.op (by omega)) | exact and31 (hW.gp (by omega)) | exact and31 (hW.ne (by omega)) | exact and31 (hW.op (by omega)) | exact and31 (by assumption) | exact and31r (hW.ne (by omega)) | exact and31r (hW.gp (by omega)) | exact and31r (by decide)) (fun c_12 => False.elim (by omega)) (fun c_12 => ?_)
      refine mm_aload d_Da_eager_15 rfl ?_
      refine mm_getP d_Da_eager_16 rfl (sk_o_53 hM) (sk_p_53_7 hM) ?_
      refine mm_iload d_Da_eager_19 rfl ?_
      refine mm_ialdN d_Da_eager_20 (sk_a_56 hM) (by omega) (by decide) (hF.K (by omega)) ?_
      refine mm_iload d_Da_eager_21 rfl ?_
      refine mm_ci d_Da_eager_22 ?_
      refine mm_icmp_neM1 d_Da_eager_23 (by first | omega | exact ite01_lt | exact bt8_lt31 _ _ | exact godB_lt31 _ _ _ | exact pop_lt31 _ | assumption | exact b31 (hW.gp (by omega)) | exact b31 (hW.ne (by omega)) | exact b31 (hW.op (by omega)) | exact and31 (hW.gp (by omega)) | exact and31 (hW.ne (by omega)) | exact and31 (hW.op (by omega)) | exact and31 (by assumption) | exact and31r (hW.ne (by omega)) | exact and31r (hW.gp (by omega)) | exact and31r (by decide)) ?_
      refine mm_aload d_Da_eager_30 rfl ?_
      refine mm_getP d_Da_eager_31 rfl (sk_o_53 hM) (sk_p_53_7 hM) ?_
      refine mm_iload d_Da_eager_34 rfl ?_
      refine mm_ialdN d_Da_eager_35 (sk_a_56 hM) (by omega) (by decide) (hF.K (j := b) (by omega)) ?_
      refine mm_icmp_leN d_Da_eager_36 (by first | omega | exact ite01_lt | exact bt8_lt31 _ _ | exact godB_lt31 _ _ _ | exact pop_lt31 _ | assumption | exact b31 (hW.gp (by omega)) | exact b31 (hW.ne (by omega)) | exact b31 (hW.op (by omega)) | exact and31 (hW.gp (by omega)) | exact and31 (hW.ne (by omega)) | exact and31 (hW.op (by omega)) | exact and31 (by assumption) | exact and31r (hW.ne (by omega)) | exact and31r (hW.gp (by omega)) | exact and31r (by decide)) (by first | omega | exact ite01_lt | exact bt8_lt31 _ _ | exact godB_lt31 _ _ _ | exact pop_lt31 _ | assumption | exact b31 (hW.gp (by omega)) | exact b31 (hW.ne (by omega)) | exact b31 (hW.op (by omega)) | exact and31 (hW.gp (by omega)) | exact and31 (hW.ne (by omega)) | exact and31 (hW.op (by omega)) | exact and31 (by assumption) | exact and31r (hW.ne (by omega)) | exact and31r (hW.gp (by omega)) | exact and31r (by decide)) (fun c_36 => ?_) (fun c_36 => ?_)
      · refine mm_inc2N d_Da_eager_41 ?_
        refine mm_goto d_Da_eager_44 ?_
        first
          | (rw [show egK σ (c + 1) = some c by unfold egK; rw [hb]; exact if_pos c_36] at ih; exact ih)
          | (rw [show egK σ (c + 1) = some b by unfold egK; rw [hb]; exact if_neg (Nat.not_lt.mpr c_36)] at ih; exact ih)
      · refine mm_iload d_Da_eager_39 rfl ?_
        refine mm_ist1 d_Da_eager_40 ?_
        refine mm_inc2N d_Da_eager_41 ?_
        refine mm_goto d_Da_eager_44 ?_
        first
          | (rw [show egK σ (c + 1) = some c by unfold egK; rw [hb]; exact if_pos c_36] at ih; exact ih)
          | (rw [show egK σ (c + 1) = some b by unfold egK; rw [hb]; exact if_neg (Nat.not_lt.mpr c_36)] at ih; exact ih)
theorem sp_M_eager {X : mm_X} {μ : mm_M} {q : Int32 → mm_M → Prop} {k : Nat} {D : mm_D} {σ : mm_S} (hS : MoS μ k D σ) (hk : ∀ c, sK σ c ≤ 40) (h : q (oI (egK σ (dn D))) μ) : mm_Ci X 0 0 0 k_M_eager [.ref 71] μ q := by
  show mm_T X 0 0 0 k_M_eager 0 [some (.ref 71), none, none] [] μ _
  obtain ⟨hH, hF⟩ := hS
  have hM := hH.1
  have hn6 := hH.wf.1
  refine mm_ci d_M_eager_0 ?_
  refine mm_ist1 d_M_eager_1 ?_
  refine mm_ciN 0 d_M_eager_2 rfl ?_
  refine mm_ist2 d_M_eager_3 ?_
  refine mm_up (P := fun c => mm_T X _ 0 0 k_M_eager 4 [some (.ref 71), some (.int (oI (egK σ c))), some (.int (nI c))] [] μ _) (dn D) ?_ (fun c hc ih => ?_)
  · refine mm_iload d_M_eager_4 rfl ?_
    refine mm_aload d_M_eager_5 rfl ?_
    refine mm_getIN d_M_eager_6 rfl (sk_o_71 hM) hH.n ?_
    refine mm_icmp_geN d_M_eager_9 (by first | omega | exact ite01_lt | exact bt8_lt31 _ _ | exact godB_lt31 _ _ _ | exact pop_lt31 _ | assumption | exact b31 (hW.gp (by omega)) | exact b31 (hW.ne (by omega)) | exact b31 (hW.op (by omega)) | exact and31 (hW.gp (by omega)) | exact and31 (hW.ne (by omega)) | exact and31 (hW.op (by omega)) | exact and31 (by assumption) | exact and31r (hW.ne (by omega)) | exact and31r (hW.gp (by omega)) | exact and31r (by decide)) (by first | omega | exact ite01_lt | exact bt8_lt31 _ _ | exact godB_lt31 _ _ _ | exact pop_lt31 _ | assumption | exact b31 (hW.gp (by omega)) | exact b31 (hW.ne (by omega)) | exact b31 (hW.op (by omega)) | exact and31 (hW.gp (by omega)) | exact and31 (hW.ne (by omega)) | exact and31 (hW.op (by omega)) | exact and31 (by assumption) | exact and31r (hW.ne (by omega)) | exact and31r (hW.gp (by omega)) | exact and31r (by decide)) (fun c_9 => ?_) (fun c_9 => False.elim (by omega))
    refine mm_iload d_M_eager_48 rfl ?_
    exact mm_ri d_M_eager_49 h
  · have hkc := hk c
    rcases hb : egK σ c with _ | b
    · refine mm_iload d_M_eager_4 rfl ?_
      refine mm_aload d_M_eager_5 rfl ?_
      refine mm_getIN d_M_eager_6 rfl (sk_o_71 hM) hH.n ?_
      refine mm_icmp_geN d_M_eager_9 (by first | omega | exact ite01_lt | exact bt8_lt31 _ _ | exact godB_lt31 _ _ _ | exact pop_lt31 _ | assumption | exact b31 (hW.gp (by omega)) | exact b31 (hW.ne (by omega)) | exact b31 (hW.op (by omega)) | exact and31 (hW.gp (by omega)) | exact and31 (hW.ne (by omega)) | exact and31 (hW.op (by omega)) | exact and31 (by assumption) | exact and31r (hW.ne (by omega)) | exact and31r (hW.gp (by omega)) | exact and31r (by decide)) (by first | omega | exact ite01_lt | exact bt8_lt31 _ _ | exact godB_lt31 _ _ _ | exact pop_lt31 _ | assumption | exact b31 (hW.gp (by omega)) | exact b31 (hW.ne (by omega)) | exact b31 (hW.op (by omega)) | exact and31 (hW.gp (by omega)) | exact and31 (hW.ne (by omega)) | exact and31 (hW.op (by omega)) | exact and31 (by assumption) | exact and31r (hW.ne (by omega)) | exact and31r (hW.gp (by omega)) | exact and31r (by decide)) (fun c_9 => False.elim (by omega)) (fun c_9 => ?_)
      refine mm_aload d_M_eager_12 rfl ?_
      refine mm_getP d_M_eager_13 rfl (sk_o_71 hM) (sk_p_71_32 hM) ?_
      refine mm_iload d_M_eager_16 rfl ?_
      refine mm_ialdN d_M_eager_17 (sk_a_84 hM) (by omega) (by decide) (hF.K (by omega)) ?_
      refine mm_iload d_M_eager_18 rfl ?_
      refine mm_ci d_M_eager_19 ?_
      refine mm_icmp_neS d_M_eager_20 ?_
      refine mm_ciN 0 d_M_eager_23 rfl ?_
      refine mm_goto d_M_eager_24 ?_
      refine mm_icmp_leN d_M_eager_33 (by first | omega | exact ite01_lt | exact bt8_lt31 _ _ | exact godB_lt31 _ _ _ | exact pop_lt31 _ | assumption | exact b31 (hW.gp (by omega)) | exact b31 (hW.ne (by omega)) | exact b31 (hW.op (by omega)) | exact and31 (hW.gp (by omega)) | exact and31 (hW.ne (by omega)) | exact and31 (hW.op (by omega)) | exact and31 (by assumption) | exact and31r (hW.ne (by omega)) | exact and31r (hW.gp (by omega)) | exact and31r (by decide)) (by first | omega | exact ite01_lt | exact bt8_lt31 _ _ | exact godB_lt31 _ _ _ | exact pop_lt31 _ | assumption | exact b31 (hW.gp (by omega)) | exact b31 (hW.ne (by omega)) | exact b31 (hW.op (by omega)) | exact and31 (hW.gp (by omega)) | exact and31 (hW.ne (by omega)) | exact and31 (hW.op (by omega)) | exact and31 (by assumption) | exact and31r (hW.ne (by omega)) | exact and31r (hW.gp (by omega)) | exact and31r (by decide)) (fun c_33 => ?_) (fun c_33 => ?_)
      · refine mm_iload d_M_eager_40 rfl ?_
        refine mm_ist1 d_M_eager_41 ?_
        refine mm_inc2N d_M_eager_42 ?_
        refine mm_goto d_M_eager_45 ?_
        first
          | (rw [show egK σ (c + 1) = some c by unfold egK; rw [hb]; exact if_pos c_33] at ih; exact ih)
          | (rw [show egK σ (c + 1) = none by unfold egK; rw [hb]; exact if_neg (Nat.not_lt.mpr c_33)] at ih; exact ih)
      · refine mm_iload d_M_eager_36 rfl ?_
        refine mm_goto d_M_eager_37 ?_
        refine mm_ist1 d_M_eager_41 ?_
        refine mm_inc2N d_M_eager_42 ?_
        refine mm_goto d_M_eager_45 ?_
        first
          | (rw [show egK σ (c + 1) = some c by unfold egK; rw [hb]; exact if_pos c_33] at ih; exact ih)
          | (rw [show egK σ (c + 1) = none by unfold egK; rw [hb]; exact if_neg (Nat.not_lt.mpr c_33)] at ih; exact ih)
    · have hb2 := egK_lt hb
      have hkb := hk b
      refine mm_iload d_M_eager_4 rfl ?_
      refine mm_aload d_M_eager_5 rfl ?_
      refine mm_getIN d_M_eager_6 rfl (sk_o_71 hM) hH.n ?_
      refine mm_icmp_geN d_M_eager_9 (by first | omega | exact ite01_lt | exact bt8_lt31 _ _ | exact godB_lt31 _ _ _ | exact pop_lt31 _ | assumption | exact b31 (hW.gp (by omega)) | exact b31 (hW.ne (by omega)) | exact b31 (hW.op (by omega)) | exact and31 (hW.gp (by omega)) | exact and31 (hW.ne (by omega)) | exact and31 (hW.op (by omega)) | exact and31 (by assumption) | exact and31r (hW.ne (by omega)) | exact and31r (hW.gp (by omega)) | exact and31r (by decide)) (by first | omega | exact ite01_lt | exact bt8_lt31 _ _ | exact godB_lt31 _ _ _ | exact pop_lt31 _ | assumption | exact b31 (hW.gp (by omega)) | exact b31 (hW.ne (by omega)) | exact b31 (hW.op (by omega)) | exact and31 (hW.gp (by omega)) | exact and31 (hW.ne (by omega)) | exact and31 (hW.op (by omega)) | exact and31 (by assumption) | exact and31r (hW.ne (by omega)) | exact and31r (hW.gp (by omega)) | exact and31r (by decide)) (fun c_9 => False.elim (by omega)) (fun c_9 => ?_)
      refine mm_aload d_M_eager_12 rfl ?_
      refine mm_getP d_M_eager_13 rfl (sk_o_71 hM) (sk_p_71_32 hM) ?_
      refine mm_iload d_M_eager_16 rfl ?_
      refine mm_ialdN d_M_eager_17 (sk_a_84 hM) (by omega) (by decide) (hF.K (by omega)) ?_
      refine mm_iload d_M_eager_18 rfl ?_
      refine mm_ci d_M_eager_19 ?_
      refine mm_icmp_neM1 d_M_eager_20 (by first | omega | exact ite01_lt | exact bt8_lt31 _ _ | exact godB_lt31 _ _ _ | exact pop_lt31 _ | assumption | exact b31 (hW.gp (by omega)) | exact b31 (hW.ne (by omega)) | exact b31 (hW.op (by omega)) | exact and31 (hW.gp (by omega)) | exact and31 (hW.ne (by omega)) | exact and31 (hW.op (by omega)) | exact and31 (by assumption) | exact and31r (hW.ne (by omega)) | exact and31r (hW.gp (by omega)) | exact and31r (by decide)) ?_
      refine mm_aload d_M_eager_27 rfl ?_
      refine mm_getP d_M_eager_28 rfl (sk_o_71 hM) (sk_p_71_32 hM) ?_
      refine mm_iload d_M_eager_31 rfl ?_
      refine mm_ialdN d_M_eager_32 (sk_a_84 hM) (by omega) (by decide) (hF.K (j := b) (by omega)) ?_
      refine mm_icmp_leN d_M_eager_33 (by first | omega | exact ite01_lt | exact bt8_lt31 _ _ | exact godB_lt31 _ _ _ | exact pop_lt31 _ | assumption | exact b31 (hW.gp (by omega)) | exact b31 (hW.ne (by omega)) | exact b31 (hW.op (by omega)) | exact and31 (hW.gp (by omega)) | exact and31 (hW.ne (by omega)) | exact and31 (hW.op (by omega)) | exact and31 (by assumption) | exact and31r (hW.ne (by omega)) | exact and31r (hW.gp (by omega)) | exact and31r (by decide)) (by first | omega | exact ite01_lt | exact bt8_lt31 _ _ | exact godB_lt31 _ _ _ | exact pop_lt31 _ | assumption | exact b31 (hW.gp (by omega)) | exact b31 (hW.ne (by omega)) | exact b31 (hW.op (by omega)) | exact and31 (hW.gp (by omega)) | exact and31 (hW.ne (by omega)) | exact and31 (hW.op (by omega)) | exact and31 (by assumption) | exact and31r (hW.ne (by omega)) | exact and31r (hW.gp (by omega)) | exact and31r (by decide)) (fun c_33 => ?_) (fun c_33 => ?_)
      · refine mm_iload d_M_eager_40 rfl ?_
        refine mm_ist1 d_M_eager_41 ?_
        refine mm_inc2N d_M_eager_42 ?_
        refine mm_goto d_M_eager_45 ?_
        first
          | (rw [show egK σ (c + 1) = some c by unfold egK; rw [hb]; exact if_pos c_33] at ih; exact ih)
          | (rw [show egK σ (c + 1) = some b by unfold egK; rw [hb]; exact if_neg (Nat.not_lt.mpr c_33)] at ih; exact ih)
      · refine mm_iload d_M_eager_36 rfl ?_
        refine mm_goto d_M_eager_37 ?_
        refine mm_ist1 d_M_eager_41 ?_
        refine mm_inc2N d_M_eager_42 ?_
        refine mm_goto d_M_eager_45 ?_
        first
          | (rw [show egK σ (c + 1) = some c by unfold egK; rw [hb]; exact if_pos c_33] at ih; exact ih)
          | (rw [show egK σ (c + 1) = some b by unfold egK; rw [hb]; exact if_neg (Nat.not_lt.mpr c_33)] at ih; exact ih)
