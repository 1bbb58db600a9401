/-! a year: begun, lived, looked at -/
def yk (Y : mm_Y) (j : Nat) : Nat := (Y.2.1 j).toNatClampNeg
def yx (Y : mm_Y) (j : Nat) : Nat := (Y.2.2.1 j).toNatClampNeg
def yy (Y : mm_Y) (j : Nat) : Nat := (Y.2.2.2 j).toNatClampNeg
theorem WfY_ok {u v w : Int32} (h : WfY u v w) : u = nI u.toNatClampNeg ∧ u.toNatClampNeg ≤ 4 ∧ OkD u.toNatClampNeg v w v.toNatClampNeg w.toNatClampNeg := by
  rcases h with ⟨h0, c, x, hc, hx, rfl, rfl⟩ | ⟨rfl, x, hx, rfl, rfl⟩ | ⟨rfl, x, hx, rfl, rfl⟩ | ⟨rfl, rfl, rfl⟩
  · rcases h0 with rfl | rfl
    · exact ⟨rfl, by decide, Or.inl ⟨by decide, by rw [nI_clamp (by omega)], by rw [nI_clamp (by omega)], by rw [nI_clamp (by omega)]; exact hc, by rw [nI_clamp (by omega)]; exact hx⟩⟩
    · exact ⟨rfl, by decide, Or.inl ⟨by decide, by rw [nI_clamp (by omega)], by rw [nI_clamp (by omega)], by rw [nI_clamp (by omega)]; exact hc, by rw [nI_clamp (by omega)]; exact hx⟩⟩
  · exact ⟨rfl, by decide, Or.inr (Or.inl ⟨rfl, by rw [nI_clamp (by omega)], by rw [nI_clamp (by omega)]; exact hx⟩)⟩
  · exact ⟨rfl, by decide, Or.inr (Or.inr (Or.inl ⟨rfl, by rw [nI_clamp (by omega)], by rw [nI_clamp (by omega)]; exact hx⟩))⟩
  · exact ⟨rfl, by decide, Or.inr (Or.inr (Or.inr rfl))⟩
def S0 : mm_S := (0, 0, 0, 0, 0, fun _ => 0, fun _ => 0, fun _ => 0)
theorem S0_wf (D : mm_D) : WfS S0 ∧ WfL D S0 := ⟨⟨by decide, by decide, by decide, fun _ _ => (by decide : 0 < 256), fun _ _ => Nat.zero_le _⟩, fun _ _ _ => Nat.zero_le _⟩
/-- the state behind the first k deeds, if all can be -/
def rn (D : mm_D) (Y : mm_Y) : Nat → Option mm_S
  | 0 => some S0
  | k + 1 => match rn D Y k with
    | none => none
    | some σ => dl D σ (yk Y k) (yx Y k) (yy Y k)
def rx (D : mm_D) (Y : mm_Y) (s0 : Int32) : Nat → mm_Xi
  | 0 => (none, none, 0, 0, s0)
  | k + 1 => match rn D Y k, rn D Y (k + 1) with
    | some σ, some σ' => (fun ξ : mm_Xi => (xO ξ, xW ξ, max (xM ξ) (pop (sH σ')), xT ξ, xS ξ)) (dlX D σ (rx D Y s0 k) (yk Y k) k)
    | _, _ => rx D Y s0 k
theorem rn_s {D : mm_D} {Y : mm_Y} {k : Nat} {σ : mm_S} (h : rn D Y k = some σ) : rn D Y (k + 1) = dl D σ (yk Y k) (yx Y k) (yy Y k) := by
  show (match rn D Y k with | none => none | some σ => dl D σ (yk Y k) (yx Y k) (yy Y k)) = _
  rw [h]
theorem rx_s {D : mm_D} {Y : mm_Y} {s0 : Int32} {k : Nat} {σ σ' : mm_S} (h : rn D Y k = some σ) (h' : rn D Y (k + 1) = some σ') : rx D Y s0 (k + 1) = (fun ξ : mm_Xi => (xO ξ, xW ξ, max (xM ξ) (pop (sH σ')), xT ξ, xS ξ)) (dlX D σ (rx D Y s0 k) (yk Y k) k) := by
  show (match rn D Y k, rn D Y (k + 1) with | some σ, some σ' => _ | _, _ => _) = _
  rw [h, h']
theorem rn_wf {D : mm_D} (hW : WfD D) {Y : mm_Y} (hY : WfYY Y) : ∀ {k σ}, k ≤ Y.1 → rn D Y k = some σ → WfS σ ∧ WfL D σ
  | 0, σ, _, h => by cases h; exact S0_wf D
  | k + 1, σ, hk, h => by
    cases e : rn D Y k with
    | none => rw [show rn D Y (k + 1) = none by show (match rn D Y k with | none => none | some σ => dl D σ (yk Y k) (yx Y k) (yy Y k)) = _; rw [e]] at h; cases h
    | some τ =>
      rw [rn_s e] at h
      exact dl_wf hW (WfY_ok (hY.2 k (by omega))).2.2 (rn_wf hW hY (by omega) e) h
theorem xM_xiO {ξ : mm_Xi} {k c w : Nat} : xM (xiO ξ k c w) = xM ξ := by
  unfold xiO
  cases xO ξ <;> rfl
theorem xM_dyX {D : mm_D} {σ : mm_S} {ξ : mm_Xi} {k : Nat} : ∀ i, xM (dyX D σ ξ k i) = xM ξ
  | 0 => rfl
  | i + 1 => by
    unfold dyX
    split
    · rw [xM_xiO]; exact xM_dyX i
    · exact xM_dyX i
theorem xM_dlX {D : mm_D} {σ : mm_S} {ξ : mm_Xi} {kd k : Nat} : xM (dlX D σ ξ kd k) = xM ξ := by
  unfold dlX
  split
  · rfl
  · split
    · exact xM_dyX _
    · rfl
theorem dlX_o {D : mm_D} {σ : mm_S} {ξ : mm_Xi} {kd k : Nat} (hk : k < 2 ^ 31) (ho : ∀ e, xO ξ = some e → e < 2 ^ 31) : ∀ e, xO (dlX D σ ξ kd k) = some e → e < 2 ^ 31 := by
  intro e he
  unfold dlX at he
  split at he
  · exact ho e he
  · split at he
    · exact dyX_o hk ho _ e he
    · exact ho e he
theorem rx_wf {D : mm_D} {Y : mm_Y} {s0 : Int32} : ∀ k, k ≤ 40 → xM (rx D Y s0 k) ≤ 8 ∧ ∀ e, xO (rx D Y s0 k) = some e → e < 2 ^ 31
  | 0, _ => ⟨Nat.zero_le _, fun e h => by cases h⟩
  | k + 1, hk => by
    have ih := rx_wf (D := D) (Y := Y) (s0 := s0) k (by omega)
    unfold rx
    split
    · rename_i σ σ' e1 e2
      refine ⟨?_, dlX_o (by omega) ih.2⟩
      show max (xM _) (pop (sH σ')) ≤ 8
      rw [xM_dlX]
      have := pop_le (sH σ')
      omega
    · exact ih
/-- how many of the first n deeds can be -/
def lvF (D : mm_D) (Y : mm_Y) : Nat → Nat
  | 0 => 0
  | n + 1 => if (rn D Y (n + 1)).isSome = true then n + 1 else lvF D Y n
theorem rn_none {D : mm_D} {Y : mm_Y} {k : Nat} (h : rn D Y k = none) : ∀ d, rn D Y (k + d) = none
  | 0 => h
  | d + 1 => by
    show (match rn D Y (k + d) with | none => none | some σ => dl D σ (yk Y (k + d)) (yx Y (k + d)) (yy Y (k + d))) = _
    rw [rn_none h d]
theorem lvF_all {D : mm_D} {Y : mm_Y} {n : Nat} {σ : mm_S} (h : rn D Y n = some σ) : lvF D Y n = n := by
  cases n with
  | zero => rfl
  | succ n => show (if _ then _ else _) = _; rw [h]; rfl
theorem lvF_at {D : mm_D} {Y : mm_Y} {k : Nat} {σ : mm_S} (h : rn D Y k = some σ) (h0 : rn D Y (k + 1) = none) : ∀ d, lvF D Y (k + 1 + d) = k
  | 0 => by show (if _ then _ else _) = _; rw [h0]; exact lvF_all h
  | d + 1 => by
    show (if (rn D Y (k + 1 + d + 1)).isSome = true then _ else _) = _
    rw [show k + 1 + d + 1 = k + 1 + (d + 1) by omega, rn_none h0 (d + 1)]
    exact lvF_at h h0 d
theorem lvF_at' {D : mm_D} {Y : mm_Y} {k n : Nat} {σ : mm_S} (h : rn D Y k = some σ) (h0 : rn D Y (k + 1) = none) (hn : k < n) : lvF D Y n = k := by
  have := lvF_at h h0 (n - (k + 1))
  rwa [show k + 1 + (n - (k + 1)) = n by omega] at this
theorem lvF_le (D : mm_D) (Y : mm_Y) : ∀ n, lvF D Y n ≤ n
  | 0 => Nat.le_refl 0
  | n + 1 => by have := lvF_le D Y n; unfold lvF; split <;> omega
theorem YeD.frD {μ μ' : mm_M} {i : Nat} {Y : mm_Y} (h : YeD μ (19 + 4 * i) Y) (hf : Fr scD μ μ') (hi : i < 2) : YeD μ' (19 + 4 * i) Y := by
  have e := hf.eq2 (a := 19 + 4 * i) (b := 19 + 4 * i + 3) (fun x hx hy => by unfold scD; simp; omega)
  obtain ⟨h0, h1, h2, h3, h4⟩ := h
  exact ⟨h0.eq e, by rw [e.i (by omega) (by omega)]; exact h1, by rw [e.i (x := 19 + 4 * i + 1) (by omega) (by omega)]; exact h2, by rw [e.i (x := 19 + 4 * i + 2) (by omega) (by omega)]; exact h3, by rw [e.i (x := 19 + 4 * i + 3) (by omega) (by omega)]; exact h4⟩
theorem sp_Da_begin {X : mm_X} {μ : mm_M} {q : mm_M → Prop} {i : Nat} {D : mm_D} (hM : SK μ) (hi2 : i < 2) (hCD : CoD μ (4 + 7 * i) D) (h : ∀ μ', DaS μ' i D S0 (none, none, 0, 0, mm_I μ 53 13) → Fr scD μ μ' → q μ') : mm_Cv X 1 0 0 k_Da_begin [.ref 53, .ref (4 + 7 * i)] μ q := by
  show mm_T X 1 0 0 k_Da_begin 0 [some (.ref 53), some (.ref (4 + 7 * i))] [] μ _
  refine mm_aload d_Da_begin_0 rfl ?_
  refine mm_aload d_Da_begin_1 rfl ?_
  refine mm_putP d_Da_begin_2 rfl (by decide) (sk_o_53 hM) (Or.inl rfl) ?_
  have hM' := hM
  have hM : SK (mm_sP μ 53 8 (some (4 + 7 * i))) := ((Fr.rf (S := scD)).sP rfl (by decide)).2.2.2 hM
  refine mm_aload d_Da_begin_5 rfl ?_
  refine mm_ciN 0 d_Da_begin_6 rfl ?_
  refine mm_putI d_Da_begin_7 rfl (sk_o_53 hM) (Or.inl rfl) ?_
  refine mm_aload d_Da_begin_10 rfl ?_
  refine mm_ciN 0 d_Da_begin_11 rfl ?_
  refine mm_putI d_Da_begin_12 rfl (sk_o_53 hM) (Or.inl rfl) ?_
  refine mm_aload d_Da_begin_15 rfl ?_
  refine mm_ciN 0 d_Da_begin_16 rfl ?_
  refine mm_putI d_Da_begin_17 rfl (sk_o_53 hM) (Or.inl rfl) ?_
  refine mm_aload d_Da_begin_20 rfl ?_
  refine mm_ciN 0 d_Da_begin_21 rfl ?_
  refine mm_putI d_Da_begin_22 rfl (sk_o_53 hM) (Or.inl rfl) ?_
  refine mm_aload d_Da_begin_25 rfl ?_
  refine mm_ciN 0 d_Da_begin_26 rfl ?_
  refine mm_putI d_Da_begin_27 rfl (sk_o_53 hM) (Or.inl rfl) ?_
  refine mm_aload d_Da_begin_30 rfl ?_
  refine mm_ci d_Da_begin_31 ?_
  refine mm_putI d_Da_begin_32 rfl (sk_o_53 hM) (Or.inl rfl) ?_
  refine mm_aload d_Da_begin_35 rfl ?_
  refine mm_ci d_Da_begin_36 ?_
  refine mm_putI d_Da_begin_37 rfl (sk_o_53 hM) (Or.inl rfl) ?_
  refine mm_aload d_Da_begin_40 rfl ?_
  refine mm_ciN 0 d_Da_begin_41 rfl ?_
  refine mm_putI d_Da_begin_42 rfl (sk_o_53 hM) (Or.inl rfl) ?_
  refine mm_aload d_Da_begin_45 rfl ?_
  refine mm_ciN 0 d_Da_begin_46 rfl ?_
  refine mm_putI d_Da_begin_47 rfl (sk_o_53 hM) (Or.inl rfl) ?_
  have f1 : Fr scD μ (mm_sI (mm_sI (mm_sI (mm_sI (mm_sI (mm_sI (mm_sI (mm_sI (mm_sI (mm_sP μ 53 8 (some (4 + 7 * i))) 53 9 (nI 0)) 53 10 (nI 0)) 53 0 (nI 0)) 53 11 (nI 0)) 53 12 (nI 0)) 53 1 (-1)) 53 2 (-1)) 53 3 (nI 0)) 53 4 (nI 0)) := (((((((((Fr.rf.sP rfl (by decide)).sI rfl).sI rfl).sI rfl).sI rfl).sI rfl).sI rfl).sI rfl).sI rfl).sI rfl
  have hP1 : mm_P (mm_sI (mm_sI (mm_sI (mm_sI (mm_sI (mm_sI (mm_sI (mm_sI (mm_sI (mm_sP μ 53 8 (some (4 + 7 * i))) 53 9 (nI 0)) 53 10 (nI 0)) 53 0 (nI 0)) 53 11 (nI 0)) 53 12 (nI 0)) 53 1 (-1)) 53 2 (-1)) 53 3 (nI 0)) 53 4 (nI 0)) 53 8 = some (4 + 7 * i) := by show mm_P (mm_sP μ 53 8 (some (4 + 7 * i))) 53 8 = _; rw [mm_sP_at]; rfl
  have hI1 : (fun ν : mm_M => mm_I ν 53 10 = nI 0 ∧ mm_I ν 53 0 = nI 0 ∧ mm_I ν 53 11 = nI 0 ∧ mm_I ν 53 12 = nI 0 ∧ mm_I ν 53 9 = nI 0 ∧ mm_I ν 53 1 = -1 ∧ mm_I ν 53 2 = -1 ∧ mm_I ν 53 3 = nI 0 ∧ mm_I ν 53 4 = nI 0 ∧ mm_I ν 53 13 = mm_I μ 53 13) (mm_sI (mm_sI (mm_sI (mm_sI (mm_sI (mm_sI (mm_sI (mm_sI (mm_sI (mm_sP μ 53 8 (some (4 + 7 * i))) 53 9 (nI 0)) 53 10 (nI 0)) 53 0 (nI 0)) 53 11 (nI 0)) 53 12 (nI 0)) 53 1 (-1)) 53 2 (-1)) 53 3 (nI 0)) 53 4 (nI 0)) := by
    simp only [mm_I_sI]
    simp
    rfl
  generalize mm_sI (mm_sI (mm_sI (mm_sI (mm_sI (mm_sI (mm_sI (mm_sI (mm_sI (mm_sP μ 53 8 (some (4 + 7 * i))) 53 9 (nI 0)) 53 10 (nI 0)) 53 0 (nI 0)) 53 11 (nI 0)) 53 12 (nI 0)) 53 1 (-1)) 53 2 (-1)) 53 3 (nI 0)) 53 4 (nI 0) = ν at *
  have hM := f1.2.2.2 hM'
  refine mm_aload d_Da_begin_50 rfl ?_
  refine mm_getP d_Da_begin_51 rfl (sk_o_53 hM) (sk_p_53_5 hM) ?_
  refine mm_ciN 0 d_Da_begin_54 rfl ?_
  refine mm_s2v d_Da_begin_55 (sp_Arr_fillI (sk_a_54 hM) (by decide) ?_)
  refine mm_aload d_Da_begin_58 rfl ?_
  refine mm_getP d_Da_begin_59 rfl (sk_o_53 hM) (sk_p_53_6 hM) ?_
  refine mm_ciN 0 d_Da_begin_62 rfl ?_
  refine mm_s2v d_Da_begin_63 (sp_Arr_fillI (sk_a_55 hM) (by decide) ?_)
  refine mm_aload d_Da_begin_66 rfl ?_
  refine mm_getP d_Da_begin_67 rfl (sk_o_53 hM) (sk_p_53_7 hM) ?_
  refine mm_ciN 0 d_Da_begin_70 rfl ?_
  refine mm_s2v d_Da_begin_71 (sp_Arr_fillI (sk_a_56 hM) (by decide) ?_)
  refine mm_rv d_Da_begin_74 (h _ ⟨?_, hi2, ?_, ?_, ?_⟩ (((f1.row rfl).row rfl).row rfl))
  · exact hM
  · exact hCD.frD (((f1.row rfl).row rfl).row rfl) hi2
  · exact hP1
  · obtain ⟨e1, e2, e3, e4, e5, e6, e7, e8, e9, e10⟩ := hI1
    refine ⟨?_, ?_, ?_, ?_, ?_, fun j hj => ?_, fun j hj => ?_, fun j hj => ?_, ?_, ?_, ?_, ?_, ?_⟩
    · rw [mm_row_off (by decide), mm_row_off (by decide), mm_row_off (by decide)]; exact e1
    · rw [mm_row_off (by decide), mm_row_off (by decide), mm_row_off (by decide)]; exact e2
    · rw [mm_row_off (by decide), mm_row_off (by decide), mm_row_off (by decide)]; exact e3
    · rw [mm_row_off (by decide), mm_row_off (by decide), mm_row_off (by decide)]; exact e4
    · rw [mm_row_off (by decide), mm_row_off (by decide), mm_row_off (by decide)]; exact e5
    · rw [mm_row_off (by decide), mm_row_off (by decide), mm_row_at]; exact if_pos hj
    · rw [mm_row_off (by decide), mm_row_at]; exact if_pos hj
    · rw [mm_row_at]; exact if_pos hj
    · rw [mm_row_off (by decide), mm_row_off (by decide), mm_row_off (by decide)]; exact e6
    · rw [mm_row_off (by decide), mm_row_off (by decide), mm_row_off (by decide)]; exact e7
    · rw [mm_row_off (by decide), mm_row_off (by decide), mm_row_off (by decide)]; exact e8
    · rw [mm_row_off (by decide), mm_row_off (by decide), mm_row_off (by decide)]; exact e9
    · rw [mm_row_off (by decide), mm_row_off (by decide), mm_row_off (by decide)]; exact e10
theorem sp_Da_live {X : mm_X} {μ : mm_M} {q : Int32 → mm_M → Prop} {i iy n : Nat} {D : mm_D} {Y : mm_Y} (hM : SK μ) (hi2 : i < 2) (hiy : iy < 2) (hCD : CoD μ (4 + 7 * i) D) (hW : WfD D) (hYD : YeD μ (19 + 4 * iy) Y) (hWY : WfYY Y) (hn : n ≤ Y.1) (h : ∀ μ' σ, rn D Y (lvF D Y n) = some σ → DaS μ' i D σ (rx D Y (mm_I μ 53 13) (lvF D Y n)) → Fr scD μ μ' → q (nI (lvF D Y n)) μ') : mm_Ci X 4 0 0 k_Da_live [.ref 53, .ref (4 + 7 * i), .ref (19 + 4 * iy), .int (nI n)] μ q := by
  show mm_T X 4 0 0 k_Da_live 0 [some (.ref 53), some (.ref (4 + 7 * i)), some (.ref (19 + 4 * iy)), some (.int (nI n)), none, none] [] μ _
  have h40 := hWY.1
  refine mm_aload d_Da_live_0 rfl ?_
  refine mm_aload d_Da_live_1 rfl ?_
  refine mm_v1v d_Da_live_2 (sk_o_53 hM) (sp_Da_begin hM hi2 hCD (fun ν0 hS0 f0 => ?_))
  have hYD0 := hYD.frD f0 hiy
  refine mm_iload d_Da_live_5 rfl ?_
  refine mm_aload d_Da_live_6 rfl ?_
  refine mm_getIN d_Da_live_7 rfl hYD0.1.1 hYD0.2.1 ?_
  refine mm_mminN d_Da_live_10 (by omega) (by omega) (Nat.le_of_ble_eq_true rfl) (Nat.le_of_ble_eq_true rfl) ?_
  rw [Nat.min_eq_left hn]
  refine mm_ist4 d_Da_live_13 ?_
  refine mm_ciN 0 d_Da_live_15 rfl ?_
  refine mm_ist5 d_Da_live_16 ?_
  refine mm_up (P := fun k => ∀ ν σ, rn D Y k = some σ → DaS ν i D σ (rx D Y (mm_I μ 53 13) k) → Fr scD μ ν → mm_T X _ 0 0 k_Da_live 18 [some (.ref 53), some (.ref (4 + 7 * i)), some (.ref (19 + 4 * iy)), some (.int (nI n)), some (.int (nI n)), some (.int (nI k))] [] ν _) n ?_ (fun k hk ih => ?_) ν0 S0 rfl hS0 f0
  · intro ν σ hr hS hf
    rw [lvF_all hr] at h
    refine mm_iload d_Da_live_18 rfl ?_
    refine mm_iload d_Da_live_20 rfl ?_
    refine mm_icmp_geN d_Da_live_22 (by first | omega | exact ite01_lt | exact bt8_lt31 _ _ | exact godB_lt31 _ _ _ | exact pop_lt31 _ | assumption | exact b31 (hW.gp (by omega)) | exact b31 (hW.ne (by omega)) | exact b31 (hW.op (by omega)) | exact and31 (hW.gp (by omega)) | exact and31 (hW.ne (by omega)) | exact and31 (hW.op (by omega)) | exact and31 (by assumption) | exact and31r (hW.ne (by omega)) | exact and31r (hW.gp (by omega)) | exact and31r (by decide)) (by first | omega | exact ite01_lt | exact bt8_lt31 _ _ | exact godB_lt31 _ _ _ | exact pop_lt31 _ | assumption | exact b31 (hW.gp (by omega)) | exact b31 (hW.ne (by omega)) | exact b31 (hW.op (by omega)) | exact and31 (hW.gp (by omega)) | exact and31 (hW.ne (by omega)) | exact and31 (hW.op (by omega)) | exact and31 (by assumption) | exact and31r (hW.ne (by omega)) | exact and31r (hW.gp (by omega)) | exact and31r (by decide)) (fun c_22 => ?_) (fun c_22 => False.elim (by omega))
    refine mm_iload d_Da_live_82 rfl ?_
    exact mm_ri d_Da_live_84 (h ν σ hr hS hf)
  · intro ν σ hr hS hf
    have hM := hS.1
    have hYD := hYD.frD hf hiy
    obtain ⟨⟨hYo, ⟨hp0, ha0⟩, ⟨hp1, ha1⟩, ⟨hp2, ha2⟩⟩, hYn, hY1, hY2, hY3⟩ := id hYD
    have hok := WfY_ok (hWY.2 k (by omega))
    have hwf := rn_wf hW hWY (by omega) hr
    have hxw := rx_wf (D := D) (Y := Y) (s0 := mm_I μ 53 13) k (by omega)
    refine mm_iload d_Da_live_18 rfl ?_
    refine mm_iload d_Da_live_20 rfl ?_
    refine mm_icmp_geN d_Da_live_22 (by first | omega | exact ite01_lt | exact bt8_lt31 _ _ | exact godB_lt31 _ _ _ | exact pop_lt31 _ | assumption | exact b31 (hW.gp (by omega)) | exact b31 (hW.ne (by omega)) | exact b31 (hW.op (by omega)) | exact and31 (hW.gp (by omega)) | exact and31 (hW.ne (by omega)) | exact and31 (hW.op (by omega)) | exact and31 (by assumption) | exact and31r (hW.ne (by omega)) | exact and31r (hW.gp (by omega)) | exact and31r (by decide)) (by first | omega | exact ite01_lt | exact bt8_lt31 _ _ | exact godB_lt31 _ _ _ | exact pop_lt31 _ | assumption | exact b31 (hW.gp (by omega)) | exact b31 (hW.ne (by omega)) | exact b31 (hW.op (by omega)) | exact and31 (hW.gp (by omega)) | exact and31 (hW.ne (by omega)) | exact and31 (hW.op (by omega)) | exact and31 (by assumption) | exact and31r (hW.ne (by omega)) | exact and31r (hW.gp (by omega)) | exact and31r (by decide)) (fun c_22 => False.elim (by omega)) (fun c_22 => ?_)
    refine mm_aload d_Da_live_25 rfl ?_
    refine mm_aload d_Da_live_26 rfl ?_
    refine mm_getP d_Da_live_27 rfl (by assumption) (by assumption) ?_
    refine mm_iload d_Da_live_30 rfl ?_
    refine mm_ialdN d_Da_live_32 (by assumption) (by omega) (by decide) ((congrFun hY1 k).trans hok.1) ?_
    refine mm_aload d_Da_live_33 rfl ?_
    refine mm_getP d_Da_live_34 rfl (by assumption) (by assumption) ?_
    refine mm_iload d_Da_live_37 rfl ?_
    refine mm_ialdV d_Da_live_39 (by assumption) (by omega) (by decide) (congrFun hY2 k) ?_
    refine mm_aload d_Da_live_40 rfl ?_
    refine mm_getP d_Da_live_41 rfl (by assumption) (by assumption) ?_
    refine mm_iload d_Da_live_44 rfl ?_
    refine mm_ialdV d_Da_live_46 (by assumption) (by omega) (by decide) (congrFun hY3 k) ?_
    refine mm_iload d_Da_live_47 rfl ?_
    refine mm_v4i d_Da_live_49 (sk_o_53 hM) (sp_Da_deal hok.2.2 hS hwf hW (by omega) hxw.2 (fun σ' hd μ' hS' hf' => ?_) (fun hd => ?_))
    · have hr' : rn D Y (k + 1) = some σ' := (rn_s hr).trans hd
      have hwf' := rn_wf hW hWY (by omega) hr'
      have hM' := hS'.1
      have hsh := hwf'.1.1
      have hxm : xM (dlX D σ (rx D Y (mm_I μ 53 13) k) (yk Y k) k) ≤ 8 := by rw [xM_dlX]; exact hxw.1
      have F1 := hS'.2.2.2.2
      have f' := hf.trans hf'
      have e := rx_s (s0 := mm_I μ 53 13) hr hr'
      refine mm_if_neN d_Da_live_52 (by decide) (fun _ => ?_) (fun z => False.elim (by omega))
      refine mm_aload d_Da_live_58 rfl ?_
      refine mm_aload d_Da_live_59 rfl ?_
      refine mm_getIN d_Da_live_60 rfl (sk_o_53 hM') F1.vM ?_
      refine mm_aload d_Da_live_63 rfl ?_
      refine mm_getIN d_Da_live_64 rfl (sk_o_53 hM') F1.H ?_
      refine mm_s1i d_Da_live_67 (sp_Int_bitCount hsh ?_)
      refine mm_mmaxN d_Da_live_70 (show xM (dlX D σ (rx D Y (mm_I μ 53 13) k) (yk Y k) k) < _ by omega) (pop_lt31 _) (Nat.le_of_ble_eq_true rfl) (Nat.le_of_ble_eq_true rfl) ?_
      refine mm_putI d_Da_live_73 rfl (sk_o_53 hM') (Or.inl rfl) ?_
      refine mm_inc5N d_Da_live_76 ?_
      refine mm_goto d_Da_live_79 ?_
      refine ih _ σ' hr' ?_ (f'.sI rfl)
      rw [e]
      exact ⟨hM', hi2, hS'.2.2.1.frD (Fr.rf.sI rfl) hi2, hS'.2.2.2.1, DaF.zM F1 (fun b j => mm_I_sI)⟩
    · have hr' : rn D Y (k + 1) = none := (rn_s hr).trans hd
      rw [lvF_at' hr hr' hk] at h
      refine mm_if_neN d_Da_live_52 (by decide) (fun z => absurd rfl z) (fun _ => ?_)
      refine mm_iload d_Da_live_55 rfl ?_
      exact mm_ri d_Da_live_57 (h ν σ hr hS hf)
