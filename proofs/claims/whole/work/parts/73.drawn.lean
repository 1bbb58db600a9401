/-! years by a seed: drawn -/
def nxS (s : Int32) : Int32 := s * nI 1103515245 + nI 12345
def d16 (s : Int32) : Nat := s.toBitVec.toNat / 2 ^ 16
theorem d16_lt (s : Int32) : d16 s < 65536 := by
  have := s.toBitVec.isLt
  unfold d16
  omega
theorem d16_u (s : Int32) : (s.toUInt32 >>> ((nI 16).toUInt32 &&& Int32.toUInt32 31)).toInt32 = nI (d16 s) := by
  apply Int32.toBitVec_inj.mp
  apply BitVec.eq_of_toNat_eq
  rw [pk_ushr s (nI 16) 16 (by decide), pk_tn (by have := d16_lt s; omega)]
  rfl
def kthN (s j : Nat) : Nat := ((List.range 8).find? (fun w => bt8 s w == 1 && popK s w == j)).getD 0
theorem kthN_ok : ∀ s, s < 256 → pop s = 3 → ∀ j, j < 3 → kthN s j < 8 ∧ bt8 s (kthN s j) = 1 ∧ popK s (kthN s j) = j := by decide +kernel
def dr (D : mm_D) (σ : mm_S) (s : Int32) : mm_S × Int32 :=
  if d16 (nxS s) % 8 ≤ 3 then
    (if dn D = 0 then (σ, nxS s) else ((dl D σ (if d16 (nxS s) % 8 = 3 then 1 else 0) (d16 (nxS (nxS s)) % dn D) (kthN (dgp D (d16 (nxS (nxS s)) % dn D)) (d16 (nxS (nxS (nxS s))) % 3))).getD σ, nxS (nxS (nxS s))))
  else if d16 (nxS s) % 8 = 4 then ((dl D σ 2 (d16 (nxS (nxS s)) % 8) 0).getD σ, nxS (nxS s))
  else if d16 (nxS s) % 8 = 5 then (if dw D = 0 then (σ, nxS s) else ((dl D σ 3 (d16 (nxS (nxS s)) % dw D) 0).getD σ, nxS (nxS s)))
  else ((dl D σ 4 0 0).getD σ, nxS s)
theorem dl_wf' {D : mm_D} (hW : WfD D) {σ : mm_S} {kd x y : Nat} {U V : Int32} (hO : OkD kd U V x y) (hT : WfS σ ∧ WfL D σ) : WfS ((dl D σ kd x y).getD σ) ∧ WfL D ((dl D σ kd x y).getD σ) := by
  cases h : dl D σ kd x y with
  | none => exact hT
  | some σ' => exact dl_wf hW hO hT h
theorem drOk {D : mm_D} (hW : WfD D) {c j e : Nat} (hn : c < dn D) (hj : j < 3) (he : e ≤ 1) : OkD e (nI c) (nI (kthN (dgp D c) j)) c (kthN (dgp D c) j) := by
  have h6 := hW.1
  have := kthN_ok (dgp D c) (hW.gp (by omega)) (hW.2.2.2.2.1 c hn) j hj
  exact Or.inl ⟨he, rfl, rfl, by omega, this.1⟩
theorem dr_wf {D : mm_D} (hW : WfD D) {σ : mm_S} (hT : WfS σ ∧ WfL D σ) (s : Int32) : WfS (dr D σ s).1 ∧ WfL D (dr D σ s).1 := by
  have h6 := hW.1
  have h6' := hW.2.1
  unfold dr
  split
  · split
    · exact hT
    · refine dl_wf' hW (drOk hW (Nat.mod_lt _ (by omega)) (Nat.mod_lt _ (by decide)) (by split <;> omega)) hT
  · split
    · exact dl_wf' (U := nI _) (V := 0) hW (Or.inr (Or.inl ⟨rfl, rfl, Nat.mod_lt _ (by decide)⟩)) hT
    · split
      · split
        · exact hT
        · exact dl_wf' (U := nI _) (V := 0) hW (Or.inr (Or.inr (Or.inl ⟨rfl, rfl, Nat.lt_of_lt_of_le (Nat.mod_lt _ (by omega)) h6'⟩))) hT
      · exact dl_wf' (U := 0) (V := 0) hW (Or.inr (Or.inr (Or.inr rfl))) hT
theorem xS_xiO {ξ : mm_Xi} {k c w : Nat} : xS (xiO ξ k c w) = xS ξ := by
  unfold xiO
  cases xO ξ <;> rfl
theorem xS_dyX {D : mm_D} {σ : mm_S} {ξ : mm_Xi} {k : Nat} : ∀ i, xS (dyX D σ ξ k i) = xS ξ
  | 0 => rfl
  | i + 1 => by
    unfold dyX
    split
    · rw [xS_xiO]; exact xS_dyX i
    · exact xS_dyX i
theorem xS_dlX {D : mm_D} {σ : mm_S} {ξ : mm_Xi} {kd k : Nat} : xS (dlX D σ ξ kd k) = xS ξ := by
  unfold dlX
  split
  · rfl
  · split
    · exact xS_dyX _
    · rfl
theorem sp_Da_drawBelow {X : mm_X} {μ : mm_M} {q : Int32 → mm_M → Prop} {i n : Nat} {D : mm_D} {σ : mm_S} {ξ : mm_Xi} (hS : DaS μ i D σ ξ) (hn0 : 0 < n) (hn : n < 2 ^ 31) (h : ∀ μ', DaS μ' i D σ (xO ξ, xW ξ, xM ξ, xT ξ, nxS (xS ξ)) → Fr scD μ μ' → q (nI (d16 (nxS (xS ξ)) % n)) μ') : mm_Ci X 0 0 0 k_Da_drawBelow [.ref 53, .int (nI n)] μ q := by
  show mm_T X 0 0 0 k_Da_drawBelow 0 [some (.ref 53), some (.int (nI n))] [] μ _
  obtain ⟨hM, hi2, hCD, hP, hF⟩ := hS
  have hd := d16_lt (nxS (xS ξ))
  refine mm_aload d_Da_drawBelow_0 rfl ?_
  refine mm_aload d_Da_drawBelow_1 rfl ?_
  refine mm_getIV d_Da_drawBelow_2 rfl (sk_o_53 hM) hF.vS ?_
  refine mm_ciN 1103515245 d_Da_drawBelow_5 rfl ?_
  refine mm_imul d_Da_drawBelow_7 ?_
  refine mm_ciN 12345 d_Da_drawBelow_8 rfl ?_
  refine mm_iadd d_Da_drawBelow_11 ?_
  refine mm_putI d_Da_drawBelow_12 rfl (sk_o_53 hM) (Or.inl rfl) ?_
  have F1 := DaF.zS (I' := mm_I (mm_sI μ 53 13 (nxS (xS ξ)))) hF (fun b j => mm_I_sI)
  have f1 : Fr scD μ (mm_sI μ 53 13 (nxS (xS ξ))) := Fr.rf.sI rfl
  refine mm_iload d_Da_drawBelow_15 rfl ?_
  refine mm_if_leN d_Da_drawBelow_16 (by first | omega | exact ite01_lt | exact bt8_lt31 _ _ | exact godB_lt31 _ _ _ | exact pop_lt31 _ | assumption | exact b31 (hW.gp (by omega)) | exact b31 (hW.ne (by omega)) | exact b31 (hW.op (by omega)) | exact and31 (hW.gp (by omega)) | exact and31 (hW.ne (by omega)) | exact and31 (hW.op (by omega)) | exact and31 (by assumption) | exact and31r (hW.ne (by omega)) | exact and31r (hW.gp (by omega)) | exact and31r (by decide)) (fun c_16 => False.elim (by omega)) (fun c_16 => ?_)
  refine mm_aload d_Da_drawBelow_19 rfl ?_
  refine mm_getIV d_Da_drawBelow_20 rfl (sk_o_53 hM) (show _ = nxS (xS ξ) from F1.vS) ?_
  refine mm_ciN 16 d_Da_drawBelow_23 rfl ?_
  refine mm_iushr d_Da_drawBelow_25 ?_
  rw [d16_u]
  refine mm_iload d_Da_drawBelow_26 rfl ?_
  refine mm_iremN d_Da_drawBelow_27 (by first | omega | exact ite01_lt | exact bt8_lt31 _ _ | exact godB_lt31 _ _ _ | exact pop_lt31 _ | assumption | exact b31 (hW.gp (by omega)) | exact b31 (hW.ne (by omega)) | exact b31 (hW.op (by omega)) | exact and31 (hW.gp (by omega)) | exact and31 (hW.ne (by omega)) | exact and31 (hW.op (by omega)) | exact and31 (by assumption) | exact and31r (hW.ne (by omega)) | exact and31r (hW.gp (by omega)) | exact and31r (by decide)) (by omega) (by omega) ?_
  refine mm_goto d_Da_drawBelow_28 ?_
  exact mm_ri d_Da_drawBelow_32 (h _ ⟨f1.2.2.2 hM, hi2, hCD.frD f1 hi2, hP, F1⟩ f1)
theorem sp_Da_godparentAt {X : mm_X} {μ : mm_M} {q : Int32 → mm_M → Prop} {i c w j : Nat} {D : mm_D} {σ : mm_S} {ξ : mm_Xi} (hS : DaS μ i D σ ξ) (hW : WfD D) (hc : c < dn D) (hw : w < 8) (hb : bt8 (dgp D c) w = 1) (hj : popK (dgp D c) w = j) (h : q (nI w) μ) : mm_Ci X 2 0 0 k_Da_godparentAt [.ref 53, .int (nI c), .int (nI j)] μ q := by
  show mm_T X 2 0 0 k_Da_godparentAt 0 [some (.ref 53), some (.int (nI c)), some (.int (nI j)), none, none] [] μ _
  obtain ⟨hM, hi2, hCD, hP, hF⟩ := hS
  have hn6 := hW.1
  have hj8 : j ≤ 8 := by rw [← hj]; exact Nat.le_trans (popK_le _ w) (by omega)
  have mono : ∀ a b, a ≤ b → popK (dgp D c) a ≤ popK (dgp D c) b := by
    intro a b hab
    induction b with
    | zero => rw [show a = 0 by omega]; exact Nat.le_refl _
    | succ b ih =>
      rcases Nat.lt_or_ge a (b + 1) with z | z
      · exact Nat.le_trans (ih (by omega)) (Nat.le_add_right _ _)
      · rw [show a = b + 1 by omega]; exact Nat.le_refl _
  refine mm_ciN 0 d_Da_godparentAt_0 rfl ?_
  refine mm_ist3 d_Da_godparentAt_1 ?_
  refine mm_ciN 0 d_Da_godparentAt_2 rfl ?_
  refine mm_ist4 d_Da_godparentAt_3 ?_
  refine mm_up (P := fun x => mm_T X _ 0 0 k_Da_godparentAt 5 [some (.ref 53), some (.int (nI c)), some (.int (nI j)), some (.int (nI (popK (dgp D c) x))), some (.int (nI x))] [] μ _) w ?_ (fun x hx ih => ?_)
  · have hgb := godB_in (w := w) hc
    rw [hj]
    refine mm_iload d_Da_godparentAt_5 rfl ?_
    refine mm_ciN 8 d_Da_godparentAt_7 rfl ?_
    refine mm_icmp_geN d_Da_godparentAt_9 (by first | omega | exact ite01_lt | exact bt8_lt31 _ _ | exact godB_lt31 _ _ _ | exact pop_lt31 _ | assumption | exact b31 (hW.gp (by omega)) | exact b31 (hW.ne (by omega)) | exact b31 (hW.op (by omega)) | exact and31 (hW.gp (by omega)) | exact and31 (hW.ne (by omega)) | exact and31 (hW.op (by omega)) | exact and31 (by assumption) | exact and31r (hW.ne (by omega)) | exact and31r (hW.gp (by omega)) | exact and31r (by decide)) (by first | omega | exact ite01_lt | exact bt8_lt31 _ _ | exact godB_lt31 _ _ _ | exact pop_lt31 _ | assumption | exact b31 (hW.gp (by omega)) | exact b31 (hW.ne (by omega)) | exact b31 (hW.op (by omega)) | exact and31 (hW.gp (by omega)) | exact and31 (hW.ne (by omega)) | exact and31 (hW.op (by omega)) | exact and31 (by assumption) | exact and31r (hW.ne (by omega)) | exact and31r (hW.gp (by omega)) | exact and31r (by decide)) (fun c_9 => False.elim (by omega)) (fun c_9 => ?_)
    refine mm_aload d_Da_godparentAt_12 rfl ?_
    refine mm_getP d_Da_godparentAt_13 rfl (sk_o_53 hM) hP ?_
    refine mm_iload d_Da_godparentAt_16 rfl ?_
    refine mm_iload d_Da_godparentAt_17 rfl ?_
    refine mm_v2i d_Da_godparentAt_19 hCD.1.1 (sp_Co_isGodparent hCD hW (by omega) (by omega) ?_)
    refine mm_if_eqN d_Da_godparentAt_22 (by first | omega | exact ite01_lt | exact bt8_lt31 _ _ | exact godB_lt31 _ _ _ | exact pop_lt31 _ | assumption | exact b31 (hW.gp (by omega)) | exact b31 (hW.ne (by omega)) | exact b31 (hW.op (by omega)) | exact and31 (hW.gp (by omega)) | exact and31 (hW.ne (by omega)) | exact and31 (hW.op (by omega)) | exact and31 (by assumption) | exact and31r (hW.ne (by omega)) | exact and31r (hW.gp (by omega)) | exact and31r (by decide)) (fun c_22 => False.elim (by omega)) (fun c_22 => ?_)
    refine mm_iload d_Da_godparentAt_25 rfl ?_
    refine mm_iload d_Da_godparentAt_26 rfl ?_
    refine mm_icmp_neN d_Da_godparentAt_27 (by first | omega | exact ite01_lt | exact bt8_lt31 _ _ | exact godB_lt31 _ _ _ | exact pop_lt31 _ | assumption | exact b31 (hW.gp (by omega)) | exact b31 (hW.ne (by omega)) | exact b31 (hW.op (by omega)) | exact and31 (hW.gp (by omega)) | exact and31 (hW.ne (by omega)) | exact and31 (hW.op (by omega)) | exact and31 (by assumption) | exact and31r (hW.ne (by omega)) | exact and31r (hW.gp (by omega)) | exact and31r (by decide)) (by first | omega | exact ite01_lt | exact bt8_lt31 _ _ | exact godB_lt31 _ _ _ | exact pop_lt31 _ | assumption | exact b31 (hW.gp (by omega)) | exact b31 (hW.ne (by omega)) | exact b31 (hW.op (by omega)) | exact and31 (hW.gp (by omega)) | exact and31 (hW.ne (by omega)) | exact and31 (hW.op (by omega)) | exact and31 (by assumption) | exact and31r (hW.ne (by omega)) | exact and31r (hW.gp (by omega)) | exact and31r (by decide)) (fun c_27 => False.elim (by omega)) (fun c_27 => ?_)
    refine mm_iload d_Da_godparentAt_30 rfl ?_
    exact mm_ri d_Da_godparentAt_32 h
  · have hgb := godB_in (w := x) hc
    have hm := mono (x + 1) w hx
    have hpx : popK (dgp D c) (x + 1) = popK (dgp D c) x + bt8 (dgp D c) x := rfl
    have hb01 := bt8_01 (dgp D c) x
    have hp8 := popK_le (dgp D c) x
    refine mm_iload d_Da_godparentAt_5 rfl ?_
    refine mm_ciN 8 d_Da_godparentAt_7 rfl ?_
    refine mm_icmp_geN d_Da_godparentAt_9 (by first | omega | exact ite01_lt | exact bt8_lt31 _ _ | exact godB_lt31 _ _ _ | exact pop_lt31 _ | assumption | exact b31 (hW.gp (by omega)) | exact b31 (hW.ne (by omega)) | exact b31 (hW.op (by omega)) | exact and31 (hW.gp (by omega)) | exact and31 (hW.ne (by omega)) | exact and31 (hW.op (by omega)) | exact and31 (by assumption) | exact and31r (hW.ne (by omega)) | exact and31r (hW.gp (by omega)) | exact and31r (by decide)) (by first | omega | exact ite01_lt | exact bt8_lt31 _ _ | exact godB_lt31 _ _ _ | exact pop_lt31 _ | assumption | exact b31 (hW.gp (by omega)) | exact b31 (hW.ne (by omega)) | exact b31 (hW.op (by omega)) | exact and31 (hW.gp (by omega)) | exact and31 (hW.ne (by omega)) | exact and31 (hW.op (by omega)) | exact and31 (by assumption) | exact and31r (hW.ne (by omega)) | exact and31r (hW.gp (by omega)) | exact and31r (by decide)) (fun c_9 => False.elim (by omega)) (fun c_9 => ?_)
    refine mm_aload d_Da_godparentAt_12 rfl ?_
    refine mm_getP d_Da_godparentAt_13 rfl (sk_o_53 hM) hP ?_
    refine mm_iload d_Da_godparentAt_16 rfl ?_
    refine mm_iload d_Da_godparentAt_17 rfl ?_
    refine mm_v2i d_Da_godparentAt_19 hCD.1.1 (sp_Co_isGodparent hCD hW (by omega) (by omega) ?_)
    refine mm_if_eqN d_Da_godparentAt_22 (by first | omega | exact ite01_lt | exact bt8_lt31 _ _ | exact godB_lt31 _ _ _ | exact pop_lt31 _ | assumption | exact b31 (hW.gp (by omega)) | exact b31 (hW.ne (by omega)) | exact b31 (hW.op (by omega)) | exact and31 (hW.gp (by omega)) | exact and31 (hW.ne (by omega)) | exact and31 (hW.op (by omega)) | exact and31 (by assumption) | exact and31r (hW.ne (by omega)) | exact and31r (hW.gp (by omega)) | exact and31r (by decide)) (fun c_22 => ?_) (fun c_22 => ?_)
    · refine mm_inc4N d_Da_godparentAt_36 ?_
      refine mm_goto d_Da_godparentAt_39 ?_
      first
        | (rw [show popK (dgp D c) (x + 1) = popK (dgp D c) x by omega] at ih; exact ih)
        | (rw [show popK (dgp D c) (x + 1) = popK (dgp D c) x + 1 by omega] at ih; exact ih)
    · refine mm_iload d_Da_godparentAt_25 rfl ?_
      refine mm_iload d_Da_godparentAt_26 rfl ?_
      refine mm_icmp_neN d_Da_godparentAt_27 (by first | omega | exact ite01_lt | exact bt8_lt31 _ _ | exact godB_lt31 _ _ _ | exact pop_lt31 _ | assumption | exact b31 (hW.gp (by omega)) | exact b31 (hW.ne (by omega)) | exact b31 (hW.op (by omega)) | exact and31 (hW.gp (by omega)) | exact and31 (hW.ne (by omega)) | exact and31 (hW.op (by omega)) | exact and31 (by assumption) | exact and31r (hW.ne (by omega)) | exact and31r (hW.gp (by omega)) | exact and31r (by decide)) (by first | omega | exact ite01_lt | exact bt8_lt31 _ _ | exact godB_lt31 _ _ _ | exact pop_lt31 _ | assumption | exact b31 (hW.gp (by omega)) | exact b31 (hW.ne (by omega)) | exact b31 (hW.op (by omega)) | exact and31 (hW.gp (by omega)) | exact and31 (hW.ne (by omega)) | exact and31 (hW.op (by omega)) | exact and31 (by assumption) | exact and31r (hW.ne (by omega)) | exact and31r (hW.gp (by omega)) | exact and31r (by decide)) (fun c_27 => ?_) (fun c_27 => False.elim (by omega))
      refine mm_inc3N d_Da_godparentAt_33 ?_
      refine mm_inc4N d_Da_godparentAt_36 ?_
      refine mm_goto d_Da_godparentAt_39 ?_
      first
        | (rw [show popK (dgp D c) (x + 1) = popK (dgp D c) x by omega] at ih; exact ih)
        | (rw [show popK (dgp D c) (x + 1) = popK (dgp D c) x + 1 by omega] at ih; exact ih)
theorem xS_mk {a b : Option Nat} {c d : Nat} {s : Int32} : xS (a, b, c, d, s) = s := rfl
theorem sp_Da_drawBelow' {X : mm_X} {μ : mm_M} {q : Int32 → mm_M → Prop} {i n : Nat} {D : mm_D} {σ : mm_S} {o w : Option Nat} {m t : Nat} {s : Int32} (hS : DaS μ i D σ (o, w, m, t, s)) (hn0 : 0 < n) (hn : n < 2 ^ 31) (h : ∀ μ', DaS μ' i D σ (o, w, m, t, nxS s) → Fr scD μ μ' → q (nI (d16 (nxS s) % n)) μ') : mm_Ci X 0 0 0 k_Da_drawBelow [.ref 53, .int (nI n)] μ q := sp_Da_drawBelow hS hn0 hn h
theorem sp_Da_drawDeed {X : mm_X} {μ : mm_M} {q : mm_M → Prop} {i k : Nat} {D : mm_D} {σ : mm_S} {ξ : mm_Xi} (hS : DaS μ i D σ ξ) (hT : WfS σ ∧ WfL D σ) (hW : WfD D) (hk : k < 2 ^ 31) (ho : ∀ e, xO ξ = some e → e < 2 ^ 31) (h : ∀ μ' ξ', DaS μ' i D (dr D σ (xS ξ)).1 ξ' → xS ξ' = (dr D σ (xS ξ)).2 → (∀ e, xO ξ' = some e → e < 2 ^ 31) → Fr scD μ μ' → q μ') : mm_Cv X 4 0 0 k_Da_drawDeed [.ref 53, .int (nI k)] μ q := by
  show mm_T X 4 0 0 k_Da_drawDeed 0 [some (.ref 53), some (.int (nI k)), none, none] [] μ _
  have h6 := hW.1
  have h6' := hW.2.1
  have hM0 := hS.1
  obtain ⟨o, w, m, t, s⟩ := ξ
  simp only [xS_mk] at h
  have ho' : ∀ (b : Option Nat) (c d : Nat) (s : Int32) (e : Nat), xO (o, b, c, d, s) = some e → e < 2 ^ 31 := fun b c d s e he => ho e he
  refine mm_aload d_Da_drawDeed_0 rfl ?_
  refine mm_ciN 8 d_Da_drawDeed_1 rfl ?_
  refine mm_v1i d_Da_drawDeed_3 (sk_o_53 hM0) (sp_Da_drawBelow' hS (by decide) (by decide) (fun μ1 hS1 f1 => ?_))
  have hM := hS1.1
  have hCD := hS1.2.2.1
  have hP := hS1.2.2.2.1
  unfold dr at h
  by_cases h3 : d16 (nxS s) % 8 ≤ 3
  · rw [if_pos h3] at h
    by_cases hd0 : dn D = 0
    · rw [if_pos hd0] at h
      refine mm_ist2 d_Da_drawDeed_6 ?_
      refine mm_iload d_Da_drawDeed_7 rfl ?_
      refine mm_ciN 3 d_Da_drawDeed_8 rfl ?_
      refine mm_icmp_gtN d_Da_drawDeed_9 (by first | omega | exact ite01_lt | exact bt8_lt31 _ _ | exact godB_lt31 _ _ _ | exact pop_lt31 _ | assumption | exact b31 (hW.gp (by omega)) | exact b31 (hW.ne (by omega)) | exact b31 (hW.op (by omega)) | exact and31 (hW.gp (by omega)) | exact and31 (hW.ne (by omega)) | exact and31 (hW.op (by omega)) | exact and31 (by assumption) | exact and31r (hW.ne (by omega)) | exact and31r (hW.gp (by omega)) | exact and31r (by decide)) (by first | omega | exact ite01_lt | exact bt8_lt31 _ _ | exact godB_lt31 _ _ _ | exact pop_lt31 _ | assumption | exact b31 (hW.gp (by omega)) | exact b31 (hW.ne (by omega)) | exact b31 (hW.op (by omega)) | exact and31 (hW.gp (by omega)) | exact and31 (hW.ne (by omega)) | exact and31 (hW.op (by omega)) | exact and31 (by assumption) | exact and31r (hW.ne (by omega)) | exact and31r (hW.gp (by omega)) | exact and31r (by decide)) (fun c_9 => False.elim (by omega)) (fun c_9 => ?_)
      refine mm_aload d_Da_drawDeed_12 rfl ?_
      refine mm_getP d_Da_drawDeed_13 rfl (sk_o_53 hM) hP ?_
      refine mm_getIN d_Da_drawDeed_16 rfl hCD.1.1 hCD.n ?_
      refine mm_if_leN d_Da_drawDeed_19 (by first | omega | exact ite01_lt | exact bt8_lt31 _ _ | exact godB_lt31 _ _ _ | exact pop_lt31 _ | assumption | exact b31 (hW.gp (by omega)) | exact b31 (hW.ne (by omega)) | exact b31 (hW.op (by omega)) | exact and31 (hW.gp (by omega)) | exact and31 (hW.ne (by omega)) | exact and31 (hW.op (by omega)) | exact and31 (by assumption) | exact and31r (hW.ne (by omega)) | exact and31r (hW.gp (by omega)) | exact and31r (by decide)) (fun c_19 => ?_) (fun c_19 => False.elim (by omega))
      exact mm_rv d_Da_drawDeed_132 (h _ _ hS1 xS_mk (ho' _ _ _ _) f1)
    · rw [if_neg hd0] at h
      have hc := Nat.mod_lt (d16 (nxS (nxS s))) (show 0 < dn D by omega)
      have hj := Nat.mod_lt (d16 (nxS (nxS (nxS s)))) (show 0 < 3 by decide)
      have hkt := kthN_ok (dgp D (d16 (nxS (nxS s)) % dn D)) (hW.gp (by omega)) (hW.2.2.2.2.1 _ hc) _ hj
      have fin : ∀ (e : Nat), e = (if d16 (nxS s) % 8 = 3 then 1 else 0) → ∀ ν3, DaS ν3 i D σ (o, w, m, t, nxS (nxS (nxS s))) → Fr scD μ ν3 → ∀ l2 l3 : Option Value, mm_T X 4 0 0 k_Da_drawDeed 57 [some (.ref 53), some (.int (nI k)), l2, l3] [.int (nI k), .int (nI (kthN (dgp D (d16 (nxS (nxS s)) % dn D)) (d16 (nxS (nxS (nxS s))) % 3))), .int (nI (d16 (nxS (nxS s)) % dn D)), .int (nI e), .ref 53] ν3 (fun v μ' => v = none ∧ q μ') := by
        intro e he ν3 hS3 f3 l2 l3
        have hok := drOk hW hc hj (show e ≤ 1 by rw [he]; split <;> omega)
        rw [← he] at h
        refine mm_v4i d_Da_drawDeed_57 (sk_o_53 hS3.1) (sp_Da_deal hok hS3 hT hW hk (ho' _ _ _ _) (fun σ' hd μ' hS' hf' => ?_) (fun hd => ?_))
        · rw [hd] at h
          refine mm_pop d_Da_drawDeed_60 rfl ?_
          refine mm_goto d_Da_drawDeed_61 ?_
          exact mm_rv d_Da_drawDeed_132 (h _ _ hS' (xS_dlX.trans xS_mk) (dlX_o hk (ho' _ _ _ _)) (f3.trans hf'))
        · rw [hd] at h
          refine mm_pop d_Da_drawDeed_60 rfl ?_
          refine mm_goto d_Da_drawDeed_61 ?_
          exact mm_rv d_Da_drawDeed_132 (h _ _ hS3 xS_mk (ho' _ _ _ _) f3)
      refine mm_ist2 d_Da_drawDeed_6 ?_
      refine mm_iload d_Da_drawDeed_7 rfl ?_
      refine mm_ciN 3 d_Da_drawDeed_8 rfl ?_
      refine mm_icmp_gtN d_Da_drawDeed_9 (by first | omega | exact ite01_lt | exact bt8_lt31 _ _ | exact godB_lt31 _ _ _ | exact pop_lt31 _ | assumption | exact b31 (hW.gp (by omega)) | exact b31 (hW.ne (by omega)) | exact b31 (hW.op (by omega)) | exact and31 (hW.gp (by omega)) | exact and31 (hW.ne (by omega)) | exact and31 (hW.op (by omega)) | exact and31 (by assumption) | exact and31r (hW.ne (by omega)) | exact and31r (hW.gp (by omega)) | exact and31r (by decide)) (by first | omega | exact ite01_lt | exact bt8_lt31 _ _ | exact godB_lt31 _ _ _ | exact pop_lt31 _ | assumption | exact b31 (hW.gp (by omega)) | exact b31 (hW.ne (by omega)) | exact b31 (hW.op (by omega)) | exact and31 (hW.gp (by omega)) | exact and31 (hW.ne (by omega)) | exact and31 (hW.op (by omega)) | exact and31 (by assumption) | exact and31r (hW.ne (by omega)) | exact and31r (hW.gp (by omega)) | exact and31r (by decide)) (fun c_9 => False.elim (by omega)) (fun c_9 => ?_)
      refine mm_aload d_Da_drawDeed_12 rfl ?_
      refine mm_getP d_Da_drawDeed_13 rfl (sk_o_53 hM) hP ?_
      refine mm_getIN d_Da_drawDeed_16 rfl hCD.1.1 hCD.n ?_
      refine mm_if_leN d_Da_drawDeed_19 (by first | omega | exact ite01_lt | exact bt8_lt31 _ _ | exact godB_lt31 _ _ _ | exact pop_lt31 _ | assumption | exact b31 (hW.gp (by omega)) | exact b31 (hW.ne (by omega)) | exact b31 (hW.op (by omega)) | exact and31 (hW.gp (by omega)) | exact and31 (hW.ne (by omega)) | exact and31 (hW.op (by omega)) | exact and31 (by assumption) | exact and31r (hW.ne (by omega)) | exact and31r (hW.gp (by omega)) | exact and31r (by decide)) (fun c_19 => False.elim (by omega)) (fun c_19 => ?_)
      refine mm_aload d_Da_drawDeed_22 rfl ?_
      refine mm_aload d_Da_drawDeed_23 rfl ?_
      refine mm_getP d_Da_drawDeed_24 rfl (sk_o_53 hM) hP ?_
      refine mm_getIN d_Da_drawDeed_27 rfl hCD.1.1 hCD.n ?_
      refine mm_v1i d_Da_drawDeed_30 (sk_o_53 hM) (sp_Da_drawBelow' hS1 (by omega) (by omega) (fun μ2 hS2 f2 => ?_))
      refine mm_ist3 d_Da_drawDeed_33 ?_
      refine mm_aload d_Da_drawDeed_34 rfl ?_
      refine mm_iload d_Da_drawDeed_35 rfl ?_
      refine mm_ciN 3 d_Da_drawDeed_36 rfl ?_
      refine mm_icmp_neN d_Da_drawDeed_37 (by first | omega | exact ite01_lt | exact bt8_lt31 _ _ | exact godB_lt31 _ _ _ | exact pop_lt31 _ | assumption | exact b31 (hW.gp (by omega)) | exact b31 (hW.ne (by omega)) | exact b31 (hW.op (by omega)) | exact and31 (hW.gp (by omega)) | exact and31 (hW.ne (by omega)) | exact and31 (hW.op (by omega)) | exact and31 (by assumption) | exact and31r (hW.ne (by omega)) | exact and31r (hW.gp (by omega)) | exact and31r (by decide)) (by first | omega | exact ite01_lt | exact bt8_lt31 _ _ | exact godB_lt31 _ _ _ | exact pop_lt31 _ | assumption | exact b31 (hW.gp (by omega)) | exact b31 (hW.ne (by omega)) | exact b31 (hW.op (by omega)) | exact and31 (hW.gp (by omega)) | exact and31 (hW.ne (by omega)) | exact and31 (hW.op (by omega)) | exact and31 (by assumption) | exact and31r (hW.ne (by omega)) | exact and31r (hW.gp (by omega)) | exact and31r (by decide)) (fun c_37 => ?_) (fun c_37 => ?_)
      · refine mm_ciN 0 d_Da_drawDeed_44 rfl ?_
        refine mm_iload d_Da_drawDeed_45 rfl ?_
        refine mm_aload d_Da_drawDeed_46 rfl ?_
        refine mm_iload d_Da_drawDeed_47 rfl ?_
        refine mm_aload d_Da_drawDeed_48 rfl ?_
        refine mm_ciN 3 d_Da_drawDeed_49 rfl ?_
        refine mm_v1i d_Da_drawDeed_50 (sk_o_53 hS2.1) (sp_Da_drawBelow' hS2 (by decide) (by decide) (fun μ3 hS3 f3 => ?_))
        refine mm_v2i d_Da_drawDeed_53 (sk_o_53 hS3.1) (sp_Da_godparentAt hS3 hW hc hkt.1 hkt.2.1 hkt.2.2 ?_)
        refine mm_iload d_Da_drawDeed_56 rfl ?_
        first
          | exact fin 0 (by rw [if_neg c_37]) μ3 hS3 ((f1.trans f2).trans f3) _ _
          | exact fin 1 (by rw [if_pos c_37]) μ3 hS3 ((f1.trans f2).trans f3) _ _
      · refine mm_ciN 1 d_Da_drawDeed_40 rfl ?_
        refine mm_goto d_Da_drawDeed_41 ?_
        refine mm_iload d_Da_drawDeed_45 rfl ?_
        refine mm_aload d_Da_drawDeed_46 rfl ?_
        refine mm_iload d_Da_drawDeed_47 rfl ?_
        refine mm_aload d_Da_drawDeed_48 rfl ?_
        refine mm_ciN 3 d_Da_drawDeed_49 rfl ?_
        refine mm_v1i d_Da_drawDeed_50 (sk_o_53 hS2.1) (sp_Da_drawBelow' hS2 (by decide) (by decide) (fun μ3 hS3 f3 => ?_))
        refine mm_v2i d_Da_drawDeed_53 (sk_o_53 hS3.1) (sp_Da_godparentAt hS3 hW hc hkt.1 hkt.2.1 hkt.2.2 ?_)
        refine mm_iload d_Da_drawDeed_56 rfl ?_
        first
          | exact fin 0 (by rw [if_neg c_37]) μ3 hS3 ((f1.trans f2).trans f3) _ _
          | exact fin 1 (by rw [if_pos c_37]) μ3 hS3 ((f1.trans f2).trans f3) _ _
  · rw [if_neg h3] at h
    by_cases h4 : d16 (nxS s) % 8 = 4
    · rw [if_pos h4] at h
      have hx := Nat.mod_lt (d16 (nxS (nxS s))) (show 0 < 8 by decide)
      refine mm_ist2 d_Da_drawDeed_6 ?_
      refine mm_iload d_Da_drawDeed_7 rfl ?_
      refine mm_ciN 3 d_Da_drawDeed_8 rfl ?_
      refine mm_icmp_gtN d_Da_drawDeed_9 (by first | omega | exact ite01_lt | exact bt8_lt31 _ _ | exact godB_lt31 _ _ _ | exact pop_lt31 _ | assumption | exact b31 (hW.gp (by omega)) | exact b31 (hW.ne (by omega)) | exact b31 (hW.op (by omega)) | exact and31 (hW.gp (by omega)) | exact and31 (hW.ne (by omega)) | exact and31 (hW.op (by omega)) | exact and31 (by assumption) | exact and31r (hW.ne (by omega)) | exact and31r (hW.gp (by omega)) | exact and31r (by decide)) (by first | omega | exact ite01_lt | exact bt8_lt31 _ _ | exact godB_lt31 _ _ _ | exact pop_lt31 _ | assumption | exact b31 (hW.gp (by omega)) | exact b31 (hW.ne (by omega)) | exact b31 (hW.op (by omega)) | exact and31 (hW.gp (by omega)) | exact and31 (hW.ne (by omega)) | exact and31 (hW.op (by omega)) | exact and31 (by assumption) | exact and31r (hW.ne (by omega)) | exact and31r (hW.gp (by omega)) | exact and31r (by decide)) (fun c_9 => ?_) (fun c_9 => False.elim (by omega))
      refine mm_iload d_Da_drawDeed_64 rfl ?_
      refine mm_ciN 4 d_Da_drawDeed_65 rfl ?_
      refine mm_icmp_neN d_Da_drawDeed_66 (by first | omega | exact ite01_lt | exact bt8_lt31 _ _ | exact godB_lt31 _ _ _ | exact pop_lt31 _ | assumption | exact b31 (hW.gp (by omega)) | exact b31 (hW.ne (by omega)) | exact b31 (hW.op (by omega)) | exact and31 (hW.gp (by omega)) | exact and31 (hW.ne (by omega)) | exact and31 (hW.op (by omega)) | exact and31 (by assumption) | exact and31r (hW.ne (by omega)) | exact and31r (hW.gp (by omega)) | exact and31r (by decide)) (by first | omega | exact ite01_lt | exact bt8_lt31 _ _ | exact godB_lt31 _ _ _ | exact pop_lt31 _ | assumption | exact b31 (hW.gp (by omega)) | exact b31 (hW.ne (by omega)) | exact b31 (hW.op (by omega)) | exact and31 (hW.gp (by omega)) | exact and31 (hW.ne (by omega)) | exact and31 (hW.op (by omega)) | exact and31 (by assumption) | exact and31r (hW.ne (by omega)) | exact and31r (hW.gp (by omega)) | exact and31r (by decide)) (fun c_66 => False.elim (by omega)) (fun c_66 => ?_)
      refine mm_aload d_Da_drawDeed_69 rfl ?_
      refine mm_ciN 2 d_Da_drawDeed_70 rfl ?_
      refine mm_aload d_Da_drawDeed_71 rfl ?_
      refine mm_ciN 8 d_Da_drawDeed_72 rfl ?_
      refine mm_v1i d_Da_drawDeed_74 (sk_o_53 hM) (sp_Da_drawBelow' hS1 (by omega) (by omega) (fun μ2 hS2 f2 => ?_))
      refine mm_ci d_Da_drawDeed_77 ?_
      refine mm_iload d_Da_drawDeed_78 rfl ?_
      refine mm_v4i d_Da_drawDeed_79 (sk_o_53 hS2.1) (sp_Da_deal (x := d16 (nxS (nxS s)) % 8) (y := 0) (Or.inr (Or.inl ⟨rfl, rfl, hx⟩)) hS2 hT hW hk (ho' _ _ _ _) (fun σ' hd μ' hS' hf' => ?_) (fun hd => ?_))
      · rw [hd] at h
        refine mm_pop d_Da_drawDeed_82 rfl ?_
        refine mm_goto d_Da_drawDeed_83 ?_
        exact mm_rv d_Da_drawDeed_132 (h _ _ hS' (xS_dlX.trans xS_mk) (dlX_o hk (ho' _ _ _ _)) ((f1.trans f2).trans hf'))
      · cases hd
    · rw [if_neg h4] at h
      by_cases h5 : d16 (nxS s) % 8 = 5
      · rw [if_pos h5] at h
        by_cases hd0 : dw D = 0
        · rw [if_pos hd0] at h
          refine mm_ist2 d_Da_drawDeed_6 ?_
          refine mm_iload d_Da_drawDeed_7 rfl ?_
          refine mm_ciN 3 d_Da_drawDeed_8 rfl ?_
          refine mm_icmp_gtN d_Da_drawDeed_9 (by first | omega | exact ite01_lt | exact bt8_lt31 _ _ | exact godB_lt31 _ _ _ | exact pop_lt31 _ | assumption | exact b31 (hW.gp (by omega)) | exact b31 (hW.ne (by omega)) | exact b31 (hW.op (by omega)) | exact and31 (hW.gp (by omega)) | exact and31 (hW.ne (by omega)) | exact and31 (hW.op (by omega)) | exact and31 (by assumption) | exact and31r (hW.ne (by omega)) | exact and31r (hW.gp (by omega)) | exact and31r (by decide)) (by first | omega | exact ite01_lt | exact bt8_lt31 _ _ | exact godB_lt31 _ _ _ | exact pop_lt31 _ | assumption | exact b31 (hW.gp (by omega)) | exact b31 (hW.ne (by omega)) | exact b31 (hW.op (by omega)) | exact and31 (hW.gp (by omega)) | exact and31 (hW.ne (by omega)) | exact and31 (hW.op (by omega)) | exact and31 (by assumption) | exact and31r (hW.ne (by omega)) | exact and31r (hW.gp (by omega)) | exact and31r (by decide)) (fun c_9 => ?_) (fun c_9 => False.elim (by omega))
          refine mm_iload d_Da_drawDeed_64 rfl ?_
          refine mm_ciN 4 d_Da_drawDeed_65 rfl ?_
          refine mm_icmp_neN d_Da_drawDeed_66 (by first | omega | exact ite01_lt | exact bt8_lt31 _ _ | exact godB_lt31 _ _ _ | exact pop_lt31 _ | assumption | exact b31 (hW.gp (by omega)) | exact b31 (hW.ne (by omega)) | exact b31 (hW.op (by omega)) | exact and31 (hW.gp (by omega)) | exact and31 (hW.ne (by omega)) | exact and31 (hW.op (by omega)) | exact and31 (by assumption) | exact and31r (hW.ne (by omega)) | exact and31r (hW.gp (by omega)) | exact and31r (by decide)) (by first | omega | exact ite01_lt | exact bt8_lt31 _ _ | exact godB_lt31 _ _ _ | exact pop_lt31 _ | assumption | exact b31 (hW.gp (by omega)) | exact b31 (hW.ne (by omega)) | exact b31 (hW.op (by omega)) | exact and31 (hW.gp (by omega)) | exact and31 (hW.ne (by omega)) | exact and31 (hW.op (by omega)) | exact and31 (by assumption) | exact and31r (hW.ne (by omega)) | exact and31r (hW.gp (by omega)) | exact and31r (by decide)) (fun c_66 => ?_) (fun c_66 => False.elim (by omega))
          refine mm_iload d_Da_drawDeed_86 rfl ?_
          refine mm_ciN 5 d_Da_drawDeed_87 rfl ?_
          refine mm_icmp_neN d_Da_drawDeed_88 (by first | omega | exact ite01_lt | exact bt8_lt31 _ _ | exact godB_lt31 _ _ _ | exact pop_lt31 _ | assumption | exact b31 (hW.gp (by omega)) | exact b31 (hW.ne (by omega)) | exact b31 (hW.op (by omega)) | exact and31 (hW.gp (by omega)) | exact and31 (hW.ne (by omega)) | exact and31 (hW.op (by omega)) | exact and31 (by assumption) | exact and31r (hW.ne (by omega)) | exact and31r (hW.gp (by omega)) | exact and31r (by decide)) (by first | omega | exact ite01_lt | exact bt8_lt31 _ _ | exact godB_lt31 _ _ _ | exact pop_lt31 _ | assumption | exact b31 (hW.gp (by omega)) | exact b31 (hW.ne (by omega)) | exact b31 (hW.op (by omega)) | exact and31 (hW.gp (by omega)) | exact and31 (hW.ne (by omega)) | exact and31 (hW.op (by omega)) | exact and31 (by assumption) | exact and31r (hW.ne (by omega)) | exact and31r (hW.gp (by omega)) | exact and31r (by decide)) (fun c_88 => False.elim (by omega)) (fun c_88 => ?_)
          refine mm_aload d_Da_drawDeed_91 rfl ?_
          refine mm_getP d_Da_drawDeed_92 rfl (sk_o_53 hM) hP ?_
          refine mm_getIN d_Da_drawDeed_95 rfl hCD.1.1 hCD.w ?_
          refine mm_if_leN d_Da_drawDeed_98 (by first | omega | exact ite01_lt | exact bt8_lt31 _ _ | exact godB_lt31 _ _ _ | exact pop_lt31 _ | assumption | exact b31 (hW.gp (by omega)) | exact b31 (hW.ne (by omega)) | exact b31 (hW.op (by omega)) | exact and31 (hW.gp (by omega)) | exact and31 (hW.ne (by omega)) | exact and31 (hW.op (by omega)) | exact and31 (by assumption) | exact and31r (hW.ne (by omega)) | exact and31r (hW.gp (by omega)) | exact and31r (by decide)) (fun c_98 => ?_) (fun c_98 => False.elim (by omega))
          exact mm_rv d_Da_drawDeed_132 (h _ _ hS1 xS_mk (ho' _ _ _ _) f1)
        · rw [if_neg hd0] at h
          have hx := Nat.mod_lt (d16 (nxS (nxS s))) (show 0 < dw D by omega)
          refine mm_ist2 d_Da_drawDeed_6 ?_
          refine mm_iload d_Da_drawDeed_7 rfl ?_
          refine mm_ciN 3 d_Da_drawDeed_8 rfl ?_
          refine mm_icmp_gtN d_Da_drawDeed_9 (by first | omega | exact ite01_lt | exact bt8_lt31 _ _ | exact godB_lt31 _ _ _ | exact pop_lt31 _ | assumption | exact b31 (hW.gp (by omega)) | exact b31 (hW.ne (by omega)) | exact b31 (hW.op (by omega)) | exact and31 (hW.gp (by omega)) | exact and31 (hW.ne (by omega)) | exact and31 (hW.op (by omega)) | exact and31 (by assumption) | exact and31r (hW.ne (by omega)) | exact and31r (hW.gp (by omega)) | exact and31r (by decide)) (by first | omega | exact ite01_lt | exact bt8_lt31 _ _ | exact godB_lt31 _ _ _ | exact pop_lt31 _ | assumption | exact b31 (hW.gp (by omega)) | exact b31 (hW.ne (by omega)) | exact b31 (hW.op (by omega)) | exact and31 (hW.gp (by omega)) | exact and31 (hW.ne (by omega)) | exact and31 (hW.op (by omega)) | exact and31 (by assumption) | exact and31r (hW.ne (by omega)) | exact and31r (hW.gp (by omega)) | exact and31r (by decide)) (fun c_9 => ?_) (fun c_9 => False.elim (by omega))
          refine mm_iload d_Da_drawDeed_64 rfl ?_
          refine mm_ciN 4 d_Da_drawDeed_65 rfl ?_
          refine mm_icmp_neN d_Da_drawDeed_66 (by first | omega | exact ite01_lt | exact bt8_lt31 _ _ | exact godB_lt31 _ _ _ | exact pop_lt31 _ | assumption | exact b31 (hW.gp (by omega)) | exact b31 (hW.ne (by omega)) | exact b31 (hW.op (by omega)) | exact and31 (hW.gp (by omega)) | exact and31 (hW.ne (by omega)) | exact and31 (hW.op (by omega)) | exact and31 (by assumption) | exact and31r (hW.ne (by omega)) | exact and31r (hW.gp (by omega)) | exact and31r (by decide)) (by first | omega | exact ite01_lt | exact bt8_lt31 _ _ | exact godB_lt31 _ _ _ | exact pop_lt31 _ | assumption | exact b31 (hW.gp (by omega)) | exact b31 (hW.ne (by omega)) | exact b31 (hW.op (by omega)) | exact and31 (hW.gp (by omega)) | exact and31 (hW.ne (by omega)) | exact and31 (hW.op (by omega)) | exact and31 (by assumption) | exact and31r (hW.ne (by omega)) | exact and31r (hW.gp (by omega)) | exact and31r (by decide)) (fun c_66 => ?_) (fun c_66 => False.elim (by omega))
          refine mm_iload d_Da_drawDeed_86 rfl ?_
          refine mm_ciN 5 d_Da_drawDeed_87 rfl ?_
          refine mm_icmp_neN d_Da_drawDeed_88 (by first | omega | exact ite01_lt | exact bt8_lt31 _ _ | exact godB_lt31 _ _ _ | exact pop_lt31 _ | assumption | exact b31 (hW.gp (by omega)) | exact b31 (hW.ne (by omega)) | exact b31 (hW.op (by omega)) | exact and31 (hW.gp (by omega)) | exact and31 (hW.ne (by omega)) | exact and31 (hW.op (by omega)) | exact and31 (by assumption) | exact and31r (hW.ne (by omega)) | exact and31r (hW.gp (by omega)) | exact and31r (by decide)) (by first | omega | exact ite01_lt | exact bt8_lt31 _ _ | exact godB_lt31 _ _ _ | exact pop_lt31 _ | assumption | exact b31 (hW.gp (by omega)) | exact b31 (hW.ne (by omega)) | exact b31 (hW.op (by omega)) | exact and31 (hW.gp (by omega)) | exact and31 (hW.ne (by omega)) | exact and31 (hW.op (by omega)) | exact and31 (by assumption) | exact and31r (hW.ne (by omega)) | exact and31r (hW.gp (by omega)) | exact and31r (by decide)) (fun c_88 => False.elim (by omega)) (fun c_88 => ?_)
          refine mm_aload d_Da_drawDeed_91 rfl ?_
          refine mm_getP d_Da_drawDeed_92 rfl (sk_o_53 hM) hP ?_
          refine mm_getIN d_Da_drawDeed_95 rfl hCD.1.1 hCD.w ?_
          refine mm_if_leN d_Da_drawDeed_98 (by first | omega | exact ite01_lt | exact bt8_lt31 _ _ | exact godB_lt31 _ _ _ | exact pop_lt31 _ | assumption | exact b31 (hW.gp (by omega)) | exact b31 (hW.ne (by omega)) | exact b31 (hW.op (by omega)) | exact and31 (hW.gp (by omega)) | exact and31 (hW.ne (by omega)) | exact and31 (hW.op (by omega)) | exact and31 (by assumption) | exact and31r (hW.ne (by omega)) | exact and31r (hW.gp (by omega)) | exact and31r (by decide)) (fun c_98 => False.elim (by omega)) (fun c_98 => ?_)
          refine mm_aload d_Da_drawDeed_101 rfl ?_
          refine mm_ciN 3 d_Da_drawDeed_102 rfl ?_
          refine mm_aload d_Da_drawDeed_103 rfl ?_
          refine mm_aload d_Da_drawDeed_104 rfl ?_
          refine mm_getP d_Da_drawDeed_105 rfl (sk_o_53 hM) hP ?_
          refine mm_getIN d_Da_drawDeed_108 rfl hCD.1.1 hCD.w ?_
          refine mm_v1i d_Da_drawDeed_111 (sk_o_53 hM) (sp_Da_drawBelow' hS1 (by omega) (by omega) (fun μ2 hS2 f2 => ?_))
          refine mm_ci d_Da_drawDeed_114 ?_
          refine mm_iload d_Da_drawDeed_115 rfl ?_
          refine mm_v4i d_Da_drawDeed_116 (sk_o_53 hS2.1) (sp_Da_deal (x := d16 (nxS (nxS s)) % dw D) (y := 0) (Or.inr (Or.inr (Or.inl ⟨rfl, rfl, by omega⟩))) hS2 hT hW hk (ho' _ _ _ _) (fun σ' hd μ' hS' hf' => ?_) (fun hd => ?_))
          · rw [hd] at h
            refine mm_pop d_Da_drawDeed_119 rfl ?_
            refine mm_goto d_Da_drawDeed_120 ?_
            exact mm_rv d_Da_drawDeed_132 (h _ _ hS' (xS_dlX.trans xS_mk) (dlX_o hk (ho' _ _ _ _)) ((f1.trans f2).trans hf'))
          · rw [hd] at h
            refine mm_pop d_Da_drawDeed_119 rfl ?_
            refine mm_goto d_Da_drawDeed_120 ?_
            exact mm_rv d_Da_drawDeed_132 (h _ _ hS2 xS_mk (ho' _ _ _ _) (f1.trans f2))
      · rw [if_neg h5] at h
        refine mm_ist2 d_Da_drawDeed_6 ?_
        refine mm_iload d_Da_drawDeed_7 rfl ?_
        refine mm_ciN 3 d_Da_drawDeed_8 rfl ?_
        refine mm_icmp_gtN d_Da_drawDeed_9 (by first | omega | exact ite01_lt | exact bt8_lt31 _ _ | exact godB_lt31 _ _ _ | exact pop_lt31 _ | assumption | exact b31 (hW.gp (by omega)) | exact b31 (hW.ne (by omega)) | exact b31 (hW.op (by omega)) | exact and31 (hW.gp (by omega)) | exact and31 (hW.ne (by omega)) | exact and31 (hW.op (by omega)) | exact and31 (by assumption) | exact and31r (hW.ne (by omega)) | exact and31r (hW.gp (by omega)) | exact and31r (by decide)) (by first | omega | exact ite01_lt | exact bt8_lt31 _ _ | exact godB_lt31 _ _ _ | exact pop_lt31 _ | assumption | exact b31 (hW.gp (by omega)) | exact b31 (hW.ne (by omega)) | exact b31 (hW.op (by omega)) | exact and31 (hW.gp (by omega)) | exact and31 (hW.ne (by omega)) | exact and31 (hW.op (by omega)) | exact and31 (by assumption) | exact and31r (hW.ne (by omega)) | exact and31r (hW.gp (by omega)) | exact and31r (by decide)) (fun c_9 => ?_) (fun c_9 => False.elim (by omega))
        refine mm_iload d_Da_drawDeed_64 rfl ?_
        refine mm_ciN 4 d_Da_drawDeed_65 rfl ?_
        refine mm_icmp_neN d_Da_drawDeed_66 (by first | omega | exact ite01_lt | exact bt8_lt31 _ _ | exact godB_lt31 _ _ _ | exact pop_lt31 _ | assumption | exact b31 (hW.gp (by omega)) | exact b31 (hW.ne (by omega)) | exact b31 (hW.op (by omega)) | exact and31 (hW.gp (by omega)) | exact and31 (hW.ne (by omega)) | exact and31 (hW.op (by omega)) | exact and31 (by assumption) | exact and31r (hW.ne (by omega)) | exact and31r (hW.gp (by omega)) | exact and31r (by decide)) (by first | omega | exact ite01_lt | exact bt8_lt31 _ _ | exact godB_lt31 _ _ _ | exact pop_lt31 _ | assumption | exact b31 (hW.gp (by omega)) | exact b31 (hW.ne (by omega)) | exact b31 (hW.op (by omega)) | exact and31 (hW.gp (by omega)) | exact and31 (hW.ne (by omega)) | exact and31 (hW.op (by omega)) | exact and31 (by assumption) | exact and31r (hW.ne (by omega)) | exact and31r (hW.gp (by omega)) | exact and31r (by decide)) (fun c_66 => ?_) (fun c_66 => False.elim (by omega))
        refine mm_iload d_Da_drawDeed_86 rfl ?_
        refine mm_ciN 5 d_Da_drawDeed_87 rfl ?_
        refine mm_icmp_neN d_Da_drawDeed_88 (by first | omega | exact ite01_lt | exact bt8_lt31 _ _ | exact godB_lt31 _ _ _ | exact pop_lt31 _ | assumption | exact b31 (hW.gp (by omega)) | exact b31 (hW.ne (by omega)) | exact b31 (hW.op (by omega)) | exact and31 (hW.gp (by omega)) | exact and31 (hW.ne (by omega)) | exact and31 (hW.op (by omega)) | exact and31 (by assumption) | exact and31r (hW.ne (by omega)) | exact and31r (hW.gp (by omega)) | exact and31r (by decide)) (by first | omega | exact ite01_lt | exact bt8_lt31 _ _ | exact godB_lt31 _ _ _ | exact pop_lt31 _ | assumption | exact b31 (hW.gp (by omega)) | exact b31 (hW.ne (by omega)) | exact b31 (hW.op (by omega)) | exact and31 (hW.gp (by omega)) | exact and31 (hW.ne (by omega)) | exact and31 (hW.op (by omega)) | exact and31 (by assumption) | exact and31r (hW.ne (by omega)) | exact and31r (hW.gp (by omega)) | exact and31r (by decide)) (fun c_88 => ?_) (fun c_88 => False.elim (by omega))
        refine mm_aload d_Da_drawDeed_123 rfl ?_
        refine mm_ciN 4 d_Da_drawDeed_124 rfl ?_
        refine mm_ci d_Da_drawDeed_125 ?_
        refine mm_ci d_Da_drawDeed_126 ?_
        refine mm_iload d_Da_drawDeed_127 rfl ?_
        refine mm_v4i d_Da_drawDeed_128 (sk_o_53 hM) (sp_Da_deal (x := 0) (y := 0) (Or.inr (Or.inr (Or.inr rfl))) hS1 hT hW hk (ho' _ _ _ _) (fun σ' hd μ' hS' hf' => ?_) (fun hd => ?_))
        · rw [hd] at h
          refine mm_pop d_Da_drawDeed_131 rfl ?_
          exact mm_rv d_Da_drawDeed_132 (h _ _ hS' (xS_dlX.trans xS_mk) (dlX_o hk (ho' _ _ _ _)) (f1.trans hf'))
        · cases hd
