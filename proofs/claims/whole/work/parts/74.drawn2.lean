/-! pair: drawn -/
def drK (D : mm_D) (s : Int32) : Nat → mm_S × Int32
  | 0 => (S0, s)
  | k + 1 => dr D (drK D s k).1 (drK D s k).2
theorem drK_wf {D : mm_D} (hW : WfD D) (s : Int32) : ∀ k, WfS (drK D s k).1 ∧ WfL D (drK D s k).1
  | 0 => S0_wf D
  | k + 1 => dr_wf hW (drK_wf hW s k) _
theorem sp_Da_draw {X : mm_X} {μ : mm_M} {q : mm_M → Prop} {i n : Nat} {s : Int32} {D : mm_D} (hM : SK μ) (hi2 : i < 2) (hCD : CoD μ (4 + 7 * i) D) (hW : WfD D) (hn : n ≤ 60) (h : ∀ μ' ξ, DaS μ' i D (drK D s n).1 ξ → Fr scD μ μ' → q μ') : mm_Cv X 5 0 0 k_Da_draw [.ref 53, .ref (4 + 7 * i), .int s, .int (nI n)] μ q := by
  show mm_T X 5 0 0 k_Da_draw 0 [some (.ref 53), some (.ref (4 + 7 * i)), some (.int s), some (.int (nI n)), none] [] μ _
  refine mm_aload d_Da_draw_0 rfl ?_
  refine mm_aload d_Da_draw_1 rfl ?_
  refine mm_v1v d_Da_draw_2 (sk_o_53 hM) (sp_Da_begin hM hi2 hCD (fun ν0 hS0 f0 => ?_))
  have hM0 := hS0.1
  refine mm_aload d_Da_draw_5 rfl ?_
  refine mm_iload d_Da_draw_6 rfl ?_
  refine mm_putI d_Da_draw_7 rfl (sk_o_53 hM0) (Or.inl rfl) ?_
  refine mm_ciN 0 d_Da_draw_10 rfl ?_
  refine mm_ist4 d_Da_draw_11 ?_
  have F1 := DaF.zS (I' := mm_I (mm_sI ν0 53 13 s)) hS0.2.2.2.2 (fun b j => mm_I_sI)
  have f1 : Fr scD ν0 (mm_sI ν0 53 13 s) := Fr.rf.sI rfl
  refine mm_up (P := fun k => ∀ ν ξ, DaS ν i D (drK D s k).1 ξ → xS ξ = (drK D s k).2 → (∀ e, xO ξ = some e → e < 2 ^ 31) → Fr scD μ ν → mm_T X _ 0 0 k_Da_draw 13 [some (.ref 53), some (.ref (4 + 7 * i)), some (.int s), some (.int (nI n)), some (.int (nI k))] [] ν _) n ?_ (fun k hk ih => ?_) _ (none, none, 0, 0, s) ⟨hM0, hi2, hS0.2.2.1.frD f1 hi2, hS0.2.2.2.1, F1⟩ rfl (fun e he => by cases he) (f0.trans f1)
  · intro ν ξ hS hx ho hf
    refine mm_iload d_Da_draw_13 rfl ?_
    refine mm_iload d_Da_draw_15 rfl ?_
    refine mm_icmp_geN d_Da_draw_16 (by first | omega | exact ite01_lt | exact bt8_lt31 _ _ | exact godB_lt31 _ _ _ | exact pop_lt31 _ | assumption | exact b31 (hW.gp (by omega)) | exact b31 (hW.ne (by omega)) | exact b31 (hW.op (by omega)) | exact and31 (hW.gp (by omega)) | exact and31 (hW.ne (by omega)) | exact and31 (hW.op (by omega)) | exact and31 (by assumption) | exact and31r (hW.ne (by omega)) | exact and31r (hW.gp (by omega)) | exact and31r (by decide)) (by first | omega | exact ite01_lt | exact bt8_lt31 _ _ | exact godB_lt31 _ _ _ | exact pop_lt31 _ | assumption | exact b31 (hW.gp (by omega)) | exact b31 (hW.ne (by omega)) | exact b31 (hW.op (by omega)) | exact and31 (hW.gp (by omega)) | exact and31 (hW.ne (by omega)) | exact and31 (hW.op (by omega)) | exact and31 (by assumption) | exact and31r (hW.ne (by omega)) | exact and31r (hW.gp (by omega)) | exact and31r (by decide)) (fun c_16 => ?_) (fun c_16 => False.elim (by omega))
    exact mm_rv d_Da_draw_31 (h ν ξ hS hf)
  · intro ν ξ hS hx ho hf
    have hM := hS.1
    refine mm_iload d_Da_draw_13 rfl ?_
    refine mm_iload d_Da_draw_15 rfl ?_
    refine mm_icmp_geN d_Da_draw_16 (by first | omega | exact ite01_lt | exact bt8_lt31 _ _ | exact godB_lt31 _ _ _ | exact pop_lt31 _ | assumption | exact b31 (hW.gp (by omega)) | exact b31 (hW.ne (by omega)) | exact b31 (hW.op (by omega)) | exact and31 (hW.gp (by omega)) | exact and31 (hW.ne (by omega)) | exact and31 (hW.op (by omega)) | exact and31 (by assumption) | exact and31r (hW.ne (by omega)) | exact and31r (hW.gp (by omega)) | exact and31r (by decide)) (by first | omega | exact ite01_lt | exact bt8_lt31 _ _ | exact godB_lt31 _ _ _ | exact pop_lt31 _ | assumption | exact b31 (hW.gp (by omega)) | exact b31 (hW.ne (by omega)) | exact b31 (hW.op (by omega)) | exact and31 (hW.gp (by omega)) | exact and31 (hW.ne (by omega)) | exact and31 (hW.op (by omega)) | exact and31 (by assumption) | exact and31r (hW.ne (by omega)) | exact and31r (hW.gp (by omega)) | exact and31r (by decide)) (fun c_16 => False.elim (by omega)) (fun c_16 => ?_)
    refine mm_aload d_Da_draw_19 rfl ?_
    refine mm_iload d_Da_draw_20 rfl ?_
    refine mm_v1v d_Da_draw_22 (sk_o_53 hM) (sp_Da_drawDeed hS (drK_wf hW s k) hW (by omega) ho (fun μ' ξ' hS' hx' ho' hf' => ?_))
    rw [hx] at hS' hx'
    refine mm_inc4N d_Da_draw_25 ?_
    refine mm_goto d_Da_draw_28 ?_
    exact ih μ' ξ' hS' hx' ho' (hf.trans hf')
theorem MoS.s71 {μ : mm_M} {k j : Nat} {D : mm_D} {σ : mm_S} {x : Int32} (h : MoS μ k D σ) (hj : 29 < j) : MoS (mm_sI μ 71 j x) k D σ := by
  refine ⟨h.1.s71 (by omega), ?_⟩
  obtain ⟨h1, h2, h3, h4, h5, h6, h7, h8⟩ := h.2
  exact ⟨by rw [mm_I_sI, if_neg (by omega)]; exact h1, by rw [mm_I_sI, if_neg (by omega)]; exact h2, by rw [mm_I_sI, if_neg (by omega)]; exact h3, by rw [mm_I_sI, if_neg (by omega)]; exact h4, by rw [mm_I_sI, if_neg (by omega)]; exact h5, fun p hp => by rw [mm_I_sI, if_neg (by omega)]; exact h6 p hp, fun p hp => by rw [mm_I_sI, if_neg (by omega)]; exact h7 p hp, fun p hp => by rw [mm_I_sI, if_neg (by omega)]; exact h8 p hp⟩
theorem sp_M_draw {X : mm_X} {μ : mm_M} {q : Int32 → mm_M → Prop} {k n : Nat} {D : mm_D} {σ : mm_S} {s : Int32} (hS : MoS μ k D σ) (hs : mm_I μ 71 44 = s) (hn0 : 0 < n) (hn : n < 2 ^ 31) (h : ∀ μ', MoS μ' k D σ → mm_I μ' 71 44 = nxS s → Fr scM μ μ' → q (nI (d16 (nxS s) % n)) μ') : mm_Ci X 0 0 0 k_M_draw [.ref 71, .int (nI n)] μ q := by
  show mm_T X 0 0 0 k_M_draw 0 [some (.ref 71), some (.int (nI n))] [] μ _
  have hM := hS.1.1
  have hd := d16_lt (nxS s)
  have hs2 : mm_I (mm_sI μ 71 44 (nxS s)) 71 44 = nxS s := by rw [mm_I_sI, if_pos ⟨rfl, rfl⟩]
  refine mm_aload d_M_draw_0 rfl ?_
  refine mm_aload d_M_draw_1 rfl ?_
  refine mm_getIV d_M_draw_2 rfl (sk_o_71 hM) hs ?_
  refine mm_ciN 1103515245 d_M_draw_5 rfl ?_
  refine mm_imul d_M_draw_8 ?_
  refine mm_ciN 12345 d_M_draw_9 rfl ?_
  refine mm_iadd d_M_draw_12 ?_
  refine mm_putI d_M_draw_13 rfl (sk_o_71 hM) (Or.inl rfl) ?_
  refine mm_aload d_M_draw_16 rfl ?_
  refine mm_getIV d_M_draw_17 rfl (sk_o_71 hM) hs2 ?_
  refine mm_ciN 16 d_M_draw_20 rfl ?_
  refine mm_iushr d_M_draw_22 ?_
  rw [d16_u]
  refine mm_iload d_M_draw_23 rfl ?_
  refine mm_iremN d_M_draw_24 (by first | omega | exact ite01_lt | exact bt8_lt31 _ _ | exact godB_lt31 _ _ _ | exact pop_lt31 _ | assumption | exact b31 (hW.gp (by omega)) | exact b31 (hW.ne (by omega)) | exact b31 (hW.op (by omega)) | exact and31 (hW.gp (by omega)) | exact and31 (hW.ne (by omega)) | exact and31 (hW.op (by omega)) | exact and31 (by assumption) | exact and31r (hW.ne (by omega)) | exact and31r (hW.gp (by omega)) | exact and31r (by decide)) (by omega) (by omega) ?_
  exact mm_ri d_M_draw_25 (h _ (hS.s71 (by decide)) hs2 (Fr.rf.sI rfl))
theorem sp_M_drawDeed {X : mm_X} {μ : mm_M} {q : mm_M → Prop} {k : Nat} {D : mm_D} {σ : mm_S} {s : Int32} (hS : MoS μ k D σ) (hT : WfS σ ∧ WfL D σ) (hs : mm_I μ 71 44 = s) (h : ∀ μ', MoS μ' k D (dr D σ s).1 → mm_I μ' 71 44 = (dr D σ s).2 → Fr scM μ μ' → q μ') : mm_Cv X 4 0 0 k_M_drawDeed [.ref 71] μ q := by
  show mm_T X 4 0 0 k_M_drawDeed 0 [some (.ref 71), none, none] [] μ _
  have hM0 := hS.1.1
  have hW := hS.1.wf
  have h6 := hW.1
  have h6' := hW.2.1
  refine mm_aload d_M_drawDeed_0 rfl ?_
  refine mm_ciN 8 d_M_drawDeed_1 rfl ?_
  refine mm_v1i d_M_drawDeed_3 (sk_o_71 hM0) (sp_M_draw hS hs (by decide) (by decide) (fun μ1 hS1 hs1 f1 => ?_))
  have hH := hS1.1
  have hM := hH.1
  unfold dr at h
  by_cases h3 : d16 (nxS s) % 8 ≤ 3
  · rw [if_pos h3] at h
    by_cases hd0 : dn D = 0
    · rw [if_pos hd0] at h
      refine mm_ist1 d_M_drawDeed_6 ?_
      refine mm_iload d_M_drawDeed_7 rfl ?_
      refine mm_ciN 5 d_M_drawDeed_8 rfl ?_
      refine mm_icmp_leN d_M_drawDeed_9 (by first | omega | exact ite01_lt | exact bt8_lt31 _ _ | exact godB_lt31 _ _ _ | exact pop_lt31 _ | assumption | exact b31 (hW.gp (by omega)) | exact b31 (hW.ne (by omega)) | exact b31 (hW.op (by omega)) | exact and31 (hW.gp (by omega)) | exact and31 (hW.ne (by omega)) | exact and31 (hW.op (by omega)) | exact and31 (by assumption) | exact and31r (hW.ne (by omega)) | exact and31r (hW.gp (by omega)) | exact and31r (by decide)) (by first | omega | exact ite01_lt | exact bt8_lt31 _ _ | exact godB_lt31 _ _ _ | exact pop_lt31 _ | assumption | exact b31 (hW.gp (by omega)) | exact b31 (hW.ne (by omega)) | exact b31 (hW.op (by omega)) | exact and31 (hW.gp (by omega)) | exact and31 (hW.ne (by omega)) | exact and31 (hW.op (by omega)) | exact and31 (by assumption) | exact and31r (hW.ne (by omega)) | exact and31r (hW.gp (by omega)) | exact and31r (by decide)) (fun c_9 => ?_) (fun c_9 => False.elim (by omega))
      refine mm_iload d_M_drawDeed_19 rfl ?_
      refine mm_ciN 4 d_M_drawDeed_20 rfl ?_
      refine mm_icmp_neN d_M_drawDeed_21 (by first | omega | exact ite01_lt | exact bt8_lt31 _ _ | exact godB_lt31 _ _ _ | exact pop_lt31 _ | assumption | exact b31 (hW.gp (by omega)) | exact b31 (hW.ne (by omega)) | exact b31 (hW.op (by omega)) | exact and31 (hW.gp (by omega)) | exact and31 (hW.ne (by omega)) | exact and31 (hW.op (by omega)) | exact and31 (by assumption) | exact and31r (hW.ne (by omega)) | exact and31r (hW.gp (by omega)) | exact and31r (by decide)) (by first | omega | exact ite01_lt | exact bt8_lt31 _ _ | exact godB_lt31 _ _ _ | exact pop_lt31 _ | assumption | exact b31 (hW.gp (by omega)) | exact b31 (hW.ne (by omega)) | exact b31 (hW.op (by omega)) | exact and31 (hW.gp (by omega)) | exact and31 (hW.ne (by omega)) | exact and31 (hW.op (by omega)) | exact and31 (by assumption) | exact and31r (hW.ne (by omega)) | exact and31r (hW.gp (by omega)) | exact and31r (by decide)) (fun c_21 => ?_) (fun c_21 => False.elim (by omega))
      refine mm_iload d_M_drawDeed_40 rfl ?_
      refine mm_ciN 5 d_M_drawDeed_41 rfl ?_
      refine mm_icmp_neN d_M_drawDeed_42 (by first | omega | exact ite01_lt | exact bt8_lt31 _ _ | exact godB_lt31 _ _ _ | exact pop_lt31 _ | assumption | exact b31 (hW.gp (by omega)) | exact b31 (hW.ne (by omega)) | exact b31 (hW.op (by omega)) | exact and31 (hW.gp (by omega)) | exact and31 (hW.ne (by omega)) | exact and31 (hW.op (by omega)) | exact and31 (by assumption) | exact and31r (hW.ne (by omega)) | exact and31r (hW.gp (by omega)) | exact and31r (by decide)) (by first | omega | exact ite01_lt | exact bt8_lt31 _ _ | exact godB_lt31 _ _ _ | exact pop_lt31 _ | assumption | exact b31 (hW.gp (by omega)) | exact b31 (hW.ne (by omega)) | exact b31 (hW.op (by omega)) | exact and31 (hW.gp (by omega)) | exact and31 (hW.ne (by omega)) | exact and31 (hW.op (by omega)) | exact and31 (by assumption) | exact and31r (hW.ne (by omega)) | exact and31r (hW.gp (by omega)) | exact and31r (by decide)) (fun c_42 => ?_) (fun c_42 => False.elim (by omega))
      refine mm_iload d_M_drawDeed_70 rfl ?_
      refine mm_ciN 4 d_M_drawDeed_71 rfl ?_
      refine mm_icmp_geN d_M_drawDeed_72 (by first | omega | exact ite01_lt | exact bt8_lt31 _ _ | exact godB_lt31 _ _ _ | exact pop_lt31 _ | assumption | exact b31 (hW.gp (by omega)) | exact b31 (hW.ne (by omega)) | exact b31 (hW.op (by omega)) | exact and31 (hW.gp (by omega)) | exact and31 (hW.ne (by omega)) | exact and31 (hW.op (by omega)) | exact and31 (by assumption) | exact and31r (hW.ne (by omega)) | exact and31r (hW.gp (by omega)) | exact and31r (by decide)) (by first | omega | exact ite01_lt | exact bt8_lt31 _ _ | exact godB_lt31 _ _ _ | exact pop_lt31 _ | assumption | exact b31 (hW.gp (by omega)) | exact b31 (hW.ne (by omega)) | exact b31 (hW.op (by omega)) | exact and31 (hW.gp (by omega)) | exact and31 (hW.ne (by omega)) | exact and31 (hW.op (by omega)) | exact and31 (by assumption) | exact and31r (hW.ne (by omega)) | exact and31r (hW.gp (by omega)) | exact and31r (by decide)) (fun c_72 => False.elim (by omega)) (fun c_72 => ?_)
      refine mm_aload d_M_drawDeed_75 rfl ?_
      refine mm_getIN d_M_drawDeed_76 rfl (sk_o_71 hM) hH.n ?_
      refine mm_if_leN d_M_drawDeed_79 (by first | omega | exact ite01_lt | exact bt8_lt31 _ _ | exact godB_lt31 _ _ _ | exact pop_lt31 _ | assumption | exact b31 (hW.gp (by omega)) | exact b31 (hW.ne (by omega)) | exact b31 (hW.op (by omega)) | exact and31 (hW.gp (by omega)) | exact and31 (hW.ne (by omega)) | exact and31 (hW.op (by omega)) | exact and31 (by assumption) | exact and31r (hW.ne (by omega)) | exact and31r (hW.gp (by omega)) | exact and31r (by decide)) (fun c_79 => ?_) (fun c_79 => False.elim (by omega))
      exact mm_rv d_M_drawDeed_121 (h _ hS1 hs1 f1)
    · rw [if_neg hd0] at h
      have hc := Nat.mod_lt (d16 (nxS (nxS s))) (show 0 < dn D by omega)
      have hj := Nat.mod_lt (d16 (nxS (nxS (nxS s)))) (show 0 < 3 by decide)
      have hkt := kthN_ok (dgp D (d16 (nxS (nxS s)) % dn D)) (hW.gp (by omega)) (hW.2.2.2.2.1 _ hc) _ hj
      have fin : ∀ (e : Nat), e = (if d16 (nxS s) % 8 = 3 then 1 else 0) → ∀ ν3, MoS ν3 k D σ → mm_I ν3 71 44 = nxS (nxS (nxS s)) → Fr scM μ ν3 → ∀ l1 l2 : Option Value, mm_T X 4 0 0 k_M_drawDeed 117 [some (.ref 71), l1, l2] [.int (nI (kthN (dgp D (d16 (nxS (nxS s)) % dn D)) (d16 (nxS (nxS (nxS s))) % 3))), .int (nI (d16 (nxS (nxS s)) % dn D)), .int (nI e), .ref 71] ν3 (fun v μ' => v = none ∧ q μ') := by
        intro e he ν3 hS3 hs3 f3 l1 l2
        have hok := drOk hW hc hj (show e ≤ 1 by rw [he]; split <;> omega)
        rw [← he] at h
        refine mm_v3i d_M_drawDeed_117 (sk_o_71 hS3.1.1) (sp_M_does hok hS3 hT (fun σ' hd μ' hS' hm => ?_) (fun hd => ?_))
        · rw [hd] at h
          refine mm_pop d_M_drawDeed_120 rfl ?_
          exact mm_rv d_M_drawDeed_121 (h _ hS' ((hm.2 44 (by decide)).trans hs3) (f3.trans hm.1))
        · rw [hd] at h
          refine mm_pop d_M_drawDeed_120 rfl ?_
          exact mm_rv d_M_drawDeed_121 (h _ hS3 hs3 f3)
      refine mm_ist1 d_M_drawDeed_6 ?_
      refine mm_iload d_M_drawDeed_7 rfl ?_
      refine mm_ciN 5 d_M_drawDeed_8 rfl ?_
      refine mm_icmp_leN d_M_drawDeed_9 (by first | omega | exact ite01_lt | exact bt8_lt31 _ _ | exact godB_lt31 _ _ _ | exact pop_lt31 _ | assumption | exact b31 (hW.gp (by omega)) | exact b31 (hW.ne (by omega)) | exact b31 (hW.op (by omega)) | exact and31 (hW.gp (by omega)) | exact and31 (hW.ne (by omega)) | exact and31 (hW.op (by omega)) | exact and31 (by assumption) | exact and31r (hW.ne (by omega)) | exact and31r (hW.gp (by omega)) | exact and31r (by decide)) (by first | omega | exact ite01_lt | exact bt8_lt31 _ _ | exact godB_lt31 _ _ _ | exact pop_lt31 _ | assumption | exact b31 (hW.gp (by omega)) | exact b31 (hW.ne (by omega)) | exact b31 (hW.op (by omega)) | exact and31 (hW.gp (by omega)) | exact and31 (hW.ne (by omega)) | exact and31 (hW.op (by omega)) | exact and31 (by assumption) | exact and31r (hW.ne (by omega)) | exact and31r (hW.gp (by omega)) | exact and31r (by decide)) (fun c_9 => ?_) (fun c_9 => False.elim (by omega))
      refine mm_iload d_M_drawDeed_19 rfl ?_
      refine mm_ciN 4 d_M_drawDeed_20 rfl ?_
      refine mm_icmp_neN d_M_drawDeed_21 (by first | omega | exact ite01_lt | exact bt8_lt31 _ _ | exact godB_lt31 _ _ _ | exact pop_lt31 _ | assumption | exact b31 (hW.gp (by omega)) | exact b31 (hW.ne (by omega)) | exact b31 (hW.op (by omega)) | exact and31 (hW.gp (by omega)) | exact and31 (hW.ne (by omega)) | exact and31 (hW.op (by omega)) | exact and31 (by assumption) | exact and31r (hW.ne (by omega)) | exact and31r (hW.gp (by omega)) | exact and31r (by decide)) (by first | omega | exact ite01_lt | exact bt8_lt31 _ _ | exact godB_lt31 _ _ _ | exact pop_lt31 _ | assumption | exact b31 (hW.gp (by omega)) | exact b31 (hW.ne (by omega)) | exact b31 (hW.op (by omega)) | exact and31 (hW.gp (by omega)) | exact and31 (hW.ne (by omega)) | exact and31 (hW.op (by omega)) | exact and31 (by assumption) | exact and31r (hW.ne (by omega)) | exact and31r (hW.gp (by omega)) | exact and31r (by decide)) (fun c_21 => ?_) (fun c_21 => False.elim (by omega))
      refine mm_iload d_M_drawDeed_40 rfl ?_
      refine mm_ciN 5 d_M_drawDeed_41 rfl ?_
      refine mm_icmp_neN d_M_drawDeed_42 (by first | omega | exact ite01_lt | exact bt8_lt31 _ _ | exact godB_lt31 _ _ _ | exact pop_lt31 _ | assumption | exact b31 (hW.gp (by omega)) | exact b31 (hW.ne (by omega)) | exact b31 (hW.op (by omega)) | exact and31 (hW.gp (by omega)) | exact and31 (hW.ne (by omega)) | exact and31 (hW.op (by omega)) | exact and31 (by assumption) | exact and31r (hW.ne (by omega)) | exact and31r (hW.gp (by omega)) | exact and31r (by decide)) (by first | omega | exact ite01_lt | exact bt8_lt31 _ _ | exact godB_lt31 _ _ _ | exact pop_lt31 _ | assumption | exact b31 (hW.gp (by omega)) | exact b31 (hW.ne (by omega)) | exact b31 (hW.op (by omega)) | exact and31 (hW.gp (by omega)) | exact and31 (hW.ne (by omega)) | exact and31 (hW.op (by omega)) | exact and31 (by assumption) | exact and31r (hW.ne (by omega)) | exact and31r (hW.gp (by omega)) | exact and31r (by decide)) (fun c_42 => ?_) (fun c_42 => False.elim (by omega))
      refine mm_iload d_M_drawDeed_70 rfl ?_
      refine mm_ciN 4 d_M_drawDeed_71 rfl ?_
      refine mm_icmp_geN d_M_drawDeed_72 (by first | omega | exact ite01_lt | exact bt8_lt31 _ _ | exact godB_lt31 _ _ _ | exact pop_lt31 _ | assumption | exact b31 (hW.gp (by omega)) | exact b31 (hW.ne (by omega)) | exact b31 (hW.op (by omega)) | exact and31 (hW.gp (by omega)) | exact and31 (hW.ne (by omega)) | exact and31 (hW.op (by omega)) | exact and31 (by assumption) | exact and31r (hW.ne (by omega)) | exact and31r (hW.gp (by omega)) | exact and31r (by decide)) (by first | omega | exact ite01_lt | exact bt8_lt31 _ _ | exact godB_lt31 _ _ _ | exact pop_lt31 _ | assumption | exact b31 (hW.gp (by omega)) | exact b31 (hW.ne (by omega)) | exact b31 (hW.op (by omega)) | exact and31 (hW.gp (by omega)) | exact and31 (hW.ne (by omega)) | exact and31 (hW.op (by omega)) | exact and31 (by assumption) | exact and31r (hW.ne (by omega)) | exact and31r (hW.gp (by omega)) | exact and31r (by decide)) (fun c_72 => False.elim (by omega)) (fun c_72 => ?_)
      refine mm_aload d_M_drawDeed_75 rfl ?_
      refine mm_getIN d_M_drawDeed_76 rfl (sk_o_71 hM) hH.n ?_
      refine mm_if_leN d_M_drawDeed_79 (by first | omega | exact ite01_lt | exact bt8_lt31 _ _ | exact godB_lt31 _ _ _ | exact pop_lt31 _ | assumption | exact b31 (hW.gp (by omega)) | exact b31 (hW.ne (by omega)) | exact b31 (hW.op (by omega)) | exact and31 (hW.gp (by omega)) | exact and31 (hW.ne (by omega)) | exact and31 (hW.op (by omega)) | exact and31 (by assumption) | exact and31r (hW.ne (by omega)) | exact and31r (hW.gp (by omega)) | exact and31r (by decide)) (fun c_79 => False.elim (by omega)) (fun c_79 => ?_)
      refine mm_aload d_M_drawDeed_82 rfl ?_
      refine mm_aload d_M_drawDeed_83 rfl ?_
      refine mm_getIN d_M_drawDeed_84 rfl (sk_o_71 hM) hH.n ?_
      refine mm_v1i d_M_drawDeed_87 (sk_o_71 hM) (sp_M_draw hS1 hs1 (by omega) (by omega) (fun μ2 hS2 hs2 f2 => ?_))
      replace hH := hS2.1
      replace hM := hH.1
      refine mm_ist2 d_M_drawDeed_90 ?_
      refine mm_aload d_M_drawDeed_91 rfl ?_
      refine mm_iload d_M_drawDeed_92 rfl ?_
      refine mm_ciN 3 d_M_drawDeed_93 rfl ?_
      refine mm_icmp_geN d_M_drawDeed_94 (by first | omega | exact ite01_lt | exact bt8_lt31 _ _ | exact godB_lt31 _ _ _ | exact pop_lt31 _ | assumption | exact b31 (hW.gp (by omega)) | exact b31 (hW.ne (by omega)) | exact b31 (hW.op (by omega)) | exact and31 (hW.gp (by omega)) | exact and31 (hW.ne (by omega)) | exact and31 (hW.op (by omega)) | exact and31 (by assumption) | exact and31r (hW.ne (by omega)) | exact and31r (hW.gp (by omega)) | exact and31r (by decide)) (by first | omega | exact ite01_lt | exact bt8_lt31 _ _ | exact godB_lt31 _ _ _ | exact pop_lt31 _ | assumption | exact b31 (hW.gp (by omega)) | exact b31 (hW.ne (by omega)) | exact b31 (hW.op (by omega)) | exact and31 (hW.gp (by omega)) | exact and31 (hW.ne (by omega)) | exact and31 (hW.op (by omega)) | exact and31 (by assumption) | exact and31r (hW.ne (by omega)) | exact and31r (hW.gp (by omega)) | exact and31r (by decide)) (fun c_94 => ?_) (fun c_94 => ?_)
      · refine mm_ciN 1 d_M_drawDeed_101 rfl ?_
        refine mm_iload d_M_drawDeed_102 rfl ?_
        refine mm_aload d_M_drawDeed_103 rfl ?_
        refine mm_aload d_M_drawDeed_104 rfl ?_
        refine mm_iload d_M_drawDeed_105 rfl ?_
        refine mm_v1i d_M_drawDeed_106 (sk_o_71 hM) (sp_M_gods hH (by omega) ?_)
        refine mm_aload d_M_drawDeed_109 rfl ?_
        refine mm_ciN 3 d_M_drawDeed_110 rfl ?_
        refine mm_v1i d_M_drawDeed_111 (sk_o_71 hM) (sp_M_draw hS2 hs2 (by decide) (by decide) (fun μ3 hS3 hs3 f3 => ?_))
        replace hH := hS3.1
        replace hM := hH.1
        refine mm_v2i d_M_drawDeed_114 (sk_o_71 hM) (sp_M_kth hM (hW.gp (by omega)) hkt.1 hkt.2.1 hkt.2.2 ?_)
        first
          | exact fin 1 (by rw [if_pos (by omega)]) μ3 hS3 hs3 ((f1.trans f2).trans f3) _ _
          | exact fin 0 (by rw [if_neg (by omega)]) μ3 hS3 hs3 ((f1.trans f2).trans f3) _ _
      · refine mm_ciN 0 d_M_drawDeed_97 rfl ?_
        refine mm_goto d_M_drawDeed_98 ?_
        refine mm_iload d_M_drawDeed_102 rfl ?_
        refine mm_aload d_M_drawDeed_103 rfl ?_
        refine mm_aload d_M_drawDeed_104 rfl ?_
        refine mm_iload d_M_drawDeed_105 rfl ?_
        refine mm_v1i d_M_drawDeed_106 (sk_o_71 hM) (sp_M_gods hH (by omega) ?_)
        refine mm_aload d_M_drawDeed_109 rfl ?_
        refine mm_ciN 3 d_M_drawDeed_110 rfl ?_
        refine mm_v1i d_M_drawDeed_111 (sk_o_71 hM) (sp_M_draw hS2 hs2 (by decide) (by decide) (fun μ3 hS3 hs3 f3 => ?_))
        replace hH := hS3.1
        replace hM := hH.1
        refine mm_v2i d_M_drawDeed_114 (sk_o_71 hM) (sp_M_kth hM (hW.gp (by omega)) hkt.1 hkt.2.1 hkt.2.2 ?_)
        first
          | exact fin 1 (by rw [if_pos (by omega)]) μ3 hS3 hs3 ((f1.trans f2).trans f3) _ _
          | exact fin 0 (by rw [if_neg (by omega)]) μ3 hS3 hs3 ((f1.trans f2).trans f3) _ _
  · rw [if_neg h3] at h
    by_cases h4 : d16 (nxS s) % 8 = 4
    · rw [if_pos h4] at h
      have hx := Nat.mod_lt (d16 (nxS (nxS s))) (show 0 < 8 by decide)
      refine mm_ist1 d_M_drawDeed_6 ?_
      refine mm_iload d_M_drawDeed_7 rfl ?_
      refine mm_ciN 5 d_M_drawDeed_8 rfl ?_
      refine mm_icmp_leN d_M_drawDeed_9 (by first | omega | exact ite01_lt | exact bt8_lt31 _ _ | exact godB_lt31 _ _ _ | exact pop_lt31 _ | assumption | exact b31 (hW.gp (by omega)) | exact b31 (hW.ne (by omega)) | exact b31 (hW.op (by omega)) | exact and31 (hW.gp (by omega)) | exact and31 (hW.ne (by omega)) | exact and31 (hW.op (by omega)) | exact and31 (by assumption) | exact and31r (hW.ne (by omega)) | exact and31r (hW.gp (by omega)) | exact and31r (by decide)) (by first | omega | exact ite01_lt | exact bt8_lt31 _ _ | exact godB_lt31 _ _ _ | exact pop_lt31 _ | assumption | exact b31 (hW.gp (by omega)) | exact b31 (hW.ne (by omega)) | exact b31 (hW.op (by omega)) | exact and31 (hW.gp (by omega)) | exact and31 (hW.ne (by omega)) | exact and31 (hW.op (by omega)) | exact and31 (by assumption) | exact and31r (hW.ne (by omega)) | exact and31r (hW.gp (by omega)) | exact and31r (by decide)) (fun c_9 => ?_) (fun c_9 => False.elim (by omega))
      refine mm_iload d_M_drawDeed_19 rfl ?_
      refine mm_ciN 4 d_M_drawDeed_20 rfl ?_
      refine mm_icmp_neN d_M_drawDeed_21 (by first | omega | exact ite01_lt | exact bt8_lt31 _ _ | exact godB_lt31 _ _ _ | exact pop_lt31 _ | assumption | exact b31 (hW.gp (by omega)) | exact b31 (hW.ne (by omega)) | exact b31 (hW.op (by omega)) | exact and31 (hW.gp (by omega)) | exact and31 (hW.ne (by omega)) | exact and31 (hW.op (by omega)) | exact and31 (by assumption) | exact and31r (hW.ne (by omega)) | exact and31r (hW.gp (by omega)) | exact and31r (by decide)) (by first | omega | exact ite01_lt | exact bt8_lt31 _ _ | exact godB_lt31 _ _ _ | exact pop_lt31 _ | assumption | exact b31 (hW.gp (by omega)) | exact b31 (hW.ne (by omega)) | exact b31 (hW.op (by omega)) | exact and31 (hW.gp (by omega)) | exact and31 (hW.ne (by omega)) | exact and31 (hW.op (by omega)) | exact and31 (by assumption) | exact and31r (hW.ne (by omega)) | exact and31r (hW.gp (by omega)) | exact and31r (by decide)) (fun c_21 => False.elim (by omega)) (fun c_21 => ?_)
      refine mm_aload d_M_drawDeed_24 rfl ?_
      refine mm_ciN 2 d_M_drawDeed_25 rfl ?_
      refine mm_aload d_M_drawDeed_26 rfl ?_
      refine mm_ciN 8 d_M_drawDeed_27 rfl ?_
      refine mm_v1i d_M_drawDeed_29 (sk_o_71 hM) (sp_M_draw hS1 hs1 (by omega) (by omega) (fun μ2 hS2 hs2 f2 => ?_))
      refine mm_ci d_M_drawDeed_32 ?_
      refine mm_v3i d_M_drawDeed_33 (sk_o_71 hS2.1.1) (sp_M_does (x := d16 (nxS (nxS s)) % 8) (y := 0) (Or.inr (Or.inl ⟨rfl, rfl, hx⟩)) hS2 hT (fun σ' hd μ' hS' hm => ?_) (fun hd => ?_))
      · rw [hd] at h
        refine mm_pop d_M_drawDeed_36 rfl ?_
        refine mm_goto d_M_drawDeed_37 ?_
        exact mm_rv d_M_drawDeed_121 (h _ hS' ((hm.2 44 (by decide)).trans hs2) ((f1.trans f2).trans hm.1))
      · cases hd
    · rw [if_neg h4] at h
      by_cases h5 : d16 (nxS s) % 8 = 5
      · rw [if_pos h5] at h
        by_cases hd0 : dw D = 0
        · rw [if_pos hd0] at h
          refine mm_ist1 d_M_drawDeed_6 ?_
          refine mm_iload d_M_drawDeed_7 rfl ?_
          refine mm_ciN 5 d_M_drawDeed_8 rfl ?_
          refine mm_icmp_leN d_M_drawDeed_9 (by first | omega | exact ite01_lt | exact bt8_lt31 _ _ | exact godB_lt31 _ _ _ | exact pop_lt31 _ | assumption | exact b31 (hW.gp (by omega)) | exact b31 (hW.ne (by omega)) | exact b31 (hW.op (by omega)) | exact and31 (hW.gp (by omega)) | exact and31 (hW.ne (by omega)) | exact and31 (hW.op (by omega)) | exact and31 (by assumption) | exact and31r (hW.ne (by omega)) | exact and31r (hW.gp (by omega)) | exact and31r (by decide)) (by first | omega | exact ite01_lt | exact bt8_lt31 _ _ | exact godB_lt31 _ _ _ | exact pop_lt31 _ | assumption | exact b31 (hW.gp (by omega)) | exact b31 (hW.ne (by omega)) | exact b31 (hW.op (by omega)) | exact and31 (hW.gp (by omega)) | exact and31 (hW.ne (by omega)) | exact and31 (hW.op (by omega)) | exact and31 (by assumption) | exact and31r (hW.ne (by omega)) | exact and31r (hW.gp (by omega)) | exact and31r (by decide)) (fun c_9 => ?_) (fun c_9 => False.elim (by omega))
          refine mm_iload d_M_drawDeed_19 rfl ?_
          refine mm_ciN 4 d_M_drawDeed_20 rfl ?_
          refine mm_icmp_neN d_M_drawDeed_21 (by first | omega | exact ite01_lt | exact bt8_lt31 _ _ | exact godB_lt31 _ _ _ | exact pop_lt31 _ | assumption | exact b31 (hW.gp (by omega)) | exact b31 (hW.ne (by omega)) | exact b31 (hW.op (by omega)) | exact and31 (hW.gp (by omega)) | exact and31 (hW.ne (by omega)) | exact and31 (hW.op (by omega)) | exact and31 (by assumption) | exact and31r (hW.ne (by omega)) | exact and31r (hW.gp (by omega)) | exact and31r (by decide)) (by first | omega | exact ite01_lt | exact bt8_lt31 _ _ | exact godB_lt31 _ _ _ | exact pop_lt31 _ | assumption | exact b31 (hW.gp (by omega)) | exact b31 (hW.ne (by omega)) | exact b31 (hW.op (by omega)) | exact and31 (hW.gp (by omega)) | exact and31 (hW.ne (by omega)) | exact and31 (hW.op (by omega)) | exact and31 (by assumption) | exact and31r (hW.ne (by omega)) | exact and31r (hW.gp (by omega)) | exact and31r (by decide)) (fun c_21 => ?_) (fun c_21 => False.elim (by omega))
          refine mm_iload d_M_drawDeed_40 rfl ?_
          refine mm_ciN 5 d_M_drawDeed_41 rfl ?_
          refine mm_icmp_neN d_M_drawDeed_42 (by first | omega | exact ite01_lt | exact bt8_lt31 _ _ | exact godB_lt31 _ _ _ | exact pop_lt31 _ | assumption | exact b31 (hW.gp (by omega)) | exact b31 (hW.ne (by omega)) | exact b31 (hW.op (by omega)) | exact and31 (hW.gp (by omega)) | exact and31 (hW.ne (by omega)) | exact and31 (hW.op (by omega)) | exact and31 (by assumption) | exact and31r (hW.ne (by omega)) | exact and31r (hW.gp (by omega)) | exact and31r (by decide)) (by first | omega | exact ite01_lt | exact bt8_lt31 _ _ | exact godB_lt31 _ _ _ | exact pop_lt31 _ | assumption | exact b31 (hW.gp (by omega)) | exact b31 (hW.ne (by omega)) | exact b31 (hW.op (by omega)) | exact and31 (hW.gp (by omega)) | exact and31 (hW.ne (by omega)) | exact and31 (hW.op (by omega)) | exact and31 (by assumption) | exact and31r (hW.ne (by omega)) | exact and31r (hW.gp (by omega)) | exact and31r (by decide)) (fun c_42 => False.elim (by omega)) (fun c_42 => ?_)
          refine mm_aload d_M_drawDeed_45 rfl ?_
          refine mm_getIN d_M_drawDeed_46 rfl (sk_o_71 hM) hH.w ?_
          refine mm_if_leN d_M_drawDeed_49 (by first | omega | exact ite01_lt | exact bt8_lt31 _ _ | exact godB_lt31 _ _ _ | exact pop_lt31 _ | assumption | exact b31 (hW.gp (by omega)) | exact b31 (hW.ne (by omega)) | exact b31 (hW.op (by omega)) | exact and31 (hW.gp (by omega)) | exact and31 (hW.ne (by omega)) | exact and31 (hW.op (by omega)) | exact and31 (by assumption) | exact and31r (hW.ne (by omega)) | exact and31r (hW.gp (by omega)) | exact and31r (by decide)) (fun c_49 => ?_) (fun c_49 => False.elim (by omega))
          refine mm_iload d_M_drawDeed_70 rfl ?_
          refine mm_ciN 4 d_M_drawDeed_71 rfl ?_
          refine mm_icmp_geN d_M_drawDeed_72 (by first | omega | exact ite01_lt | exact bt8_lt31 _ _ | exact godB_lt31 _ _ _ | exact pop_lt31 _ | assumption | exact b31 (hW.gp (by omega)) | exact b31 (hW.ne (by omega)) | exact b31 (hW.op (by omega)) | exact and31 (hW.gp (by omega)) | exact and31 (hW.ne (by omega)) | exact and31 (hW.op (by omega)) | exact and31 (by assumption) | exact and31r (hW.ne (by omega)) | exact and31r (hW.gp (by omega)) | exact and31r (by decide)) (by first | omega | exact ite01_lt | exact bt8_lt31 _ _ | exact godB_lt31 _ _ _ | exact pop_lt31 _ | assumption | exact b31 (hW.gp (by omega)) | exact b31 (hW.ne (by omega)) | exact b31 (hW.op (by omega)) | exact and31 (hW.gp (by omega)) | exact and31 (hW.ne (by omega)) | exact and31 (hW.op (by omega)) | exact and31 (by assumption) | exact and31r (hW.ne (by omega)) | exact and31r (hW.gp (by omega)) | exact and31r (by decide)) (fun c_72 => ?_) (fun c_72 => False.elim (by omega))
          exact mm_rv d_M_drawDeed_121 (h _ hS1 hs1 f1)
        · rw [if_neg hd0] at h
          have hx := Nat.mod_lt (d16 (nxS (nxS s))) (show 0 < dw D by omega)
          refine mm_ist1 d_M_drawDeed_6 ?_
          refine mm_iload d_M_drawDeed_7 rfl ?_
          refine mm_ciN 5 d_M_drawDeed_8 rfl ?_
          refine mm_icmp_leN d_M_drawDeed_9 (by first | omega | exact ite01_lt | exact bt8_lt31 _ _ | exact godB_lt31 _ _ _ | exact pop_lt31 _ | assumption | exact b31 (hW.gp (by omega)) | exact b31 (hW.ne (by omega)) | exact b31 (hW.op (by omega)) | exact and31 (hW.gp (by omega)) | exact and31 (hW.ne (by omega)) | exact and31 (hW.op (by omega)) | exact and31 (by assumption) | exact and31r (hW.ne (by omega)) | exact and31r (hW.gp (by omega)) | exact and31r (by decide)) (by first | omega | exact ite01_lt | exact bt8_lt31 _ _ | exact godB_lt31 _ _ _ | exact pop_lt31 _ | assumption | exact b31 (hW.gp (by omega)) | exact b31 (hW.ne (by omega)) | exact b31 (hW.op (by omega)) | exact and31 (hW.gp (by omega)) | exact and31 (hW.ne (by omega)) | exact and31 (hW.op (by omega)) | exact and31 (by assumption) | exact and31r (hW.ne (by omega)) | exact and31r (hW.gp (by omega)) | exact and31r (by decide)) (fun c_9 => ?_) (fun c_9 => False.elim (by omega))
          refine mm_iload d_M_drawDeed_19 rfl ?_
          refine mm_ciN 4 d_M_drawDeed_20 rfl ?_
          refine mm_icmp_neN d_M_drawDeed_21 (by first | omega | exact ite01_lt | exact bt8_lt31 _ _ | exact godB_lt31 _ _ _ | exact pop_lt31 _ | assumption | exact b31 (hW.gp (by omega)) | exact b31 (hW.ne (by omega)) | exact b31 (hW.op (by omega)) | exact and31 (hW.gp (by omega)) | exact and31 (hW.ne (by omega)) | exact and31 (hW.op (by omega)) | exact and31 (by assumption) | exact and31r (hW.ne (by omega)) | exact and31r (hW.gp (by omega)) | exact and31r (by decide)) (by first | omega | exact ite01_lt | exact bt8_lt31 _ _ | exact godB_lt31 _ _ _ | exact pop_lt31 _ | assumption | exact b31 (hW.gp (by omega)) | exact b31 (hW.ne (by omega)) | exact b31 (hW.op (by omega)) | exact and31 (hW.gp (by omega)) | exact and31 (hW.ne (by omega)) | exact and31 (hW.op (by omega)) | exact and31 (by assumption) | exact and31r (hW.ne (by omega)) | exact and31r (hW.gp (by omega)) | exact and31r (by decide)) (fun c_21 => ?_) (fun c_21 => False.elim (by omega))
          refine mm_iload d_M_drawDeed_40 rfl ?_
          refine mm_ciN 5 d_M_drawDeed_41 rfl ?_
          refine mm_icmp_neN d_M_drawDeed_42 (by first | omega | exact ite01_lt | exact bt8_lt31 _ _ | exact godB_lt31 _ _ _ | exact pop_lt31 _ | assumption | exact b31 (hW.gp (by omega)) | exact b31 (hW.ne (by omega)) | exact b31 (hW.op (by omega)) | exact and31 (hW.gp (by omega)) | exact and31 (hW.ne (by omega)) | exact and31 (hW.op (by omega)) | exact and31 (by assumption) | exact and31r (hW.ne (by omega)) | exact and31r (hW.gp (by omega)) | exact and31r (by decide)) (by first | omega | exact ite01_lt | exact bt8_lt31 _ _ | exact godB_lt31 _ _ _ | exact pop_lt31 _ | assumption | exact b31 (hW.gp (by omega)) | exact b31 (hW.ne (by omega)) | exact b31 (hW.op (by omega)) | exact and31 (hW.gp (by omega)) | exact and31 (hW.ne (by omega)) | exact and31 (hW.op (by omega)) | exact and31 (by assumption) | exact and31r (hW.ne (by omega)) | exact and31r (hW.gp (by omega)) | exact and31r (by decide)) (fun c_42 => False.elim (by omega)) (fun c_42 => ?_)
          refine mm_aload d_M_drawDeed_45 rfl ?_
          refine mm_getIN d_M_drawDeed_46 rfl (sk_o_71 hM) hH.w ?_
          refine mm_if_leN d_M_drawDeed_49 (by first | omega | exact ite01_lt | exact bt8_lt31 _ _ | exact godB_lt31 _ _ _ | exact pop_lt31 _ | assumption | exact b31 (hW.gp (by omega)) | exact b31 (hW.ne (by omega)) | exact b31 (hW.op (by omega)) | exact and31 (hW.gp (by omega)) | exact and31 (hW.ne (by omega)) | exact and31 (hW.op (by omega)) | exact and31 (by assumption) | exact and31r (hW.ne (by omega)) | exact and31r (hW.gp (by omega)) | exact and31r (by decide)) (fun c_49 => False.elim (by omega)) (fun c_49 => ?_)
          refine mm_aload d_M_drawDeed_52 rfl ?_
          refine mm_ciN 3 d_M_drawDeed_53 rfl ?_
          refine mm_aload d_M_drawDeed_54 rfl ?_
          refine mm_aload d_M_drawDeed_55 rfl ?_
          refine mm_getIN d_M_drawDeed_56 rfl (sk_o_71 hM) hH.w ?_
          refine mm_v1i d_M_drawDeed_59 (sk_o_71 hM) (sp_M_draw hS1 hs1 (by omega) (by omega) (fun μ2 hS2 hs2 f2 => ?_))
          refine mm_ci d_M_drawDeed_62 ?_
          refine mm_v3i d_M_drawDeed_63 (sk_o_71 hS2.1.1) (sp_M_does (x := d16 (nxS (nxS s)) % dw D) (y := 0) (Or.inr (Or.inr (Or.inl ⟨rfl, rfl, by omega⟩))) hS2 hT (fun σ' hd μ' hS' hm => ?_) (fun hd => ?_))
          · rw [hd] at h
            refine mm_pop d_M_drawDeed_66 rfl ?_
            refine mm_goto d_M_drawDeed_67 ?_
            exact mm_rv d_M_drawDeed_121 (h _ hS' ((hm.2 44 (by decide)).trans hs2) ((f1.trans f2).trans hm.1))
          · rw [hd] at h
            refine mm_pop d_M_drawDeed_66 rfl ?_
            refine mm_goto d_M_drawDeed_67 ?_
            exact mm_rv d_M_drawDeed_121 (h _ hS2 hs2 (f1.trans f2))
      · rw [if_neg h5] at h
        refine mm_ist1 d_M_drawDeed_6 ?_
        refine mm_iload d_M_drawDeed_7 rfl ?_
        refine mm_ciN 5 d_M_drawDeed_8 rfl ?_
        refine mm_icmp_leN d_M_drawDeed_9 (by first | omega | exact ite01_lt | exact bt8_lt31 _ _ | exact godB_lt31 _ _ _ | exact pop_lt31 _ | assumption | exact b31 (hW.gp (by omega)) | exact b31 (hW.ne (by omega)) | exact b31 (hW.op (by omega)) | exact and31 (hW.gp (by omega)) | exact and31 (hW.ne (by omega)) | exact and31 (hW.op (by omega)) | exact and31 (by assumption) | exact and31r (hW.ne (by omega)) | exact and31r (hW.gp (by omega)) | exact and31r (by decide)) (by first | omega | exact ite01_lt | exact bt8_lt31 _ _ | exact godB_lt31 _ _ _ | exact pop_lt31 _ | assumption | exact b31 (hW.gp (by omega)) | exact b31 (hW.ne (by omega)) | exact b31 (hW.op (by omega)) | exact and31 (hW.gp (by omega)) | exact and31 (hW.ne (by omega)) | exact and31 (hW.op (by omega)) | exact and31 (by assumption) | exact and31r (hW.ne (by omega)) | exact and31r (hW.gp (by omega)) | exact and31r (by decide)) (fun c_9 => False.elim (by omega)) (fun c_9 => ?_)
        refine mm_aload d_M_drawDeed_12 rfl ?_
        refine mm_v0v d_M_drawDeed_13 (sk_o_71 hM) (sp_M_goesOn hS1 hT (fun μ' hS' hm => ?_))
        refine mm_goto d_M_drawDeed_16 ?_
        exact mm_rv d_M_drawDeed_121 (h _ hS' ((hm.2 44 (by decide)).trans hs1) (f1.trans hm.1))
theorem pair_drawn {X : mm_X} {k : Nat} {μ : mm_M} (hJ : JJ k μ) (y1 y2 y3 y4 : Int32) : PairI X (JJ (k + 1)) k_G_drawn k_M_drawn [.int y1, .int y2, .int y3, .int y4] μ := by
  obtain ⟨c, h02, h0, m0, hv⟩ := hJ.coast y1
  have hM := hJ.1
  have hw := hJ.2.2.2.up
  rcases hv with hx | ⟨i, D, hi, rfl, hW, hCD, hDM⟩
  · exact pairQ (-1) hJ (d := 2) (d' := 4) (by decide) (by decide) (n_G_drawn hM h0 h02 hx ⟨rfl, Fr.rf, hw⟩) (fun μ1 hf => n_M_drawn (hf.2.2.2 hM) (by rw [(hf.2.2.1 76 rfl).1]; exact m0) h02 hx (fun μ' hk => ⟨rfl, hk.fr (hf.2.2.2 hM)⟩))
  have hn6 := hW.1
  have hw6 := hW.2.1
  rcases rng_or y3 (a := 0) (b := 60) (by decide) (by decide) with ⟨hz, hz2⟩ | ⟨n, -, hn, rfl⟩
  · refine pairQ (-1) hJ (d := 12) (d' := 12) (by decide) (by decide) ?_ (fun μ1 hf => ?_)
    · show mm_T X 12 0 0 k_G_drawn 0 [some (.ref 0), some (.int (nI i)), some (.int y2), some (.int y3), some (.int y4), none] [] μ _
      refine mm_aload d_G_drawn_0 rfl ?_
      refine mm_getP d_G_drawn_1 rfl (sk_o_0 hM) (sk_p_0_0 hM) ?_
      refine mm_iload d_G_drawn_4 rfl ?_
      refine mm_v1r d_G_drawn_5 (sk_o_1 hM) (sp_To_coastAtI hM h0 h02 hi ?_)
      refine mm_ast5 d_G_drawn_8 ?_
      refine mm_aload d_G_drawn_10 rfl ?_
      refine mm_ifnull d_G_drawn_12 ?_
      refine mm_iload d_G_drawn_15 rfl ?_
      refine mm_if_lt d_G_drawn_16 (fun c_16 => ?_) (fun c_16 => ?_)
      · refine mm_ci d_G_drawn_25 ?_
        exact mm_ri d_G_drawn_26 ⟨rfl, Fr.rf, hw⟩
      · refine mm_iload d_G_drawn_19 rfl ?_
        refine mm_ciN 60 d_G_drawn_20 rfl ?_
        refine mm_icmp_le d_G_drawn_22 (fun c_22 => False.elim (rng_dead hz2 c_16 c_22)) (fun c_22 => ?_)
        refine mm_ci d_G_drawn_25 ?_
        exact mm_ri d_G_drawn_26 ⟨rfl, Fr.rf, hw⟩
    · show mm_T X 12 0 0 k_M_drawn 0 [some (.ref 71), some (.int (nI i)), some (.int y2), some (.int y3), some (.int y4), none] [] μ1 _
      replace hM := hf.2.2.2 hM
      replace m0 : mm_I μ1 76 0 = nI c := by rw [(hf.2.2.1 76 rfl).1]; exact m0
      replace hDM := hDM.frC hf
      refine mm_aload d_M_drawn_0 rfl ?_
      refine mm_ciN 0 d_M_drawn_1 rfl ?_
      refine mm_putI d_M_drawn_2 rfl (sk_o_71 hM) (Or.inl rfl) ?_
      refine mm_iload d_M_drawn_5 rfl ?_
      refine mm_ciN 0 d_M_drawn_6 rfl ?_
      refine mm_ciN 60 d_M_drawn_7 rfl ?_
      refine mm_s3i d_M_drawn_9 (sp_M_inB hz ?_)
      refine mm_if_eqN d_M_drawn_12 (by first | omega | exact ite01_lt | exact bt8_lt31 _ _ | exact godB_lt31 _ _ _ | exact pop_lt31 _ | assumption | exact b31 (hW.gp (by omega)) | exact b31 (hW.ne (by omega)) | exact b31 (hW.op (by omega)) | exact and31 (hW.gp (by omega)) | exact and31 (hW.ne (by omega)) | exact and31 (hW.op (by omega)) | exact and31 (by assumption) | exact and31r (hW.ne (by omega)) | exact and31r (hW.gp (by omega)) | exact and31r (by decide)) (fun c_12 => ?_) (fun c_12 => False.elim (by omega))
      refine mm_ci d_M_drawn_23 ?_
      exact mm_ri d_M_drawn_24 ⟨rfl, Fr.rf.sI rfl⟩
  · have hwf := drK_wf hW y2 n
    refine pairQ (stR D (drK D y2 n).1 y4) hJ (d := 12) (d' := 12) (by decide) (by decide) ?_ (fun μ1 hf => ?_)
    · show mm_T X 12 0 0 k_G_drawn 0 [some (.ref 0), some (.int (nI i)), some (.int y2), some (.int (nI n)), some (.int y4), none] [] μ _
      refine mm_aload d_G_drawn_0 rfl ?_
      refine mm_getP d_G_drawn_1 rfl (sk_o_0 hM) (sk_p_0_0 hM) ?_
      refine mm_iload d_G_drawn_4 rfl ?_
      refine mm_v1r d_G_drawn_5 (sk_o_1 hM) (sp_To_coastAtI hM h0 h02 hi ?_)
      refine mm_ast5 d_G_drawn_8 ?_
      refine mm_aload d_G_drawn_10 rfl ?_
      refine mm_ifnull d_G_drawn_12 ?_
      refine mm_iload d_G_drawn_15 rfl ?_
      refine mm_if_ltN d_G_drawn_16 (by first | omega | exact ite01_lt | exact bt8_lt31 _ _ | exact godB_lt31 _ _ _ | exact pop_lt31 _ | assumption | exact b31 (hW.gp (by omega)) | exact b31 (hW.ne (by omega)) | exact b31 (hW.op (by omega)) | exact and31 (hW.gp (by omega)) | exact and31 (hW.ne (by omega)) | exact and31 (hW.op (by omega)) | exact and31 (by assumption) | exact and31r (hW.ne (by omega)) | exact and31r (hW.gp (by omega)) | exact and31r (by decide)) ?_
      refine mm_iload d_G_drawn_19 rfl ?_
      refine mm_ciN 60 d_G_drawn_20 rfl ?_
      refine mm_icmp_leN d_G_drawn_22 (by first | omega | exact ite01_lt | exact bt8_lt31 _ _ | exact godB_lt31 _ _ _ | exact pop_lt31 _ | assumption | exact b31 (hW.gp (by omega)) | exact b31 (hW.ne (by omega)) | exact b31 (hW.op (by omega)) | exact and31 (hW.gp (by omega)) | exact and31 (hW.ne (by omega)) | exact and31 (hW.op (by omega)) | exact and31 (by assumption) | exact and31r (hW.ne (by omega)) | exact and31r (hW.gp (by omega)) | exact and31r (by decide)) (by first | omega | exact ite01_lt | exact bt8_lt31 _ _ | exact godB_lt31 _ _ _ | exact pop_lt31 _ | assumption | exact b31 (hW.gp (by omega)) | exact b31 (hW.ne (by omega)) | exact b31 (hW.op (by omega)) | exact and31 (hW.gp (by omega)) | exact and31 (hW.ne (by omega)) | exact and31 (hW.op (by omega)) | exact and31 (by assumption) | exact and31r (hW.ne (by omega)) | exact and31r (hW.gp (by omega)) | exact and31r (by decide)) (fun c_22 => ?_) (fun c_22 => False.elim (by omega))
      refine mm_aload d_G_drawn_27 rfl ?_
      refine mm_getP d_G_drawn_28 rfl (sk_o_0 hM) (sk_p_0_3 hM) ?_
      refine mm_aload d_G_drawn_31 rfl ?_
      refine mm_iload d_G_drawn_33 rfl ?_
      refine mm_iload d_G_drawn_34 rfl ?_
      refine mm_v3v d_G_drawn_35 (sk_o_53 hM) (sp_Da_draw hM (by omega) hCD hW hn (fun μ2 ξ hS g1 => ?_))
      replace hM := hS.1
      refine mm_aload d_G_drawn_38 rfl ?_
      refine mm_getP d_G_drawn_39 rfl (sk_o_0 hM) (sk_p_0_3 hM) ?_
      refine mm_iload d_G_drawn_42 rfl ?_
      refine mm_v1i d_G_drawn_44 (sk_o_53 hM) (sp_Da_look hS hwf.1 hW ?_)
      exact mm_ri d_G_drawn_47 ⟨rfl, g1.DC, hw.frD g1⟩
    · show mm_T X 12 0 0 k_M_drawn 0 [some (.ref 71), some (.int (nI i)), some (.int y2), some (.int (nI n)), some (.int y4), none] [] μ1 _
      replace hM := hf.2.2.2 hM
      replace m0 : mm_I μ1 76 0 = nI c := by rw [(hf.2.2.1 76 rfl).1]; exact m0
      replace hDM := hDM.frC hf
      refine mm_aload d_M_drawn_0 rfl ?_
      refine mm_ciN 0 d_M_drawn_1 rfl ?_
      refine mm_putI d_M_drawn_2 rfl (sk_o_71 hM) (Or.inl rfl) ?_
      refine mm_iload d_M_drawn_5 rfl ?_
      refine mm_ciN 0 d_M_drawn_6 rfl ?_
      refine mm_ciN 60 d_M_drawn_7 rfl ?_
      refine mm_s3i d_M_drawn_9 (sp_M_inT (by omega) (by omega) (by omega) ?_)
      refine mm_if_eqN d_M_drawn_12 (by first | omega | exact ite01_lt | exact bt8_lt31 _ _ | exact godB_lt31 _ _ _ | exact pop_lt31 _ | assumption | exact b31 (hW.gp (by omega)) | exact b31 (hW.ne (by omega)) | exact b31 (hW.op (by omega)) | exact and31 (hW.gp (by omega)) | exact and31 (hW.ne (by omega)) | exact and31 (hW.op (by omega)) | exact and31 (by assumption) | exact and31r (hW.ne (by omega)) | exact and31r (hW.gp (by omega)) | exact and31r (by decide)) (fun c_12 => False.elim (by omega)) (fun c_12 => ?_)
      refine mm_aload d_M_drawn_15 rfl ?_
      refine mm_iload d_M_drawn_16 rfl ?_
      refine mm_v1i d_M_drawn_17 (sk_o_71 hM) (sp_M_handN hM (by first | exact m0 | (rw [mm_sI_off (by decide)]; exact m0)) h02 hi (by first | exact hDM | exact hDM.eq (mm_sI_off (by decide))) hW (fun μ2 g1 hH hZ => ?_))
      replace hM := hH.1
      refine mm_if_neN d_M_drawn_20 (by first | omega | exact ite01_lt | exact bt8_lt31 _ _ | exact godB_lt31 _ _ _ | exact pop_lt31 _ | assumption | exact b31 (hW.gp (by omega)) | exact b31 (hW.ne (by omega)) | exact b31 (hW.op (by omega)) | exact and31 (hW.gp (by omega)) | exact and31 (hW.ne (by omega)) | exact and31 (hW.op (by omega)) | exact and31 (by assumption) | exact and31r (hW.ne (by omega)) | exact and31r (hW.gp (by omega)) | exact and31r (by decide)) (fun c_20 => ?_) (fun c_20 => False.elim (by omega))
      refine mm_aload d_M_drawn_25 rfl ?_
      refine mm_iload d_M_drawn_26 rfl ?_
      refine mm_putI d_M_drawn_27 rfl (sk_o_71 hM) (Or.inl rfl) ?_
      refine mm_ciN 0 d_M_drawn_30 rfl ?_
      refine mm_ist5 d_M_drawn_31 ?_
      have gf := (Fr.rf (S := scM) (μ := μ1).sI (j := 0) (x := nI 0) (a := 71) rfl).trans g1
      refine mm_up (P := fun t => ∀ ν, MoS ν i D (drK D y2 t).1 → mm_I ν 71 44 = (drK D y2 t).2 → Fr scM μ1 ν → mm_T X _ 0 0 k_M_drawn 33 [some (.ref 71), some (.int (nI i)), some (.int y2), some (.int (nI n)), some (.int y4), some (.int (nI t))] [] ν _) n ?_ (fun t ht ih => ?_) _ ((hZ.mos hH).s71 (by decide)) (by rw [mm_I_sI, if_pos ⟨rfl, rfl⟩]; rfl) (gf.sI rfl)
      · intro ν hS hs hfr
        have hM := hS.1.1
        refine mm_iload d_M_drawn_33 rfl ?_
        refine mm_iload d_M_drawn_35 rfl ?_
        refine mm_icmp_geN d_M_drawn_36 (by first | omega | exact ite01_lt | exact bt8_lt31 _ _ | exact godB_lt31 _ _ _ | exact pop_lt31 _ | assumption | exact b31 (hW.gp (by omega)) | exact b31 (hW.ne (by omega)) | exact b31 (hW.op (by omega)) | exact and31 (hW.gp (by omega)) | exact and31 (hW.ne (by omega)) | exact and31 (hW.op (by omega)) | exact and31 (by assumption) | exact and31r (hW.ne (by omega)) | exact and31r (hW.gp (by omega)) | exact and31r (by decide)) (by first | omega | exact ite01_lt | exact bt8_lt31 _ _ | exact godB_lt31 _ _ _ | exact pop_lt31 _ | assumption | exact b31 (hW.gp (by omega)) | exact b31 (hW.ne (by omega)) | exact b31 (hW.op (by omega)) | exact and31 (hW.gp (by omega)) | exact and31 (hW.ne (by omega)) | exact and31 (hW.op (by omega)) | exact and31 (by assumption) | exact and31r (hW.ne (by omega)) | exact and31r (hW.gp (by omega)) | exact and31r (by decide)) (fun c_36 => ?_) (fun c_36 => False.elim (by omega))
        refine mm_aload d_M_drawn_49 rfl ?_
        refine mm_iload d_M_drawn_50 rfl ?_
        refine mm_v1i d_M_drawn_52 (sk_o_71 hM) (sp_M_ofState hS hwf.1 ?_)
        exact mm_ri d_M_drawn_55 ⟨rfl, hfr⟩
      · intro ν hS hs hfr
        have hM := hS.1.1
        refine mm_iload d_M_drawn_33 rfl ?_
        refine mm_iload d_M_drawn_35 rfl ?_
        refine mm_icmp_geN d_M_drawn_36 (by first | omega | exact ite01_lt | exact bt8_lt31 _ _ | exact godB_lt31 _ _ _ | exact pop_lt31 _ | assumption | exact b31 (hW.gp (by omega)) | exact b31 (hW.ne (by omega)) | exact b31 (hW.op (by omega)) | exact and31 (hW.gp (by omega)) | exact and31 (hW.ne (by omega)) | exact and31 (hW.op (by omega)) | exact and31 (by assumption) | exact and31r (hW.ne (by omega)) | exact and31r (hW.gp (by omega)) | exact and31r (by decide)) (by first | omega | exact ite01_lt | exact bt8_lt31 _ _ | exact godB_lt31 _ _ _ | exact pop_lt31 _ | assumption | exact b31 (hW.gp (by omega)) | exact b31 (hW.ne (by omega)) | exact b31 (hW.op (by omega)) | exact and31 (hW.gp (by omega)) | exact and31 (hW.ne (by omega)) | exact and31 (hW.op (by omega)) | exact and31 (by assumption) | exact and31r (hW.ne (by omega)) | exact and31r (hW.gp (by omega)) | exact and31r (by decide)) (fun c_36 => False.elim (by omega)) (fun c_36 => ?_)
        refine mm_aload d_M_drawn_39 rfl ?_
        refine mm_v0v d_M_drawn_40 (sk_o_71 hM) (sp_M_drawDeed hS (drK_wf hW y2 t) hs (fun μ' hS' hs' hf' => ?_))
        refine mm_inc5N d_M_drawn_43 ?_
        refine mm_goto d_M_drawn_46 ?_
        exact ih μ' hS' hs' (hfr.trans hf')
