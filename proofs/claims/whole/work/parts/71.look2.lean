/-! a year: till, state -/
theorem HdZ.mos {μ : mm_M} {k : Nat} {D : mm_D} (hH : Hd μ k D) (h : HdZ μ) : MoS μ k D S0 := ⟨hH, h.1, h.2.1, h.2.2.1, h.2.2.2.1, h.2.2.2.2.1, fun j hj => (h.2.2.2.2.2.1 j hj).1, fun j hj => h.2.2.2.2.2.2 j hj, fun j hj => (h.2.2.2.2.2.1 j hj).2⟩
theorem HY.mk {μ ν : mm_M} {i : Nat} {Y : mm_Y} (h : HY μ i Y) (hm : Mk μ ν) : HY ν i Y := ⟨hm.1.2.2.2 h.1, h.2.1, (hm.2 33 (by decide)).trans h.2.2.1, h.2.2.2.1.frC hm.1 rfl, h.2.2.2.2⟩
theorem sp_M_layAllT {X : mm_X} {μ : mm_M} {q : Int32 → mm_M → Prop} {c c' i iy : Nat} {D : mm_D} {Y : mm_Y} (hM : SK μ) (m1 : mm_I μ 76 1 = nI c') (h12 : c' ≤ 2) (hiy : iy < c') (hYM : YeM μ (121 * iy) Y) (hWY : WfYY Y) (m0 : mm_I μ 76 0 = nI c) (h02 : c ≤ 2) (hi : i < c) (hDM : CoM μ (44 * i) D) (hW : WfD D) (h : ∀ μ', Fr scM μ μ' → MoS μ' i D S0 → HY μ' iy Y → q (nI 1) μ') : mm_Ci X 3 0 0 k_M_layAll [.ref 71, .int (nI i), .int (nI iy)] μ q := by
  show mm_T X 3 0 0 k_M_layAll 0 [some (.ref 71), some (.int (nI i)), some (.int (nI iy))] [] μ _
  refine mm_aload d_M_layAll_0 rfl ?_
  refine mm_iload d_M_layAll_1 rfl ?_
  refine mm_v1i d_M_layAll_2 (sk_o_71 hM) (sp_M_hasYearT hM m1 h12 hiy hYM hWY (fun hL => ?_))
  refine mm_if_eqN d_M_layAll_5 (by first | omega | exact ite01_lt | exact bt8_lt31 _ _ | exact godB_lt31 _ _ _ | exact pop_lt31 _ | assumption | exact b31 (hW.gp (by omega)) | exact b31 (hW.ne (by omega)) | exact b31 (hW.op (by omega)) | exact and31 (hW.gp (by omega)) | exact and31 (hW.ne (by omega)) | exact and31 (hW.op (by omega)) | exact and31 (by assumption) | exact and31r (hW.ne (by omega)) | exact and31r (hW.gp (by omega)) | exact and31r (by decide)) (fun c_5 => False.elim (by omega)) (fun c_5 => ?_)
  refine mm_aload d_M_layAll_8 rfl ?_
  refine mm_iload d_M_layAll_9 rfl ?_
  refine mm_v1i d_M_layAll_10 (sk_o_71 hM) (sp_M_handK hM (by rw [mm_sI_off (by decide)]; exact m0) h02 hi (hDM.eq (mm_sI_off (by decide))) hW (fun μ2 g1 hH hZ g41 => ?_))
  replace hM := hH.1
  refine mm_if_eqN d_M_layAll_13 (by first | omega | exact ite01_lt | exact bt8_lt31 _ _ | exact godB_lt31 _ _ _ | exact pop_lt31 _ | assumption | exact b31 (hW.gp (by omega)) | exact b31 (hW.ne (by omega)) | exact b31 (hW.op (by omega)) | exact and31 (hW.gp (by omega)) | exact and31 (hW.ne (by omega)) | exact and31 (hW.op (by omega)) | exact and31 (by assumption) | exact and31r (hW.ne (by omega)) | exact and31r (hW.gp (by omega)) | exact and31r (by decide)) (fun c_13 => False.elim (by omega)) (fun c_13 => ?_)
  refine mm_ciN 1 d_M_layAll_16 rfl ?_
  refine mm_goto d_M_layAll_17 ?_
  exact mm_rz d_M_layAll_21 (h μ2 ((Fr.rf.sI rfl).trans g1) (hZ.mos hH) ⟨hM, hL.2.1, (g41 33 (by decide)).trans hL.2.2.1, hL.2.2.2.1.frC g1 rfl, hWY⟩)
theorem sp_M_layAll0 {X : mm_X} {μ : mm_M} {q : Int32 → mm_M → Prop} {c c' iy : Nat} {y : Int32} {Y : mm_Y} (hM : SK μ) (m1 : mm_I μ 76 1 = nI c') (h12 : c' ≤ 2) (hiy : iy < c') (hYM : YeM μ (121 * iy) Y) (hWY : WfYY Y) (m0 : mm_I μ 76 0 = nI c) (h02 : c ≤ 2) (hx : atF c y = none) (h : ∀ μ', Fr scM μ μ' → q (nI 0) μ') : mm_Ci X 3 0 0 k_M_layAll [.ref 71, .int y, .int (nI iy)] μ q := by
  show mm_T X 3 0 0 k_M_layAll 0 [some (.ref 71), some (.int y), some (.int (nI iy))] [] μ _
  refine mm_aload d_M_layAll_0 rfl ?_
  refine mm_iload d_M_layAll_1 rfl ?_
  refine mm_v1i d_M_layAll_2 (sk_o_71 hM) (sp_M_hasYearT hM m1 h12 hiy hYM hWY (fun hL => ?_))
  refine mm_if_eqN d_M_layAll_5 (by first | omega | exact ite01_lt | exact bt8_lt31 _ _ | exact godB_lt31 _ _ _ | exact pop_lt31 _ | assumption | exact b31 (hW.gp (by omega)) | exact b31 (hW.ne (by omega)) | exact b31 (hW.op (by omega)) | exact and31 (hW.gp (by omega)) | exact and31 (hW.ne (by omega)) | exact and31 (hW.op (by omega)) | exact and31 (by assumption) | exact and31r (hW.ne (by omega)) | exact and31r (hW.gp (by omega)) | exact and31r (by decide)) (fun c_5 => False.elim (by omega)) (fun c_5 => ?_)
  refine mm_aload d_M_layAll_8 rfl ?_
  refine mm_iload d_M_layAll_9 rfl ?_
  refine mm_v1i d_M_layAll_10 (sk_o_71 hM) (n_M_hand hM (by rw [mm_sI_off (by decide)]; exact m0) h02 hx ?_)
  change mm_T _ _ _ _ _ _ _ (.int (nI 0) :: _) _ _
  refine mm_if_eqN d_M_layAll_13 (by first | omega | exact ite01_lt | exact bt8_lt31 _ _ | exact godB_lt31 _ _ _ | exact pop_lt31 _ | assumption | exact b31 (hW.gp (by omega)) | exact b31 (hW.ne (by omega)) | exact b31 (hW.op (by omega)) | exact and31 (hW.gp (by omega)) | exact and31 (hW.ne (by omega)) | exact and31 (hW.op (by omega)) | exact and31 (by assumption) | exact and31r (hW.ne (by omega)) | exact and31r (hW.gp (by omega)) | exact and31r (by decide)) (fun c_13 => ?_) (fun c_13 => False.elim (by omega))
  refine mm_ciN 0 d_M_layAll_20 rfl ?_
  exact mm_rz d_M_layAll_21 (h _ (Fr.rf.sI rfl))
theorem sp_M_doesDeed {X : mm_X} {μ : mm_M} {q : Int32 → mm_M → Prop} {i iy k : Nat} {D : mm_D} {Y : mm_Y} {σ : mm_S} (hS : MoS μ i D σ) (hT : WfS σ ∧ WfL D σ) (hY : HY μ iy Y) (hk : k < Y.1) (h1 : ∀ σ', dl D σ (yk Y k) (yx Y k) (yy Y k) = some σ' → ∀ μ', MoS μ' i D σ' → Mk μ μ' → q (nI 1) μ') (h0 : dl D σ (yk Y k) (yx Y k) (yy Y k) = none → q (nI 0) μ) : mm_Ci X 4 0 0 k_M_doesDeed [.ref 71, .int (nI k)] μ q := by
  show mm_T X 4 0 0 k_M_doesDeed 0 [some (.ref 71), some (.int (nI k))] [] μ _
  have hM := hS.1.1
  have hok := WfY_ok (hY.2.2.2.2.2 k hk)
  refine mm_aload d_M_doesDeed_0 rfl ?_
  refine mm_aload d_M_doesDeed_1 rfl ?_
  refine mm_iload d_M_doesDeed_2 rfl ?_
  refine mm_ciN 0 d_M_doesDeed_3 rfl ?_
  refine mm_v2i d_M_doesDeed_4 (sk_o_71 hM) (sp_M_deedOf hY hk (by decide) ?_)
  rw [show yAt Y k 0 = nI (yk Y k) from hok.1]
  refine mm_aload d_M_doesDeed_7 rfl ?_
  refine mm_iload d_M_doesDeed_8 rfl ?_
  refine mm_ciN 1 d_M_doesDeed_9 rfl ?_
  refine mm_v2i d_M_doesDeed_10 (sk_o_71 hM) (sp_M_deedOf hY hk (by decide) ?_)
  refine mm_aload d_M_doesDeed_13 rfl ?_
  refine mm_iload d_M_doesDeed_14 rfl ?_
  refine mm_ciN 2 d_M_doesDeed_15 rfl ?_
  refine mm_v2i d_M_doesDeed_16 (sk_o_71 hM) (sp_M_deedOf hY hk (by decide) ?_)
  refine mm_v3i d_M_doesDeed_19 (sk_o_71 hM) (sp_M_does hok.2.2 hS hT (fun σ' hd μ' hS' hm => ?_) (fun hd => ?_))
  · exact mm_rz d_M_doesDeed_22 (h1 σ' hd μ' hS' hm)
  · exact mm_rz d_M_doesDeed_22 (h0 hd)
theorem sp_M_play {X : mm_X} {μ : mm_M} {q : Int32 → mm_M → Prop} {i iy n : Nat} {D : mm_D} {Y : mm_Y} (hS : MoS μ i D S0) (hY : HY μ iy Y) (hn : n ≤ Y.1) (h : ∀ μ' σ, rn D Y (lvF D Y n) = some σ → MoS μ' i D σ → Mk μ μ' → q (nI (lvF D Y n)) μ') : mm_Ci X 5 0 0 k_M_play [.ref 71, .int (nI n)] μ q := by
  show mm_T X 5 0 0 k_M_play 0 [some (.ref 71), some (.int (nI n)), none] [] μ _
  have hW := hS.1.wf
  have hWY := hY.2.2.2.2
  have h40 := hWY.1
  refine mm_ciN 0 d_M_play_0 rfl ?_
  refine mm_ist2 d_M_play_1 ?_
  refine mm_up (P := fun k => ∀ ν σ, rn D Y k = some σ → MoS ν i D σ → Mk μ ν → mm_T X _ 0 0 k_M_play 2 [some (.ref 71), some (.int (nI n)), some (.int (nI k))] [] ν _) n ?_ (fun k hk ih => ?_) μ S0 rfl hS Mk.rf
  · intro ν σ hr hS hm
    rw [lvF_all hr] at h
    refine mm_iload d_M_play_2 rfl ?_
    refine mm_iload d_M_play_3 rfl ?_
    refine mm_icmp_geN d_M_play_4 (by first | omega | exact ite01_lt | exact bt8_lt31 _ _ | exact godB_lt31 _ _ _ | exact pop_lt31 _ | assumption | exact b31 (hW.gp (by omega)) | exact b31 (hW.ne (by omega)) | exact b31 (hW.op (by omega)) | exact and31 (hW.gp (by omega)) | exact and31 (hW.ne (by omega)) | exact and31 (hW.op (by omega)) | exact and31 (by assumption) | exact and31r (hW.ne (by omega)) | exact and31r (hW.gp (by omega)) | exact and31r (by decide)) (by first | omega | exact ite01_lt | exact bt8_lt31 _ _ | exact godB_lt31 _ _ _ | exact pop_lt31 _ | assumption | exact b31 (hW.gp (by omega)) | exact b31 (hW.ne (by omega)) | exact b31 (hW.op (by omega)) | exact and31 (hW.gp (by omega)) | exact and31 (hW.ne (by omega)) | exact and31 (hW.op (by omega)) | exact and31 (by assumption) | exact and31r (hW.ne (by omega)) | exact and31r (hW.gp (by omega)) | exact and31r (by decide)) (fun c_4 => ?_) (fun c_4 => False.elim (by omega))
    refine mm_iload d_M_play_21 rfl ?_
    exact mm_ri d_M_play_22 (h ν σ hr hS hm)
  · intro ν σ hr hS hm
    have hM := hS.1.1
    have hwf := rn_wf hW hWY (by omega) hr
    refine mm_iload d_M_play_2 rfl ?_
    refine mm_iload d_M_play_3 rfl ?_
    refine mm_icmp_geN d_M_play_4 (by first | omega | exact ite01_lt | exact bt8_lt31 _ _ | exact godB_lt31 _ _ _ | exact pop_lt31 _ | assumption | exact b31 (hW.gp (by omega)) | exact b31 (hW.ne (by omega)) | exact b31 (hW.op (by omega)) | exact and31 (hW.gp (by omega)) | exact and31 (hW.ne (by omega)) | exact and31 (hW.op (by omega)) | exact and31 (by assumption) | exact and31r (hW.ne (by omega)) | exact and31r (hW.gp (by omega)) | exact and31r (by decide)) (by first | omega | exact ite01_lt | exact bt8_lt31 _ _ | exact godB_lt31 _ _ _ | exact pop_lt31 _ | assumption | exact b31 (hW.gp (by omega)) | exact b31 (hW.ne (by omega)) | exact b31 (hW.op (by omega)) | exact and31 (hW.gp (by omega)) | exact and31 (hW.ne (by omega)) | exact and31 (hW.op (by omega)) | exact and31 (by assumption) | exact and31r (hW.ne (by omega)) | exact and31r (hW.gp (by omega)) | exact and31r (by decide)) (fun c_4 => False.elim (by omega)) (fun c_4 => ?_)
    refine mm_aload d_M_play_7 rfl ?_
    refine mm_iload d_M_play_8 rfl ?_
    refine mm_v1i d_M_play_9 (sk_o_71 hM) (sp_M_doesDeed hS hwf (hY.mk hm) (by omega) (fun σ' hd μ' hS' hm' => ?_) (fun hd => ?_))
    · refine mm_if_eqN d_M_play_12 (by decide) (fun z => absurd z (by decide)) (fun _ => ?_)
      refine mm_inc2N d_M_play_15 ?_
      refine mm_goto d_M_play_18 ?_
      exact ih μ' σ' ((rn_s hr).trans hd) hS' (hm.trans hm')
    · rw [lvF_at' hr ((rn_s hr).trans hd) hk] at h
      refine mm_if_eqN d_M_play_12 (by decide) (fun _ => ?_) (fun z => absurd rfl z)
      refine mm_iload d_M_play_21 rfl ?_
      exact mm_ri d_M_play_22 (h ν σ hr hS hm)
/-- what is seen of a state -/
def stN (D : mm_D) (σ : mm_S) (t : Nat) : Int32 :=
  if t < 6 then (if t = 0 then nI (sY σ) else if t = 1 then nI (sH σ) else if t = 2 then nI (sD σ) else if t = 3 then nI (worthN D (sD σ)) else if t = 4 then nI (sB σ) else nI (sA σ))
  else if t < 10 then -1
  else if t < 100 then (if t - 10 < dn D then nI (sC σ (t - 10)) else -1)
  else if (t - 100) / 8 < dn D ∧ bt8 (dgp D ((t - 100) / 8)) ((t - 100) % 8) ≠ 0 then nI (sL σ (t - 100)) else -1
def stR (D : mm_D) (σ : mm_S) (y : Int32) : Int32 := if y < 0 then -1 else stN D σ y.toNatClampNeg
theorem sp_Da_lookAtChild {X : mm_X} {μ : mm_M} {q : Int32 → mm_M → Prop} {i t : Nat} {D : mm_D} {σ : mm_S} {ξ : mm_Xi} (hS : DaS μ i D σ ξ) (hW : WfD D) (ht : t < 2 ^ 31) (h6 : 6 ≤ t) (h : q (stN D σ t) μ) : mm_Ci X 2 0 0 k_Da_lookAtChild [.ref 53, .int (nI t)] μ q := by
  show mm_T X 2 0 0 k_Da_lookAtChild 0 [some (.ref 53), some (.int (nI t)), none, none] [] μ _
  obtain ⟨hM, hi2, hCD, hP, hF⟩ := hS
  have hn6 := hW.1
  unfold stN at h
  rw [if_neg (by omega)] at h
  by_cases t10 : t < 10
  · rw [if_pos t10] at h
    refine mm_iload d_Da_lookAtChild_0 rfl ?_
    refine mm_ciN 100 d_Da_lookAtChild_1 rfl ?_
    refine mm_icmp_geN d_Da_lookAtChild_3 (by first | omega | exact ite01_lt | exact bt8_lt31 _ _ | exact godB_lt31 _ _ _ | exact pop_lt31 _ | assumption | exact b31 (hW.gp (by omega)) | exact b31 (hW.ne (by omega)) | exact b31 (hW.op (by omega)) | exact and31 (hW.gp (by omega)) | exact and31 (hW.ne (by omega)) | exact and31 (hW.op (by omega)) | exact and31 (by assumption) | exact and31r (hW.ne (by omega)) | exact and31r (hW.gp (by omega)) | exact and31r (by decide)) (by first | omega | exact ite01_lt | exact bt8_lt31 _ _ | exact godB_lt31 _ _ _ | exact pop_lt31 _ | assumption | exact b31 (hW.gp (by omega)) | exact b31 (hW.ne (by omega)) | exact b31 (hW.op (by omega)) | exact and31 (hW.gp (by omega)) | exact and31 (hW.ne (by omega)) | exact and31 (hW.op (by omega)) | exact and31 (by assumption) | exact and31r (hW.ne (by omega)) | exact and31r (hW.gp (by omega)) | exact and31r (by decide)) (fun c_3 => False.elim (by omega)) (fun c_3 => ?_)
    refine mm_iload d_Da_lookAtChild_6 rfl ?_
    refine mm_ciN 10 d_Da_lookAtChild_7 rfl ?_
    refine mm_icmp_ltN d_Da_lookAtChild_9 (by first | omega | exact ite01_lt | exact bt8_lt31 _ _ | exact godB_lt31 _ _ _ | exact pop_lt31 _ | assumption | exact b31 (hW.gp (by omega)) | exact b31 (hW.ne (by omega)) | exact b31 (hW.op (by omega)) | exact and31 (hW.gp (by omega)) | exact and31 (hW.ne (by omega)) | exact and31 (hW.op (by omega)) | exact and31 (by assumption) | exact and31r (hW.ne (by omega)) | exact and31r (hW.gp (by omega)) | exact and31r (by decide)) (by first | omega | exact ite01_lt | exact bt8_lt31 _ _ | exact godB_lt31 _ _ _ | exact pop_lt31 _ | assumption | exact b31 (hW.gp (by omega)) | exact b31 (hW.ne (by omega)) | exact b31 (hW.op (by omega)) | exact and31 (hW.gp (by omega)) | exact and31 (hW.ne (by omega)) | exact and31 (hW.op (by omega)) | exact and31 (by assumption) | exact and31r (hW.ne (by omega)) | exact and31r (hW.gp (by omega)) | exact and31r (by decide)) (fun c_9 => ?_) (fun c_9 => False.elim (by omega))
    refine mm_ci d_Da_lookAtChild_38 ?_
    exact mm_ri d_Da_lookAtChild_39 h
  · rw [if_neg t10] at h
    by_cases t100 : t < 100
    · rw [if_pos t100] at h
      by_cases hc : t - 10 < dn D
      · rw [if_pos hc] at h
        refine mm_iload d_Da_lookAtChild_0 rfl ?_
        refine mm_ciN 100 d_Da_lookAtChild_1 rfl ?_
        refine mm_icmp_geN d_Da_lookAtChild_3 (by first | omega | exact ite01_lt | exact bt8_lt31 _ _ | exact godB_lt31 _ _ _ | exact pop_lt31 _ | assumption | exact b31 (hW.gp (by omega)) | exact b31 (hW.ne (by omega)) | exact b31 (hW.op (by omega)) | exact and31 (hW.gp (by omega)) | exact and31 (hW.ne (by omega)) | exact and31 (hW.op (by omega)) | exact and31 (by assumption) | exact and31r (hW.ne (by omega)) | exact and31r (hW.gp (by omega)) | exact and31r (by decide)) (by first | omega | exact ite01_lt | exact bt8_lt31 _ _ | exact godB_lt31 _ _ _ | exact pop_lt31 _ | assumption | exact b31 (hW.gp (by omega)) | exact b31 (hW.ne (by omega)) | exact b31 (hW.op (by omega)) | exact and31 (hW.gp (by omega)) | exact and31 (hW.ne (by omega)) | exact and31 (hW.op (by omega)) | exact and31 (by assumption) | exact and31r (hW.ne (by omega)) | exact and31r (hW.gp (by omega)) | exact and31r (by decide)) (fun c_3 => False.elim (by omega)) (fun c_3 => ?_)
        refine mm_iload d_Da_lookAtChild_6 rfl ?_
        refine mm_ciN 10 d_Da_lookAtChild_7 rfl ?_
        refine mm_icmp_ltN d_Da_lookAtChild_9 (by first | omega | exact ite01_lt | exact bt8_lt31 _ _ | exact godB_lt31 _ _ _ | exact pop_lt31 _ | assumption | exact b31 (hW.gp (by omega)) | exact b31 (hW.ne (by omega)) | exact b31 (hW.op (by omega)) | exact and31 (hW.gp (by omega)) | exact and31 (hW.ne (by omega)) | exact and31 (hW.op (by omega)) | exact and31 (by assumption) | exact and31r (hW.ne (by omega)) | exact and31r (hW.gp (by omega)) | exact and31r (by decide)) (by first | omega | exact ite01_lt | exact bt8_lt31 _ _ | exact godB_lt31 _ _ _ | exact pop_lt31 _ | assumption | exact b31 (hW.gp (by omega)) | exact b31 (hW.ne (by omega)) | exact b31 (hW.op (by omega)) | exact and31 (hW.gp (by omega)) | exact and31 (hW.ne (by omega)) | exact and31 (hW.op (by omega)) | exact and31 (by assumption) | exact and31r (hW.ne (by omega)) | exact and31r (hW.gp (by omega)) | exact and31r (by decide)) (fun c_9 => False.elim (by omega)) (fun c_9 => ?_)
        refine mm_aload d_Da_lookAtChild_12 rfl ?_
        refine mm_getP d_Da_lookAtChild_13 rfl (sk_o_53 hM) hP ?_
        refine mm_iload d_Da_lookAtChild_16 rfl ?_
        refine mm_ciN 10 d_Da_lookAtChild_17 rfl ?_
        refine mm_isubN d_Da_lookAtChild_19 (by omega) ?_
        refine mm_v1i d_Da_lookAtChild_20 hCD.1.1 (sp_Co_hasChildT hCD hW hc ?_)
        refine mm_if_eqN d_Da_lookAtChild_23 (by first | omega | exact ite01_lt | exact bt8_lt31 _ _ | exact godB_lt31 _ _ _ | exact pop_lt31 _ | assumption | exact b31 (hW.gp (by omega)) | exact b31 (hW.ne (by omega)) | exact b31 (hW.op (by omega)) | exact and31 (hW.gp (by omega)) | exact and31 (hW.ne (by omega)) | exact and31 (hW.op (by omega)) | exact and31 (by assumption) | exact and31r (hW.ne (by omega)) | exact and31r (hW.gp (by omega)) | exact and31r (by decide)) (fun c_23 => False.elim (by omega)) (fun c_23 => ?_)
        refine mm_aload d_Da_lookAtChild_26 rfl ?_
        refine mm_getP d_Da_lookAtChild_27 rfl (sk_o_53 hM) (sk_p_53_5 hM) ?_
        refine mm_iload d_Da_lookAtChild_30 rfl ?_
        refine mm_ciN 10 d_Da_lookAtChild_31 rfl ?_
        refine mm_isubN d_Da_lookAtChild_33 (by omega) ?_
        refine mm_ialdN d_Da_lookAtChild_34 (sk_a_54 hM) (by omega) (by decide) (hF.C (by omega)) ?_
        refine mm_goto d_Da_lookAtChild_35 ?_
        exact mm_ri d_Da_lookAtChild_39 h
      · rw [if_neg hc] at h
        refine mm_iload d_Da_lookAtChild_0 rfl ?_
        refine mm_ciN 100 d_Da_lookAtChild_1 rfl ?_
        refine mm_icmp_geN d_Da_lookAtChild_3 (by first | omega | exact ite01_lt | exact bt8_lt31 _ _ | exact godB_lt31 _ _ _ | exact pop_lt31 _ | assumption | exact b31 (hW.gp (by omega)) | exact b31 (hW.ne (by omega)) | exact b31 (hW.op (by omega)) | exact and31 (hW.gp (by omega)) | exact and31 (hW.ne (by omega)) | exact and31 (hW.op (by omega)) | exact and31 (by assumption) | exact and31r (hW.ne (by omega)) | exact and31r (hW.gp (by omega)) | exact and31r (by decide)) (by first | omega | exact ite01_lt | exact bt8_lt31 _ _ | exact godB_lt31 _ _ _ | exact pop_lt31 _ | assumption | exact b31 (hW.gp (by omega)) | exact b31 (hW.ne (by omega)) | exact b31 (hW.op (by omega)) | exact and31 (hW.gp (by omega)) | exact and31 (hW.ne (by omega)) | exact and31 (hW.op (by omega)) | exact and31 (by assumption) | exact and31r (hW.ne (by omega)) | exact and31r (hW.gp (by omega)) | exact and31r (by decide)) (fun c_3 => False.elim (by omega)) (fun c_3 => ?_)
        refine mm_iload d_Da_lookAtChild_6 rfl ?_
        refine mm_ciN 10 d_Da_lookAtChild_7 rfl ?_
        refine mm_icmp_ltN d_Da_lookAtChild_9 (by first | omega | exact ite01_lt | exact bt8_lt31 _ _ | exact godB_lt31 _ _ _ | exact pop_lt31 _ | assumption | exact b31 (hW.gp (by omega)) | exact b31 (hW.ne (by omega)) | exact b31 (hW.op (by omega)) | exact and31 (hW.gp (by omega)) | exact and31 (hW.ne (by omega)) | exact and31 (hW.op (by omega)) | exact and31 (by assumption) | exact and31r (hW.ne (by omega)) | exact and31r (hW.gp (by omega)) | exact and31r (by decide)) (by first | omega | exact ite01_lt | exact bt8_lt31 _ _ | exact godB_lt31 _ _ _ | exact pop_lt31 _ | assumption | exact b31 (hW.gp (by omega)) | exact b31 (hW.ne (by omega)) | exact b31 (hW.op (by omega)) | exact and31 (hW.gp (by omega)) | exact and31 (hW.ne (by omega)) | exact and31 (hW.op (by omega)) | exact and31 (by assumption) | exact and31r (hW.ne (by omega)) | exact and31r (hW.gp (by omega)) | exact and31r (by decide)) (fun c_9 => False.elim (by omega)) (fun c_9 => ?_)
        refine mm_aload d_Da_lookAtChild_12 rfl ?_
        refine mm_getP d_Da_lookAtChild_13 rfl (sk_o_53 hM) hP ?_
        refine mm_iload d_Da_lookAtChild_16 rfl ?_
        refine mm_ciN 10 d_Da_lookAtChild_17 rfl ?_
        refine mm_isubN d_Da_lookAtChild_19 (by omega) ?_
        refine mm_v1i d_Da_lookAtChild_20 hCD.1.1 (sp_Co_hasChildN hCD (by omega) hW ?_)
        rw [if_neg hc]
        refine mm_if_eqN d_Da_lookAtChild_23 (by first | omega | exact ite01_lt | exact bt8_lt31 _ _ | exact godB_lt31 _ _ _ | exact pop_lt31 _ | assumption | exact b31 (hW.gp (by omega)) | exact b31 (hW.ne (by omega)) | exact b31 (hW.op (by omega)) | exact and31 (hW.gp (by omega)) | exact and31 (hW.ne (by omega)) | exact and31 (hW.op (by omega)) | exact and31 (by assumption) | exact and31r (hW.ne (by omega)) | exact and31r (hW.gp (by omega)) | exact and31r (by decide)) (fun c_23 => ?_) (fun c_23 => False.elim (by omega))
        refine mm_ci d_Da_lookAtChild_38 ?_
        exact mm_ri d_Da_lookAtChild_39 h
    · rw [if_neg t100] at h
      by_cases hj : t - 100 < 48
      · by_cases hc : (t - 100) / 8 < dn D ∧ bt8 (dgp D ((t - 100) / 8)) ((t - 100) % 8) ≠ 0
        · rw [if_pos hc] at h
          have hgb := godB_in (w := (t - 100) % 8) hc.1
          refine mm_iload d_Da_lookAtChild_0 rfl ?_
          refine mm_ciN 100 d_Da_lookAtChild_1 rfl ?_
          refine mm_icmp_geN d_Da_lookAtChild_3 (by first | omega | exact ite01_lt | exact bt8_lt31 _ _ | exact godB_lt31 _ _ _ | exact pop_lt31 _ | assumption | exact b31 (hW.gp (by omega)) | exact b31 (hW.ne (by omega)) | exact b31 (hW.op (by omega)) | exact and31 (hW.gp (by omega)) | exact and31 (hW.ne (by omega)) | exact and31 (hW.op (by omega)) | exact and31 (by assumption) | exact and31r (hW.ne (by omega)) | exact and31r (hW.gp (by omega)) | exact and31r (by decide)) (by first | omega | exact ite01_lt | exact bt8_lt31 _ _ | exact godB_lt31 _ _ _ | exact pop_lt31 _ | assumption | exact b31 (hW.gp (by omega)) | exact b31 (hW.ne (by omega)) | exact b31 (hW.op (by omega)) | exact and31 (hW.gp (by omega)) | exact and31 (hW.ne (by omega)) | exact and31 (hW.op (by omega)) | exact and31 (by assumption) | exact and31r (hW.ne (by omega)) | exact and31r (hW.gp (by omega)) | exact and31r (by decide)) (fun c_3 => ?_) (fun c_3 => False.elim (by omega))
          refine mm_iload d_Da_lookAtChild_40 rfl ?_
          refine mm_ciN 100 d_Da_lookAtChild_41 rfl ?_
          refine mm_isubN d_Da_lookAtChild_43 (by omega) ?_
          refine mm_ist2 d_Da_lookAtChild_44 ?_
          refine mm_iload d_Da_lookAtChild_45 rfl ?_
          refine mm_aload d_Da_lookAtChild_46 rfl ?_
          refine mm_getP d_Da_lookAtChild_47 rfl (sk_o_53 hM) (sk_p_53_6 hM) ?_
          refine mm_alen d_Da_lookAtChild_50 (sk_a_55 hM) ?_
          change mm_T _ _ _ _ _ _ _ (.int (nI 48) :: _) _ _
          refine mm_icmp_geN d_Da_lookAtChild_51 (by first | omega | exact ite01_lt | exact bt8_lt31 _ _ | exact godB_lt31 _ _ _ | exact pop_lt31 _ | assumption | exact b31 (hW.gp (by omega)) | exact b31 (hW.ne (by omega)) | exact b31 (hW.op (by omega)) | exact and31 (hW.gp (by omega)) | exact and31 (hW.ne (by omega)) | exact and31 (hW.op (by omega)) | exact and31 (by assumption) | exact and31r (hW.ne (by omega)) | exact and31r (hW.gp (by omega)) | exact and31r (by decide)) (by first | omega | exact ite01_lt | exact bt8_lt31 _ _ | exact godB_lt31 _ _ _ | exact pop_lt31 _ | assumption | exact b31 (hW.gp (by omega)) | exact b31 (hW.ne (by omega)) | exact b31 (hW.op (by omega)) | exact and31 (hW.gp (by omega)) | exact and31 (hW.ne (by omega)) | exact and31 (hW.op (by omega)) | exact and31 (by assumption) | exact and31r (hW.ne (by omega)) | exact and31r (hW.gp (by omega)) | exact and31r (by decide)) (fun c_51 => False.elim (by omega)) (fun c_51 => ?_)
          refine mm_aload d_Da_lookAtChild_54 rfl ?_
          refine mm_getP d_Da_lookAtChild_55 rfl (sk_o_53 hM) hP ?_
          refine mm_iload d_Da_lookAtChild_58 rfl ?_
          refine mm_ciN 8 d_Da_lookAtChild_59 rfl ?_
          refine mm_idivN d_Da_lookAtChild_61 (by first | omega | exact ite01_lt | exact bt8_lt31 _ _ | exact godB_lt31 _ _ _ | exact pop_lt31 _ | assumption | exact b31 (hW.gp (by omega)) | exact b31 (hW.ne (by omega)) | exact b31 (hW.op (by omega)) | exact and31 (hW.gp (by omega)) | exact and31 (hW.ne (by omega)) | exact and31 (hW.op (by omega)) | exact and31 (by assumption) | exact and31r (hW.ne (by omega)) | exact and31r (hW.gp (by omega)) | exact and31r (by decide)) (by omega) (by omega) ?_
          refine mm_iload d_Da_lookAtChild_62 rfl ?_
          refine mm_ciN 8 d_Da_lookAtChild_63 rfl ?_
          refine mm_iremN d_Da_lookAtChild_65 (by first | omega | exact ite01_lt | exact bt8_lt31 _ _ | exact godB_lt31 _ _ _ | exact pop_lt31 _ | assumption | exact b31 (hW.gp (by omega)) | exact b31 (hW.ne (by omega)) | exact b31 (hW.op (by omega)) | exact and31 (hW.gp (by omega)) | exact and31 (hW.ne (by omega)) | exact and31 (hW.op (by omega)) | exact and31 (by assumption) | exact and31r (hW.ne (by omega)) | exact and31r (hW.gp (by omega)) | exact and31r (by decide)) (by omega) (by omega) ?_
          refine mm_v2i d_Da_lookAtChild_66 hCD.1.1 (sp_Co_isGodparent hCD hW (by omega) (by omega) ?_)
          rw [hgb]
          refine mm_if_eqN d_Da_lookAtChild_69 (by first | omega | exact ite01_lt | exact bt8_lt31 _ _ | exact godB_lt31 _ _ _ | exact pop_lt31 _ | assumption | exact b31 (hW.gp (by omega)) | exact b31 (hW.ne (by omega)) | exact b31 (hW.op (by omega)) | exact and31 (hW.gp (by omega)) | exact and31 (hW.ne (by omega)) | exact and31 (hW.op (by omega)) | exact and31 (by assumption) | exact and31r (hW.ne (by omega)) | exact and31r (hW.gp (by omega)) | exact and31r (by decide)) (fun c_69 => False.elim (hc.2 c_69)) (fun c_69 => ?_)
          refine mm_ciN 1 d_Da_lookAtChild_72 rfl ?_
          refine mm_goto d_Da_lookAtChild_73 ?_
          refine mm_ist3 d_Da_lookAtChild_77 ?_
          refine mm_iload d_Da_lookAtChild_78 rfl ?_
          refine mm_if_eqN d_Da_lookAtChild_79 (by first | omega | exact ite01_lt | exact bt8_lt31 _ _ | exact godB_lt31 _ _ _ | exact pop_lt31 _ | assumption | exact b31 (hW.gp (by omega)) | exact b31 (hW.ne (by omega)) | exact b31 (hW.op (by omega)) | exact and31 (hW.gp (by omega)) | exact and31 (hW.ne (by omega)) | exact and31 (hW.op (by omega)) | exact and31 (by assumption) | exact and31r (hW.ne (by omega)) | exact and31r (hW.gp (by omega)) | exact and31r (by decide)) (fun c_79 => False.elim (by omega)) (fun c_79 => ?_)
          refine mm_aload d_Da_lookAtChild_82 rfl ?_
          refine mm_getP d_Da_lookAtChild_83 rfl (sk_o_53 hM) (sk_p_53_6 hM) ?_
          refine mm_iload d_Da_lookAtChild_86 rfl ?_
          refine mm_ialdN d_Da_lookAtChild_87 (sk_a_55 hM) (by omega) (by decide) (hF.L (by omega)) ?_
          refine mm_goto d_Da_lookAtChild_88 ?_
          exact mm_ri d_Da_lookAtChild_92 h
        · rw [if_neg hc] at h
          have hgb : godB D ((t - 100) / 8) ((t - 100) % 8) = 0 := by
            unfold godB
            split
            · rename_i z
              exact Decidable.byContradiction fun e => hc ⟨z, e⟩
            · rfl
          refine mm_iload d_Da_lookAtChild_0 rfl ?_
          refine mm_ciN 100 d_Da_lookAtChild_1 rfl ?_
          refine mm_icmp_geN d_Da_lookAtChild_3 (by first | omega | exact ite01_lt | exact bt8_lt31 _ _ | exact godB_lt31 _ _ _ | exact pop_lt31 _ | assumption | exact b31 (hW.gp (by omega)) | exact b31 (hW.ne (by omega)) | exact b31 (hW.op (by omega)) | exact and31 (hW.gp (by omega)) | exact and31 (hW.ne (by omega)) | exact and31 (hW.op (by omega)) | exact and31 (by assumption) | exact and31r (hW.ne (by omega)) | exact and31r (hW.gp (by omega)) | exact and31r (by decide)) (by first | omega | exact ite01_lt | exact bt8_lt31 _ _ | exact godB_lt31 _ _ _ | exact pop_lt31 _ | assumption | exact b31 (hW.gp (by omega)) | exact b31 (hW.ne (by omega)) | exact b31 (hW.op (by omega)) | exact and31 (hW.gp (by omega)) | exact and31 (hW.ne (by omega)) | exact and31 (hW.op (by omega)) | exact and31 (by assumption) | exact and31r (hW.ne (by omega)) | exact and31r (hW.gp (by omega)) | exact and31r (by decide)) (fun c_3 => ?_) (fun c_3 => False.elim (by omega))
          refine mm_iload d_Da_lookAtChild_40 rfl ?_
          refine mm_ciN 100 d_Da_lookAtChild_41 rfl ?_
          refine mm_isubN d_Da_lookAtChild_43 (by omega) ?_
          refine mm_ist2 d_Da_lookAtChild_44 ?_
          refine mm_iload d_Da_lookAtChild_45 rfl ?_
          refine mm_aload d_Da_lookAtChild_46 rfl ?_
          refine mm_getP d_Da_lookAtChild_47 rfl (sk_o_53 hM) (sk_p_53_6 hM) ?_
          refine mm_alen d_Da_lookAtChild_50 (sk_a_55 hM) ?_
          change mm_T _ _ _ _ _ _ _ (.int (nI 48) :: _) _ _
          refine mm_icmp_geN d_Da_lookAtChild_51 (by first | omega | exact ite01_lt | exact bt8_lt31 _ _ | exact godB_lt31 _ _ _ | exact pop_lt31 _ | assumption | exact b31 (hW.gp (by omega)) | exact b31 (hW.ne (by omega)) | exact b31 (hW.op (by omega)) | exact and31 (hW.gp (by omega)) | exact and31 (hW.ne (by omega)) | exact and31 (hW.op (by omega)) | exact and31 (by assumption) | exact and31r (hW.ne (by omega)) | exact and31r (hW.gp (by omega)) | exact and31r (by decide)) (by first | omega | exact ite01_lt | exact bt8_lt31 _ _ | exact godB_lt31 _ _ _ | exact pop_lt31 _ | assumption | exact b31 (hW.gp (by omega)) | exact b31 (hW.ne (by omega)) | exact b31 (hW.op (by omega)) | exact and31 (hW.gp (by omega)) | exact and31 (hW.ne (by omega)) | exact and31 (hW.op (by omega)) | exact and31 (by assumption) | exact and31r (hW.ne (by omega)) | exact and31r (hW.gp (by omega)) | exact and31r (by decide)) (fun c_51 => False.elim (by omega)) (fun c_51 => ?_)
          refine mm_aload d_Da_lookAtChild_54 rfl ?_
          refine mm_getP d_Da_lookAtChild_55 rfl (sk_o_53 hM) hP ?_
          refine mm_iload d_Da_lookAtChild_58 rfl ?_
          refine mm_ciN 8 d_Da_lookAtChild_59 rfl ?_
          refine mm_idivN d_Da_lookAtChild_61 (by first | omega | exact ite01_lt | exact bt8_lt31 _ _ | exact godB_lt31 _ _ _ | exact pop_lt31 _ | assumption | exact b31 (hW.gp (by omega)) | exact b31 (hW.ne (by omega)) | exact b31 (hW.op (by omega)) | exact and31 (hW.gp (by omega)) | exact and31 (hW.ne (by omega)) | exact and31 (hW.op (by omega)) | exact and31 (by assumption) | exact and31r (hW.ne (by omega)) | exact and31r (hW.gp (by omega)) | exact and31r (by decide)) (by omega) (by omega) ?_
          refine mm_iload d_Da_lookAtChild_62 rfl ?_
          refine mm_ciN 8 d_Da_lookAtChild_63 rfl ?_
          refine mm_iremN d_Da_lookAtChild_65 (by first | omega | exact ite01_lt | exact bt8_lt31 _ _ | exact godB_lt31 _ _ _ | exact pop_lt31 _ | assumption | exact b31 (hW.gp (by omega)) | exact b31 (hW.ne (by omega)) | exact b31 (hW.op (by omega)) | exact and31 (hW.gp (by omega)) | exact and31 (hW.ne (by omega)) | exact and31 (hW.op (by omega)) | exact and31 (by assumption) | exact and31r (hW.ne (by omega)) | exact and31r (hW.gp (by omega)) | exact and31r (by decide)) (by omega) (by omega) ?_
          refine mm_v2i d_Da_lookAtChild_66 hCD.1.1 (sp_Co_isGodparent hCD hW (by omega) (by omega) ?_)
          refine mm_if_eqN d_Da_lookAtChild_69 (by first | omega | exact ite01_lt | exact bt8_lt31 _ _ | exact godB_lt31 _ _ _ | exact pop_lt31 _ | assumption | exact b31 (hW.gp (by omega)) | exact b31 (hW.ne (by omega)) | exact b31 (hW.op (by omega)) | exact and31 (hW.gp (by omega)) | exact and31 (hW.ne (by omega)) | exact and31 (hW.op (by omega)) | exact and31 (by assumption) | exact and31r (hW.ne (by omega)) | exact and31r (hW.gp (by omega)) | exact and31r (by decide)) (fun c_69 => ?_) (fun c_69 => False.elim (by omega))
          refine mm_ciN 0 d_Da_lookAtChild_76 rfl ?_
          refine mm_ist3 d_Da_lookAtChild_77 ?_
          refine mm_iload d_Da_lookAtChild_78 rfl ?_
          refine mm_if_eqN d_Da_lookAtChild_79 (by first | omega | exact ite01_lt | exact bt8_lt31 _ _ | exact godB_lt31 _ _ _ | exact pop_lt31 _ | assumption | exact b31 (hW.gp (by omega)) | exact b31 (hW.ne (by omega)) | exact b31 (hW.op (by omega)) | exact and31 (hW.gp (by omega)) | exact and31 (hW.ne (by omega)) | exact and31 (hW.op (by omega)) | exact and31 (by assumption) | exact and31r (hW.ne (by omega)) | exact and31r (hW.gp (by omega)) | exact and31r (by decide)) (fun c_79 => ?_) (fun c_79 => False.elim (by omega))
          refine mm_ci d_Da_lookAtChild_91 ?_
          exact mm_ri d_Da_lookAtChild_92 h
      · rw [if_neg (fun z => by omega)] at h
        refine mm_iload d_Da_lookAtChild_0 rfl ?_
        refine mm_ciN 100 d_Da_lookAtChild_1 rfl ?_
        refine mm_icmp_geN d_Da_lookAtChild_3 (by first | omega | exact ite01_lt | exact bt8_lt31 _ _ | exact godB_lt31 _ _ _ | exact pop_lt31 _ | assumption | exact b31 (hW.gp (by omega)) | exact b31 (hW.ne (by omega)) | exact b31 (hW.op (by omega)) | exact and31 (hW.gp (by omega)) | exact and31 (hW.ne (by omega)) | exact and31 (hW.op (by omega)) | exact and31 (by assumption) | exact and31r (hW.ne (by omega)) | exact and31r (hW.gp (by omega)) | exact and31r (by decide)) (by first | omega | exact ite01_lt | exact bt8_lt31 _ _ | exact godB_lt31 _ _ _ | exact pop_lt31 _ | assumption | exact b31 (hW.gp (by omega)) | exact b31 (hW.ne (by omega)) | exact b31 (hW.op (by omega)) | exact and31 (hW.gp (by omega)) | exact and31 (hW.ne (by omega)) | exact and31 (hW.op (by omega)) | exact and31 (by assumption) | exact and31r (hW.ne (by omega)) | exact and31r (hW.gp (by omega)) | exact and31r (by decide)) (fun c_3 => ?_) (fun c_3 => False.elim (by omega))
        refine mm_iload d_Da_lookAtChild_40 rfl ?_
        refine mm_ciN 100 d_Da_lookAtChild_41 rfl ?_
        refine mm_isubN d_Da_lookAtChild_43 (by omega) ?_
        refine mm_ist2 d_Da_lookAtChild_44 ?_
        refine mm_iload d_Da_lookAtChild_45 rfl ?_
        refine mm_aload d_Da_lookAtChild_46 rfl ?_
        refine mm_getP d_Da_lookAtChild_47 rfl (sk_o_53 hM) (sk_p_53_6 hM) ?_
        refine mm_alen d_Da_lookAtChild_50 (sk_a_55 hM) ?_
        change mm_T _ _ _ _ _ _ _ (.int (nI 48) :: _) _ _
        refine mm_icmp_geN d_Da_lookAtChild_51 (by first | omega | exact ite01_lt | exact bt8_lt31 _ _ | exact godB_lt31 _ _ _ | exact pop_lt31 _ | assumption | exact b31 (hW.gp (by omega)) | exact b31 (hW.ne (by omega)) | exact b31 (hW.op (by omega)) | exact and31 (hW.gp (by omega)) | exact and31 (hW.ne (by omega)) | exact and31 (hW.op (by omega)) | exact and31 (by assumption) | exact and31r (hW.ne (by omega)) | exact and31r (hW.gp (by omega)) | exact and31r (by decide)) (by first | omega | exact ite01_lt | exact bt8_lt31 _ _ | exact godB_lt31 _ _ _ | exact pop_lt31 _ | assumption | exact b31 (hW.gp (by omega)) | exact b31 (hW.ne (by omega)) | exact b31 (hW.op (by omega)) | exact and31 (hW.gp (by omega)) | exact and31 (hW.ne (by omega)) | exact and31 (hW.op (by omega)) | exact and31 (by assumption) | exact and31r (hW.ne (by omega)) | exact and31r (hW.gp (by omega)) | exact and31r (by decide)) (fun c_51 => ?_) (fun c_51 => False.elim (by omega))
        refine mm_ciN 0 d_Da_lookAtChild_76 rfl ?_
        refine mm_ist3 d_Da_lookAtChild_77 ?_
        refine mm_iload d_Da_lookAtChild_78 rfl ?_
        refine mm_if_eqN d_Da_lookAtChild_79 (by first | omega | exact ite01_lt | exact bt8_lt31 _ _ | exact godB_lt31 _ _ _ | exact pop_lt31 _ | assumption | exact b31 (hW.gp (by omega)) | exact b31 (hW.ne (by omega)) | exact b31 (hW.op (by omega)) | exact and31 (hW.gp (by omega)) | exact and31 (hW.ne (by omega)) | exact and31 (hW.op (by omega)) | exact and31 (by assumption) | exact and31r (hW.ne (by omega)) | exact and31r (hW.gp (by omega)) | exact and31r (by decide)) (fun c_79 => ?_) (fun c_79 => False.elim (by omega))
        refine mm_ci d_Da_lookAtChild_91 ?_
        exact mm_ri d_Da_lookAtChild_92 h
theorem sp_Da_look {X : mm_X} {μ : mm_M} {q : Int32 → mm_M → Prop} {i : Nat} {y : Int32} {D : mm_D} {σ : mm_S} {ξ : mm_Xi} (hS : DaS μ i D σ ξ) (hT : WfS σ) (hW : WfD D) (h : q (stR D σ y) μ) : mm_Ci X 3 0 0 k_Da_look [.ref 53, .int y] μ q := by
  unfold stR at h
  have hM := hS.1
  have hCD := hS.2.2.1
  have hF := hS.2.2.2.2
  have hsd := hT.2.1
  by_cases hn : y < 0
  · rw [if_pos hn] at h
    show mm_T X 3 0 0 k_Da_look 0 [some (.ref 53), some (.int y)] [] μ _
    have lk : ∀ q : Int32 → mm_M → Prop, q (-1) μ → mm_Ci X 2 0 0 k_Da_lookAtChild [.ref 53, .int y] μ q := by
      intro q h
      show mm_T X 2 0 0 k_Da_lookAtChild 0 [some (.ref 53), some (.int y), none, none] [] μ _
      refine mm_iload d_Da_lookAtChild_0 rfl ?_
      refine mm_ciN 100 d_Da_lookAtChild_1 rfl ?_
      refine mm_icmp_ge d_Da_lookAtChild_3 (fun c_3 => False.elim (absurd (Int32.lt_of_le_of_lt c_3 hn) (by decide))) (fun c_3 => ?_)
      refine mm_iload d_Da_lookAtChild_6 rfl ?_
      refine mm_ciN 10 d_Da_lookAtChild_7 rfl ?_
      refine mm_icmp_lt d_Da_lookAtChild_9 (fun c_9 => ?_) (fun c_9 => False.elim (c_9 (Int32.lt_trans hn (by decide))))
      refine mm_ci d_Da_lookAtChild_38 ?_
      exact mm_ri d_Da_lookAtChild_39 h
    refine mm_iload d_Da_look_0 rfl ?_
    refine mm_switchOut (n := 0) d_Da_look_1 (Or.inl (Int32.lt_iff_toInt_lt.mp hn)) ?_
    refine mm_aload d_Da_look_77 rfl ?_
    refine mm_iload d_Da_look_78 rfl ?_
    refine mm_v1i d_Da_look_79 (sk_o_53 hM) (lk _ ?_)
    exact mm_ri d_Da_look_82 h
  · obtain ⟨t, ht, rfl⟩ := nI_of hn
    rw [if_neg hn, nI_clamp ht] at h
    show mm_T X 3 0 0 k_Da_look 0 [some (.ref 53), some (.int (nI t))] [] μ _
    by_cases h6 : 6 ≤ t
    · refine mm_iload d_Da_look_0 rfl ?_
      refine mm_switchOut (n := 0) d_Da_look_1 (Or.inr (by rw [nI_toInt ht]; omega)) ?_
      refine mm_aload d_Da_look_77 rfl ?_
      refine mm_iload d_Da_look_78 rfl ?_
      refine mm_v1i d_Da_look_79 (sk_o_53 hM) (sp_Da_lookAtChild hS hW ht h6 ?_)
      exact mm_ri d_Da_look_82 h
    · have hts : t = 0 ∨ t = 1 ∨ t = 2 ∨ t = 3 ∨ t = 4 ∨ t = 5 := by omega
      rcases hts with rfl | rfl | rfl | rfl | rfl | rfl
      · refine mm_iload d_Da_look_0 rfl ?_
        refine mm_switchIn (n := 0) d_Da_look_1 0 (by decide) (by decide) rfl ?_
        refine mm_aload d_Da_look_40 rfl ?_
        refine mm_getIN d_Da_look_41 rfl (sk_o_53 hM) hF.Y ?_
        exact mm_ri d_Da_look_44 h
      · refine mm_iload d_Da_look_0 rfl ?_
        refine mm_switchIn (n := 0) d_Da_look_1 1 (by decide) (by decide) rfl ?_
        refine mm_aload d_Da_look_45 rfl ?_
        refine mm_getIN d_Da_look_46 rfl (sk_o_53 hM) hF.H ?_
        exact mm_ri d_Da_look_49 h
      · refine mm_iload d_Da_look_0 rfl ?_
        refine mm_switchIn (n := 0) d_Da_look_1 2 (by decide) (by decide) rfl ?_
        refine mm_aload d_Da_look_50 rfl ?_
        refine mm_getIN d_Da_look_51 rfl (sk_o_53 hM) hF.D ?_
        exact mm_ri d_Da_look_54 h
      · refine mm_iload d_Da_look_0 rfl ?_
        refine mm_switchIn (n := 0) d_Da_look_1 3 (by decide) (by decide) rfl ?_
        refine mm_aload d_Da_look_55 rfl ?_
        refine mm_getP d_Da_look_56 rfl (sk_o_53 hM) hS.2.2.2.1 ?_
        refine mm_aload d_Da_look_59 rfl ?_
        refine mm_getIN d_Da_look_60 rfl (sk_o_53 hM) hF.D ?_
        refine mm_v1i d_Da_look_63 hCD.1.1 (sp_Co_worthOf hCD hW (by first | omega | assumption | exact hW.gp (by omega) | exact hW.ne (by omega) | exact hW.op (by omega) | exact and_lt256 (hW.gp (by omega)) | exact and_lt256 (hW.ne (by omega)) | exact and_lt256 (hW.op (by omega)) | exact and_lt256 (by assumption)) ?_)
        exact mm_ri d_Da_look_66 h
      · refine mm_iload d_Da_look_0 rfl ?_
        refine mm_switchIn (n := 0) d_Da_look_1 4 (by decide) (by decide) rfl ?_
        refine mm_aload d_Da_look_67 rfl ?_
        refine mm_getIN d_Da_look_68 rfl (sk_o_53 hM) hF.B ?_
        exact mm_ri d_Da_look_71 h
      · refine mm_iload d_Da_look_0 rfl ?_
        refine mm_switchIn (n := 0) d_Da_look_1 5 (by decide) (by decide) rfl ?_
        refine mm_aload d_Da_look_72 rfl ?_
        refine mm_getIN d_Da_look_73 rfl (sk_o_53 hM) hF.A ?_
        exact mm_ri d_Da_look_76 h
theorem sp_M_ofState {X : mm_X} {μ : mm_M} {q : Int32 → mm_M → Prop} {k : Nat} {y : Int32} {D : mm_D} {σ : mm_S} (hS : MoS μ k D σ) (hT : WfS σ) (h : q (stR D σ y) μ) : mm_Ci X 2 0 0 k_M_ofState [.ref 71, .int y] μ q := by
  unfold stR at h
  obtain ⟨hH, hF⟩ := hS
  have hM := hH.1
  have hW := hH.wf
  have hn6 := hW.1
  have hsd := hT.2.1
  by_cases hn : y < 0
  · rw [if_pos hn] at h
    show mm_T X 2 0 0 k_M_ofState 0 [some (.ref 71), some (.int y), none] [] μ _
    refine mm_iload d_M_ofState_0 rfl ?_
    refine mm_ciN 100 d_M_ofState_1 rfl ?_
    refine mm_icmp_lt d_M_ofState_3 (fun c_3 => ?_) (fun c_3 => False.elim (c_3 (Int32.lt_trans hn (by decide))))
    refine mm_iload d_M_ofState_54 rfl ?_
    refine mm_ciN 10 d_M_ofState_55 rfl ?_
    refine mm_icmp_lt d_M_ofState_57 (fun c_57 => ?_) (fun c_57 => False.elim (c_57 (Int32.lt_trans hn (by decide))))
    refine mm_iload d_M_ofState_85 rfl ?_
    refine mm_switchOut (n := 0) d_M_ofState_86 (Or.inl (Int32.lt_iff_toInt_lt.mp hn)) ?_
    refine mm_ci d_M_ofState_158 ?_
    exact mm_ri d_M_ofState_159 h
  · obtain ⟨t, ht, rfl⟩ := nI_of hn
    rw [if_neg hn, nI_clamp ht] at h
    show mm_T X 2 0 0 k_M_ofState 0 [some (.ref 71), some (.int (nI t)), none] [] μ _
    by_cases h6 : 6 ≤ t
    · unfold stN at h
      rw [if_neg (by omega)] at h
      by_cases t10 : t < 10
      · rw [if_pos t10] at h
        refine mm_iload d_M_ofState_0 rfl ?_
        refine mm_ciN 100 d_M_ofState_1 rfl ?_
        refine mm_icmp_ltN d_M_ofState_3 (by first | omega | exact ite01_lt | exact bt8_lt31 _ _ | exact godB_lt31 _ _ _ | exact pop_lt31 _ | assumption | exact b31 (hW.gp (by omega)) | exact b31 (hW.ne (by omega)) | exact b31 (hW.op (by omega)) | exact and31 (hW.gp (by omega)) | exact and31 (hW.ne (by omega)) | exact and31 (hW.op (by omega)) | exact and31 (by assumption) | exact and31r (hW.ne (by omega)) | exact and31r (hW.gp (by omega)) | exact and31r (by decide)) (by first | omega | exact ite01_lt | exact bt8_lt31 _ _ | exact godB_lt31 _ _ _ | exact pop_lt31 _ | assumption | exact b31 (hW.gp (by omega)) | exact b31 (hW.ne (by omega)) | exact b31 (hW.op (by omega)) | exact and31 (hW.gp (by omega)) | exact and31 (hW.ne (by omega)) | exact and31 (hW.op (by omega)) | exact and31 (by assumption) | exact and31r (hW.ne (by omega)) | exact and31r (hW.gp (by omega)) | exact and31r (by decide)) (fun c_3 => ?_) (fun c_3 => False.elim (by omega))
        refine mm_iload d_M_ofState_54 rfl ?_
        refine mm_ciN 10 d_M_ofState_55 rfl ?_
        refine mm_icmp_ltN d_M_ofState_57 (by first | omega | exact ite01_lt | exact bt8_lt31 _ _ | exact godB_lt31 _ _ _ | exact pop_lt31 _ | assumption | exact b31 (hW.gp (by omega)) | exact b31 (hW.ne (by omega)) | exact b31 (hW.op (by omega)) | exact and31 (hW.gp (by omega)) | exact and31 (hW.ne (by omega)) | exact and31 (hW.op (by omega)) | exact and31 (by assumption) | exact and31r (hW.ne (by omega)) | exact and31r (hW.gp (by omega)) | exact and31r (by decide)) (by first | omega | exact ite01_lt | exact bt8_lt31 _ _ | exact godB_lt31 _ _ _ | exact pop_lt31 _ | assumption | exact b31 (hW.gp (by omega)) | exact b31 (hW.ne (by omega)) | exact b31 (hW.op (by omega)) | exact and31 (hW.gp (by omega)) | exact and31 (hW.ne (by omega)) | exact and31 (hW.op (by omega)) | exact and31 (by assumption) | exact and31r (hW.ne (by omega)) | exact and31r (hW.gp (by omega)) | exact and31r (by decide)) (fun c_57 => ?_) (fun c_57 => False.elim (by omega))
        refine mm_iload d_M_ofState_85 rfl ?_
        refine mm_switchOut (n := 0) d_M_ofState_86 (Or.inr (by rw [nI_toInt ht]; omega)) ?_
        refine mm_ci d_M_ofState_158 ?_
        exact mm_ri d_M_ofState_159 h
      · rw [if_neg t10] at h
        by_cases t100 : t < 100
        · rw [if_pos t100] at h
          by_cases hc : t - 10 < dn D
          · rw [if_pos hc] at h
            refine mm_iload d_M_ofState_0 rfl ?_
            refine mm_ciN 100 d_M_ofState_1 rfl ?_
            refine mm_icmp_ltN d_M_ofState_3 (by first | omega | exact ite01_lt | exact bt8_lt31 _ _ | exact godB_lt31 _ _ _ | exact pop_lt31 _ | assumption | exact b31 (hW.gp (by omega)) | exact b31 (hW.ne (by omega)) | exact b31 (hW.op (by omega)) | exact and31 (hW.gp (by omega)) | exact and31 (hW.ne (by omega)) | exact and31 (hW.op (by omega)) | exact and31 (by assumption) | exact and31r (hW.ne (by omega)) | exact and31r (hW.gp (by omega)) | exact and31r (by decide)) (by first | omega | exact ite01_lt | exact bt8_lt31 _ _ | exact godB_lt31 _ _ _ | exact pop_lt31 _ | assumption | exact b31 (hW.gp (by omega)) | exact b31 (hW.ne (by omega)) | exact b31 (hW.op (by omega)) | exact and31 (hW.gp (by omega)) | exact and31 (hW.ne (by omega)) | exact and31 (hW.op (by omega)) | exact and31 (by assumption) | exact and31r (hW.ne (by omega)) | exact and31r (hW.gp (by omega)) | exact and31r (by decide)) (fun c_3 => ?_) (fun c_3 => False.elim (by omega))
            refine mm_iload d_M_ofState_54 rfl ?_
            refine mm_ciN 10 d_M_ofState_55 rfl ?_
            refine mm_icmp_ltN d_M_ofState_57 (by first | omega | exact ite01_lt | exact bt8_lt31 _ _ | exact godB_lt31 _ _ _ | exact pop_lt31 _ | assumption | exact b31 (hW.gp (by omega)) | exact b31 (hW.ne (by omega)) | exact b31 (hW.op (by omega)) | exact and31 (hW.gp (by omega)) | exact and31 (hW.ne (by omega)) | exact and31 (hW.op (by omega)) | exact and31 (by assumption) | exact and31r (hW.ne (by omega)) | exact and31r (hW.gp (by omega)) | exact and31r (by decide)) (by first | omega | exact ite01_lt | exact bt8_lt31 _ _ | exact godB_lt31 _ _ _ | exact pop_lt31 _ | assumption | exact b31 (hW.gp (by omega)) | exact b31 (hW.ne (by omega)) | exact b31 (hW.op (by omega)) | exact and31 (hW.gp (by omega)) | exact and31 (hW.ne (by omega)) | exact and31 (hW.op (by omega)) | exact and31 (by assumption) | exact and31r (hW.ne (by omega)) | exact and31r (hW.gp (by omega)) | exact and31r (by decide)) (fun c_57 => False.elim (by omega)) (fun c_57 => ?_)
            refine mm_aload d_M_ofState_60 rfl ?_
            refine mm_iload d_M_ofState_61 rfl ?_
            refine mm_ciN 10 d_M_ofState_62 rfl ?_
            refine mm_isubN d_M_ofState_64 (by omega) ?_
            refine mm_v1i d_M_ofState_65 (sk_o_71 hM) (sp_M_isChildT hH hc ?_)
            refine mm_if_eqN d_M_ofState_68 (by first | omega | exact ite01_lt | exact bt8_lt31 _ _ | exact godB_lt31 _ _ _ | exact pop_lt31 _ | assumption | exact b31 (hW.gp (by omega)) | exact b31 (hW.ne (by omega)) | exact b31 (hW.op (by omega)) | exact and31 (hW.gp (by omega)) | exact and31 (hW.ne (by omega)) | exact and31 (hW.op (by omega)) | exact and31 (by assumption) | exact and31r (hW.ne (by omega)) | exact and31r (hW.gp (by omega)) | exact and31r (by decide)) (fun c_68 => False.elim (by omega)) (fun c_68 => ?_)
            refine mm_aload d_M_ofState_71 rfl ?_
            refine mm_getP d_M_ofState_72 rfl (sk_o_71 hM) (sk_p_71_30 hM) ?_
            refine mm_iload d_M_ofState_75 rfl ?_
            refine mm_ciN 10 d_M_ofState_76 rfl ?_
            refine mm_isubN d_M_ofState_78 (by omega) ?_
            refine mm_ialdN d_M_ofState_79 (sk_a_82 hM) (by omega) (by decide) (hF.C (by omega)) ?_
            refine mm_goto d_M_ofState_80 ?_
            exact mm_ri d_M_ofState_84 h
          · rw [if_neg hc] at h
            refine mm_iload d_M_ofState_0 rfl ?_
            refine mm_ciN 100 d_M_ofState_1 rfl ?_
            refine mm_icmp_ltN d_M_ofState_3 (by first | omega | exact ite01_lt | exact bt8_lt31 _ _ | exact godB_lt31 _ _ _ | exact pop_lt31 _ | assumption | exact b31 (hW.gp (by omega)) | exact b31 (hW.ne (by omega)) | exact b31 (hW.op (by omega)) | exact and31 (hW.gp (by omega)) | exact and31 (hW.ne (by omega)) | exact and31 (hW.op (by omega)) | exact and31 (by assumption) | exact and31r (hW.ne (by omega)) | exact and31r (hW.gp (by omega)) | exact and31r (by decide)) (by first | omega | exact ite01_lt | exact bt8_lt31 _ _ | exact godB_lt31 _ _ _ | exact pop_lt31 _ | assumption | exact b31 (hW.gp (by omega)) | exact b31 (hW.ne (by omega)) | exact b31 (hW.op (by omega)) | exact and31 (hW.gp (by omega)) | exact and31 (hW.ne (by omega)) | exact and31 (hW.op (by omega)) | exact and31 (by assumption) | exact and31r (hW.ne (by omega)) | exact and31r (hW.gp (by omega)) | exact and31r (by decide)) (fun c_3 => ?_) (fun c_3 => False.elim (by omega))
            refine mm_iload d_M_ofState_54 rfl ?_
            refine mm_ciN 10 d_M_ofState_55 rfl ?_
            refine mm_icmp_ltN d_M_ofState_57 (by first | omega | exact ite01_lt | exact bt8_lt31 _ _ | exact godB_lt31 _ _ _ | exact pop_lt31 _ | assumption | exact b31 (hW.gp (by omega)) | exact b31 (hW.ne (by omega)) | exact b31 (hW.op (by omega)) | exact and31 (hW.gp (by omega)) | exact and31 (hW.ne (by omega)) | exact and31 (hW.op (by omega)) | exact and31 (by assumption) | exact and31r (hW.ne (by omega)) | exact and31r (hW.gp (by omega)) | exact and31r (by decide)) (by first | omega | exact ite01_lt | exact bt8_lt31 _ _ | exact godB_lt31 _ _ _ | exact pop_lt31 _ | assumption | exact b31 (hW.gp (by omega)) | exact b31 (hW.ne (by omega)) | exact b31 (hW.op (by omega)) | exact and31 (hW.gp (by omega)) | exact and31 (hW.ne (by omega)) | exact and31 (hW.op (by omega)) | exact and31 (by assumption) | exact and31r (hW.ne (by omega)) | exact and31r (hW.gp (by omega)) | exact and31r (by decide)) (fun c_57 => False.elim (by omega)) (fun c_57 => ?_)
            refine mm_aload d_M_ofState_60 rfl ?_
            refine mm_iload d_M_ofState_61 rfl ?_
            refine mm_ciN 10 d_M_ofState_62 rfl ?_
            refine mm_isubN d_M_ofState_64 (by omega) ?_
            refine mm_v1i d_M_ofState_65 (sk_o_71 hM) (sp_M_isChildN hH (by omega) ?_)
            rw [if_neg hc]
            refine mm_if_eqN d_M_ofState_68 (by first | omega | exact ite01_lt | exact bt8_lt31 _ _ | exact godB_lt31 _ _ _ | exact pop_lt31 _ | assumption | exact b31 (hW.gp (by omega)) | exact b31 (hW.ne (by omega)) | exact b31 (hW.op (by omega)) | exact and31 (hW.gp (by omega)) | exact and31 (hW.ne (by omega)) | exact and31 (hW.op (by omega)) | exact and31 (by assumption) | exact and31r (hW.ne (by omega)) | exact and31r (hW.gp (by omega)) | exact and31r (by decide)) (fun c_68 => ?_) (fun c_68 => False.elim (by omega))
            refine mm_ci d_M_ofState_83 ?_
            exact mm_ri d_M_ofState_84 h
        · rw [if_neg t100] at h
          by_cases hc1 : (t - 100) / 8 < dn D
          · by_cases hc2 : bt8 (dgp D ((t - 100) / 8)) ((t - 100) % 8) ≠ 0
            · rw [if_pos ⟨hc1, hc2⟩] at h
              refine mm_iload d_M_ofState_0 rfl ?_
              refine mm_ciN 100 d_M_ofState_1 rfl ?_
              refine mm_icmp_ltN d_M_ofState_3 (by first | omega | exact ite01_lt | exact bt8_lt31 _ _ | exact godB_lt31 _ _ _ | exact pop_lt31 _ | assumption | exact b31 (hW.gp (by omega)) | exact b31 (hW.ne (by omega)) | exact b31 (hW.op (by omega)) | exact and31 (hW.gp (by omega)) | exact and31 (hW.ne (by omega)) | exact and31 (hW.op (by omega)) | exact and31 (by assumption) | exact and31r (hW.ne (by omega)) | exact and31r (hW.gp (by omega)) | exact and31r (by decide)) (by first | omega | exact ite01_lt | exact bt8_lt31 _ _ | exact godB_lt31 _ _ _ | exact pop_lt31 _ | assumption | exact b31 (hW.gp (by omega)) | exact b31 (hW.ne (by omega)) | exact b31 (hW.op (by omega)) | exact and31 (hW.gp (by omega)) | exact and31 (hW.ne (by omega)) | exact and31 (hW.op (by omega)) | exact and31 (by assumption) | exact and31r (hW.ne (by omega)) | exact and31r (hW.gp (by omega)) | exact and31r (by decide)) (fun c_3 => False.elim (by omega)) (fun c_3 => ?_)
              refine mm_iload d_M_ofState_6 rfl ?_
              refine mm_ciN 100 d_M_ofState_7 rfl ?_
              refine mm_isubN d_M_ofState_9 (by omega) ?_
              refine mm_ciN 8 d_M_ofState_10 rfl ?_
              refine mm_idivN d_M_ofState_12 (by first | omega | exact ite01_lt | exact bt8_lt31 _ _ | exact godB_lt31 _ _ _ | exact pop_lt31 _ | assumption | exact b31 (hW.gp (by omega)) | exact b31 (hW.ne (by omega)) | exact b31 (hW.op (by omega)) | exact and31 (hW.gp (by omega)) | exact and31 (hW.ne (by omega)) | exact and31 (hW.op (by omega)) | exact and31 (by assumption) | exact and31r (hW.ne (by omega)) | exact and31r (hW.gp (by omega)) | exact and31r (by decide)) (by omega) (by omega) ?_
              refine mm_ist2 d_M_ofState_13 ?_
              refine mm_aload d_M_ofState_14 rfl ?_
              refine mm_iload d_M_ofState_15 rfl ?_
              refine mm_v1i d_M_ofState_16 (sk_o_71 hM) (sp_M_isChildT hH hc1 ?_)
              refine mm_if_eqN d_M_ofState_19 (by first | omega | exact ite01_lt | exact bt8_lt31 _ _ | exact godB_lt31 _ _ _ | exact pop_lt31 _ | assumption | exact b31 (hW.gp (by omega)) | exact b31 (hW.ne (by omega)) | exact b31 (hW.op (by omega)) | exact and31 (hW.gp (by omega)) | exact and31 (hW.ne (by omega)) | exact and31 (hW.op (by omega)) | exact and31 (by assumption) | exact and31r (hW.ne (by omega)) | exact and31r (hW.gp (by omega)) | exact and31r (by decide)) (fun c_19 => False.elim (by omega)) (fun c_19 => ?_)
              refine mm_aload d_M_ofState_22 rfl ?_
              refine mm_iload d_M_ofState_23 rfl ?_
              refine mm_v1i d_M_ofState_24 (sk_o_71 hM) (sp_M_gods hH (by omega) ?_)
              refine mm_iload d_M_ofState_27 rfl ?_
              refine mm_ciN 100 d_M_ofState_28 rfl ?_
              refine mm_isubN d_M_ofState_30 (by omega) ?_
              refine mm_ciN 8 d_M_ofState_31 rfl ?_
              refine mm_iremN d_M_ofState_33 (by first | omega | exact ite01_lt | exact bt8_lt31 _ _ | exact godB_lt31 _ _ _ | exact pop_lt31 _ | assumption | exact b31 (hW.gp (by omega)) | exact b31 (hW.ne (by omega)) | exact b31 (hW.op (by omega)) | exact and31 (hW.gp (by omega)) | exact and31 (hW.ne (by omega)) | exact and31 (hW.op (by omega)) | exact and31 (by assumption) | exact and31r (hW.ne (by omega)) | exact and31r (hW.gp (by omega)) | exact and31r (by decide)) (by omega) (by omega) ?_
              refine mm_s2i d_M_ofState_34 (sp_M_has (by first | omega | assumption | exact hW.gp (by omega) | exact hW.ne (by omega) | exact hW.op (by omega) | exact and_lt256 (hW.gp (by omega)) | exact and_lt256 (hW.ne (by omega)) | exact and_lt256 (hW.op (by omega)) | exact and_lt256 (by assumption)) (by omega) ?_)
              refine mm_if_eqN d_M_ofState_37 (by first | omega | exact ite01_lt | exact bt8_lt31 _ _ | exact godB_lt31 _ _ _ | exact pop_lt31 _ | assumption | exact b31 (hW.gp (by omega)) | exact b31 (hW.ne (by omega)) | exact b31 (hW.op (by omega)) | exact and31 (hW.gp (by omega)) | exact and31 (hW.ne (by omega)) | exact and31 (hW.op (by omega)) | exact and31 (by assumption) | exact and31r (hW.ne (by omega)) | exact and31r (hW.gp (by omega)) | exact and31r (by decide)) (fun c_37 => False.elim (hc2 c_37)) (fun c_37 => ?_)
              refine mm_aload d_M_ofState_40 rfl ?_
              refine mm_getP d_M_ofState_41 rfl (sk_o_71 hM) (sk_p_71_31 hM) ?_
              refine mm_iload d_M_ofState_44 rfl ?_
              refine mm_ciN 100 d_M_ofState_45 rfl ?_
              refine mm_isubN d_M_ofState_47 (by omega) ?_
              refine mm_ialdN d_M_ofState_48 (sk_a_83 hM) (by omega) (by decide) (hF.L (by omega)) ?_
              refine mm_goto d_M_ofState_49 ?_
              exact mm_ri d_M_ofState_53 h
            · rw [if_neg (fun z => hc2 z.2)] at h
              refine mm_iload d_M_ofState_0 rfl ?_
              refine mm_ciN 100 d_M_ofState_1 rfl ?_
              refine mm_icmp_ltN d_M_ofState_3 (by first | omega | exact ite01_lt | exact bt8_lt31 _ _ | exact godB_lt31 _ _ _ | exact pop_lt31 _ | assumption | exact b31 (hW.gp (by omega)) | exact b31 (hW.ne (by omega)) | exact b31 (hW.op (by omega)) | exact and31 (hW.gp (by omega)) | exact and31 (hW.ne (by omega)) | exact and31 (hW.op (by omega)) | exact and31 (by assumption) | exact and31r (hW.ne (by omega)) | exact and31r (hW.gp (by omega)) | exact and31r (by decide)) (by first | omega | exact ite01_lt | exact bt8_lt31 _ _ | exact godB_lt31 _ _ _ | exact pop_lt31 _ | assumption | exact b31 (hW.gp (by omega)) | exact b31 (hW.ne (by omega)) | exact b31 (hW.op (by omega)) | exact and31 (hW.gp (by omega)) | exact and31 (hW.ne (by omega)) | exact and31 (hW.op (by omega)) | exact and31 (by assumption) | exact and31r (hW.ne (by omega)) | exact and31r (hW.gp (by omega)) | exact and31r (by decide)) (fun c_3 => False.elim (by omega)) (fun c_3 => ?_)
              refine mm_iload d_M_ofState_6 rfl ?_
              refine mm_ciN 100 d_M_ofState_7 rfl ?_
              refine mm_isubN d_M_ofState_9 (by omega) ?_
              refine mm_ciN 8 d_M_ofState_10 rfl ?_
              refine mm_idivN d_M_ofState_12 (by first | omega | exact ite01_lt | exact bt8_lt31 _ _ | exact godB_lt31 _ _ _ | exact pop_lt31 _ | assumption | exact b31 (hW.gp (by omega)) | exact b31 (hW.ne (by omega)) | exact b31 (hW.op (by omega)) | exact and31 (hW.gp (by omega)) | exact and31 (hW.ne (by omega)) | exact and31 (hW.op (by omega)) | exact and31 (by assumption) | exact and31r (hW.ne (by omega)) | exact and31r (hW.gp (by omega)) | exact and31r (by decide)) (by omega) (by omega) ?_
              refine mm_ist2 d_M_ofState_13 ?_
              refine mm_aload d_M_ofState_14 rfl ?_
              refine mm_iload d_M_ofState_15 rfl ?_
              refine mm_v1i d_M_ofState_16 (sk_o_71 hM) (sp_M_isChildT hH hc1 ?_)
              refine mm_if_eqN d_M_ofState_19 (by first | omega | exact ite01_lt | exact bt8_lt31 _ _ | exact godB_lt31 _ _ _ | exact pop_lt31 _ | assumption | exact b31 (hW.gp (by omega)) | exact b31 (hW.ne (by omega)) | exact b31 (hW.op (by omega)) | exact and31 (hW.gp (by omega)) | exact and31 (hW.ne (by omega)) | exact and31 (hW.op (by omega)) | exact and31 (by assumption) | exact and31r (hW.ne (by omega)) | exact and31r (hW.gp (by omega)) | exact and31r (by decide)) (fun c_19 => False.elim (by omega)) (fun c_19 => ?_)
              refine mm_aload d_M_ofState_22 rfl ?_
              refine mm_iload d_M_ofState_23 rfl ?_
              refine mm_v1i d_M_ofState_24 (sk_o_71 hM) (sp_M_gods hH (by omega) ?_)
              refine mm_iload d_M_ofState_27 rfl ?_
              refine mm_ciN 100 d_M_ofState_28 rfl ?_
              refine mm_isubN d_M_ofState_30 (by omega) ?_
              refine mm_ciN 8 d_M_ofState_31 rfl ?_
              refine mm_iremN d_M_ofState_33 (by first | omega | exact ite01_lt | exact bt8_lt31 _ _ | exact godB_lt31 _ _ _ | exact pop_lt31 _ | assumption | exact b31 (hW.gp (by omega)) | exact b31 (hW.ne (by omega)) | exact b31 (hW.op (by omega)) | exact and31 (hW.gp (by omega)) | exact and31 (hW.ne (by omega)) | exact and31 (hW.op (by omega)) | exact and31 (by assumption) | exact and31r (hW.ne (by omega)) | exact and31r (hW.gp (by omega)) | exact and31r (by decide)) (by omega) (by omega) ?_
              refine mm_s2i d_M_ofState_34 (sp_M_has (by first | omega | assumption | exact hW.gp (by omega) | exact hW.ne (by omega) | exact hW.op (by omega) | exact and_lt256 (hW.gp (by omega)) | exact and_lt256 (hW.ne (by omega)) | exact and_lt256 (hW.op (by omega)) | exact and_lt256 (by assumption)) (by omega) ?_)
              refine mm_if_eqN d_M_ofState_37 (by first | omega | exact ite01_lt | exact bt8_lt31 _ _ | exact godB_lt31 _ _ _ | exact pop_lt31 _ | assumption | exact b31 (hW.gp (by omega)) | exact b31 (hW.ne (by omega)) | exact b31 (hW.op (by omega)) | exact and31 (hW.gp (by omega)) | exact and31 (hW.ne (by omega)) | exact and31 (hW.op (by omega)) | exact and31 (by assumption) | exact and31r (hW.ne (by omega)) | exact and31r (hW.gp (by omega)) | exact and31r (by decide)) (fun c_37 => ?_) (fun c_37 => False.elim (hc2 c_37))
              refine mm_ci d_M_ofState_52 ?_
              exact mm_ri d_M_ofState_53 h
          · rw [if_neg (fun z => hc1 z.1)] at h
            refine mm_iload d_M_ofState_0 rfl ?_
            refine mm_ciN 100 d_M_ofState_1 rfl ?_
            refine mm_icmp_ltN d_M_ofState_3 (by first | omega | exact ite01_lt | exact bt8_lt31 _ _ | exact godB_lt31 _ _ _ | exact pop_lt31 _ | assumption | exact b31 (hW.gp (by omega)) | exact b31 (hW.ne (by omega)) | exact b31 (hW.op (by omega)) | exact and31 (hW.gp (by omega)) | exact and31 (hW.ne (by omega)) | exact and31 (hW.op (by omega)) | exact and31 (by assumption) | exact and31r (hW.ne (by omega)) | exact and31r (hW.gp (by omega)) | exact and31r (by decide)) (by first | omega | exact ite01_lt | exact bt8_lt31 _ _ | exact godB_lt31 _ _ _ | exact pop_lt31 _ | assumption | exact b31 (hW.gp (by omega)) | exact b31 (hW.ne (by omega)) | exact b31 (hW.op (by omega)) | exact and31 (hW.gp (by omega)) | exact and31 (hW.ne (by omega)) | exact and31 (hW.op (by omega)) | exact and31 (by assumption) | exact and31r (hW.ne (by omega)) | exact and31r (hW.gp (by omega)) | exact and31r (by decide)) (fun c_3 => False.elim (by omega)) (fun c_3 => ?_)
            refine mm_iload d_M_ofState_6 rfl ?_
            refine mm_ciN 100 d_M_ofState_7 rfl ?_
            refine mm_isubN d_M_ofState_9 (by omega) ?_
            refine mm_ciN 8 d_M_ofState_10 rfl ?_
            refine mm_idivN d_M_ofState_12 (by first | omega | exact ite01_lt | exact bt8_lt31 _ _ | exact godB_lt31 _ _ _ | exact pop_lt31 _ | assumption | exact b31 (hW.gp (by omega)) | exact b31 (hW.ne (by omega)) | exact b31 (hW.op (by omega)) | exact and31 (hW.gp (by omega)) | exact and31 (hW.ne (by omega)) | exact and31 (hW.op (by omega)) | exact and31 (by assumption) | exact and31r (hW.ne (by omega)) | exact and31r (hW.gp (by omega)) | exact and31r (by decide)) (by omega) (by omega) ?_
            refine mm_ist2 d_M_ofState_13 ?_
            refine mm_aload d_M_ofState_14 rfl ?_
            refine mm_iload d_M_ofState_15 rfl ?_
            refine mm_v1i d_M_ofState_16 (sk_o_71 hM) (sp_M_isChildN hH (by omega) ?_)
            rw [if_neg hc1]
            refine mm_if_eqN d_M_ofState_19 (by first | omega | exact ite01_lt | exact bt8_lt31 _ _ | exact godB_lt31 _ _ _ | exact pop_lt31 _ | assumption | exact b31 (hW.gp (by omega)) | exact b31 (hW.ne (by omega)) | exact b31 (hW.op (by omega)) | exact and31 (hW.gp (by omega)) | exact and31 (hW.ne (by omega)) | exact and31 (hW.op (by omega)) | exact and31 (by assumption) | exact and31r (hW.ne (by omega)) | exact and31r (hW.gp (by omega)) | exact and31r (by decide)) (fun c_19 => ?_) (fun c_19 => False.elim (by omega))
            refine mm_ci d_M_ofState_52 ?_
            exact mm_ri d_M_ofState_53 h
    · have hts : t = 0 ∨ t = 1 ∨ t = 2 ∨ t = 3 ∨ t = 4 ∨ t = 5 := by omega
      rcases hts with rfl | rfl | rfl | rfl | rfl | rfl
      · refine mm_iload d_M_ofState_0 rfl ?_
        refine mm_ciN 100 d_M_ofState_1 rfl ?_
        refine mm_icmp_ltN d_M_ofState_3 (by first | omega | exact ite01_lt | exact bt8_lt31 _ _ | exact godB_lt31 _ _ _ | exact pop_lt31 _ | assumption | exact b31 (hW.gp (by omega)) | exact b31 (hW.ne (by omega)) | exact b31 (hW.op (by omega)) | exact and31 (hW.gp (by omega)) | exact and31 (hW.ne (by omega)) | exact and31 (hW.op (by omega)) | exact and31 (by assumption) | exact and31r (hW.ne (by omega)) | exact and31r (hW.gp (by omega)) | exact and31r (by decide)) (by first | omega | exact ite01_lt | exact bt8_lt31 _ _ | exact godB_lt31 _ _ _ | exact pop_lt31 _ | assumption | exact b31 (hW.gp (by omega)) | exact b31 (hW.ne (by omega)) | exact b31 (hW.op (by omega)) | exact and31 (hW.gp (by omega)) | exact and31 (hW.ne (by omega)) | exact and31 (hW.op (by omega)) | exact and31 (by assumption) | exact and31r (hW.ne (by omega)) | exact and31r (hW.gp (by omega)) | exact and31r (by decide)) (fun c_3 => ?_) (fun c_3 => False.elim (by omega))
        refine mm_iload d_M_ofState_54 rfl ?_
        refine mm_ciN 10 d_M_ofState_55 rfl ?_
        refine mm_icmp_ltN d_M_ofState_57 (by first | omega | exact ite01_lt | exact bt8_lt31 _ _ | exact godB_lt31 _ _ _ | exact pop_lt31 _ | assumption | exact b31 (hW.gp (by omega)) | exact b31 (hW.ne (by omega)) | exact b31 (hW.op (by omega)) | exact and31 (hW.gp (by omega)) | exact and31 (hW.ne (by omega)) | exact and31 (hW.op (by omega)) | exact and31 (by assumption) | exact and31r (hW.ne (by omega)) | exact and31r (hW.gp (by omega)) | exact and31r (by decide)) (by first | omega | exact ite01_lt | exact bt8_lt31 _ _ | exact godB_lt31 _ _ _ | exact pop_lt31 _ | assumption | exact b31 (hW.gp (by omega)) | exact b31 (hW.ne (by omega)) | exact b31 (hW.op (by omega)) | exact and31 (hW.gp (by omega)) | exact and31 (hW.ne (by omega)) | exact and31 (hW.op (by omega)) | exact and31 (by assumption) | exact and31r (hW.ne (by omega)) | exact and31r (hW.gp (by omega)) | exact and31r (by decide)) (fun c_57 => ?_) (fun c_57 => False.elim (by omega))
        refine mm_iload d_M_ofState_85 rfl ?_
        refine mm_switchIn (n := 0) d_M_ofState_86 0 (by decide) (by decide) rfl ?_
        refine mm_aload d_M_ofState_124 rfl ?_
        refine mm_getIN d_M_ofState_125 rfl (sk_o_71 hM) hF.Y ?_
        exact mm_ri d_M_ofState_128 h
      · refine mm_iload d_M_ofState_0 rfl ?_
        refine mm_ciN 100 d_M_ofState_1 rfl ?_
        refine mm_icmp_ltN d_M_ofState_3 (by first | omega | exact ite01_lt | exact bt8_lt31 _ _ | exact godB_lt31 _ _ _ | exact pop_lt31 _ | assumption | exact b31 (hW.gp (by omega)) | exact b31 (hW.ne (by omega)) | exact b31 (hW.op (by omega)) | exact and31 (hW.gp (by omega)) | exact and31 (hW.ne (by omega)) | exact and31 (hW.op (by omega)) | exact and31 (by assumption) | exact and31r (hW.ne (by omega)) | exact and31r (hW.gp (by omega)) | exact and31r (by decide)) (by first | omega | exact ite01_lt | exact bt8_lt31 _ _ | exact godB_lt31 _ _ _ | exact pop_lt31 _ | assumption | exact b31 (hW.gp (by omega)) | exact b31 (hW.ne (by omega)) | exact b31 (hW.op (by omega)) | exact and31 (hW.gp (by omega)) | exact and31 (hW.ne (by omega)) | exact and31 (hW.op (by omega)) | exact and31 (by assumption) | exact and31r (hW.ne (by omega)) | exact and31r (hW.gp (by omega)) | exact and31r (by decide)) (fun c_3 => ?_) (fun c_3 => False.elim (by omega))
        refine mm_iload d_M_ofState_54 rfl ?_
        refine mm_ciN 10 d_M_ofState_55 rfl ?_
        refine mm_icmp_ltN d_M_ofState_57 (by first | omega | exact ite01_lt | exact bt8_lt31 _ _ | exact godB_lt31 _ _ _ | exact pop_lt31 _ | assumption | exact b31 (hW.gp (by omega)) | exact b31 (hW.ne (by omega)) | exact b31 (hW.op (by omega)) | exact and31 (hW.gp (by omega)) | exact and31 (hW.ne (by omega)) | exact and31 (hW.op (by omega)) | exact and31 (by assumption) | exact and31r (hW.ne (by omega)) | exact and31r (hW.gp (by omega)) | exact and31r (by decide)) (by first | omega | exact ite01_lt | exact bt8_lt31 _ _ | exact godB_lt31 _ _ _ | exact pop_lt31 _ | assumption | exact b31 (hW.gp (by omega)) | exact b31 (hW.ne (by omega)) | exact b31 (hW.op (by omega)) | exact and31 (hW.gp (by omega)) | exact and31 (hW.ne (by omega)) | exact and31 (hW.op (by omega)) | exact and31 (by assumption) | exact and31r (hW.ne (by omega)) | exact and31r (hW.gp (by omega)) | exact and31r (by decide)) (fun c_57 => ?_) (fun c_57 => False.elim (by omega))
        refine mm_iload d_M_ofState_85 rfl ?_
        refine mm_switchIn (n := 0) d_M_ofState_86 1 (by decide) (by decide) rfl ?_
        refine mm_aload d_M_ofState_129 rfl ?_
        refine mm_getIN d_M_ofState_130 rfl (sk_o_71 hM) hF.H ?_
        exact mm_ri d_M_ofState_133 h
      · refine mm_iload d_M_ofState_0 rfl ?_
        refine mm_ciN 100 d_M_ofState_1 rfl ?_
        refine mm_icmp_ltN d_M_ofState_3 (by first | omega | exact ite01_lt | exact bt8_lt31 _ _ | exact godB_lt31 _ _ _ | exact pop_lt31 _ | assumption | exact b31 (hW.gp (by omega)) | exact b31 (hW.ne (by omega)) | exact b31 (hW.op (by omega)) | exact and31 (hW.gp (by omega)) | exact and31 (hW.ne (by omega)) | exact and31 (hW.op (by omega)) | exact and31 (by assumption) | exact and31r (hW.ne (by omega)) | exact and31r (hW.gp (by omega)) | exact and31r (by decide)) (by first | omega | exact ite01_lt | exact bt8_lt31 _ _ | exact godB_lt31 _ _ _ | exact pop_lt31 _ | assumption | exact b31 (hW.gp (by omega)) | exact b31 (hW.ne (by omega)) | exact b31 (hW.op (by omega)) | exact and31 (hW.gp (by omega)) | exact and31 (hW.ne (by omega)) | exact and31 (hW.op (by omega)) | exact and31 (by assumption) | exact and31r (hW.ne (by omega)) | exact and31r (hW.gp (by omega)) | exact and31r (by decide)) (fun c_3 => ?_) (fun c_3 => False.elim (by omega))
        refine mm_iload d_M_ofState_54 rfl ?_
        refine mm_ciN 10 d_M_ofState_55 rfl ?_
        refine mm_icmp_ltN d_M_ofState_57 (by first | omega | exact ite01_lt | exact bt8_lt31 _ _ | exact godB_lt31 _ _ _ | exact pop_lt31 _ | assumption | exact b31 (hW.gp (by omega)) | exact b31 (hW.ne (by omega)) | exact b31 (hW.op (by omega)) | exact and31 (hW.gp (by omega)) | exact and31 (hW.ne (by omega)) | exact and31 (hW.op (by omega)) | exact and31 (by assumption) | exact and31r (hW.ne (by omega)) | exact and31r (hW.gp (by omega)) | exact and31r (by decide)) (by first | omega | exact ite01_lt | exact bt8_lt31 _ _ | exact godB_lt31 _ _ _ | exact pop_lt31 _ | assumption | exact b31 (hW.gp (by omega)) | exact b31 (hW.ne (by omega)) | exact b31 (hW.op (by omega)) | exact and31 (hW.gp (by omega)) | exact and31 (hW.ne (by omega)) | exact and31 (hW.op (by omega)) | exact and31 (by assumption) | exact and31r (hW.ne (by omega)) | exact and31r (hW.gp (by omega)) | exact and31r (by decide)) (fun c_57 => ?_) (fun c_57 => False.elim (by omega))
        refine mm_iload d_M_ofState_85 rfl ?_
        refine mm_switchIn (n := 0) d_M_ofState_86 2 (by decide) (by decide) rfl ?_
        refine mm_aload d_M_ofState_134 rfl ?_
        refine mm_getIN d_M_ofState_135 rfl (sk_o_71 hM) hF.D ?_
        exact mm_ri d_M_ofState_138 h
      · refine mm_iload d_M_ofState_0 rfl ?_
        refine mm_ciN 100 d_M_ofState_1 rfl ?_
        refine mm_icmp_ltN d_M_ofState_3 (by first | omega | exact ite01_lt | exact bt8_lt31 _ _ | exact godB_lt31 _ _ _ | exact pop_lt31 _ | assumption | exact b31 (hW.gp (by omega)) | exact b31 (hW.ne (by omega)) | exact b31 (hW.op (by omega)) | exact and31 (hW.gp (by omega)) | exact and31 (hW.ne (by omega)) | exact and31 (hW.op (by omega)) | exact and31 (by assumption) | exact and31r (hW.ne (by omega)) | exact and31r (hW.gp (by omega)) | exact and31r (by decide)) (by first | omega | exact ite01_lt | exact bt8_lt31 _ _ | exact godB_lt31 _ _ _ | exact pop_lt31 _ | assumption | exact b31 (hW.gp (by omega)) | exact b31 (hW.ne (by omega)) | exact b31 (hW.op (by omega)) | exact and31 (hW.gp (by omega)) | exact and31 (hW.ne (by omega)) | exact and31 (hW.op (by omega)) | exact and31 (by assumption) | exact and31r (hW.ne (by omega)) | exact and31r (hW.gp (by omega)) | exact and31r (by decide)) (fun c_3 => ?_) (fun c_3 => False.elim (by omega))
        refine mm_iload d_M_ofState_54 rfl ?_
        refine mm_ciN 10 d_M_ofState_55 rfl ?_
        refine mm_icmp_ltN d_M_ofState_57 (by first | omega | exact ite01_lt | exact bt8_lt31 _ _ | exact godB_lt31 _ _ _ | exact pop_lt31 _ | assumption | exact b31 (hW.gp (by omega)) | exact b31 (hW.ne (by omega)) | exact b31 (hW.op (by omega)) | exact and31 (hW.gp (by omega)) | exact and31 (hW.ne (by omega)) | exact and31 (hW.op (by omega)) | exact and31 (by assumption) | exact and31r (hW.ne (by omega)) | exact and31r (hW.gp (by omega)) | exact and31r (by decide)) (by first | omega | exact ite01_lt | exact bt8_lt31 _ _ | exact godB_lt31 _ _ _ | exact pop_lt31 _ | assumption | exact b31 (hW.gp (by omega)) | exact b31 (hW.ne (by omega)) | exact b31 (hW.op (by omega)) | exact and31 (hW.gp (by omega)) | exact and31 (hW.ne (by omega)) | exact and31 (hW.op (by omega)) | exact and31 (by assumption) | exact and31r (hW.ne (by omega)) | exact and31r (hW.gp (by omega)) | exact and31r (by decide)) (fun c_57 => ?_) (fun c_57 => False.elim (by omega))
        refine mm_iload d_M_ofState_85 rfl ?_
        refine mm_switchIn (n := 0) d_M_ofState_86 3 (by decide) (by decide) rfl ?_
        refine mm_aload d_M_ofState_139 rfl ?_
        refine mm_aload d_M_ofState_140 rfl ?_
        refine mm_getIN d_M_ofState_141 rfl (sk_o_71 hM) hF.D ?_
        refine mm_v1i d_M_ofState_144 (sk_o_71 hM) (sp_M_worthOf hH (by first | omega | assumption | exact hW.gp (by omega) | exact hW.ne (by omega) | exact hW.op (by omega) | exact and_lt256 (hW.gp (by omega)) | exact and_lt256 (hW.ne (by omega)) | exact and_lt256 (hW.op (by omega)) | exact and_lt256 (by assumption)) ?_)
        exact mm_ri d_M_ofState_147 h
      · refine mm_iload d_M_ofState_0 rfl ?_
        refine mm_ciN 100 d_M_ofState_1 rfl ?_
        refine mm_icmp_ltN d_M_ofState_3 (by first | omega | exact ite01_lt | exact bt8_lt31 _ _ | exact godB_lt31 _ _ _ | exact pop_lt31 _ | assumption | exact b31 (hW.gp (by omega)) | exact b31 (hW.ne (by omega)) | exact b31 (hW.op (by omega)) | exact and31 (hW.gp (by omega)) | exact and31 (hW.ne (by omega)) | exact and31 (hW.op (by omega)) | exact and31 (by assumption) | exact and31r (hW.ne (by omega)) | exact and31r (hW.gp (by omega)) | exact and31r (by decide)) (by first | omega | exact ite01_lt | exact bt8_lt31 _ _ | exact godB_lt31 _ _ _ | exact pop_lt31 _ | assumption | exact b31 (hW.gp (by omega)) | exact b31 (hW.ne (by omega)) | exact b31 (hW.op (by omega)) | exact and31 (hW.gp (by omega)) | exact and31 (hW.ne (by omega)) | exact and31 (hW.op (by omega)) | exact and31 (by assumption) | exact and31r (hW.ne (by omega)) | exact and31r (hW.gp (by omega)) | exact and31r (by decide)) (fun c_3 => ?_) (fun c_3 => False.elim (by omega))
        refine mm_iload d_M_ofState_54 rfl ?_
        refine mm_ciN 10 d_M_ofState_55 rfl ?_
        refine mm_icmp_ltN d_M_ofState_57 (by first | omega | exact ite01_lt | exact bt8_lt31 _ _ | exact godB_lt31 _ _ _ | exact pop_lt31 _ | assumption | exact b31 (hW.gp (by omega)) | exact b31 (hW.ne (by omega)) | exact b31 (hW.op (by omega)) | exact and31 (hW.gp (by omega)) | exact and31 (hW.ne (by omega)) | exact and31 (hW.op (by omega)) | exact and31 (by assumption) | exact and31r (hW.ne (by omega)) | exact and31r (hW.gp (by omega)) | exact and31r (by decide)) (by first | omega | exact ite01_lt | exact bt8_lt31 _ _ | exact godB_lt31 _ _ _ | exact pop_lt31 _ | assumption | exact b31 (hW.gp (by omega)) | exact b31 (hW.ne (by omega)) | exact b31 (hW.op (by omega)) | exact and31 (hW.gp (by omega)) | exact and31 (hW.ne (by omega)) | exact and31 (hW.op (by omega)) | exact and31 (by assumption) | exact and31r (hW.ne (by omega)) | exact and31r (hW.gp (by omega)) | exact and31r (by decide)) (fun c_57 => ?_) (fun c_57 => False.elim (by omega))
        refine mm_iload d_M_ofState_85 rfl ?_
        refine mm_switchIn (n := 0) d_M_ofState_86 4 (by decide) (by decide) rfl ?_
        refine mm_aload d_M_ofState_148 rfl ?_
        refine mm_getIN d_M_ofState_149 rfl (sk_o_71 hM) hF.B ?_
        exact mm_ri d_M_ofState_152 h
      · refine mm_iload d_M_ofState_0 rfl ?_
        refine mm_ciN 100 d_M_ofState_1 rfl ?_
        refine mm_icmp_ltN d_M_ofState_3 (by first | omega | exact ite01_lt | exact bt8_lt31 _ _ | exact godB_lt31 _ _ _ | exact pop_lt31 _ | assumption | exact b31 (hW.gp (by omega)) | exact b31 (hW.ne (by omega)) | exact b31 (hW.op (by omega)) | exact and31 (hW.gp (by omega)) | exact and31 (hW.ne (by omega)) | exact and31 (hW.op (by omega)) | exact and31 (by assumption) | exact and31r (hW.ne (by omega)) | exact and31r (hW.gp (by omega)) | exact and31r (by decide)) (by first | omega | exact ite01_lt | exact bt8_lt31 _ _ | exact godB_lt31 _ _ _ | exact pop_lt31 _ | assumption | exact b31 (hW.gp (by omega)) | exact b31 (hW.ne (by omega)) | exact b31 (hW.op (by omega)) | exact and31 (hW.gp (by omega)) | exact and31 (hW.ne (by omega)) | exact and31 (hW.op (by omega)) | exact and31 (by assumption) | exact and31r (hW.ne (by omega)) | exact and31r (hW.gp (by omega)) | exact and31r (by decide)) (fun c_3 => ?_) (fun c_3 => False.elim (by omega))
        refine mm_iload d_M_ofState_54 rfl ?_
        refine mm_ciN 10 d_M_ofState_55 rfl ?_
        refine mm_icmp_ltN d_M_ofState_57 (by first | omega | exact ite01_lt | exact bt8_lt31 _ _ | exact godB_lt31 _ _ _ | exact pop_lt31 _ | assumption | exact b31 (hW.gp (by omega)) | exact b31 (hW.ne (by omega)) | exact b31 (hW.op (by omega)) | exact and31 (hW.gp (by omega)) | exact and31 (hW.ne (by omega)) | exact and31 (hW.op (by omega)) | exact and31 (by assumption) | exact and31r (hW.ne (by omega)) | exact and31r (hW.gp (by omega)) | exact and31r (by decide)) (by first | omega | exact ite01_lt | exact bt8_lt31 _ _ | exact godB_lt31 _ _ _ | exact pop_lt31 _ | assumption | exact b31 (hW.gp (by omega)) | exact b31 (hW.ne (by omega)) | exact b31 (hW.op (by omega)) | exact and31 (hW.gp (by omega)) | exact and31 (hW.ne (by omega)) | exact and31 (hW.op (by omega)) | exact and31 (by assumption) | exact and31r (hW.ne (by omega)) | exact and31r (hW.gp (by omega)) | exact and31r (by decide)) (fun c_57 => ?_) (fun c_57 => False.elim (by omega))
        refine mm_iload d_M_ofState_85 rfl ?_
        refine mm_switchIn (n := 0) d_M_ofState_86 5 (by decide) (by decide) rfl ?_
        refine mm_aload d_M_ofState_153 rfl ?_
        refine mm_getIN d_M_ofState_154 rfl (sk_o_71 hM) hF.A ?_
        exact mm_ri d_M_ofState_157 h
