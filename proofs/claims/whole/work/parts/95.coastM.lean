/-! texts: the model's lines of a coast -/
def LM (k o : Nat) (u : Nat → Nat) (L p f0 p0 : Nat) (μ ν : mm_M) (i : Nat) : Prop := K2 μ ν ∧ Rm u L ν ∧ Tk2 u L (ps u L p i) ν ∧ LF (ff k (vv u L p) f0 i) (pp k (vv u L p) (fun j => tP u L (ps u L p j)) f0 p0 i) (tP u L (ps u L p i)) ν ∧ mm_I ν 71 21 = nI (gg k (vv u L p) i) ∧ ∀ j, j < i → mm_I ν 81 (o + j) = nI (vv u L p j) ∧ tK u L (ps u L p j) = 3
theorem sp_LM {X : mm_X} {μ ν : mm_M} {q : Int32 → mm_M → Prop} {u : Nat → Nat} {L p k o f0 p0 i lo hi un : Nat} (hl : LM k o u L p f0 p0 μ ν i) (hp : p ≤ L) (ho : o + i < 3) (hlo : lo < 100) (hhi : hi < 100) (hun : un = 0 ∨ (un = 1 ∧ o = 0)) (hcb : tV u L (ps u L p i) < 100 → canT (vv u L p i) lo hi un (o + i) (vv u L p) = cb k (vv u L p) i) (h0 : tK u L (ps u L p i) ≠ 3 → ∀ ξ, K2 μ ξ → mm_I ξ 71 15 = nI (tP u L (ps u L p i)) → q (nI 0) ξ) (h1 : tK u L (ps u L p i) = 3 → ∀ ξ, LM k o u L p f0 p0 μ ξ (i + 1) → q (nI 1) ξ) : mm_Ci X 2 0 0 k_M_takeNew [.ref 71, .int (nI (o + i)), .int (nI lo), .int (nI hi), .int (nI un)] ν q := by
  obtain ⟨a1, a2, a3, a4, a5, a6⟩ := hl
  refine sp_M_takeNew (r := vv u L p) a2 a3 (ps_le hp i) a4 ho hlo hhi (by omega) (fun hu j hj => ?_) a5 (fun h3 ξ kx e => h0 h3 ξ (a1.trans kx) e) (fun h3 ξ kx tk lf g e81 => ?_)
  · have ho0 : o = 0 := by omega
    subst ho0
    have := a6 j (by omega)
    rw [Nat.zero_add] at this
    exact ⟨this.1, tV_lt this.2⟩
  · have hc := hcb (tV_lt h3)
    unfold vv at hc
    rw [show tV u L (ps u L p i) = vv u L p i from rfl] at *
    refine h1 h3 ξ ⟨a1.trans kx, a2.k2 kx, tk, ?_, ?_, fun j hj => ?_⟩
    · have : canT (vv u L p i) lo hi un (o + i) (vv u L p) = cb k (vv u L p) i := hcb (tV_lt h3)
      rw [this] at lf
      exact lf
    · have : canT (vv u L p i) lo hi un (o + i) (vv u L p) = cb k (vv u L p) i := hcb (tV_lt h3)
      rw [this] at g
      exact g
    · rw [e81]
      by_cases z : j = i
      · rw [z, if_pos rfl]; exact ⟨rfl, h3⟩
      · rw [if_neg (by omega)]; exact a6 j (by omega)
def FO (W : Nat) (x : Int32) : Prop := (W = 0 ∧ x = -1) ∨ ∃ m : Nat, m < 6 ∧ x = nI m ∧ 2 ^ m ≤ W ∧ W < 2 ^ (m + 1)
/-- the model holds what t says, of a coast -/
def RM0 (t : Nat → Nat) (ν : mm_M) : Prop := (∀ j, j < 44 → mm_I ν 80 j = nI (t j)) ∧ FO (t 44) (mm_I ν 71 20) ∧ ∀ j, t 0 ≤ j → j < 6 → t (26 + j) = 0
def MB0 (ν : mm_M) : Prop := ∃ c0 c1 : Nat, c0 ≤ 6 ∧ c1 ≤ 6 ∧ mm_I ν 80 0 = nI c0 ∧ mm_I ν 80 1 = nI c1
def sc790 (a : Nat) : Bool := a == 71 || a == 80 || a == 81
def K5 (μ ν : mm_M) : Prop := Fr sc790 μ ν ∧ mm_P ν = mm_P μ ∧ ∀ j, (j < 9 ∨ j = 10 ∨ j = 18 ∨ j = 19 ∨ 22 ≤ j) → mm_I ν 71 j = mm_I μ 71 j
theorem K2.k5 {μ ν : mm_M} (h : K2 μ ν) : K5 μ ν := ⟨h.1.sub (fun a z => by unfold sc78 at z; unfold sc790; simp at z ⊢; omega), h.2.1, fun j hj => h.2.2 j (by omega)⟩
theorem K5.s8 {μ ν : mm_M} {j : Nat} {x : Int32} (h : K5 μ ν) : K5 μ (mm_sI ν 80 j x) := ⟨h.1.sI rfl, h.2.1, fun i hi => by rw [mm_sI_off (by decide)]; exact h.2.2 i hi⟩
theorem K5.sF {μ ν : mm_M} {x : Int32} (h : K5 μ ν) : K5 μ (mm_sI ν 71 20 x) := ⟨h.1.sI rfl, h.2.1, fun i hi => by rw [mm_I_sI, if_neg (by omega)]; exact h.2.2 i hi⟩
theorem RM0.k2 {t : Nat → Nat} {μ ν : mm_M} (h : RM0 t μ) (k : K2 μ ν) : RM0 t ν := ⟨by rw [(k.1.2.2.1 80 rfl).1]; exact h.1, by rw [k.2.2 20 (by omega)]; exact h.2.1, h.2.2⟩
theorem MB0.k2 {μ ν : mm_M} (h : MB0 μ) (k : K2 μ ν) : MB0 ν := by unfold MB0 at *; rw [(k.1.2.2.1 80 rfl).1]; exact h
/-- how a line of a coast ends, told -/
def EndC (k : Nat) (u : Nat → Nat) (L p f0 p0 : Nat) (μ ξ : mm_M) : Prop := K5 μ ξ ∧ Tk2 u L (ps u L p (nu k)) ξ ∧ LF (ff k (vv u L p) f0 (nu k)) (pp k (vv u L p) (fun j => tP u L (ps u L p j)) f0 p0 (nu k)) (tP u L (ps u L p (nu k))) ξ ∧ (∀ j, j < nu k → tK u L (ps u L p j) = 3) ∧ MB0 ξ ∧ ∀ t, RM0 t μ → WfT 0 t → ¬ fu k t = true → (∀ j, j < nu k → cb k (vv u L p) j = true) → RM0 (stp k (vv u L p) t) ξ
theorem EndC.mk {k : Nat} {u : Nat → Nat} {L p f0 p0 : Nat} {μ ν ξ : mm_M} (hl : LM k 0 u L p f0 p0 μ ν (nu k)) (kx : K5 ν ξ) (e : ∀ j, j ≠ 20 → mm_I ξ 71 j = mm_I ν 71 j) (eJ : mm_J ξ 71 14 = mm_J ν 71 14) (hB : MB0 ξ) (hD : ∀ t, RM0 t ν → WfT 0 t → ¬ fu k t = true → (∀ j, j < nu k → cb k (vv u L p) j = true) → RM0 (stp k (vv u L p) t) ξ) : EndC k u L p f0 p0 μ ξ := by
  obtain ⟨a1, a2, a3, a4, a5, a6⟩ := hl
  exact ⟨⟨a1.k5.1.trans kx.1, kx.2.1.trans a1.2.1, fun j hj => (kx.2.2 j hj).trans (a1.k5.2.2 j hj)⟩, a3.cg (fun j hj => e j (by omega)) eJ, a4.cg (Nat.le_refl _) (e 16 (by decide)) (e 17 (by decide)), fun j hj => (a6 j hj).2, hB, fun t h1 h2 h3 h4 => hD t (h1.k2 a1) h2 h3 h4⟩
theorem sp_M_workLine {X : mm_X} {μ : mm_M} {q : Int32 → mm_M → Prop} {u : Nat → Nat} {L p f0 p0 : Nat} (hl : LM 5 0 u L p f0 p0 μ μ 0) (hp : p ≤ L) (hB : MB0 μ) (hst : ∀ i ξ, i < 1 → tK u L (ps u L p i) ≠ 3 → (∀ j, j < i → tK u L (ps u L p j) = 3) → K2 μ ξ → mm_I ξ 71 15 = nI (tP u L (ps u L p i)) → q (nI 0) ξ) (hok : ∀ ξ, EndC 5 u L p f0 p0 μ ξ → q (nI 1) ξ) : mm_Ci X 4 0 0 k_M_workLine [.ref 71] μ q := by
  show mm_T X 4 0 0 k_M_workLine 0 [some (.ref 71), none] [] μ _
  have hM := hl.2.1.1
  refine mm_aload d_M_workLine_0 rfl ?_
  refine mm_ciN 0 d_M_workLine_1 rfl ?_
  refine mm_ciN 0 d_M_workLine_2 rfl ?_
  refine mm_ciN 20 d_M_workLine_3 rfl ?_
  refine mm_v3i d_M_workLine_5 (sk_o_71 hM) (sp_M_take hM (sp_LM (o := 0) (i := 0) hl hp (by decide) (by decide) (by decide) (Or.inl rfl) (fun hv => ?_) (fun h3 ξ kx e => ⟨Or.inl rfl, ?_⟩) (fun h3 ξ hx => ⟨Or.inr rfl, ?_⟩)))
  · apply Bool.eq_iff_iff.mpr
    rw [canT_i, cb_i]
    have : hi (5 * 3 + 0) = 20 := rfl
    omega
  · refine mm_if_neN d_M_workLine_8 (by first | omega | exact ite01_lt | exact bt8_lt31 _ _ | exact godB_lt31 _ _ _ | exact pop_lt31 _ | assumption | exact b31 (hW.gp (by omega)) | exact b31 (hW.ne (by omega)) | exact b31 (hW.op (by omega)) | exact and31 (hW.gp (by omega)) | exact and31 (hW.ne (by omega)) | exact and31 (hW.op (by omega)) | exact and31 (by assumption) | exact and31r (hW.ne (by omega)) | exact and31r (hW.gp (by omega)) | exact and31r (by decide)) (fun c_8 => False.elim (by omega)) (fun c_8 => ?_)
    refine mm_ciN 0 d_M_workLine_11 rfl ?_
    exact mm_rz d_M_workLine_12 (hst 0 ξ (by decide) h3 (fun j hj => absurd hj (Nat.not_lt_zero j)) kx e)
  · have hM := hx.2.1.1
    obtain ⟨c0, c1, b0, b1, e0, e1⟩ := hB.k2 hx.1
    have v0 : mm_I ξ 81 0 = nI (vv u L p 0) := (hx.2.2.2.2.2 0 (by decide)).1
    have fin : ∀ ρ, ρ = (if c1 < 6 then mm_sI (mm_sI ξ 80 (32 + c1) (nI (vv u L p 0))) 80 1 (nI (c1 + 1)) else ξ) → q (nI 1) ρ := by
      intro ρ hρ
      by_cases hc : c1 < 6
      · rw [if_pos hc] at hρ
        subst hρ
        refine hok _ (EndC.mk hx (K2.rf.k5.s8.s8) (fun j _ => by rw [mm_sI_off (by decide), mm_sI_off (by decide)]) rfl ⟨c0, c1 + 1, b0, by omega, by rw [mm_I_sI, if_neg (by omega), mm_I_sI, if_neg (by omega)]; exact e0, by rw [mm_I_sI, if_pos ⟨rfl, rfl⟩]⟩ (fun t h1 h2 h3 h4 => ?_))
        have ec : t 1 = c1 := by
          have := h1.1 1 (by decide)
          rw [e1] at this
          exact ((nI_eqq (by omega) (by have := h2.b0; omega)).mp this).symm
        rw [stp5]
        refine ⟨fun j hj => ?_, ?_, fun j hj1 hj2 => ?_⟩
        · by_cases z1 : j = 1
          · rw [z1, mm_I_sI, if_pos ⟨rfl, rfl⟩]; unfold up; rw [if_pos rfl, ec]
          · rw [mm_I_sI, if_neg (fun w => z1 w.2), mm_I_sI]
            unfold up
            rw [if_neg z1, ec]
            by_cases z2 : j = 32 + c1
            · rw [if_pos ⟨rfl, z2⟩, if_pos z2]
            · rw [if_neg (fun w => z2 w.2), if_neg z2]; exact h1.1 j hj
        · rw [mm_sI_off (by decide), mm_sI_off (by decide)]
          have e44 : (up (up t (32 + t 1) (vv u L p 0)) 1 (t 1 + 1)) 44 = t 44 := by unfold up; rw [if_neg (by decide), if_neg (by omega)]
          rw [e44]; exact h1.2.1
        · have e00 : (up (up t (32 + t 1) (vv u L p 0)) 1 (t 1 + 1)) 0 = t 0 := by unfold up; rw [if_neg (by decide), if_neg (by omega)]
          rw [e00] at hj1
          unfold up
          rw [if_neg (by omega), if_neg (by omega)]
          exact h1.2.2 j hj1 hj2
      · rw [if_neg hc] at hρ
        subst hρ
        refine hok _ (EndC.mk hx K2.rf.k5 (fun j _ => rfl) rfl ⟨c0, c1, b0, b1, e0, e1⟩ (fun t h1 h2 h3 h4 => ?_))
        have ec : t 1 = c1 := by
          have := h1.1 1 (by decide)
          rw [e1] at this
          exact ((nI_eqq (by omega) (by have := h2.b0; omega)).mp this).symm
        exact absurd (fu_i.mpr (by omega)) h3
    refine mm_if_neN d_M_workLine_8 (by first | omega | exact ite01_lt | exact bt8_lt31 _ _ | exact godB_lt31 _ _ _ | exact pop_lt31 _ | assumption | exact b31 (hW.gp (by omega)) | exact b31 (hW.ne (by omega)) | exact b31 (hW.op (by omega)) | exact and31 (hW.gp (by omega)) | exact and31 (hW.ne (by omega)) | exact and31 (hW.op (by omega)) | exact and31 (by assumption) | exact and31r (hW.ne (by omega)) | exact and31r (hW.gp (by omega)) | exact and31r (by decide)) (fun c_8 => ?_) (fun c_8 => False.elim (by omega))
    refine mm_aload d_M_workLine_13 rfl ?_
    refine mm_getP d_M_workLine_14 rfl (sk_o_71 hM) (sk_p_71_18 hM) ?_
    refine mm_ciN 1 d_M_workLine_17 rfl ?_
    refine mm_ialdN d_M_workLine_18 (sk_a_80 hM) (by omega) (by decide) e1 ?_
    refine mm_ist1 d_M_workLine_19 ?_
    refine mm_iload d_M_workLine_20 rfl ?_
    refine mm_ciN 6 d_M_workLine_21 rfl ?_
    refine mm_icmp_geN d_M_workLine_23 (by first | omega | exact ite01_lt | exact bt8_lt31 _ _ | exact godB_lt31 _ _ _ | exact pop_lt31 _ | assumption | exact b31 (hW.gp (by omega)) | exact b31 (hW.ne (by omega)) | exact b31 (hW.op (by omega)) | exact and31 (hW.gp (by omega)) | exact and31 (hW.ne (by omega)) | exact and31 (hW.op (by omega)) | exact and31 (by assumption) | exact and31r (hW.ne (by omega)) | exact and31r (hW.gp (by omega)) | exact and31r (by decide)) (by first | omega | exact ite01_lt | exact bt8_lt31 _ _ | exact godB_lt31 _ _ _ | exact pop_lt31 _ | assumption | exact b31 (hW.gp (by omega)) | exact b31 (hW.ne (by omega)) | exact b31 (hW.op (by omega)) | exact and31 (hW.gp (by omega)) | exact and31 (hW.ne (by omega)) | exact and31 (hW.op (by omega)) | exact and31 (by assumption) | exact and31r (hW.ne (by omega)) | exact and31r (hW.gp (by omega)) | exact and31r (by decide)) (fun c_23 => ?_) (fun c_23 => ?_)
    · refine mm_ciN 1 d_M_workLine_51 rfl ?_
      exact mm_rz d_M_workLine_52 (fin _ (by first | (rw [if_pos (by omega)]) | (rw [if_neg (by omega)])))
    · refine mm_aload d_M_workLine_26 rfl ?_
      refine mm_getP d_M_workLine_27 rfl (sk_o_71 hM) (sk_p_71_18 hM) ?_
      refine mm_ciN 32 d_M_workLine_30 rfl ?_
      refine mm_iload d_M_workLine_32 rfl ?_
      refine mm_iaddN d_M_workLine_33 ?_
      refine mm_aload d_M_workLine_34 rfl ?_
      refine mm_getP d_M_workLine_35 rfl (sk_o_71 hM) (sk_p_71_19 hM) ?_
      refine mm_ciN 0 d_M_workLine_38 rfl ?_
      refine mm_ialdN d_M_workLine_39 (sk_a_81 hM) (by omega) (by decide) v0 ?_
      refine mm_iastX d_M_workLine_40 (sk_a_80 hM) (by omega) (by decide) ?_
      refine mm_aload d_M_workLine_41 rfl ?_
      refine mm_getP d_M_workLine_42 rfl (sk_o_71 hM) (sk_p_71_18 hM) ?_
      refine mm_ciN 1 d_M_workLine_45 rfl ?_
      refine mm_dup2 d_M_workLine_46 rfl rfl ?_
      refine mm_ialdN d_M_workLine_47 (sk_a_80 hM) (by omega) (by decide) (by rw [mm_I_sI, if_neg (by omega)]; exact e1) ?_
      refine mm_ciN 1 d_M_workLine_48 rfl ?_
      refine mm_iaddN d_M_workLine_49 ?_
      refine mm_iastX d_M_workLine_50 (sk_a_80 hM) (by omega) (by decide) ?_
      refine mm_ciN 1 d_M_workLine_51 rfl ?_
      exact mm_rz d_M_workLine_52 (fin _ (by first | (rw [if_pos (by omega)]) | (rw [if_neg (by omega)])))
