/-! pairs: waits -/
def costW (p c : Nat) : Nat → Nat
  | 0 => 0
  | k + 1 => (10 - p) * (if k = 0 ∨ c * 10 ^ k ≤ 10 ^ k + costW p c k then c * 10 ^ k else 10 ^ k + costW p c k)
def asksW (p c : Nat) : Nat → Nat
  | 0 => 1
  | k + 1 => if k = 0 ∨ c * 10 ^ k ≤ 10 ^ k + costW p c k then 1 else 0
theorem costW_t {p c k : Nat} (h : k = 0 ∨ c * 10 ^ k ≤ 10 ^ k + costW p c k) : costW p c (k + 1) = (10 - p) * (c * 10 ^ k) ∧ asksW p c (k + 1) = 1 := ⟨by show (10 - p) * (if _ then _ else _) = _; rw [if_pos h], if_pos h⟩
theorem costW_f {p c k : Nat} (h : ¬ (k = 0 ∨ c * 10 ^ k ≤ 10 ^ k + costW p c k)) : costW p c (k + 1) = (10 - p) * (10 ^ k + costW p c k) ∧ asksW p c (k + 1) = 0 := ⟨by show (10 - p) * (if _ then _ else _) = _; rw [if_neg h], if_neg h⟩
theorem p10_le {k : Nat} (h : k ≤ 9) : 10 ^ k ≤ 1000000000 := Nat.pow_le_pow_right (n := 10) (by decide) h
theorem c10_le {c k : Nat} (hc : c ≤ 20) (h : k ≤ 9) : c * 10 ^ k ≤ 20000000000 := Nat.mul_le_mul hc (p10_le h)
theorem costW_le {p c : Nat} (hc : c ≤ 20) : ∀ {k}, k ≤ 9 → costW p c k ≤ 200000000000
  | 0, _ => Nat.zero_le _
  | k + 1, h => by
    have h1 := c10_le hc (k := k) (by omega)
    by_cases e : k = 0 ∨ c * 10 ^ k ≤ 10 ^ k + costW p c k
    · rw [(costW_t e).1]
      exact Nat.mul_le_mul (show 10 - p ≤ 10 by omega) h1
    · rw [(costW_f e).1]
      exact Nat.mul_le_mul (show 10 - p ≤ 10 by omega) (show 10 ^ k + costW p c k ≤ 20000000000 by omega)
theorem asksW_01 (p c : Nat) : ∀ k, asksW p c k = 0 ∨ asksW p c k = 1
  | 0 => Or.inr rfl
  | k + 1 => by
    by_cases e : k = 0 ∨ c * 10 ^ k ≤ 10 ^ k + costW p c k
    · exact Or.inr (costW_t e).2
    · exact Or.inl (costW_f e).2
theorem rng_dead2 {y a b : Int32} (h : y < a ∨ b < y) (h1 : ¬ y < a) (h2 : ¬ b < y) : False := by
  rcases h with z | z
  · exact h1 z
  · exact h2 z
theorem pair_waits {X : mm_X} {k : Nat} {μ : mm_M} (hJ : JJ k μ) (y1 y2 y3 y4 : Int32) : PairJ X (JJ (k + 1)) k_G_waits k_M_waits [.int y1, .int y2, .int y3, .int y4] μ := by
  have hM := hJ.1
  have hw := hJ.2.2.2.up
  rcases rng_or y1 (a := 0) (b := 10) (by decide) (by decide) with ⟨hz, hz2⟩ | ⟨p, hpl, hp, rfl⟩
  · refine pairQj (-1) hJ (d := 12) (d' := 12) (by decide) (by decide) ?_ (fun μ1 hf => ?_)
    · show mm_T X 12 0 0 k_G_waits 0 [some (.ref 0), some (.int y1), some (.int y2), some (.int y3), some (.int y4), none, none, none, none, none, none] [] μ _
      refine mm_iload d_G_waits_0 rfl ?_
      refine mm_if_lt d_G_waits_1 (fun c_1 => ?_) (fun c_1 => ?_)
      · refine mm_lci d_G_waits_42 ?_
        exact mm_rj d_G_waits_45 ⟨rfl, Fr.rf, hw⟩
      · refine mm_iload d_G_waits_4 rfl ?_
        refine mm_ciN 10 d_G_waits_5 rfl ?_
        refine mm_icmp_gt d_G_waits_7 (fun c_7 => ?_) (fun c_7 => False.elim (rng_dead2 hz2 c_1 c_7))
        refine mm_lci d_G_waits_42 ?_
        exact mm_rj d_G_waits_45 ⟨rfl, Fr.rf, hw⟩
    · show mm_T X 12 0 0 k_M_waits 0 [some (.ref 71), some (.int y1), some (.int y2), some (.int y3), some (.int y4), none, none, none, none, none, none, none, none] [] μ1 _
      replace hM := hf.2.2.2 hM
      refine mm_aload d_M_waits_0 rfl ?_
      refine mm_ciN 0 d_M_waits_1 rfl ?_
      refine mm_putI d_M_waits_2 rfl (sk_o_71 hM) (Or.inl rfl) ?_
      refine mm_iload d_M_waits_5 rfl ?_
      refine mm_ciN 0 d_M_waits_6 rfl ?_
      refine mm_ciN 10 d_M_waits_7 rfl ?_
      refine mm_s3i d_M_waits_9 (sp_M_inB hz ?_)
      refine mm_if_eqN d_M_waits_12 (by first | omega | exact ite01_lt | exact bt8_lt31 _ _ | exact godB_lt31 _ _ _ | exact pop_lt31 _ | assumption | exact b31 (hW.gp (by omega)) | exact b31 (hW.ne (by omega)) | exact b31 (hW.op (by omega)) | exact and31 (hW.gp (by omega)) | exact and31 (hW.ne (by omega)) | exact and31 (hW.op (by omega)) | exact and31 (by assumption) | exact and31r (hW.ne (by omega)) | exact and31r (hW.gp (by omega)) | exact and31r (by decide)) (fun c_12 => ?_) (fun c_12 => False.elim (by omega))
      refine mm_lci d_M_waits_45 ?_
      exact mm_rj d_M_waits_48 ⟨rfl, Fr.rf.sI rfl⟩
  rcases rng_or y2 (a := 0) (b := 20) (by decide) (by decide) with ⟨hz, hz2⟩ | ⟨c, hcl, hc, rfl⟩
  · refine pairQj (-1) hJ (d := 12) (d' := 12) (by decide) (by decide) ?_ (fun μ1 hf => ?_)
    · show mm_T X 12 0 0 k_G_waits 0 [some (.ref 0), some (.int (nI p)), some (.int y2), some (.int y3), some (.int y4), none, none, none, none, none, none] [] μ _
      refine mm_iload d_G_waits_0 rfl ?_
      refine mm_if_ltN d_G_waits_1 (by first | omega | exact ite01_lt | exact bt8_lt31 _ _ | exact godB_lt31 _ _ _ | exact pop_lt31 _ | assumption | exact b31 (hW.gp (by omega)) | exact b31 (hW.ne (by omega)) | exact b31 (hW.op (by omega)) | exact and31 (hW.gp (by omega)) | exact and31 (hW.ne (by omega)) | exact and31 (hW.op (by omega)) | exact and31 (by assumption) | exact and31r (hW.ne (by omega)) | exact and31r (hW.gp (by omega)) | exact and31r (by decide)) ?_
      refine mm_iload d_G_waits_4 rfl ?_
      refine mm_ciN 10 d_G_waits_5 rfl ?_
      refine mm_icmp_gtN d_G_waits_7 (by first | omega | exact ite01_lt | exact bt8_lt31 _ _ | exact godB_lt31 _ _ _ | exact pop_lt31 _ | assumption | exact b31 (hW.gp (by omega)) | exact b31 (hW.ne (by omega)) | exact b31 (hW.op (by omega)) | exact and31 (hW.gp (by omega)) | exact and31 (hW.ne (by omega)) | exact and31 (hW.op (by omega)) | exact and31 (by assumption) | exact and31r (hW.ne (by omega)) | exact and31r (hW.gp (by omega)) | exact and31r (by decide)) (by first | omega | exact ite01_lt | exact bt8_lt31 _ _ | exact godB_lt31 _ _ _ | exact pop_lt31 _ | assumption | exact b31 (hW.gp (by omega)) | exact b31 (hW.ne (by omega)) | exact b31 (hW.op (by omega)) | exact and31 (hW.gp (by omega)) | exact and31 (hW.ne (by omega)) | exact and31 (hW.op (by omega)) | exact and31 (by assumption) | exact and31r (hW.ne (by omega)) | exact and31r (hW.gp (by omega)) | exact and31r (by decide)) (fun c_7 => False.elim (by omega)) (fun c_7 => ?_)
      refine mm_iload d_G_waits_10 rfl ?_
      refine mm_if_lt d_G_waits_11 (fun c_11 => ?_) (fun c_11 => ?_)
      · refine mm_lci d_G_waits_42 ?_
        exact mm_rj d_G_waits_45 ⟨rfl, Fr.rf, hw⟩
      · refine mm_iload d_G_waits_14 rfl ?_
        refine mm_ciN 20 d_G_waits_15 rfl ?_
        refine mm_icmp_gt d_G_waits_17 (fun c_17 => ?_) (fun c_17 => False.elim (rng_dead2 hz2 c_11 c_17))
        refine mm_lci d_G_waits_42 ?_
        exact mm_rj d_G_waits_45 ⟨rfl, Fr.rf, hw⟩
    · show mm_T X 12 0 0 k_M_waits 0 [some (.ref 71), some (.int (nI p)), some (.int y2), some (.int y3), some (.int y4), none, none, none, none, none, none, none, none] [] μ1 _
      replace hM := hf.2.2.2 hM
      refine mm_aload d_M_waits_0 rfl ?_
      refine mm_ciN 0 d_M_waits_1 rfl ?_
      refine mm_putI d_M_waits_2 rfl (sk_o_71 hM) (Or.inl rfl) ?_
      refine mm_iload d_M_waits_5 rfl ?_
      refine mm_ciN 0 d_M_waits_6 rfl ?_
      refine mm_ciN 10 d_M_waits_7 rfl ?_
      refine mm_s3i d_M_waits_9 (sp_M_inT (by omega) (by omega) (by omega) ?_)
      refine mm_if_eqN d_M_waits_12 (by first | omega | exact ite01_lt | exact bt8_lt31 _ _ | exact godB_lt31 _ _ _ | exact pop_lt31 _ | assumption | exact b31 (hW.gp (by omega)) | exact b31 (hW.ne (by omega)) | exact b31 (hW.op (by omega)) | exact and31 (hW.gp (by omega)) | exact and31 (hW.ne (by omega)) | exact and31 (hW.op (by omega)) | exact and31 (by assumption) | exact and31r (hW.ne (by omega)) | exact and31r (hW.gp (by omega)) | exact and31r (by decide)) (fun c_12 => False.elim (by omega)) (fun c_12 => ?_)
      refine mm_iload d_M_waits_15 rfl ?_
      refine mm_ciN 0 d_M_waits_16 rfl ?_
      refine mm_ciN 20 d_M_waits_17 rfl ?_
      refine mm_s3i d_M_waits_19 (sp_M_inB hz ?_)
      refine mm_if_eqN d_M_waits_22 (by first | omega | exact ite01_lt | exact bt8_lt31 _ _ | exact godB_lt31 _ _ _ | exact pop_lt31 _ | assumption | exact b31 (hW.gp (by omega)) | exact b31 (hW.ne (by omega)) | exact b31 (hW.op (by omega)) | exact and31 (hW.gp (by omega)) | exact and31 (hW.ne (by omega)) | exact and31 (hW.op (by omega)) | exact and31 (by assumption) | exact and31r (hW.ne (by omega)) | exact and31r (hW.gp (by omega)) | exact and31r (by decide)) (fun c_22 => ?_) (fun c_22 => False.elim (by omega))
      refine mm_lci d_M_waits_45 ?_
      exact mm_rj d_M_waits_48 ⟨rfl, Fr.rf.sI rfl⟩
  rcases rng_or y3 (a := 1) (b := 9) (by decide) (by decide) with ⟨hz, hz2⟩ | ⟨n, hnl, hn, rfl⟩
  · refine pairQj (-1) hJ (d := 12) (d' := 12) (by decide) (by decide) ?_ (fun μ1 hf => ?_)
    · show mm_T X 12 0 0 k_G_waits 0 [some (.ref 0), some (.int (nI p)), some (.int (nI c)), some (.int y3), some (.int y4), none, none, none, none, none, none] [] μ _
      refine mm_iload d_G_waits_0 rfl ?_
      refine mm_if_ltN d_G_waits_1 (by first | omega | exact ite01_lt | exact bt8_lt31 _ _ | exact godB_lt31 _ _ _ | exact pop_lt31 _ | assumption | exact b31 (hW.gp (by omega)) | exact b31 (hW.ne (by omega)) | exact b31 (hW.op (by omega)) | exact and31 (hW.gp (by omega)) | exact and31 (hW.ne (by omega)) | exact and31 (hW.op (by omega)) | exact and31 (by assumption) | exact and31r (hW.ne (by omega)) | exact and31r (hW.gp (by omega)) | exact and31r (by decide)) ?_
      refine mm_iload d_G_waits_4 rfl ?_
      refine mm_ciN 10 d_G_waits_5 rfl ?_
      refine mm_icmp_gtN d_G_waits_7 (by first | omega | exact ite01_lt | exact bt8_lt31 _ _ | exact godB_lt31 _ _ _ | exact pop_lt31 _ | assumption | exact b31 (hW.gp (by omega)) | exact b31 (hW.ne (by omega)) | exact b31 (hW.op (by omega)) | exact and31 (hW.gp (by omega)) | exact and31 (hW.ne (by omega)) | exact and31 (hW.op (by omega)) | exact and31 (by assumption) | exact and31r (hW.ne (by omega)) | exact and31r (hW.gp (by omega)) | exact and31r (by decide)) (by first | omega | exact ite01_lt | exact bt8_lt31 _ _ | exact godB_lt31 _ _ _ | exact pop_lt31 _ | assumption | exact b31 (hW.gp (by omega)) | exact b31 (hW.ne (by omega)) | exact b31 (hW.op (by omega)) | exact and31 (hW.gp (by omega)) | exact and31 (hW.ne (by omega)) | exact and31 (hW.op (by omega)) | exact and31 (by assumption) | exact and31r (hW.ne (by omega)) | exact and31r (hW.gp (by omega)) | exact and31r (by decide)) (fun c_7 => False.elim (by omega)) (fun c_7 => ?_)
      refine mm_iload d_G_waits_10 rfl ?_
      refine mm_if_ltN d_G_waits_11 (by first | omega | exact ite01_lt | exact bt8_lt31 _ _ | exact godB_lt31 _ _ _ | exact pop_lt31 _ | assumption | exact b31 (hW.gp (by omega)) | exact b31 (hW.ne (by omega)) | exact b31 (hW.op (by omega)) | exact and31 (hW.gp (by omega)) | exact and31 (hW.ne (by omega)) | exact and31 (hW.op (by omega)) | exact and31 (by assumption) | exact and31r (hW.ne (by omega)) | exact and31r (hW.gp (by omega)) | exact and31r (by decide)) ?_
      refine mm_iload d_G_waits_14 rfl ?_
      refine mm_ciN 20 d_G_waits_15 rfl ?_
      refine mm_icmp_gtN d_G_waits_17 (by first | omega | exact ite01_lt | exact bt8_lt31 _ _ | exact godB_lt31 _ _ _ | exact pop_lt31 _ | assumption | exact b31 (hW.gp (by omega)) | exact b31 (hW.ne (by omega)) | exact b31 (hW.op (by omega)) | exact and31 (hW.gp (by omega)) | exact and31 (hW.ne (by omega)) | exact and31 (hW.op (by omega)) | exact and31 (by assumption) | exact and31r (hW.ne (by omega)) | exact and31r (hW.gp (by omega)) | exact and31r (by decide)) (by first | omega | exact ite01_lt | exact bt8_lt31 _ _ | exact godB_lt31 _ _ _ | exact pop_lt31 _ | assumption | exact b31 (hW.gp (by omega)) | exact b31 (hW.ne (by omega)) | exact b31 (hW.op (by omega)) | exact and31 (hW.gp (by omega)) | exact and31 (hW.ne (by omega)) | exact and31 (hW.op (by omega)) | exact and31 (by assumption) | exact and31r (hW.ne (by omega)) | exact and31r (hW.gp (by omega)) | exact and31r (by decide)) (fun c_17 => False.elim (by omega)) (fun c_17 => ?_)
      refine mm_iload d_G_waits_20 rfl ?_
      refine mm_ciN 1 d_G_waits_21 rfl ?_
      refine mm_icmp_lt d_G_waits_22 (fun c_22 => ?_) (fun c_22 => ?_)
      · refine mm_lci d_G_waits_42 ?_
        exact mm_rj d_G_waits_45 ⟨rfl, Fr.rf, hw⟩
      · refine mm_iload d_G_waits_25 rfl ?_
        refine mm_ciN 9 d_G_waits_26 rfl ?_
        refine mm_icmp_gt d_G_waits_28 (fun c_28 => ?_) (fun c_28 => False.elim (rng_dead2 hz2 c_22 c_28))
        refine mm_lci d_G_waits_42 ?_
        exact mm_rj d_G_waits_45 ⟨rfl, Fr.rf, hw⟩
    · show mm_T X 12 0 0 k_M_waits 0 [some (.ref 71), some (.int (nI p)), some (.int (nI c)), some (.int y3), some (.int y4), none, none, none, none, none, none, none, none] [] μ1 _
      replace hM := hf.2.2.2 hM
      refine mm_aload d_M_waits_0 rfl ?_
      refine mm_ciN 0 d_M_waits_1 rfl ?_
      refine mm_putI d_M_waits_2 rfl (sk_o_71 hM) (Or.inl rfl) ?_
      refine mm_iload d_M_waits_5 rfl ?_
      refine mm_ciN 0 d_M_waits_6 rfl ?_
      refine mm_ciN 10 d_M_waits_7 rfl ?_
      refine mm_s3i d_M_waits_9 (sp_M_inT (by omega) (by omega) (by omega) ?_)
      refine mm_if_eqN d_M_waits_12 (by first | omega | exact ite01_lt | exact bt8_lt31 _ _ | exact godB_lt31 _ _ _ | exact pop_lt31 _ | assumption | exact b31 (hW.gp (by omega)) | exact b31 (hW.ne (by omega)) | exact b31 (hW.op (by omega)) | exact and31 (hW.gp (by omega)) | exact and31 (hW.ne (by omega)) | exact and31 (hW.op (by omega)) | exact and31 (by assumption) | exact and31r (hW.ne (by omega)) | exact and31r (hW.gp (by omega)) | exact and31r (by decide)) (fun c_12 => False.elim (by omega)) (fun c_12 => ?_)
      refine mm_iload d_M_waits_15 rfl ?_
      refine mm_ciN 0 d_M_waits_16 rfl ?_
      refine mm_ciN 20 d_M_waits_17 rfl ?_
      refine mm_s3i d_M_waits_19 (sp_M_inT (by omega) (by omega) (by omega) ?_)
      refine mm_if_eqN d_M_waits_22 (by first | omega | exact ite01_lt | exact bt8_lt31 _ _ | exact godB_lt31 _ _ _ | exact pop_lt31 _ | assumption | exact b31 (hW.gp (by omega)) | exact b31 (hW.ne (by omega)) | exact b31 (hW.op (by omega)) | exact and31 (hW.gp (by omega)) | exact and31 (hW.ne (by omega)) | exact and31 (hW.op (by omega)) | exact and31 (by assumption) | exact and31r (hW.ne (by omega)) | exact and31r (hW.gp (by omega)) | exact and31r (by decide)) (fun c_22 => False.elim (by omega)) (fun c_22 => ?_)
      refine mm_iload d_M_waits_25 rfl ?_
      refine mm_ciN 1 d_M_waits_26 rfl ?_
      refine mm_ciN 9 d_M_waits_27 rfl ?_
      refine mm_s3i d_M_waits_29 (sp_M_inB hz ?_)
      refine mm_if_eqN d_M_waits_32 (by first | omega | exact ite01_lt | exact bt8_lt31 _ _ | exact godB_lt31 _ _ _ | exact pop_lt31 _ | assumption | exact b31 (hW.gp (by omega)) | exact b31 (hW.ne (by omega)) | exact b31 (hW.op (by omega)) | exact and31 (hW.gp (by omega)) | exact and31 (hW.ne (by omega)) | exact and31 (hW.op (by omega)) | exact and31 (by assumption) | exact and31r (hW.ne (by omega)) | exact and31r (hW.gp (by omega)) | exact and31r (by decide)) (fun c_32 => ?_) (fun c_32 => False.elim (by omega))
      refine mm_lci d_M_waits_45 ?_
      exact mm_rj d_M_waits_48 ⟨rfl, Fr.rf.sI rfl⟩
  rcases rng_or y4 (a := 0) (b := 2) (by decide) (by decide) with ⟨hz, hz2⟩ | ⟨w, hwl, hw2, rfl⟩
  · refine pairQj (-1) hJ (d := 12) (d' := 12) (by decide) (by decide) ?_ (fun μ1 hf => ?_)
    · show mm_T X 12 0 0 k_G_waits 0 [some (.ref 0), some (.int (nI p)), some (.int (nI c)), some (.int (nI n)), some (.int y4), none, none, none, none, none, none] [] μ _
      refine mm_iload d_G_waits_0 rfl ?_
      refine mm_if_ltN d_G_waits_1 (by first | omega | exact ite01_lt | exact bt8_lt31 _ _ | exact godB_lt31 _ _ _ | exact pop_lt31 _ | assumption | exact b31 (hW.gp (by omega)) | exact b31 (hW.ne (by omega)) | exact b31 (hW.op (by omega)) | exact and31 (hW.gp (by omega)) | exact and31 (hW.ne (by omega)) | exact and31 (hW.op (by omega)) | exact and31 (by assumption) | exact and31r (hW.ne (by omega)) | exact and31r (hW.gp (by omega)) | exact and31r (by decide)) ?_
      refine mm_iload d_G_waits_4 rfl ?_
      refine mm_ciN 10 d_G_waits_5 rfl ?_
      refine mm_icmp_gtN d_G_waits_7 (by first | omega | exact ite01_lt | exact bt8_lt31 _ _ | exact godB_lt31 _ _ _ | exact pop_lt31 _ | assumption | exact b31 (hW.gp (by omega)) | exact b31 (hW.ne (by omega)) | exact b31 (hW.op (by omega)) | exact and31 (hW.gp (by omega)) | exact and31 (hW.ne (by omega)) | exact and31 (hW.op (by omega)) | exact and31 (by assumption) | exact and31r (hW.ne (by omega)) | exact and31r (hW.gp (by omega)) | exact and31r (by decide)) (by first | omega | exact ite01_lt | exact bt8_lt31 _ _ | exact godB_lt31 _ _ _ | exact pop_lt31 _ | assumption | exact b31 (hW.gp (by omega)) | exact b31 (hW.ne (by omega)) | exact b31 (hW.op (by omega)) | exact and31 (hW.gp (by omega)) | exact and31 (hW.ne (by omega)) | exact and31 (hW.op (by omega)) | exact and31 (by assumption) | exact and31r (hW.ne (by omega)) | exact and31r (hW.gp (by omega)) | exact and31r (by decide)) (fun c_7 => False.elim (by omega)) (fun c_7 => ?_)
      refine mm_iload d_G_waits_10 rfl ?_
      refine mm_if_ltN d_G_waits_11 (by first | omega | exact ite01_lt | exact bt8_lt31 _ _ | exact godB_lt31 _ _ _ | exact pop_lt31 _ | assumption | exact b31 (hW.gp (by omega)) | exact b31 (hW.ne (by omega)) | exact b31 (hW.op (by omega)) | exact and31 (hW.gp (by omega)) | exact and31 (hW.ne (by omega)) | exact and31 (hW.op (by omega)) | exact and31 (by assumption) | exact and31r (hW.ne (by omega)) | exact and31r (hW.gp (by omega)) | exact and31r (by decide)) ?_
      refine mm_iload d_G_waits_14 rfl ?_
      refine mm_ciN 20 d_G_waits_15 rfl ?_
      refine mm_icmp_gtN d_G_waits_17 (by first | omega | exact ite01_lt | exact bt8_lt31 _ _ | exact godB_lt31 _ _ _ | exact pop_lt31 _ | assumption | exact b31 (hW.gp (by omega)) | exact b31 (hW.ne (by omega)) | exact b31 (hW.op (by omega)) | exact and31 (hW.gp (by omega)) | exact and31 (hW.ne (by omega)) | exact and31 (hW.op (by omega)) | exact and31 (by assumption) | exact and31r (hW.ne (by omega)) | exact and31r (hW.gp (by omega)) | exact and31r (by decide)) (by first | omega | exact ite01_lt | exact bt8_lt31 _ _ | exact godB_lt31 _ _ _ | exact pop_lt31 _ | assumption | exact b31 (hW.gp (by omega)) | exact b31 (hW.ne (by omega)) | exact b31 (hW.op (by omega)) | exact and31 (hW.gp (by omega)) | exact and31 (hW.ne (by omega)) | exact and31 (hW.op (by omega)) | exact and31 (by assumption) | exact and31r (hW.ne (by omega)) | exact and31r (hW.gp (by omega)) | exact and31r (by decide)) (fun c_17 => False.elim (by omega)) (fun c_17 => ?_)
      refine mm_iload d_G_waits_20 rfl ?_
      refine mm_ciN 1 d_G_waits_21 rfl ?_
      refine mm_icmp_ltN d_G_waits_22 (by first | omega | exact ite01_lt | exact bt8_lt31 _ _ | exact godB_lt31 _ _ _ | exact pop_lt31 _ | assumption | exact b31 (hW.gp (by omega)) | exact b31 (hW.ne (by omega)) | exact b31 (hW.op (by omega)) | exact and31 (hW.gp (by omega)) | exact and31 (hW.ne (by omega)) | exact and31 (hW.op (by omega)) | exact and31 (by assumption) | exact and31r (hW.ne (by omega)) | exact and31r (hW.gp (by omega)) | exact and31r (by decide)) (by first | omega | exact ite01_lt | exact bt8_lt31 _ _ | exact godB_lt31 _ _ _ | exact pop_lt31 _ | assumption | exact b31 (hW.gp (by omega)) | exact b31 (hW.ne (by omega)) | exact b31 (hW.op (by omega)) | exact and31 (hW.gp (by omega)) | exact and31 (hW.ne (by omega)) | exact and31 (hW.op (by omega)) | exact and31 (by assumption) | exact and31r (hW.ne (by omega)) | exact and31r (hW.gp (by omega)) | exact and31r (by decide)) (fun c_22 => False.elim (by omega)) (fun c_22 => ?_)
      refine mm_iload d_G_waits_25 rfl ?_
      refine mm_ciN 9 d_G_waits_26 rfl ?_
      refine mm_icmp_gtN d_G_waits_28 (by first | omega | exact ite01_lt | exact bt8_lt31 _ _ | exact godB_lt31 _ _ _ | exact pop_lt31 _ | assumption | exact b31 (hW.gp (by omega)) | exact b31 (hW.ne (by omega)) | exact b31 (hW.op (by omega)) | exact and31 (hW.gp (by omega)) | exact and31 (hW.ne (by omega)) | exact and31 (hW.op (by omega)) | exact and31 (by assumption) | exact and31r (hW.ne (by omega)) | exact and31r (hW.gp (by omega)) | exact and31r (by decide)) (by first | omega | exact ite01_lt | exact bt8_lt31 _ _ | exact godB_lt31 _ _ _ | exact pop_lt31 _ | assumption | exact b31 (hW.gp (by omega)) | exact b31 (hW.ne (by omega)) | exact b31 (hW.op (by omega)) | exact and31 (hW.gp (by omega)) | exact and31 (hW.ne (by omega)) | exact and31 (hW.op (by omega)) | exact and31 (by assumption) | exact and31r (hW.ne (by omega)) | exact and31r (hW.gp (by omega)) | exact and31r (by decide)) (fun c_28 => False.elim (by omega)) (fun c_28 => ?_)
      refine mm_iload d_G_waits_31 rfl ?_
      refine mm_if_lt d_G_waits_33 (fun c_33 => ?_) (fun c_33 => ?_)
      · refine mm_lci d_G_waits_42 ?_
        exact mm_rj d_G_waits_45 ⟨rfl, Fr.rf, hw⟩
      · refine mm_iload d_G_waits_36 rfl ?_
        refine mm_ciN 2 d_G_waits_38 rfl ?_
        refine mm_icmp_le d_G_waits_39 (fun c_39 => False.elim (rng_dead hz2 c_33 c_39)) (fun c_39 => ?_)
        refine mm_lci d_G_waits_42 ?_
        exact mm_rj d_G_waits_45 ⟨rfl, Fr.rf, hw⟩
    · show mm_T X 12 0 0 k_M_waits 0 [some (.ref 71), some (.int (nI p)), some (.int (nI c)), some (.int (nI n)), some (.int y4), none, none, none, none, none, none, none, none] [] μ1 _
      replace hM := hf.2.2.2 hM
      refine mm_aload d_M_waits_0 rfl ?_
      refine mm_ciN 0 d_M_waits_1 rfl ?_
      refine mm_putI d_M_waits_2 rfl (sk_o_71 hM) (Or.inl rfl) ?_
      refine mm_iload d_M_waits_5 rfl ?_
      refine mm_ciN 0 d_M_waits_6 rfl ?_
      refine mm_ciN 10 d_M_waits_7 rfl ?_
      refine mm_s3i d_M_waits_9 (sp_M_inT (by omega) (by omega) (by omega) ?_)
      refine mm_if_eqN d_M_waits_12 (by first | omega | exact ite01_lt | exact bt8_lt31 _ _ | exact godB_lt31 _ _ _ | exact pop_lt31 _ | assumption | exact b31 (hW.gp (by omega)) | exact b31 (hW.ne (by omega)) | exact b31 (hW.op (by omega)) | exact and31 (hW.gp (by omega)) | exact and31 (hW.ne (by omega)) | exact and31 (hW.op (by omega)) | exact and31 (by assumption) | exact and31r (hW.ne (by omega)) | exact and31r (hW.gp (by omega)) | exact and31r (by decide)) (fun c_12 => False.elim (by omega)) (fun c_12 => ?_)
      refine mm_iload d_M_waits_15 rfl ?_
      refine mm_ciN 0 d_M_waits_16 rfl ?_
      refine mm_ciN 20 d_M_waits_17 rfl ?_
      refine mm_s3i d_M_waits_19 (sp_M_inT (by omega) (by omega) (by omega) ?_)
      refine mm_if_eqN d_M_waits_22 (by first | omega | exact ite01_lt | exact bt8_lt31 _ _ | exact godB_lt31 _ _ _ | exact pop_lt31 _ | assumption | exact b31 (hW.gp (by omega)) | exact b31 (hW.ne (by omega)) | exact b31 (hW.op (by omega)) | exact and31 (hW.gp (by omega)) | exact and31 (hW.ne (by omega)) | exact and31 (hW.op (by omega)) | exact and31 (by assumption) | exact and31r (hW.ne (by omega)) | exact and31r (hW.gp (by omega)) | exact and31r (by decide)) (fun c_22 => False.elim (by omega)) (fun c_22 => ?_)
      refine mm_iload d_M_waits_25 rfl ?_
      refine mm_ciN 1 d_M_waits_26 rfl ?_
      refine mm_ciN 9 d_M_waits_27 rfl ?_
      refine mm_s3i d_M_waits_29 (sp_M_inT (by omega) (by omega) (by omega) ?_)
      refine mm_if_eqN d_M_waits_32 (by first | omega | exact ite01_lt | exact bt8_lt31 _ _ | exact godB_lt31 _ _ _ | exact pop_lt31 _ | assumption | exact b31 (hW.gp (by omega)) | exact b31 (hW.ne (by omega)) | exact b31 (hW.op (by omega)) | exact and31 (hW.gp (by omega)) | exact and31 (hW.ne (by omega)) | exact and31 (hW.op (by omega)) | exact and31 (by assumption) | exact and31r (hW.ne (by omega)) | exact and31r (hW.gp (by omega)) | exact and31r (by decide)) (fun c_32 => False.elim (by omega)) (fun c_32 => ?_)
      refine mm_iload d_M_waits_35 rfl ?_
      refine mm_ciN 0 d_M_waits_37 rfl ?_
      refine mm_ciN 2 d_M_waits_38 rfl ?_
      refine mm_s3i d_M_waits_39 (sp_M_inB hz ?_)
      refine mm_if_neN d_M_waits_42 (by first | omega | exact ite01_lt | exact bt8_lt31 _ _ | exact godB_lt31 _ _ _ | exact pop_lt31 _ | assumption | exact b31 (hW.gp (by omega)) | exact b31 (hW.ne (by omega)) | exact b31 (hW.op (by omega)) | exact and31 (hW.gp (by omega)) | exact and31 (hW.ne (by omega)) | exact and31 (hW.op (by omega)) | exact and31 (by assumption) | exact and31r (hW.ne (by omega)) | exact and31r (hW.gp (by omega)) | exact and31r (by decide)) (fun c_42 => False.elim (by omega)) (fun c_42 => ?_)
      refine mm_lci d_M_waits_45 ?_
      exact mm_rj d_M_waits_48 ⟨rfl, Fr.rf.sI rfl⟩
  have hcn := costW_le (p := p) hc (k := n) hn
  have h1n := p10_le hn
  have h0n : 0 < 10 ^ n := Nat.pow_pos (by decide)
  have h01 := asksW_01 p c n
  refine pairQj (if w = 2 then lN (asksW p c n) else lN (ltN (if w = 1 then nI 1 else nI 0) (costW p c n) (10 ^ n))) hJ (d := 12) (d' := 12) (by decide) (by decide) ?_ (fun μ1 hf => ?_)
  · show mm_T X 12 0 0 k_G_waits 0 [some (.ref 0), some (.int (nI p)), some (.int (nI c)), some (.int (nI n)), some (.int (nI w)), none, none, none, none, none, none] [] μ _
    refine mm_iload d_G_waits_0 rfl ?_
    refine mm_if_ltN d_G_waits_1 (by first | omega | exact ite01_lt | exact bt8_lt31 _ _ | exact godB_lt31 _ _ _ | exact pop_lt31 _ | assumption | exact b31 (hW.gp (by omega)) | exact b31 (hW.ne (by omega)) | exact b31 (hW.op (by omega)) | exact and31 (hW.gp (by omega)) | exact and31 (hW.ne (by omega)) | exact and31 (hW.op (by omega)) | exact and31 (by assumption) | exact and31r (hW.ne (by omega)) | exact and31r (hW.gp (by omega)) | exact and31r (by decide)) ?_
    refine mm_iload d_G_waits_4 rfl ?_
    refine mm_ciN 10 d_G_waits_5 rfl ?_
    refine mm_icmp_gtN d_G_waits_7 (by first | omega | exact ite01_lt | exact bt8_lt31 _ _ | exact godB_lt31 _ _ _ | exact pop_lt31 _ | assumption | exact b31 (hW.gp (by omega)) | exact b31 (hW.ne (by omega)) | exact b31 (hW.op (by omega)) | exact and31 (hW.gp (by omega)) | exact and31 (hW.ne (by omega)) | exact and31 (hW.op (by omega)) | exact and31 (by assumption) | exact and31r (hW.ne (by omega)) | exact and31r (hW.gp (by omega)) | exact and31r (by decide)) (by first | omega | exact ite01_lt | exact bt8_lt31 _ _ | exact godB_lt31 _ _ _ | exact pop_lt31 _ | assumption | exact b31 (hW.gp (by omega)) | exact b31 (hW.ne (by omega)) | exact b31 (hW.op (by omega)) | exact and31 (hW.gp (by omega)) | exact and31 (hW.ne (by omega)) | exact and31 (hW.op (by omega)) | exact and31 (by assumption) | exact and31r (hW.ne (by omega)) | exact and31r (hW.gp (by omega)) | exact and31r (by decide)) (fun c_7 => False.elim (by omega)) (fun c_7 => ?_)
    refine mm_iload d_G_waits_10 rfl ?_
    refine mm_if_ltN d_G_waits_11 (by first | omega | exact ite01_lt | exact bt8_lt31 _ _ | exact godB_lt31 _ _ _ | exact pop_lt31 _ | assumption | exact b31 (hW.gp (by omega)) | exact b31 (hW.ne (by omega)) | exact b31 (hW.op (by omega)) | exact and31 (hW.gp (by omega)) | exact and31 (hW.ne (by omega)) | exact and31 (hW.op (by omega)) | exact and31 (by assumption) | exact and31r (hW.ne (by omega)) | exact and31r (hW.gp (by omega)) | exact and31r (by decide)) ?_
    refine mm_iload d_G_waits_14 rfl ?_
    refine mm_ciN 20 d_G_waits_15 rfl ?_
    refine mm_icmp_gtN d_G_waits_17 (by first | omega | exact ite01_lt | exact bt8_lt31 _ _ | exact godB_lt31 _ _ _ | exact pop_lt31 _ | assumption | exact b31 (hW.gp (by omega)) | exact b31 (hW.ne (by omega)) | exact b31 (hW.op (by omega)) | exact and31 (hW.gp (by omega)) | exact and31 (hW.ne (by omega)) | exact and31 (hW.op (by omega)) | exact and31 (by assumption) | exact and31r (hW.ne (by omega)) | exact and31r (hW.gp (by omega)) | exact and31r (by decide)) (by first | omega | exact ite01_lt | exact bt8_lt31 _ _ | exact godB_lt31 _ _ _ | exact pop_lt31 _ | assumption | exact b31 (hW.gp (by omega)) | exact b31 (hW.ne (by omega)) | exact b31 (hW.op (by omega)) | exact and31 (hW.gp (by omega)) | exact and31 (hW.ne (by omega)) | exact and31 (hW.op (by omega)) | exact and31 (by assumption) | exact and31r (hW.ne (by omega)) | exact and31r (hW.gp (by omega)) | exact and31r (by decide)) (fun c_17 => False.elim (by omega)) (fun c_17 => ?_)
    refine mm_iload d_G_waits_20 rfl ?_
    refine mm_ciN 1 d_G_waits_21 rfl ?_
    refine mm_icmp_ltN d_G_waits_22 (by first | omega | exact ite01_lt | exact bt8_lt31 _ _ | exact godB_lt31 _ _ _ | exact pop_lt31 _ | assumption | exact b31 (hW.gp (by omega)) | exact b31 (hW.ne (by omega)) | exact b31 (hW.op (by omega)) | exact and31 (hW.gp (by omega)) | exact and31 (hW.ne (by omega)) | exact and31 (hW.op (by omega)) | exact and31 (by assumption) | exact and31r (hW.ne (by omega)) | exact and31r (hW.gp (by omega)) | exact and31r (by decide)) (by first | omega | exact ite01_lt | exact bt8_lt31 _ _ | exact godB_lt31 _ _ _ | exact pop_lt31 _ | assumption | exact b31 (hW.gp (by omega)) | exact b31 (hW.ne (by omega)) | exact b31 (hW.op (by omega)) | exact and31 (hW.gp (by omega)) | exact and31 (hW.ne (by omega)) | exact and31 (hW.op (by omega)) | exact and31 (by assumption) | exact and31r (hW.ne (by omega)) | exact and31r (hW.gp (by omega)) | exact and31r (by decide)) (fun c_22 => False.elim (by omega)) (fun c_22 => ?_)
    refine mm_iload d_G_waits_25 rfl ?_
    refine mm_ciN 9 d_G_waits_26 rfl ?_
    refine mm_icmp_gtN d_G_waits_28 (by first | omega | exact ite01_lt | exact bt8_lt31 _ _ | exact godB_lt31 _ _ _ | exact pop_lt31 _ | assumption | exact b31 (hW.gp (by omega)) | exact b31 (hW.ne (by omega)) | exact b31 (hW.op (by omega)) | exact and31 (hW.gp (by omega)) | exact and31 (hW.ne (by omega)) | exact and31 (hW.op (by omega)) | exact and31 (by assumption) | exact and31r (hW.ne (by omega)) | exact and31r (hW.gp (by omega)) | exact and31r (by decide)) (by first | omega | exact ite01_lt | exact bt8_lt31 _ _ | exact godB_lt31 _ _ _ | exact pop_lt31 _ | assumption | exact b31 (hW.gp (by omega)) | exact b31 (hW.ne (by omega)) | exact b31 (hW.op (by omega)) | exact and31 (hW.gp (by omega)) | exact and31 (hW.ne (by omega)) | exact and31 (hW.op (by omega)) | exact and31 (by assumption) | exact and31r (hW.ne (by omega)) | exact and31r (hW.gp (by omega)) | exact and31r (by decide)) (fun c_28 => False.elim (by omega)) (fun c_28 => ?_)
    refine mm_iload d_G_waits_31 rfl ?_
    refine mm_if_ltN d_G_waits_33 (by first | omega | exact ite01_lt | exact bt8_lt31 _ _ | exact godB_lt31 _ _ _ | exact pop_lt31 _ | assumption | exact b31 (hW.gp (by omega)) | exact b31 (hW.ne (by omega)) | exact b31 (hW.op (by omega)) | exact and31 (hW.gp (by omega)) | exact and31 (hW.ne (by omega)) | exact and31 (hW.op (by omega)) | exact and31 (by assumption) | exact and31r (hW.ne (by omega)) | exact and31r (hW.gp (by omega)) | exact and31r (by decide)) ?_
    refine mm_iload d_G_waits_36 rfl ?_
    refine mm_ciN 2 d_G_waits_38 rfl ?_
    refine mm_icmp_leN d_G_waits_39 (by first | omega | exact ite01_lt | exact bt8_lt31 _ _ | exact godB_lt31 _ _ _ | exact pop_lt31 _ | assumption | exact b31 (hW.gp (by omega)) | exact b31 (hW.ne (by omega)) | exact b31 (hW.op (by omega)) | exact and31 (hW.gp (by omega)) | exact and31 (hW.ne (by omega)) | exact and31 (hW.op (by omega)) | exact and31 (by assumption) | exact and31r (hW.ne (by omega)) | exact and31r (hW.gp (by omega)) | exact and31r (by decide)) (by first | omega | exact ite01_lt | exact bt8_lt31 _ _ | exact godB_lt31 _ _ _ | exact pop_lt31 _ | assumption | exact b31 (hW.gp (by omega)) | exact b31 (hW.ne (by omega)) | exact b31 (hW.op (by omega)) | exact and31 (hW.gp (by omega)) | exact and31 (hW.ne (by omega)) | exact and31 (hW.op (by omega)) | exact and31 (by assumption) | exact and31r (hW.ne (by omega)) | exact and31r (hW.gp (by omega)) | exact and31r (by decide)) (fun c_39 => ?_) (fun c_39 => False.elim (by omega))
    refine mm_lciN 1 d_G_waits_46 rfl ?_
    refine mm_lst5 d_G_waits_47 ?_
    refine mm_lciN 0 d_G_waits_49 rfl ?_
    refine mm_lst7 d_G_waits_50 ?_
    refine mm_ciN 1 d_G_waits_52 rfl ?_
    refine mm_ist9 d_G_waits_53 ?_
    refine mm_ciN 1 d_G_waits_55 rfl ?_
    refine mm_ist10 d_G_waits_56 ?_
    refine mm_up (P := fun t => mm_T X _ 0 0 k_G_waits 58 [some (.ref 0), some (.int (nI p)), some (.int (nI c)), some (.int (nI n)), some (.int (nI w)), some (.long (lN (10 ^ t))), none, some (.long (lN (costW p c t))), none, some (.int (nI (asksW p c t))), some (.int (nI (t + 1)))] [] μ _) n ?_ (fun t ht ih => ?_)
    · refine mm_iload d_G_waits_58 rfl ?_
      refine mm_iload d_G_waits_60 rfl ?_
      refine mm_icmp_gtN d_G_waits_61 (by first | omega | exact ite01_lt | exact bt8_lt31 _ _ | exact godB_lt31 _ _ _ | exact pop_lt31 _ | assumption | exact b31 (hW.gp (by omega)) | exact b31 (hW.ne (by omega)) | exact b31 (hW.op (by omega)) | exact and31 (hW.gp (by omega)) | exact and31 (hW.ne (by omega)) | exact and31 (hW.op (by omega)) | exact and31 (by assumption) | exact and31r (hW.ne (by omega)) | exact and31r (hW.gp (by omega)) | exact and31r (by decide)) (by first | omega | exact ite01_lt | exact bt8_lt31 _ _ | exact godB_lt31 _ _ _ | exact pop_lt31 _ | assumption | exact b31 (hW.gp (by omega)) | exact b31 (hW.ne (by omega)) | exact b31 (hW.op (by omega)) | exact and31 (hW.gp (by omega)) | exact and31 (hW.ne (by omega)) | exact and31 (hW.op (by omega)) | exact and31 (by assumption) | exact and31r (hW.ne (by omega)) | exact and31r (hW.gp (by omega)) | exact and31r (by decide)) (fun c_61 => ?_) (fun c_61 => False.elim (by omega))
      refine mm_iload d_G_waits_131 rfl ?_
      refine mm_ciN 2 d_G_waits_133 rfl ?_
      refine mm_icmp_neN d_G_waits_134 (by first | omega | exact ite01_lt | exact bt8_lt31 _ _ | exact godB_lt31 _ _ _ | exact pop_lt31 _ | assumption | exact b31 (hW.gp (by omega)) | exact b31 (hW.ne (by omega)) | exact b31 (hW.op (by omega)) | exact and31 (hW.gp (by omega)) | exact and31 (hW.ne (by omega)) | exact and31 (hW.op (by omega)) | exact and31 (by assumption) | exact and31r (hW.ne (by omega)) | exact and31r (hW.gp (by omega)) | exact and31r (by decide)) (by first | omega | exact ite01_lt | exact bt8_lt31 _ _ | exact godB_lt31 _ _ _ | exact pop_lt31 _ | assumption | exact b31 (hW.gp (by omega)) | exact b31 (hW.ne (by omega)) | exact b31 (hW.op (by omega)) | exact and31 (hW.gp (by omega)) | exact and31 (hW.ne (by omega)) | exact and31 (hW.op (by omega)) | exact and31 (by assumption) | exact and31r (hW.ne (by omega)) | exact and31r (hW.gp (by omega)) | exact and31r (by decide)) (fun c_134 => ?_) (fun c_134 => ?_)
      · refine mm_lload d_G_waits_148 rfl ?_
        refine mm_lload d_G_waits_150 rfl ?_
        refine mm_iload d_G_waits_152 rfl ?_
        refine mm_ciN 1 d_G_waits_154 rfl ?_
        refine mm_icmp_neN d_G_waits_155 (by first | omega | exact ite01_lt | exact bt8_lt31 _ _ | exact godB_lt31 _ _ _ | exact pop_lt31 _ | assumption | exact b31 (hW.gp (by omega)) | exact b31 (hW.ne (by omega)) | exact b31 (hW.op (by omega)) | exact and31 (hW.gp (by omega)) | exact and31 (hW.ne (by omega)) | exact and31 (hW.op (by omega)) | exact and31 (by assumption) | exact and31r (hW.ne (by omega)) | exact and31r (hW.gp (by omega)) | exact and31r (by decide)) (by first | omega | exact ite01_lt | exact bt8_lt31 _ _ | exact godB_lt31 _ _ _ | exact pop_lt31 _ | assumption | exact b31 (hW.gp (by omega)) | exact b31 (hW.ne (by omega)) | exact b31 (hW.op (by omega)) | exact and31 (hW.gp (by omega)) | exact and31 (hW.ne (by omega)) | exact and31 (hW.op (by omega)) | exact and31 (by assumption) | exact and31r (hW.ne (by omega)) | exact and31r (hW.gp (by omega)) | exact and31r (by decide)) (fun c_155 => ?_) (fun c_155 => ?_)
        · refine mm_ciN 0 d_G_waits_162 rfl ?_
          refine mm_s3j d_G_waits_163 (sp_G_leastTerms (by omega) (by omega) (by omega) ?_)
          exact mm_rj d_G_waits_166 ⟨by first | (rw [if_pos c_134]; congr 1; omega) | (rw [if_neg c_134]; first | rw [if_pos c_155] | rw [if_neg c_155]), Fr.rf, hw⟩
        · refine mm_ciN 1 d_G_waits_158 rfl ?_
          refine mm_goto d_G_waits_159 ?_
          refine mm_s3j d_G_waits_163 (sp_G_leastTerms (by omega) (by omega) (by omega) ?_)
          exact mm_rj d_G_waits_166 ⟨by first | (rw [if_pos c_134]; congr 1; omega) | (rw [if_neg c_134]; first | rw [if_pos c_155] | rw [if_neg c_155]), Fr.rf, hw⟩
      · refine mm_iload d_G_waits_137 rfl ?_
        refine mm_if_eqN d_G_waits_139 (by first | omega | exact ite01_lt | exact bt8_lt31 _ _ | exact godB_lt31 _ _ _ | exact pop_lt31 _ | assumption | exact b31 (hW.gp (by omega)) | exact b31 (hW.ne (by omega)) | exact b31 (hW.op (by omega)) | exact and31 (hW.gp (by omega)) | exact and31 (hW.ne (by omega)) | exact and31 (hW.op (by omega)) | exact and31 (by assumption) | exact and31r (hW.ne (by omega)) | exact and31r (hW.gp (by omega)) | exact and31r (by decide)) (fun c_139 => ?_) (fun c_139 => ?_)
        · refine mm_lciN 0 d_G_waits_146 rfl ?_
          exact mm_rj d_G_waits_147 ⟨by first | (rw [if_pos c_134]; congr 1; omega) | (rw [if_neg c_134]; first | rw [if_pos c_155] | rw [if_neg c_155]), Fr.rf, hw⟩
        · refine mm_lciN 1 d_G_waits_142 rfl ?_
          refine mm_goto d_G_waits_143 ?_
          exact mm_rj d_G_waits_147 ⟨by first | (rw [if_pos c_134]; congr 1; omega) | (rw [if_neg c_134]; first | rw [if_pos c_155] | rw [if_neg c_155]), Fr.rf, hw⟩
    · have hct := costW_le (p := p) hc (k := t) (by omega)
      have h1t := p10_le (k := t) (by omega)
      have h2t := c10_le hc (k := t) (by omega)
      refine mm_iload d_G_waits_58 rfl ?_
      refine mm_iload d_G_waits_60 rfl ?_
      refine mm_icmp_gtN d_G_waits_61 (by first | omega | exact ite01_lt | exact bt8_lt31 _ _ | exact godB_lt31 _ _ _ | exact pop_lt31 _ | assumption | exact b31 (hW.gp (by omega)) | exact b31 (hW.ne (by omega)) | exact b31 (hW.op (by omega)) | exact and31 (hW.gp (by omega)) | exact and31 (hW.ne (by omega)) | exact and31 (hW.op (by omega)) | exact and31 (by assumption) | exact and31r (hW.ne (by omega)) | exact and31r (hW.gp (by omega)) | exact and31r (by decide)) (by first | omega | exact ite01_lt | exact bt8_lt31 _ _ | exact godB_lt31 _ _ _ | exact pop_lt31 _ | assumption | exact b31 (hW.gp (by omega)) | exact b31 (hW.ne (by omega)) | exact b31 (hW.op (by omega)) | exact and31 (hW.gp (by omega)) | exact and31 (hW.ne (by omega)) | exact and31 (hW.op (by omega)) | exact and31 (by assumption) | exact and31r (hW.ne (by omega)) | exact and31r (hW.gp (by omega)) | exact and31r (by decide)) (fun c_61 => False.elim (by omega)) (fun c_61 => ?_)
      refine mm_iload d_G_waits_64 rfl ?_
      refine mm_ciN 1 d_G_waits_66 rfl ?_
      refine mm_icmp_eqN d_G_waits_67 (by first | omega | exact ite01_lt | exact bt8_lt31 _ _ | exact godB_lt31 _ _ _ | exact pop_lt31 _ | assumption | exact b31 (hW.gp (by omega)) | exact b31 (hW.ne (by omega)) | exact b31 (hW.op (by omega)) | exact and31 (hW.gp (by omega)) | exact and31 (hW.ne (by omega)) | exact and31 (hW.op (by omega)) | exact and31 (by assumption) | exact and31r (hW.ne (by omega)) | exact and31r (hW.gp (by omega)) | exact and31r (by decide)) (by first | omega | exact ite01_lt | exact bt8_lt31 _ _ | exact godB_lt31 _ _ _ | exact pop_lt31 _ | assumption | exact b31 (hW.gp (by omega)) | exact b31 (hW.ne (by omega)) | exact b31 (hW.op (by omega)) | exact and31 (hW.gp (by omega)) | exact and31 (hW.ne (by omega)) | exact and31 (hW.op (by omega)) | exact and31 (by assumption) | exact and31r (hW.ne (by omega)) | exact and31r (hW.gp (by omega)) | exact and31r (by decide)) (fun c_67 => ?_) (fun c_67 => ?_)
      · refine mm_ciN 1 d_G_waits_84 rfl ?_
        refine mm_goto d_G_waits_85 ?_
        refine mm_ist9 d_G_waits_89 ?_
        refine mm_ciN 10 d_G_waits_91 rfl ?_
        refine mm_iload d_G_waits_93 rfl ?_
        refine mm_isubN d_G_waits_94 (by omega) ?_
        refine mm_i2lN d_G_waits_95 (by first | omega | exact ite01_lt | exact bt8_lt31 _ _ | exact godB_lt31 _ _ _ | exact pop_lt31 _ | assumption | exact b31 (hW.gp (by omega)) | exact b31 (hW.ne (by omega)) | exact b31 (hW.op (by omega)) | exact and31 (hW.gp (by omega)) | exact and31 (hW.ne (by omega)) | exact and31 (hW.op (by omega)) | exact and31 (by assumption) | exact and31r (hW.ne (by omega)) | exact and31r (hW.gp (by omega)) | exact and31r (by decide)) ?_
        refine mm_iload d_G_waits_96 rfl ?_
        refine mm_if_eqN d_G_waits_98 (by first | omega | exact ite01_lt | exact bt8_lt31 _ _ | exact godB_lt31 _ _ _ | exact pop_lt31 _ | assumption | exact b31 (hW.gp (by omega)) | exact b31 (hW.ne (by omega)) | exact b31 (hW.op (by omega)) | exact and31 (hW.gp (by omega)) | exact and31 (hW.ne (by omega)) | exact and31 (hW.op (by omega)) | exact and31 (by assumption) | exact and31r (hW.ne (by omega)) | exact and31r (hW.gp (by omega)) | exact and31r (by decide)) (fun c_98 => False.elim (by omega)) (fun c_98 => ?_)
        refine mm_iload d_G_waits_101 rfl ?_
        refine mm_i2lN d_G_waits_102 (by first | omega | exact ite01_lt | exact bt8_lt31 _ _ | exact godB_lt31 _ _ _ | exact pop_lt31 _ | assumption | exact b31 (hW.gp (by omega)) | exact b31 (hW.ne (by omega)) | exact b31 (hW.op (by omega)) | exact and31 (hW.gp (by omega)) | exact and31 (hW.ne (by omega)) | exact and31 (hW.op (by omega)) | exact and31 (by assumption) | exact and31r (hW.ne (by omega)) | exact and31r (hW.gp (by omega)) | exact and31r (by decide)) ?_
        refine mm_lload d_G_waits_103 rfl ?_
        refine mm_lmulN d_G_waits_105 ?_
        refine mm_goto d_G_waits_106 ?_
        refine mm_lmulN d_G_waits_114 ?_
        refine mm_lst7 d_G_waits_115 ?_
        refine mm_lload d_G_waits_117 rfl ?_
        refine mm_lciN 10 d_G_waits_119 rfl ?_
        refine mm_lmulN d_G_waits_122 ?_
        refine mm_lst5 d_G_waits_123 ?_
        refine mm_inc10N d_G_waits_125 ?_
        refine mm_goto d_G_waits_128 ?_
        first
          | (have z := costW_t (p := p) (c := c) (k := t) (by omega); rw [z.1, z.2] at ih; exact ih)
          | (have z := costW_f (p := p) (c := c) (k := t) (by omega); rw [z.1, z.2] at ih; exact ih)
      · refine mm_iload d_G_waits_70 rfl ?_
        refine mm_i2lN d_G_waits_71 (by first | omega | exact ite01_lt | exact bt8_lt31 _ _ | exact godB_lt31 _ _ _ | exact pop_lt31 _ | assumption | exact b31 (hW.gp (by omega)) | exact b31 (hW.ne (by omega)) | exact b31 (hW.op (by omega)) | exact and31 (hW.gp (by omega)) | exact and31 (hW.ne (by omega)) | exact and31 (hW.op (by omega)) | exact and31 (by assumption) | exact and31r (hW.ne (by omega)) | exact and31r (hW.gp (by omega)) | exact and31r (by decide)) ?_
        refine mm_lload d_G_waits_72 rfl ?_
        refine mm_lmulN d_G_waits_74 ?_
        refine mm_lload d_G_waits_75 rfl ?_
        refine mm_lload d_G_waits_77 rfl ?_
        refine mm_laddN d_G_waits_79 ?_
        refine mm_lcmp d_G_waits_80 ?_
        refine mm_lif_gtN d_G_waits_81 (by omega) (by omega) (fun c_81 => ?_) (fun c_81 => ?_)
        · refine mm_ciN 0 d_G_waits_88 rfl ?_
          refine mm_ist9 d_G_waits_89 ?_
          refine mm_ciN 10 d_G_waits_91 rfl ?_
          refine mm_iload d_G_waits_93 rfl ?_
          refine mm_isubN d_G_waits_94 (by omega) ?_
          refine mm_i2lN d_G_waits_95 (by first | omega | exact ite01_lt | exact bt8_lt31 _ _ | exact godB_lt31 _ _ _ | exact pop_lt31 _ | assumption | exact b31 (hW.gp (by omega)) | exact b31 (hW.ne (by omega)) | exact b31 (hW.op (by omega)) | exact and31 (hW.gp (by omega)) | exact and31 (hW.ne (by omega)) | exact and31 (hW.op (by omega)) | exact and31 (by assumption) | exact and31r (hW.ne (by omega)) | exact and31r (hW.gp (by omega)) | exact and31r (by decide)) ?_
          refine mm_iload d_G_waits_96 rfl ?_
          refine mm_if_eqN d_G_waits_98 (by first | omega | exact ite01_lt | exact bt8_lt31 _ _ | exact godB_lt31 _ _ _ | exact pop_lt31 _ | assumption | exact b31 (hW.gp (by omega)) | exact b31 (hW.ne (by omega)) | exact b31 (hW.op (by omega)) | exact and31 (hW.gp (by omega)) | exact and31 (hW.ne (by omega)) | exact and31 (hW.op (by omega)) | exact and31 (by assumption) | exact and31r (hW.ne (by omega)) | exact and31r (hW.gp (by omega)) | exact and31r (by decide)) (fun c_98 => ?_) (fun c_98 => False.elim (by omega))
          refine mm_lload d_G_waits_109 rfl ?_
          refine mm_lload d_G_waits_111 rfl ?_
          refine mm_laddN d_G_waits_113 ?_
          refine mm_lmulN d_G_waits_114 ?_
          refine mm_lst7 d_G_waits_115 ?_
          refine mm_lload d_G_waits_117 rfl ?_
          refine mm_lciN 10 d_G_waits_119 rfl ?_
          refine mm_lmulN d_G_waits_122 ?_
          refine mm_lst5 d_G_waits_123 ?_
          refine mm_inc10N d_G_waits_125 ?_
          refine mm_goto d_G_waits_128 ?_
          first
            | (have z := costW_t (p := p) (c := c) (k := t) (by omega); rw [z.1, z.2] at ih; exact ih)
            | (have z := costW_f (p := p) (c := c) (k := t) (by omega); rw [z.1, z.2] at ih; exact ih)
        · refine mm_ciN 1 d_G_waits_84 rfl ?_
          refine mm_goto d_G_waits_85 ?_
          refine mm_ist9 d_G_waits_89 ?_
          refine mm_ciN 10 d_G_waits_91 rfl ?_
          refine mm_iload d_G_waits_93 rfl ?_
          refine mm_isubN d_G_waits_94 (by omega) ?_
          refine mm_i2lN d_G_waits_95 (by first | omega | exact ite01_lt | exact bt8_lt31 _ _ | exact godB_lt31 _ _ _ | exact pop_lt31 _ | assumption | exact b31 (hW.gp (by omega)) | exact b31 (hW.ne (by omega)) | exact b31 (hW.op (by omega)) | exact and31 (hW.gp (by omega)) | exact and31 (hW.ne (by omega)) | exact and31 (hW.op (by omega)) | exact and31 (by assumption) | exact and31r (hW.ne (by omega)) | exact and31r (hW.gp (by omega)) | exact and31r (by decide)) ?_
          refine mm_iload d_G_waits_96 rfl ?_
          refine mm_if_eqN d_G_waits_98 (by first | omega | exact ite01_lt | exact bt8_lt31 _ _ | exact godB_lt31 _ _ _ | exact pop_lt31 _ | assumption | exact b31 (hW.gp (by omega)) | exact b31 (hW.ne (by omega)) | exact b31 (hW.op (by omega)) | exact and31 (hW.gp (by omega)) | exact and31 (hW.ne (by omega)) | exact and31 (hW.op (by omega)) | exact and31 (by assumption) | exact and31r (hW.ne (by omega)) | exact and31r (hW.gp (by omega)) | exact and31r (by decide)) (fun c_98 => False.elim (by omega)) (fun c_98 => ?_)
          refine mm_iload d_G_waits_101 rfl ?_
          refine mm_i2lN d_G_waits_102 (by first | omega | exact ite01_lt | exact bt8_lt31 _ _ | exact godB_lt31 _ _ _ | exact pop_lt31 _ | assumption | exact b31 (hW.gp (by omega)) | exact b31 (hW.ne (by omega)) | exact b31 (hW.op (by omega)) | exact and31 (hW.gp (by omega)) | exact and31 (hW.ne (by omega)) | exact and31 (hW.op (by omega)) | exact and31 (by assumption) | exact and31r (hW.ne (by omega)) | exact and31r (hW.gp (by omega)) | exact and31r (by decide)) ?_
          refine mm_lload d_G_waits_103 rfl ?_
          refine mm_lmulN d_G_waits_105 ?_
          refine mm_goto d_G_waits_106 ?_
          refine mm_lmulN d_G_waits_114 ?_
          refine mm_lst7 d_G_waits_115 ?_
          refine mm_lload d_G_waits_117 rfl ?_
          refine mm_lciN 10 d_G_waits_119 rfl ?_
          refine mm_lmulN d_G_waits_122 ?_
          refine mm_lst5 d_G_waits_123 ?_
          refine mm_inc10N d_G_waits_125 ?_
          refine mm_goto d_G_waits_128 ?_
          first
            | (have z := costW_t (p := p) (c := c) (k := t) (by omega); rw [z.1, z.2] at ih; exact ih)
            | (have z := costW_f (p := p) (c := c) (k := t) (by omega); rw [z.1, z.2] at ih; exact ih)
  · show mm_T X 12 0 0 k_M_waits 0 [some (.ref 71), some (.int (nI p)), some (.int (nI c)), some (.int (nI n)), some (.int (nI w)), none, none, none, none, none, none, none, none] [] μ1 _
    replace hM := hf.2.2.2 hM
    refine mm_aload d_M_waits_0 rfl ?_
    refine mm_ciN 0 d_M_waits_1 rfl ?_
    refine mm_putI d_M_waits_2 rfl (sk_o_71 hM) (Or.inl rfl) ?_
    refine mm_iload d_M_waits_5 rfl ?_
    refine mm_ciN 0 d_M_waits_6 rfl ?_
    refine mm_ciN 10 d_M_waits_7 rfl ?_
    refine mm_s3i d_M_waits_9 (sp_M_inT (by omega) (by omega) (by omega) ?_)
    refine mm_if_eqN d_M_waits_12 (by first | omega | exact ite01_lt | exact bt8_lt31 _ _ | exact godB_lt31 _ _ _ | exact pop_lt31 _ | assumption | exact b31 (hW.gp (by omega)) | exact b31 (hW.ne (by omega)) | exact b31 (hW.op (by omega)) | exact and31 (hW.gp (by omega)) | exact and31 (hW.ne (by omega)) | exact and31 (hW.op (by omega)) | exact and31 (by assumption) | exact and31r (hW.ne (by omega)) | exact and31r (hW.gp (by omega)) | exact and31r (by decide)) (fun c_12 => False.elim (by omega)) (fun c_12 => ?_)
    refine mm_iload d_M_waits_15 rfl ?_
    refine mm_ciN 0 d_M_waits_16 rfl ?_
    refine mm_ciN 20 d_M_waits_17 rfl ?_
    refine mm_s3i d_M_waits_19 (sp_M_inT (by omega) (by omega) (by omega) ?_)
    refine mm_if_eqN d_M_waits_22 (by first | omega | exact ite01_lt | exact bt8_lt31 _ _ | exact godB_lt31 _ _ _ | exact pop_lt31 _ | assumption | exact b31 (hW.gp (by omega)) | exact b31 (hW.ne (by omega)) | exact b31 (hW.op (by omega)) | exact and31 (hW.gp (by omega)) | exact and31 (hW.ne (by omega)) | exact and31 (hW.op (by omega)) | exact and31 (by assumption) | exact and31r (hW.ne (by omega)) | exact and31r (hW.gp (by omega)) | exact and31r (by decide)) (fun c_22 => False.elim (by omega)) (fun c_22 => ?_)
    refine mm_iload d_M_waits_25 rfl ?_
    refine mm_ciN 1 d_M_waits_26 rfl ?_
    refine mm_ciN 9 d_M_waits_27 rfl ?_
    refine mm_s3i d_M_waits_29 (sp_M_inT (by omega) (by omega) (by omega) ?_)
    refine mm_if_eqN d_M_waits_32 (by first | omega | exact ite01_lt | exact bt8_lt31 _ _ | exact godB_lt31 _ _ _ | exact pop_lt31 _ | assumption | exact b31 (hW.gp (by omega)) | exact b31 (hW.ne (by omega)) | exact b31 (hW.op (by omega)) | exact and31 (hW.gp (by omega)) | exact and31 (hW.ne (by omega)) | exact and31 (hW.op (by omega)) | exact and31 (by assumption) | exact and31r (hW.ne (by omega)) | exact and31r (hW.gp (by omega)) | exact and31r (by decide)) (fun c_32 => False.elim (by omega)) (fun c_32 => ?_)
    refine mm_iload d_M_waits_35 rfl ?_
    refine mm_ciN 0 d_M_waits_37 rfl ?_
    refine mm_ciN 2 d_M_waits_38 rfl ?_
    refine mm_s3i d_M_waits_39 (sp_M_inT (by omega) (by omega) (by omega) ?_)
    refine mm_if_neN d_M_waits_42 (by first | omega | exact ite01_lt | exact bt8_lt31 _ _ | exact godB_lt31 _ _ _ | exact pop_lt31 _ | assumption | exact b31 (hW.gp (by omega)) | exact b31 (hW.ne (by omega)) | exact b31 (hW.op (by omega)) | exact and31 (hW.gp (by omega)) | exact and31 (hW.ne (by omega)) | exact and31 (hW.op (by omega)) | exact and31 (by assumption) | exact and31r (hW.ne (by omega)) | exact and31r (hW.gp (by omega)) | exact and31r (by decide)) (fun c_42 => ?_) (fun c_42 => False.elim (by omega))
    refine mm_lciN 10 d_M_waits_49 rfl ?_
    refine mm_iload d_M_waits_52 rfl ?_
    refine mm_i2lN d_M_waits_53 (by first | omega | exact ite01_lt | exact bt8_lt31 _ _ | exact godB_lt31 _ _ _ | exact pop_lt31 _ | assumption | exact b31 (hW.gp (by omega)) | exact b31 (hW.ne (by omega)) | exact b31 (hW.op (by omega)) | exact and31 (hW.gp (by omega)) | exact and31 (hW.ne (by omega)) | exact and31 (hW.op (by omega)) | exact and31 (by assumption) | exact and31r (hW.ne (by omega)) | exact and31r (hW.gp (by omega)) | exact and31r (by decide)) ?_
    refine mm_lsubN d_M_waits_54 (by omega) ?_
    refine mm_iload d_M_waits_55 rfl ?_
    refine mm_i2lN d_M_waits_56 (by first | omega | exact ite01_lt | exact bt8_lt31 _ _ | exact godB_lt31 _ _ _ | exact pop_lt31 _ | assumption | exact b31 (hW.gp (by omega)) | exact b31 (hW.ne (by omega)) | exact b31 (hW.op (by omega)) | exact and31 (hW.gp (by omega)) | exact and31 (hW.ne (by omega)) | exact and31 (hW.op (by omega)) | exact and31 (by assumption) | exact and31r (hW.ne (by omega)) | exact and31r (hW.gp (by omega)) | exact and31r (by decide)) ?_
    refine mm_lmulN d_M_waits_57 ?_
    refine mm_lst5 d_M_waits_58 ?_
    refine mm_lciN 10 d_M_waits_60 rfl ?_
    refine mm_lst7 d_M_waits_63 ?_
    refine mm_ciN 1 d_M_waits_65 rfl ?_
    refine mm_ist9 d_M_waits_66 ?_
    refine mm_ciN 1 d_M_waits_68 rfl ?_
    refine mm_ist10 d_M_waits_69 ?_
    obtain ⟨m, rfl⟩ : ∃ m, n = m + 1 := ⟨n - 1, by omega⟩
    have hini := costW_t (p := p) (c := c) (k := 0) (Or.inl rfl)
    have main : ∀ l11 : Option Value, mm_T X 12 0 0 k_M_waits 71 [some (.ref 71), some (.int (nI p)), some (.int (nI c)), some (.int (nI (m + 1))), some (.int (nI w)), some (.long (lN (costW p c (0 + 1)))), none, some (.long (lN (10 ^ (0 + 1)))), none, some (.int (nI (asksW p c (0 + 1)))), some (.int (nI (0 + 1))), l11, none] [] (mm_sI μ1 71 0 (nI 0)) (fun v μ' => ∃ r, v = some (.long r) ∧ (r = (if w = 2 then lN (asksW p c (m + 1)) else lN (ltN (if w = 1 then nI 1 else nI 0) (costW p c (m + 1)) (10 ^ (m + 1)))) ∧ Fr scM μ1 μ')) := by
      refine mm_up (P := fun t => ∀ l11 : Option Value, mm_T X _ 0 0 k_M_waits 71 [some (.ref 71), some (.int (nI p)), some (.int (nI c)), some (.int (nI (m + 1))), some (.int (nI w)), some (.long (lN (costW p c (t + 1)))), none, some (.long (lN (10 ^ (t + 1)))), none, some (.int (nI (asksW p c (t + 1)))), some (.int (nI (t + 1))), l11, none] [] _ _) m ?_ (fun t ht ih => ?_)
      · intro l11
        refine mm_iload d_M_waits_71 rfl ?_
        refine mm_iload d_M_waits_73 rfl ?_
        refine mm_icmp_geN d_M_waits_74 (by first | omega | exact ite01_lt | exact bt8_lt31 _ _ | exact godB_lt31 _ _ _ | exact pop_lt31 _ | assumption | exact b31 (hW.gp (by omega)) | exact b31 (hW.ne (by omega)) | exact b31 (hW.op (by omega)) | exact and31 (hW.gp (by omega)) | exact and31 (hW.ne (by omega)) | exact and31 (hW.op (by omega)) | exact and31 (by assumption) | exact and31r (hW.ne (by omega)) | exact and31r (hW.gp (by omega)) | exact and31r (by decide)) (by first | omega | exact ite01_lt | exact bt8_lt31 _ _ | exact godB_lt31 _ _ _ | exact pop_lt31 _ | assumption | exact b31 (hW.gp (by omega)) | exact b31 (hW.ne (by omega)) | exact b31 (hW.op (by omega)) | exact and31 (hW.gp (by omega)) | exact and31 (hW.ne (by omega)) | exact and31 (hW.op (by omega)) | exact and31 (by assumption) | exact and31r (hW.ne (by omega)) | exact and31r (hW.gp (by omega)) | exact and31r (by decide)) (fun c_74 => ?_) (fun c_74 => False.elim (by omega))
        refine mm_iload d_M_waits_140 rfl ?_
        refine mm_ciN 2 d_M_waits_142 rfl ?_
        refine mm_icmp_neN d_M_waits_143 (by first | omega | exact ite01_lt | exact bt8_lt31 _ _ | exact godB_lt31 _ _ _ | exact pop_lt31 _ | assumption | exact b31 (hW.gp (by omega)) | exact b31 (hW.ne (by omega)) | exact b31 (hW.op (by omega)) | exact and31 (hW.gp (by omega)) | exact and31 (hW.ne (by omega)) | exact and31 (hW.op (by omega)) | exact and31 (by assumption) | exact and31r (hW.ne (by omega)) | exact and31r (hW.gp (by omega)) | exact and31r (by decide)) (by first | omega | exact ite01_lt | exact bt8_lt31 _ _ | exact godB_lt31 _ _ _ | exact pop_lt31 _ | assumption | exact b31 (hW.gp (by omega)) | exact b31 (hW.ne (by omega)) | exact b31 (hW.op (by omega)) | exact and31 (hW.gp (by omega)) | exact and31 (hW.ne (by omega)) | exact and31 (hW.op (by omega)) | exact and31 (by assumption) | exact and31r (hW.ne (by omega)) | exact and31r (hW.gp (by omega)) | exact and31r (by decide)) (fun c_143 => ?_) (fun c_143 => ?_)
        · refine mm_lload d_M_waits_159 rfl ?_
          refine mm_lload d_M_waits_161 rfl ?_
          refine mm_iload d_M_waits_163 rfl ?_
          refine mm_ciN 1 d_M_waits_165 rfl ?_
          refine mm_icmp_neN d_M_waits_166 (by first | omega | exact ite01_lt | exact bt8_lt31 _ _ | exact godB_lt31 _ _ _ | exact pop_lt31 _ | assumption | exact b31 (hW.gp (by omega)) | exact b31 (hW.ne (by omega)) | exact b31 (hW.op (by omega)) | exact and31 (hW.gp (by omega)) | exact and31 (hW.ne (by omega)) | exact and31 (hW.op (by omega)) | exact and31 (by assumption) | exact and31r (hW.ne (by omega)) | exact and31r (hW.gp (by omega)) | exact and31r (by decide)) (by first | omega | exact ite01_lt | exact bt8_lt31 _ _ | exact godB_lt31 _ _ _ | exact pop_lt31 _ | assumption | exact b31 (hW.gp (by omega)) | exact b31 (hW.ne (by omega)) | exact b31 (hW.op (by omega)) | exact and31 (hW.gp (by omega)) | exact and31 (hW.ne (by omega)) | exact and31 (hW.op (by omega)) | exact and31 (by assumption) | exact and31r (hW.ne (by omega)) | exact and31r (hW.gp (by omega)) | exact and31r (by decide)) (fun c_166 => ?_) (fun c_166 => ?_)
          · refine mm_ciN 0 d_M_waits_173 rfl ?_
            refine mm_s3j d_M_waits_174 (sp_M_part (by omega) (by omega) (by omega) ?_)
            exact mm_rj d_M_waits_177 ⟨by first | (rw [if_pos c_143]; congr 1; omega) | (rw [if_neg c_143]; first | rw [if_pos c_166] | rw [if_neg c_166]), Fr.rf.sI rfl⟩
          · refine mm_ciN 1 d_M_waits_169 rfl ?_
            refine mm_goto d_M_waits_170 ?_
            refine mm_s3j d_M_waits_174 (sp_M_part (by omega) (by omega) (by omega) ?_)
            exact mm_rj d_M_waits_177 ⟨by first | (rw [if_pos c_143]; congr 1; omega) | (rw [if_neg c_143]; first | rw [if_pos c_166] | rw [if_neg c_166]), Fr.rf.sI rfl⟩
        · refine mm_iload d_M_waits_146 rfl ?_
          refine mm_if_eqN d_M_waits_148 (by first | omega | exact ite01_lt | exact bt8_lt31 _ _ | exact godB_lt31 _ _ _ | exact pop_lt31 _ | assumption | exact b31 (hW.gp (by omega)) | exact b31 (hW.ne (by omega)) | exact b31 (hW.op (by omega)) | exact and31 (hW.gp (by omega)) | exact and31 (hW.ne (by omega)) | exact and31 (hW.op (by omega)) | exact and31 (by assumption) | exact and31r (hW.ne (by omega)) | exact and31r (hW.gp (by omega)) | exact and31r (by decide)) (fun c_148 => ?_) (fun c_148 => ?_)
          · refine mm_lciN 0 d_M_waits_155 rfl ?_
            refine mm_goto d_M_waits_156 ?_
            exact mm_rj d_M_waits_177 ⟨by first | (rw [if_pos c_143]; congr 1; omega) | (rw [if_neg c_143]; first | rw [if_pos c_166] | rw [if_neg c_166]), Fr.rf.sI rfl⟩
          · refine mm_lciN 1 d_M_waits_151 rfl ?_
            refine mm_goto d_M_waits_152 ?_
            exact mm_rj d_M_waits_177 ⟨by first | (rw [if_pos c_143]; congr 1; omega) | (rw [if_neg c_143]; first | rw [if_pos c_166] | rw [if_neg c_166]), Fr.rf.sI rfl⟩
      · intro l11
        have hct := costW_le (p := p) hc (k := t + 1) (by omega)
        have h1t := p10_le (k := t + 1) (by omega)
        have h2t := c10_le hc (k := t + 1) (by omega)
        refine mm_iload d_M_waits_71 rfl ?_
        refine mm_iload d_M_waits_73 rfl ?_
        refine mm_icmp_geN d_M_waits_74 (by first | omega | exact ite01_lt | exact bt8_lt31 _ _ | exact godB_lt31 _ _ _ | exact pop_lt31 _ | assumption | exact b31 (hW.gp (by omega)) | exact b31 (hW.ne (by omega)) | exact b31 (hW.op (by omega)) | exact and31 (hW.gp (by omega)) | exact and31 (hW.ne (by omega)) | exact and31 (hW.op (by omega)) | exact and31 (by assumption) | exact and31r (hW.ne (by omega)) | exact and31r (hW.gp (by omega)) | exact and31r (by decide)) (by first | omega | exact ite01_lt | exact bt8_lt31 _ _ | exact godB_lt31 _ _ _ | exact pop_lt31 _ | assumption | exact b31 (hW.gp (by omega)) | exact b31 (hW.ne (by omega)) | exact b31 (hW.op (by omega)) | exact and31 (hW.gp (by omega)) | exact and31 (hW.ne (by omega)) | exact and31 (hW.op (by omega)) | exact and31 (by assumption) | exact and31r (hW.ne (by omega)) | exact and31r (hW.gp (by omega)) | exact and31r (by decide)) (fun c_74 => False.elim (by omega)) (fun c_74 => ?_)
        refine mm_lload d_M_waits_77 rfl ?_
        refine mm_lload d_M_waits_79 rfl ?_
        refine mm_laddN d_M_waits_81 ?_
        refine mm_lst11 d_M_waits_82 ?_
        refine mm_iload d_M_waits_84 rfl ?_
        refine mm_i2lN d_M_waits_85 (by first | omega | exact ite01_lt | exact bt8_lt31 _ _ | exact godB_lt31 _ _ _ | exact pop_lt31 _ | assumption | exact b31 (hW.gp (by omega)) | exact b31 (hW.ne (by omega)) | exact b31 (hW.op (by omega)) | exact and31 (hW.gp (by omega)) | exact and31 (hW.ne (by omega)) | exact and31 (hW.op (by omega)) | exact and31 (by assumption) | exact and31r (hW.ne (by omega)) | exact and31r (hW.gp (by omega)) | exact and31r (by decide)) ?_
        refine mm_lload d_M_waits_86 rfl ?_
        refine mm_lmulN d_M_waits_88 ?_
        refine mm_lload d_M_waits_89 rfl ?_
        refine mm_lcmp d_M_waits_91 ?_
        refine mm_lif_gtN d_M_waits_92 (by omega) (by omega) (fun c_92 => ?_) (fun c_92 => ?_)
        · refine mm_ciN 0 d_M_waits_99 rfl ?_
          refine mm_ist9 d_M_waits_100 ?_
          refine mm_lciN 10 d_M_waits_102 rfl ?_
          refine mm_iload d_M_waits_105 rfl ?_
          refine mm_i2lN d_M_waits_106 (by first | omega | exact ite01_lt | exact bt8_lt31 _ _ | exact godB_lt31 _ _ _ | exact pop_lt31 _ | assumption | exact b31 (hW.gp (by omega)) | exact b31 (hW.ne (by omega)) | exact b31 (hW.op (by omega)) | exact and31 (hW.gp (by omega)) | exact and31 (hW.ne (by omega)) | exact and31 (hW.op (by omega)) | exact and31 (by assumption) | exact and31r (hW.ne (by omega)) | exact and31r (hW.gp (by omega)) | exact and31r (by decide)) ?_
          refine mm_lsubN d_M_waits_107 (by omega) ?_
          refine mm_iload d_M_waits_108 rfl ?_
          refine mm_if_eqN d_M_waits_110 (by first | omega | exact ite01_lt | exact bt8_lt31 _ _ | exact godB_lt31 _ _ _ | exact pop_lt31 _ | assumption | exact b31 (hW.gp (by omega)) | exact b31 (hW.ne (by omega)) | exact b31 (hW.op (by omega)) | exact and31 (hW.gp (by omega)) | exact and31 (hW.ne (by omega)) | exact and31 (hW.op (by omega)) | exact and31 (by assumption) | exact and31r (hW.ne (by omega)) | exact and31r (hW.gp (by omega)) | exact and31r (by decide)) (fun c_110 => ?_) (fun c_110 => False.elim (by omega))
          refine mm_lload d_M_waits_121 rfl ?_
          refine mm_lmulN d_M_waits_123 ?_
          refine mm_lst5 d_M_waits_124 ?_
          refine mm_lload d_M_waits_126 rfl ?_
          refine mm_lciN 10 d_M_waits_128 rfl ?_
          refine mm_lmulN d_M_waits_131 ?_
          refine mm_lst7 d_M_waits_132 ?_
          refine mm_inc10N d_M_waits_134 ?_
          refine mm_goto d_M_waits_137 ?_
          first
            | (have z := costW_t (p := p) (c := c) (k := t + 1) (by omega); rw [z.1, z.2] at ih; exact ih _)
            | (have z := costW_f (p := p) (c := c) (k := t + 1) (by omega); rw [z.1, z.2] at ih; exact ih _)
        · refine mm_ciN 1 d_M_waits_95 rfl ?_
          refine mm_goto d_M_waits_96 ?_
          refine mm_ist9 d_M_waits_100 ?_
          refine mm_lciN 10 d_M_waits_102 rfl ?_
          refine mm_iload d_M_waits_105 rfl ?_
          refine mm_i2lN d_M_waits_106 (by first | omega | exact ite01_lt | exact bt8_lt31 _ _ | exact godB_lt31 _ _ _ | exact pop_lt31 _ | assumption | exact b31 (hW.gp (by omega)) | exact b31 (hW.ne (by omega)) | exact b31 (hW.op (by omega)) | exact and31 (hW.gp (by omega)) | exact and31 (hW.ne (by omega)) | exact and31 (hW.op (by omega)) | exact and31 (by assumption) | exact and31r (hW.ne (by omega)) | exact and31r (hW.gp (by omega)) | exact and31r (by decide)) ?_
          refine mm_lsubN d_M_waits_107 (by omega) ?_
          refine mm_iload d_M_waits_108 rfl ?_
          refine mm_if_eqN d_M_waits_110 (by first | omega | exact ite01_lt | exact bt8_lt31 _ _ | exact godB_lt31 _ _ _ | exact pop_lt31 _ | assumption | exact b31 (hW.gp (by omega)) | exact b31 (hW.ne (by omega)) | exact b31 (hW.op (by omega)) | exact and31 (hW.gp (by omega)) | exact and31 (hW.ne (by omega)) | exact and31 (hW.op (by omega)) | exact and31 (by assumption) | exact and31r (hW.ne (by omega)) | exact and31r (hW.gp (by omega)) | exact and31r (by decide)) (fun c_110 => False.elim (by omega)) (fun c_110 => ?_)
          refine mm_iload d_M_waits_113 rfl ?_
          refine mm_i2lN d_M_waits_114 (by first | omega | exact ite01_lt | exact bt8_lt31 _ _ | exact godB_lt31 _ _ _ | exact pop_lt31 _ | assumption | exact b31 (hW.gp (by omega)) | exact b31 (hW.ne (by omega)) | exact b31 (hW.op (by omega)) | exact and31 (hW.gp (by omega)) | exact and31 (hW.ne (by omega)) | exact and31 (hW.op (by omega)) | exact and31 (by assumption) | exact and31r (hW.ne (by omega)) | exact and31r (hW.gp (by omega)) | exact and31r (by decide)) ?_
          refine mm_lload d_M_waits_115 rfl ?_
          refine mm_lmulN d_M_waits_117 ?_
          refine mm_goto d_M_waits_118 ?_
          refine mm_lmulN d_M_waits_123 ?_
          refine mm_lst5 d_M_waits_124 ?_
          refine mm_lload d_M_waits_126 rfl ?_
          refine mm_lciN 10 d_M_waits_128 rfl ?_
          refine mm_lmulN d_M_waits_131 ?_
          refine mm_lst7 d_M_waits_132 ?_
          refine mm_inc10N d_M_waits_134 ?_
          refine mm_goto d_M_waits_137 ?_
          first
            | (have z := costW_t (p := p) (c := c) (k := t + 1) (by omega); rw [z.1, z.2] at ih; exact ih _)
            | (have z := costW_f (p := p) (c := c) (k := t + 1) (by omega); rw [z.1, z.2] at ih; exact ih _)
    have z := main none
    rw [hini.1, Nat.pow_zero, Nat.mul_one, hini.2] at z
    exact z
