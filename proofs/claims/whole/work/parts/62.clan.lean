/-! clan: rivals, calm, raft, twins, clans -/
def rivK (D : mm_D) : Nat → Nat
  | 0 => 0
  | w + 1 => rivK D w + pop (dop D w)
theorem rivK_le (D : mm_D) : ∀ k, rivK D k ≤ 8 * k
  | 0 => Nat.le_refl 0
  | k + 1 => by
    have h1 := rivK_le D k
    have h2 := pop_le (dop D k)
    unfold rivK
    omega
theorem sp_Sk_rivals {X : mm_X} {μ : mm_M} {q : Int32 → mm_M → Prop} {a : Nat} {D : mm_D} (hCD : CoD μ a D) (hW : WfD D) (h : q (nI (rivK D 8 / 2)) μ) : mm_Ci X 1 0 0 k_Sk_rivals [.ref a] μ q := by
  show mm_T X 1 0 0 k_Sk_rivals 0 [some (.ref a), none, none] [] μ _
  have hr := rivK_le D 8
  refine mm_ciN 0 d_Sk_rivals_0 rfl ?_
  refine mm_ist1 d_Sk_rivals_1 ?_
  refine mm_ciN 0 d_Sk_rivals_2 rfl ?_
  refine mm_ist2 d_Sk_rivals_3 ?_
  refine mm_up (P := fun i => mm_T X _ 0 0 k_Sk_rivals 4 [some (.ref a), some (.int (nI (rivK D i))), some (.int (nI i))] [] μ _) (8) ?_ (fun i hi ih => ?_)
  · refine mm_iload d_Sk_rivals_4 rfl ?_
    refine mm_ciN 8 d_Sk_rivals_5 rfl ?_
    refine mm_icmp_geN d_Sk_rivals_7 (by first | omega | exact ite01_lt | exact bt8_lt31 _ _ | exact godB_lt31 _ _ _ | exact pop_lt31 _ | assumption | exact b31 (hW.gp (by omega)) | exact b31 (hW.ne (by omega)) | exact b31 (hW.op (by omega)) | exact and31 (hW.gp (by omega)) | exact and31 (hW.ne (by omega)) | exact and31 (hW.op (by omega)) | exact and31 (by assumption) | exact and31r (hW.ne (by omega)) | exact and31r (hW.gp (by omega)) | exact and31r (by decide)) (by first | omega | exact ite01_lt | exact bt8_lt31 _ _ | exact godB_lt31 _ _ _ | exact pop_lt31 _ | assumption | exact b31 (hW.gp (by omega)) | exact b31 (hW.ne (by omega)) | exact b31 (hW.op (by omega)) | exact and31 (hW.gp (by omega)) | exact and31 (hW.ne (by omega)) | exact and31 (hW.op (by omega)) | exact and31 (by assumption) | exact and31r (hW.ne (by omega)) | exact and31r (hW.gp (by omega)) | exact and31r (by decide)) (fun c_7 => ?_) (fun c_7 => False.elim (by omega))
    refine mm_iload d_Sk_rivals_28 rfl ?_
    refine mm_ciN 2 d_Sk_rivals_29 rfl ?_
    refine mm_idivN d_Sk_rivals_30 (by first | omega | exact ite01_lt | exact bt8_lt31 _ _ | exact godB_lt31 _ _ _ | exact pop_lt31 _ | assumption | exact b31 (hW.gp (by omega)) | exact b31 (hW.ne (by omega)) | exact b31 (hW.op (by omega)) | exact and31 (hW.gp (by omega)) | exact and31 (hW.ne (by omega)) | exact and31 (hW.op (by omega)) | exact and31 (by assumption) | exact and31r (hW.ne (by omega)) | exact and31r (hW.gp (by omega)) | exact and31r (by decide)) (by omega) (by omega) ?_
    exact mm_ri d_Sk_rivals_31 h
  · refine mm_iload d_Sk_rivals_4 rfl ?_
    refine mm_ciN 8 d_Sk_rivals_5 rfl ?_
    refine mm_icmp_geN d_Sk_rivals_7 (by first | omega | exact ite01_lt | exact bt8_lt31 _ _ | exact godB_lt31 _ _ _ | exact pop_lt31 _ | assumption | exact b31 (hW.gp (by omega)) | exact b31 (hW.ne (by omega)) | exact b31 (hW.op (by omega)) | exact and31 (hW.gp (by omega)) | exact and31 (hW.ne (by omega)) | exact and31 (hW.op (by omega)) | exact and31 (by assumption) | exact and31r (hW.ne (by omega)) | exact and31r (hW.gp (by omega)) | exact and31r (by decide)) (by first | omega | exact ite01_lt | exact bt8_lt31 _ _ | exact godB_lt31 _ _ _ | exact pop_lt31 _ | assumption | exact b31 (hW.gp (by omega)) | exact b31 (hW.ne (by omega)) | exact b31 (hW.op (by omega)) | exact and31 (hW.gp (by omega)) | exact and31 (hW.ne (by omega)) | exact and31 (hW.op (by omega)) | exact and31 (by assumption) | exact and31r (hW.ne (by omega)) | exact and31r (hW.gp (by omega)) | exact and31r (by decide)) (fun c_7 => False.elim (by omega)) (fun c_7 => ?_)
    refine mm_iload d_Sk_rivals_10 rfl ?_
    refine mm_aload d_Sk_rivals_11 rfl ?_
    refine mm_getP d_Sk_rivals_12 rfl hCD.1.1 (CoS_p2 hCD.1) ?_
    refine mm_iload d_Sk_rivals_15 rfl ?_
    refine mm_ialdN d_Sk_rivals_16 (CoS_a2 hCD.1) (by omega) (by decide) (hCD.f2 (by omega)) ?_
    refine mm_s1i d_Sk_rivals_17 (sp_Int_bitCount (by first | omega | assumption | exact hW.gp (by omega) | exact hW.ne (by omega) | exact hW.op (by omega) | exact and_lt256 (hW.gp (by omega)) | exact and_lt256 (hW.ne (by omega)) | exact and_lt256 (hW.op (by omega)) | exact and_lt256 (by assumption)) ?_)
    refine mm_iaddN d_Sk_rivals_20 ?_
    refine mm_ist1 d_Sk_rivals_21 ?_
    refine mm_inc2N d_Sk_rivals_22 ?_
    refine mm_goto d_Sk_rivals_25 ?_
    exact ih
theorem sp_M_rivals {X : mm_X} {μ : mm_M} {q : Int32 → mm_M → Prop} {k : Nat} {D : mm_D} (hH : Hd μ k D) (h : q (nI (rivK D 8 / 2)) μ) : mm_Ci X 2 0 0 k_M_rivals [.ref 71] μ q := by
  show mm_T X 2 0 0 k_M_rivals 0 [some (.ref 71), none, none] [] μ _
  have hM := hH.1
  have hW := hH.wf
  have hr := rivK_le D 8
  refine mm_ciN 0 d_M_rivals_0 rfl ?_
  refine mm_ist1 d_M_rivals_1 ?_
  refine mm_ciN 0 d_M_rivals_2 rfl ?_
  refine mm_ist2 d_M_rivals_3 ?_
  refine mm_up (P := fun i => mm_T X _ 0 0 k_M_rivals 4 [some (.ref 71), some (.int (nI (rivK D i))), some (.int (nI i))] [] μ _) (8) ?_ (fun i hi ih => ?_)
  · refine mm_iload d_M_rivals_4 rfl ?_
    refine mm_ciN 8 d_M_rivals_5 rfl ?_
    refine mm_icmp_geN d_M_rivals_7 (by first | omega | exact ite01_lt | exact bt8_lt31 _ _ | exact godB_lt31 _ _ _ | exact pop_lt31 _ | assumption | exact b31 (hW.gp (by omega)) | exact b31 (hW.ne (by omega)) | exact b31 (hW.op (by omega)) | exact and31 (hW.gp (by omega)) | exact and31 (hW.ne (by omega)) | exact and31 (hW.op (by omega)) | exact and31 (by assumption) | exact and31r (hW.ne (by omega)) | exact and31r (hW.gp (by omega)) | exact and31r (by decide)) (by first | omega | exact ite01_lt | exact bt8_lt31 _ _ | exact godB_lt31 _ _ _ | exact pop_lt31 _ | assumption | exact b31 (hW.gp (by omega)) | exact b31 (hW.ne (by omega)) | exact b31 (hW.op (by omega)) | exact and31 (hW.gp (by omega)) | exact and31 (hW.ne (by omega)) | exact and31 (hW.op (by omega)) | exact and31 (by assumption) | exact and31r (hW.ne (by omega)) | exact and31r (hW.gp (by omega)) | exact and31r (by decide)) (fun c_7 => ?_) (fun c_7 => False.elim (by omega))
    refine mm_iload d_M_rivals_30 rfl ?_
    refine mm_ciN 2 d_M_rivals_31 rfl ?_
    refine mm_idivN d_M_rivals_32 (by first | omega | exact ite01_lt | exact bt8_lt31 _ _ | exact godB_lt31 _ _ _ | exact pop_lt31 _ | assumption | exact b31 (hW.gp (by omega)) | exact b31 (hW.ne (by omega)) | exact b31 (hW.op (by omega)) | exact and31 (hW.gp (by omega)) | exact and31 (hW.ne (by omega)) | exact and31 (hW.op (by omega)) | exact and31 (by assumption) | exact and31r (hW.ne (by omega)) | exact and31r (hW.gp (by omega)) | exact and31r (by decide)) (by omega) (by omega) ?_
    exact mm_ri d_M_rivals_33 h
  · refine mm_iload d_M_rivals_4 rfl ?_
    refine mm_ciN 8 d_M_rivals_5 rfl ?_
    refine mm_icmp_geN d_M_rivals_7 (by first | omega | exact ite01_lt | exact bt8_lt31 _ _ | exact godB_lt31 _ _ _ | exact pop_lt31 _ | assumption | exact b31 (hW.gp (by omega)) | exact b31 (hW.ne (by omega)) | exact b31 (hW.op (by omega)) | exact and31 (hW.gp (by omega)) | exact and31 (hW.ne (by omega)) | exact and31 (hW.op (by omega)) | exact and31 (by assumption) | exact and31r (hW.ne (by omega)) | exact and31r (hW.gp (by omega)) | exact and31r (by decide)) (by first | omega | exact ite01_lt | exact bt8_lt31 _ _ | exact godB_lt31 _ _ _ | exact pop_lt31 _ | assumption | exact b31 (hW.gp (by omega)) | exact b31 (hW.ne (by omega)) | exact b31 (hW.op (by omega)) | exact and31 (hW.gp (by omega)) | exact and31 (hW.ne (by omega)) | exact and31 (hW.op (by omega)) | exact and31 (by assumption) | exact and31r (hW.ne (by omega)) | exact and31r (hW.gp (by omega)) | exact and31r (by decide)) (fun c_7 => False.elim (by omega)) (fun c_7 => ?_)
    refine mm_iload d_M_rivals_10 rfl ?_
    refine mm_aload d_M_rivals_11 rfl ?_
    refine mm_ciN 18 d_M_rivals_12 rfl ?_
    refine mm_iload d_M_rivals_14 rfl ?_
    refine mm_iaddN d_M_rivals_15 ?_
    refine mm_v1i d_M_rivals_16 (sk_o_71 hM) (sp_M_ofN hH (by omega) (hH.f2 (by omega)) ?_)
    refine mm_s1i d_M_rivals_19 (sp_M_ones (by first | omega | assumption | exact hW.gp (by omega) | exact hW.ne (by omega) | exact hW.op (by omega) | exact and_lt256 (hW.gp (by omega)) | exact and_lt256 (hW.ne (by omega)) | exact and_lt256 (hW.op (by omega)) | exact and_lt256 (by assumption)) ?_)
    refine mm_iaddN d_M_rivals_22 ?_
    refine mm_ist1 d_M_rivals_23 ?_
    refine mm_inc2N d_M_rivals_24 ?_
    refine mm_goto d_M_rivals_27 ?_
    exact ih
def calmW (D : mm_D) (s : Nat) : Nat → Bool
  | 0 => true
  | w + 1 => calmW D s w && decide (bt8 s w = 0 ∨ dop D w &&& s = 0)
theorem calmW_f {D : mm_D} {s i : Nat} (h : calmW D s i = false) : ∀ d, calmW D s (i + d) = false
  | 0 => h
  | d + 1 => by
    show (calmW D s (i + d) && _) = false
    rw [calmW_f h d]
    rfl
def calmI (D : mm_D) (s : Nat) : Nat := if calmW D s 8 = true then 1 else 0
theorem calmI_lt31 (D : mm_D) (s : Nat) : calmI D s < 2 ^ 31 := by unfold calmI; split <;> decide
theorem calmI_0 {D : mm_D} {s i : Nat} (h : calmW D s i = false) (hi : i ≤ 8) : calmI D s = 0 := by
  have := calmW_f h (8 - i)
  rw [show i + (8 - i) = 8 by omega] at this
  unfold calmI
  rw [this]
  rfl
theorem calmW_1 {D : mm_D} {s i : Nat} (h : calmW D s i = true) (h1 : bt8 s i = 0 ∨ dop D i &&& s = 0) : calmW D s (i + 1) = true := by
  show (calmW D s i && decide _) = true
  rw [h]
  simpa using h1
theorem calmW_0 {D : mm_D} {s i : Nat} (h1 : ¬ (bt8 s i = 0 ∨ dop D i &&& s = 0)) : calmW D s (i + 1) = false := by
  show (calmW D s i && decide _) = false
  simp [h1]
theorem sp_Sk_isCalm {X : mm_X} {μ : mm_M} {q : Int32 → mm_M → Prop} {a s : Nat} {D : mm_D} (hCD : CoD μ a D) (hW : WfD D) (hs : s < 256) (h : q (nI (calmI D s)) μ) : mm_Ci X 1 0 0 k_Sk_isCalm [.ref a, .int (nI s)] μ q := by
  show mm_T X 1 0 0 k_Sk_isCalm 0 [some (.ref a), some (.int (nI s)), none] [] μ _
  refine mm_ciN 0 d_Sk_isCalm_0 rfl ?_
  refine mm_ist2 d_Sk_isCalm_1 ?_
  refine mm_up (P := fun i => calmW D s i = true → mm_T X _ 0 0 k_Sk_isCalm 2 [some (.ref a), some (.int (nI s)), some (.int (nI i))] [] μ _) 8 ?_ (fun i hi ih => ?_) rfl
  · intro hk
    rw [show calmI D s = 1 from if_pos hk] at h
    refine mm_iload d_Sk_isCalm_2 rfl ?_
    refine mm_ciN 8 d_Sk_isCalm_3 rfl ?_
    refine mm_icmp_geN d_Sk_isCalm_5 (by first | omega | exact ite01_lt | exact bt8_lt31 _ _ | exact godB_lt31 _ _ _ | exact pop_lt31 _ | assumption | exact b31 (hW.gp (by omega)) | exact b31 (hW.ne (by omega)) | exact b31 (hW.op (by omega)) | exact and31 (hW.gp (by omega)) | exact and31 (hW.ne (by omega)) | exact and31 (hW.op (by omega)) | exact and31 (by assumption) | exact and31r (hW.ne (by omega)) | exact and31r (hW.gp (by omega)) | exact and31r (by decide)) (by first | omega | exact ite01_lt | exact bt8_lt31 _ _ | exact godB_lt31 _ _ _ | exact pop_lt31 _ | assumption | exact b31 (hW.gp (by omega)) | exact b31 (hW.ne (by omega)) | exact b31 (hW.op (by omega)) | exact and31 (hW.gp (by omega)) | exact and31 (hW.ne (by omega)) | exact and31 (hW.op (by omega)) | exact and31 (by assumption) | exact and31r (hW.ne (by omega)) | exact and31r (hW.gp (by omega)) | exact and31r (by decide)) (fun c_5 => ?_) (fun c_5 => False.elim (by omega))
    refine mm_ciN 1 d_Sk_isCalm_35 rfl ?_
    exact mm_rz d_Sk_isCalm_36 h
  · intro hk
    refine mm_iload d_Sk_isCalm_2 rfl ?_
    refine mm_ciN 8 d_Sk_isCalm_3 rfl ?_
    refine mm_icmp_geN d_Sk_isCalm_5 (by first | omega | exact ite01_lt | exact bt8_lt31 _ _ | exact godB_lt31 _ _ _ | exact pop_lt31 _ | assumption | exact b31 (hW.gp (by omega)) | exact b31 (hW.ne (by omega)) | exact b31 (hW.op (by omega)) | exact and31 (hW.gp (by omega)) | exact and31 (hW.ne (by omega)) | exact and31 (hW.op (by omega)) | exact and31 (by assumption) | exact and31r (hW.ne (by omega)) | exact and31r (hW.gp (by omega)) | exact and31r (by decide)) (by first | omega | exact ite01_lt | exact bt8_lt31 _ _ | exact godB_lt31 _ _ _ | exact pop_lt31 _ | assumption | exact b31 (hW.gp (by omega)) | exact b31 (hW.ne (by omega)) | exact b31 (hW.op (by omega)) | exact and31 (hW.gp (by omega)) | exact and31 (hW.ne (by omega)) | exact and31 (hW.op (by omega)) | exact and31 (by assumption) | exact and31r (hW.ne (by omega)) | exact and31r (hW.gp (by omega)) | exact and31r (by decide)) (fun c_5 => False.elim (by omega)) (fun c_5 => ?_)
    refine mm_iload d_Sk_isCalm_8 rfl ?_
    refine mm_iload d_Sk_isCalm_9 rfl ?_
    refine mm_s2i d_Sk_isCalm_10 (sp_has (by first | omega | assumption | exact hW.gp (by omega) | exact hW.ne (by omega) | exact hW.op (by omega) | exact and_lt256 (hW.gp (by omega)) | exact and_lt256 (hW.ne (by omega)) | exact and_lt256 (hW.op (by omega)) | exact and_lt256 (by assumption)) (by omega) ?_)
    refine mm_if_eqN d_Sk_isCalm_13 (by first | omega | exact ite01_lt | exact bt8_lt31 _ _ | exact godB_lt31 _ _ _ | exact pop_lt31 _ | assumption | exact b31 (hW.gp (by omega)) | exact b31 (hW.ne (by omega)) | exact b31 (hW.op (by omega)) | exact and31 (hW.gp (by omega)) | exact and31 (hW.ne (by omega)) | exact and31 (hW.op (by omega)) | exact and31 (by assumption) | exact and31r (hW.ne (by omega)) | exact and31r (hW.gp (by omega)) | exact and31r (by decide)) (fun c_13 => ?_) (fun c_13 => ?_)
    · refine mm_inc2N d_Sk_isCalm_29 ?_
      refine mm_goto d_Sk_isCalm_32 ?_
      first
        | exact ih (calmW_1 hk (Or.inl c_13))
        | exact ih (calmW_1 hk (Or.inr c_24))
    · refine mm_aload d_Sk_isCalm_16 rfl ?_
      refine mm_getP d_Sk_isCalm_17 rfl hCD.1.1 (CoS_p2 hCD.1) ?_
      refine mm_iload d_Sk_isCalm_20 rfl ?_
      refine mm_ialdN d_Sk_isCalm_21 (CoS_a2 hCD.1) (by omega) (by decide) (hCD.f2 (by omega)) ?_
      refine mm_iload d_Sk_isCalm_22 rfl ?_
      refine mm_iandN d_Sk_isCalm_23 ?_
      refine mm_if_eqN d_Sk_isCalm_24 (by first | omega | exact ite01_lt | exact bt8_lt31 _ _ | exact godB_lt31 _ _ _ | exact pop_lt31 _ | assumption | exact b31 (hW.gp (by omega)) | exact b31 (hW.ne (by omega)) | exact b31 (hW.op (by omega)) | exact and31 (hW.gp (by omega)) | exact and31 (hW.ne (by omega)) | exact and31 (hW.op (by omega)) | exact and31 (by assumption) | exact and31r (hW.ne (by omega)) | exact and31r (hW.gp (by omega)) | exact and31r (by decide)) (fun c_24 => ?_) (fun c_24 => ?_)
      · refine mm_inc2N d_Sk_isCalm_29 ?_
        refine mm_goto d_Sk_isCalm_32 ?_
        first
          | exact ih (calmW_1 hk (Or.inl c_13))
          | exact ih (calmW_1 hk (Or.inr c_24))
      · refine mm_ciN 0 d_Sk_isCalm_27 rfl ?_
        exact mm_rz d_Sk_isCalm_28 (by rw [calmI_0 (calmW_0 (D := D) (s := s) (i := i) (by omega)) (by omega)] at h; exact h)
def calmK (D : mm_D) : Nat → Nat
  | 0 => 0
  | s + 1 => if pop (calmK D s) < pop s ∧ calmI D s ≠ 0 then s else calmK D s
theorem calmK_le (D : mm_D) : ∀ k, calmK D k ≤ k
  | 0 => Nat.le_refl 0
  | k + 1 => by
    have := calmK_le D k
    unfold calmK
    split <;> omega
theorem calmK_lt (D : mm_D) : ∀ k, 0 < k → calmK D k < k
  | 0, h => absurd h (Nat.lt_irrefl 0)
  | k + 1, _ => by
    have := calmK_le D k
    unfold calmK
    split <;> omega
theorem sp_Sk_largestCalm {X : mm_X} {μ : mm_M} {q : Int32 → mm_M → Prop} {a : Nat} {D : mm_D} (hCD : CoD μ a D) (hW : WfD D) (h : q (nI (calmK D 256)) μ) : mm_Ci X 2 0 0 k_Sk_largestCalm [.ref a] μ q := by
  show mm_T X 2 0 0 k_Sk_largestCalm 0 [some (.ref a), none, none] [] μ _
  refine mm_ciN 0 d_Sk_largestCalm_0 rfl ?_
  refine mm_ist1 d_Sk_largestCalm_1 ?_
  refine mm_ciN 0 d_Sk_largestCalm_2 rfl ?_
  refine mm_ist2 d_Sk_largestCalm_3 ?_
  refine mm_up (P := fun s => mm_T X _ 0 0 k_Sk_largestCalm 4 [some (.ref a), some (.int (nI (calmK D s))), some (.int (nI s))] [] μ _) 256 ?_ (fun s hs ih => ?_)
  · refine mm_iload d_Sk_largestCalm_4 rfl ?_
    refine mm_ciN 255 d_Sk_largestCalm_5 rfl ?_
    refine mm_icmp_gtN d_Sk_largestCalm_8 (by first | omega | exact ite01_lt | exact bt8_lt31 _ _ | exact godB_lt31 _ _ _ | exact pop_lt31 _ | assumption | exact b31 (hW.gp (by omega)) | exact b31 (hW.ne (by omega)) | exact b31 (hW.op (by omega)) | exact and31 (hW.gp (by omega)) | exact and31 (hW.ne (by omega)) | exact and31 (hW.op (by omega)) | exact and31 (by assumption) | exact and31r (hW.ne (by omega)) | exact and31r (hW.gp (by omega)) | exact and31r (by decide)) (by first | omega | exact ite01_lt | exact bt8_lt31 _ _ | exact godB_lt31 _ _ _ | exact pop_lt31 _ | assumption | exact b31 (hW.gp (by omega)) | exact b31 (hW.ne (by omega)) | exact b31 (hW.op (by omega)) | exact and31 (hW.gp (by omega)) | exact and31 (hW.ne (by omega)) | exact and31 (hW.op (by omega)) | exact and31 (by assumption) | exact and31r (hW.ne (by omega)) | exact and31r (hW.gp (by omega)) | exact and31r (by decide)) (fun c_8 => ?_) (fun c_8 => False.elim (by omega))
    refine mm_iload d_Sk_largestCalm_38 rfl ?_
    exact mm_ri d_Sk_largestCalm_39 h
  · have hle := calmK_le D s
    have hci := calmI_lt31 D s
    refine mm_iload d_Sk_largestCalm_4 rfl ?_
    refine mm_ciN 255 d_Sk_largestCalm_5 rfl ?_
    refine mm_icmp_gtN d_Sk_largestCalm_8 (by first | omega | exact ite01_lt | exact bt8_lt31 _ _ | exact godB_lt31 _ _ _ | exact pop_lt31 _ | assumption | exact b31 (hW.gp (by omega)) | exact b31 (hW.ne (by omega)) | exact b31 (hW.op (by omega)) | exact and31 (hW.gp (by omega)) | exact and31 (hW.ne (by omega)) | exact and31 (hW.op (by omega)) | exact and31 (by assumption) | exact and31r (hW.ne (by omega)) | exact and31r (hW.gp (by omega)) | exact and31r (by decide)) (by first | omega | exact ite01_lt | exact bt8_lt31 _ _ | exact godB_lt31 _ _ _ | exact pop_lt31 _ | assumption | exact b31 (hW.gp (by omega)) | exact b31 (hW.ne (by omega)) | exact b31 (hW.op (by omega)) | exact and31 (hW.gp (by omega)) | exact and31 (hW.ne (by omega)) | exact and31 (hW.op (by omega)) | exact and31 (by assumption) | exact and31r (hW.ne (by omega)) | exact and31r (hW.gp (by omega)) | exact and31r (by decide)) (fun c_8 => False.elim (by omega)) (fun c_8 => ?_)
    refine mm_iload d_Sk_largestCalm_11 rfl ?_
    refine mm_s1i d_Sk_largestCalm_12 (sp_Int_bitCount (by first | omega | assumption | exact hW.gp (by omega) | exact hW.ne (by omega) | exact hW.op (by omega) | exact and_lt256 (hW.gp (by omega)) | exact and_lt256 (hW.ne (by omega)) | exact and_lt256 (hW.op (by omega)) | exact and_lt256 (by assumption)) ?_)
    refine mm_iload d_Sk_largestCalm_15 rfl ?_
    refine mm_s1i d_Sk_largestCalm_16 (sp_Int_bitCount (by first | omega | assumption | exact hW.gp (by omega) | exact hW.ne (by omega) | exact hW.op (by omega) | exact and_lt256 (hW.gp (by omega)) | exact and_lt256 (hW.ne (by omega)) | exact and_lt256 (hW.op (by omega)) | exact and_lt256 (by assumption)) ?_)
    refine mm_icmp_leN d_Sk_largestCalm_19 (by first | omega | exact ite01_lt | exact bt8_lt31 _ _ | exact godB_lt31 _ _ _ | exact pop_lt31 _ | assumption | exact b31 (hW.gp (by omega)) | exact b31 (hW.ne (by omega)) | exact b31 (hW.op (by omega)) | exact and31 (hW.gp (by omega)) | exact and31 (hW.ne (by omega)) | exact and31 (hW.op (by omega)) | exact and31 (by assumption) | exact and31r (hW.ne (by omega)) | exact and31r (hW.gp (by omega)) | exact and31r (by decide)) (by first | omega | exact ite01_lt | exact bt8_lt31 _ _ | exact godB_lt31 _ _ _ | exact pop_lt31 _ | assumption | exact b31 (hW.gp (by omega)) | exact b31 (hW.ne (by omega)) | exact b31 (hW.op (by omega)) | exact and31 (hW.gp (by omega)) | exact and31 (hW.ne (by omega)) | exact and31 (hW.op (by omega)) | exact and31 (by assumption) | exact and31r (hW.ne (by omega)) | exact and31r (hW.gp (by omega)) | exact and31r (by decide)) (fun c_19 => ?_) (fun c_19 => ?_)
    · refine mm_inc2N d_Sk_largestCalm_32 ?_
      refine mm_goto d_Sk_largestCalm_35 ?_
      first
        | (rw [show calmK D (s + 1) = s from if_pos ⟨c_19, c_27⟩] at ih; exact ih)
        | (rw [show calmK D (s + 1) = calmK D s from if_neg (by omega)] at ih; exact ih)
    · refine mm_aload d_Sk_largestCalm_22 rfl ?_
      refine mm_iload d_Sk_largestCalm_23 rfl ?_
      refine mm_s2i d_Sk_largestCalm_24 (sp_Sk_isCalm hCD hW (by omega) ?_)
      refine mm_if_eqN d_Sk_largestCalm_27 (by first | omega | exact ite01_lt | exact bt8_lt31 _ _ | exact godB_lt31 _ _ _ | exact pop_lt31 _ | assumption | exact b31 (hW.gp (by omega)) | exact b31 (hW.ne (by omega)) | exact b31 (hW.op (by omega)) | exact and31 (hW.gp (by omega)) | exact and31 (hW.ne (by omega)) | exact and31 (hW.op (by omega)) | exact and31 (by assumption) | exact and31r (hW.ne (by omega)) | exact and31r (hW.gp (by omega)) | exact and31r (by decide)) (fun c_27 => ?_) (fun c_27 => ?_)
      · refine mm_inc2N d_Sk_largestCalm_32 ?_
        refine mm_goto d_Sk_largestCalm_35 ?_
        first
          | (rw [show calmK D (s + 1) = s from if_pos ⟨c_19, c_27⟩] at ih; exact ih)
          | (rw [show calmK D (s + 1) = calmK D s from if_neg (by omega)] at ih; exact ih)
      · refine mm_iload d_Sk_largestCalm_30 rfl ?_
        refine mm_ist1 d_Sk_largestCalm_31 ?_
        refine mm_inc2N d_Sk_largestCalm_32 ?_
        refine mm_goto d_Sk_largestCalm_35 ?_
        first
          | (rw [show calmK D (s + 1) = s from if_pos ⟨c_19, c_27⟩] at ih; exact ih)
          | (rw [show calmK D (s + 1) = calmK D s from if_neg (by omega)] at ih; exact ih)
theorem sp_M_calm {X : mm_X} {μ : mm_M} {q : Int32 → mm_M → Prop} {k : Nat} {D : mm_D} (hH : Hd μ k D) (h : q (nI (calmK D 256)) μ) : mm_Ci X 2 0 0 k_M_calm [.ref 71] μ q := by
  show mm_T X 2 0 0 k_M_calm 0 [some (.ref 71), none, none, none, none] [] μ _
  have hM := hH.1
  have hW := hH.wf
  refine mm_ciN 0 d_M_calm_0 rfl ?_
  refine mm_ist1 d_M_calm_1 ?_
  refine mm_ciN 0 d_M_calm_2 rfl ?_
  refine mm_ist2 d_M_calm_3 ?_
  refine mm_up (P := fun s => ∀ l3 l4 : Option Value, mm_T X _ 0 0 k_M_calm 4 [some (.ref 71), some (.int (nI (calmK D s))), some (.int (nI s)), l3, l4] [] μ _) 256 ?_ (fun s hs ih => ?_) none none
  · intro l3 l4
    refine mm_iload d_M_calm_4 rfl ?_
    refine mm_ciN 256 d_M_calm_5 rfl ?_
    refine mm_icmp_geN d_M_calm_8 (by first | omega | exact ite01_lt | exact bt8_lt31 _ _ | exact godB_lt31 _ _ _ | exact pop_lt31 _ | assumption | exact b31 (hW.gp (by omega)) | exact b31 (hW.ne (by omega)) | exact b31 (hW.op (by omega)) | exact and31 (hW.gp (by omega)) | exact and31 (hW.ne (by omega)) | exact and31 (hW.op (by omega)) | exact and31 (by assumption) | exact and31r (hW.ne (by omega)) | exact and31r (hW.gp (by omega)) | exact and31r (by decide)) (by first | omega | exact ite01_lt | exact bt8_lt31 _ _ | exact godB_lt31 _ _ _ | exact pop_lt31 _ | assumption | exact b31 (hW.gp (by omega)) | exact b31 (hW.ne (by omega)) | exact b31 (hW.op (by omega)) | exact and31 (hW.gp (by omega)) | exact and31 (hW.ne (by omega)) | exact and31 (hW.op (by omega)) | exact and31 (by assumption) | exact and31r (hW.ne (by omega)) | exact and31r (hW.gp (by omega)) | exact and31r (by decide)) (fun c_8 => ?_) (fun c_8 => False.elim (by omega))
    refine mm_iload d_M_calm_93 rfl ?_
    exact mm_ri d_M_calm_94 h
  · intro l3 l4
    have hle := calmK_le D s
    have hci := calmI_lt31 D s
    have fin : ∀ (b : Nat) (l4 : Option Value), b = (if pop (calmK D s) < pop s ∧ calmI D s ≠ 0 then 1 else 0) → mm_T X 2 0 0 k_M_calm 77 [some (.ref 71), some (.int (nI (calmK D s))), some (.int (nI s)), some (.int (nI b)), l4] [] μ (fun v μ' => ∃ r, v = some (.int r) ∧ q r μ') := by
      intro b l4 hb
      by_cases hc : pop (calmK D s) < pop s ∧ calmI D s ≠ 0
      · rw [if_pos hc] at hb
        subst hb
        refine mm_iload d_M_calm_77 rfl ?_
        refine mm_if_eqN d_M_calm_78 (by first | omega | exact ite01_lt | exact bt8_lt31 _ _ | exact godB_lt31 _ _ _ | exact pop_lt31 _ | assumption | exact b31 (hW.gp (by omega)) | exact b31 (hW.ne (by omega)) | exact b31 (hW.op (by omega)) | exact and31 (hW.gp (by omega)) | exact and31 (hW.ne (by omega)) | exact and31 (hW.op (by omega)) | exact and31 (by assumption) | exact and31r (hW.ne (by omega)) | exact and31r (hW.gp (by omega)) | exact and31r (by decide)) (fun c_78 => False.elim (by omega)) (fun c_78 => ?_)
        refine mm_iload d_M_calm_81 rfl ?_
        refine mm_goto d_M_calm_82 ?_
        refine mm_ist1 d_M_calm_86 ?_
        refine mm_inc2N d_M_calm_87 ?_
        refine mm_goto d_M_calm_90 ?_
        rw [show calmK D (s + 1) = s from if_pos hc] at ih
        exact ih _ _
      · rw [if_neg hc] at hb
        subst hb
        refine mm_iload d_M_calm_77 rfl ?_
        refine mm_if_eqN d_M_calm_78 (by first | omega | exact ite01_lt | exact bt8_lt31 _ _ | exact godB_lt31 _ _ _ | exact pop_lt31 _ | assumption | exact b31 (hW.gp (by omega)) | exact b31 (hW.ne (by omega)) | exact b31 (hW.op (by omega)) | exact and31 (hW.gp (by omega)) | exact and31 (hW.ne (by omega)) | exact and31 (hW.op (by omega)) | exact and31 (by assumption) | exact and31r (hW.ne (by omega)) | exact and31r (hW.gp (by omega)) | exact and31r (by decide)) (fun c_78 => ?_) (fun c_78 => False.elim (by omega))
        refine mm_iload d_M_calm_85 rfl ?_
        refine mm_ist1 d_M_calm_86 ?_
        refine mm_inc2N d_M_calm_87 ?_
        refine mm_goto d_M_calm_90 ?_
        rw [show calmK D (s + 1) = calmK D s from if_neg hc] at ih
        exact ih _ _
    have ex0 : ∀ (j : Nat), j ≤ 8 → ¬ (pop (calmK D s) < pop s ∧ calmI D s ≠ 0) → mm_T X 2 0 0 k_M_calm 31 [some (.ref 71), some (.int (nI (calmK D s))), some (.int (nI s)), some (.int (nI 0)), some (.int (nI j))] [] μ (fun v μ' => ∃ r, v = some (.int r) ∧ q r μ') := by
      intro j hj hc
      refine mm_iload d_M_calm_31 rfl ?_
      refine mm_ciN 8 d_M_calm_33 rfl ?_
      refine mm_icmp_geN d_M_calm_35 (by first | omega | exact ite01_lt | exact bt8_lt31 _ _ | exact godB_lt31 _ _ _ | exact pop_lt31 _ | assumption | exact b31 (hW.gp (by omega)) | exact b31 (hW.ne (by omega)) | exact b31 (hW.op (by omega)) | exact and31 (hW.gp (by omega)) | exact and31 (hW.ne (by omega)) | exact and31 (hW.op (by omega)) | exact and31 (by assumption) | exact and31r (hW.ne (by omega)) | exact and31r (hW.gp (by omega)) | exact and31r (by decide)) (by first | omega | exact ite01_lt | exact bt8_lt31 _ _ | exact godB_lt31 _ _ _ | exact pop_lt31 _ | assumption | exact b31 (hW.gp (by omega)) | exact b31 (hW.ne (by omega)) | exact b31 (hW.op (by omega)) | exact and31 (hW.gp (by omega)) | exact and31 (hW.ne (by omega)) | exact and31 (hW.op (by omega)) | exact and31 (by assumption) | exact and31r (hW.ne (by omega)) | exact and31r (hW.gp (by omega)) | exact and31r (by decide)) (fun c_35 => ?_) (fun c_35 => ?_)
      · exact fin 0 _ (by rw [if_neg hc])
      · refine mm_iload d_M_calm_38 rfl ?_
        refine mm_if_eqN d_M_calm_39 (by first | omega | exact ite01_lt | exact bt8_lt31 _ _ | exact godB_lt31 _ _ _ | exact pop_lt31 _ | assumption | exact b31 (hW.gp (by omega)) | exact b31 (hW.ne (by omega)) | exact b31 (hW.op (by omega)) | exact and31 (hW.gp (by omega)) | exact and31 (hW.ne (by omega)) | exact and31 (hW.op (by omega)) | exact and31 (by assumption) | exact and31r (hW.ne (by omega)) | exact and31r (hW.gp (by omega)) | exact and31r (by decide)) (fun c_39 => ?_) (fun c_39 => False.elim (by omega))
        exact fin 0 _ (by rw [if_neg hc])
    have inn : pop (calmK D s) < pop s → mm_T X 2 0 0 k_M_calm 31 [some (.ref 71), some (.int (nI (calmK D s))), some (.int (nI s)), some (.int (nI 1)), some (.int (nI 0))] [] μ (fun v μ' => ∃ r, v = some (.int r) ∧ q r μ') := by
      intro hp
      refine mm_up (P := fun i => calmW D s i = true → mm_T X _ 0 0 k_M_calm 31 [some (.ref 71), some (.int (nI (calmK D s))), some (.int (nI s)), some (.int (nI 1)), some (.int (nI i))] [] μ _) 8 ?_ (fun i hi ih2 => ?_) rfl
      · intro hk
        refine mm_iload d_M_calm_31 rfl ?_
        refine mm_ciN 8 d_M_calm_33 rfl ?_
        refine mm_icmp_geN d_M_calm_35 (by first | omega | exact ite01_lt | exact bt8_lt31 _ _ | exact godB_lt31 _ _ _ | exact pop_lt31 _ | assumption | exact b31 (hW.gp (by omega)) | exact b31 (hW.ne (by omega)) | exact b31 (hW.op (by omega)) | exact and31 (hW.gp (by omega)) | exact and31 (hW.ne (by omega)) | exact and31 (hW.op (by omega)) | exact and31 (by assumption) | exact and31r (hW.ne (by omega)) | exact and31r (hW.gp (by omega)) | exact and31r (by decide)) (by first | omega | exact ite01_lt | exact bt8_lt31 _ _ | exact godB_lt31 _ _ _ | exact pop_lt31 _ | assumption | exact b31 (hW.gp (by omega)) | exact b31 (hW.ne (by omega)) | exact b31 (hW.op (by omega)) | exact and31 (hW.gp (by omega)) | exact and31 (hW.ne (by omega)) | exact and31 (hW.op (by omega)) | exact and31 (by assumption) | exact and31r (hW.ne (by omega)) | exact and31r (hW.gp (by omega)) | exact and31r (by decide)) (fun c_35 => ?_) (fun c_35 => False.elim (by omega))
        exact fin 1 _ (by rw [if_pos ⟨hp, by rw [show calmI D s = 1 from if_pos hk]; decide⟩])
      · intro hk
        refine mm_iload d_M_calm_31 rfl ?_
        refine mm_ciN 8 d_M_calm_33 rfl ?_
        refine mm_icmp_geN d_M_calm_35 (by first | omega | exact ite01_lt | exact bt8_lt31 _ _ | exact godB_lt31 _ _ _ | exact pop_lt31 _ | assumption | exact b31 (hW.gp (by omega)) | exact b31 (hW.ne (by omega)) | exact b31 (hW.op (by omega)) | exact and31 (hW.gp (by omega)) | exact and31 (hW.ne (by omega)) | exact and31 (hW.op (by omega)) | exact and31 (by assumption) | exact and31r (hW.ne (by omega)) | exact and31r (hW.gp (by omega)) | exact and31r (by decide)) (by first | omega | exact ite01_lt | exact bt8_lt31 _ _ | exact godB_lt31 _ _ _ | exact pop_lt31 _ | assumption | exact b31 (hW.gp (by omega)) | exact b31 (hW.ne (by omega)) | exact b31 (hW.op (by omega)) | exact and31 (hW.gp (by omega)) | exact and31 (hW.ne (by omega)) | exact and31 (hW.op (by omega)) | exact and31 (by assumption) | exact and31r (hW.ne (by omega)) | exact and31r (hW.gp (by omega)) | exact and31r (by decide)) (fun c_35 => False.elim (by omega)) (fun c_35 => ?_)
        refine mm_iload d_M_calm_38 rfl ?_
        refine mm_if_eqN d_M_calm_39 (by first | omega | exact ite01_lt | exact bt8_lt31 _ _ | exact godB_lt31 _ _ _ | exact pop_lt31 _ | assumption | exact b31 (hW.gp (by omega)) | exact b31 (hW.ne (by omega)) | exact b31 (hW.op (by omega)) | exact and31 (hW.gp (by omega)) | exact and31 (hW.ne (by omega)) | exact and31 (hW.op (by omega)) | exact and31 (by assumption) | exact and31r (hW.ne (by omega)) | exact and31r (hW.gp (by omega)) | exact and31r (by decide)) (fun c_39 => False.elim (by omega)) (fun c_39 => ?_)
        refine mm_iload d_M_calm_42 rfl ?_
        refine mm_iload d_M_calm_43 rfl ?_
        refine mm_s2i d_M_calm_45 (sp_M_has (by first | omega | assumption | exact hW.gp (by omega) | exact hW.ne (by omega) | exact hW.op (by omega) | exact and_lt256 (hW.gp (by omega)) | exact and_lt256 (hW.ne (by omega)) | exact and_lt256 (hW.op (by omega)) | exact and_lt256 (by assumption)) (by omega) ?_)
        refine mm_if_eqN d_M_calm_48 (by first | omega | exact ite01_lt | exact bt8_lt31 _ _ | exact godB_lt31 _ _ _ | exact pop_lt31 _ | assumption | exact b31 (hW.gp (by omega)) | exact b31 (hW.ne (by omega)) | exact b31 (hW.op (by omega)) | exact and31 (hW.gp (by omega)) | exact and31 (hW.ne (by omega)) | exact and31 (hW.op (by omega)) | exact and31 (by assumption) | exact and31r (hW.ne (by omega)) | exact and31r (hW.gp (by omega)) | exact and31r (by decide)) (fun c_48 => ?_) (fun c_48 => ?_)
        · refine mm_ciN 1 d_M_calm_65 rfl ?_
          refine mm_goto d_M_calm_66 ?_
          refine mm_ist3 d_M_calm_70 ?_
          refine mm_inc4N d_M_calm_71 ?_
          refine mm_goto d_M_calm_74 ?_
          first
            | exact ih2 (calmW_1 hk (Or.inl c_48))
            | exact ih2 (calmW_1 hk (Or.inr c_62))
            | exact ex0 _ (by omega) (fun z => z.2 (calmI_0 (calmW_0 (D := D) (s := s) (i := i) (by omega)) (by omega)))
        · refine mm_aload d_M_calm_51 rfl ?_
          refine mm_ciN 18 d_M_calm_52 rfl ?_
          refine mm_iload d_M_calm_54 rfl ?_
          refine mm_iaddN d_M_calm_56 ?_
          refine mm_v1i d_M_calm_57 (sk_o_71 hM) (sp_M_ofN hH (by omega) (hH.f2 (by omega)) ?_)
          refine mm_iload d_M_calm_60 rfl ?_
          refine mm_iandN d_M_calm_61 ?_
          refine mm_if_neN d_M_calm_62 (by first | omega | exact ite01_lt | exact bt8_lt31 _ _ | exact godB_lt31 _ _ _ | exact pop_lt31 _ | assumption | exact b31 (hW.gp (by omega)) | exact b31 (hW.ne (by omega)) | exact b31 (hW.op (by omega)) | exact and31 (hW.gp (by omega)) | exact and31 (hW.ne (by omega)) | exact and31 (hW.op (by omega)) | exact and31 (by assumption) | exact and31r (hW.ne (by omega)) | exact and31r (hW.gp (by omega)) | exact and31r (by decide)) (fun c_62 => ?_) (fun c_62 => ?_)
          · refine mm_ciN 0 d_M_calm_69 rfl ?_
            refine mm_ist3 d_M_calm_70 ?_
            refine mm_inc4N d_M_calm_71 ?_
            refine mm_goto d_M_calm_74 ?_
            first
              | exact ih2 (calmW_1 hk (Or.inl c_48))
              | exact ih2 (calmW_1 hk (Or.inr c_62))
              | exact ex0 _ (by omega) (fun z => z.2 (calmI_0 (calmW_0 (D := D) (s := s) (i := i) (by omega)) (by omega)))
          · refine mm_ciN 1 d_M_calm_65 rfl ?_
            refine mm_goto d_M_calm_66 ?_
            refine mm_ist3 d_M_calm_70 ?_
            refine mm_inc4N d_M_calm_71 ?_
            refine mm_goto d_M_calm_74 ?_
            first
              | exact ih2 (calmW_1 hk (Or.inl c_48))
              | exact ih2 (calmW_1 hk (Or.inr c_62))
              | exact ex0 _ (by omega) (fun z => z.2 (calmI_0 (calmW_0 (D := D) (s := s) (i := i) (by omega)) (by omega)))
    refine mm_iload d_M_calm_4 rfl ?_
    refine mm_ciN 256 d_M_calm_5 rfl ?_
    refine mm_icmp_geN d_M_calm_8 (by first | omega | exact ite01_lt | exact bt8_lt31 _ _ | exact godB_lt31 _ _ _ | exact pop_lt31 _ | assumption | exact b31 (hW.gp (by omega)) | exact b31 (hW.ne (by omega)) | exact b31 (hW.op (by omega)) | exact and31 (hW.gp (by omega)) | exact and31 (hW.ne (by omega)) | exact and31 (hW.op (by omega)) | exact and31 (by assumption) | exact and31r (hW.ne (by omega)) | exact and31r (hW.gp (by omega)) | exact and31r (by decide)) (by first | omega | exact ite01_lt | exact bt8_lt31 _ _ | exact godB_lt31 _ _ _ | exact pop_lt31 _ | assumption | exact b31 (hW.gp (by omega)) | exact b31 (hW.ne (by omega)) | exact b31 (hW.op (by omega)) | exact and31 (hW.gp (by omega)) | exact and31 (hW.ne (by omega)) | exact and31 (hW.op (by omega)) | exact and31 (by assumption) | exact and31r (hW.ne (by omega)) | exact and31r (hW.gp (by omega)) | exact and31r (by decide)) (fun c_8 => False.elim (by omega)) (fun c_8 => ?_)
    refine mm_iload d_M_calm_11 rfl ?_
    refine mm_s1i d_M_calm_12 (sp_M_ones (by first | omega | assumption | exact hW.gp (by omega) | exact hW.ne (by omega) | exact hW.op (by omega) | exact and_lt256 (hW.gp (by omega)) | exact and_lt256 (hW.ne (by omega)) | exact and_lt256 (hW.op (by omega)) | exact and_lt256 (by assumption)) ?_)
    refine mm_iload d_M_calm_15 rfl ?_
    refine mm_s1i d_M_calm_16 (sp_M_ones (by first | omega | assumption | exact hW.gp (by omega) | exact hW.ne (by omega) | exact hW.op (by omega) | exact and_lt256 (hW.gp (by omega)) | exact and_lt256 (hW.ne (by omega)) | exact and_lt256 (hW.op (by omega)) | exact and_lt256 (by assumption)) ?_)
    refine mm_icmp_leN d_M_calm_19 (by first | omega | exact ite01_lt | exact bt8_lt31 _ _ | exact godB_lt31 _ _ _ | exact pop_lt31 _ | assumption | exact b31 (hW.gp (by omega)) | exact b31 (hW.ne (by omega)) | exact b31 (hW.op (by omega)) | exact and31 (hW.gp (by omega)) | exact and31 (hW.ne (by omega)) | exact and31 (hW.op (by omega)) | exact and31 (by assumption) | exact and31r (hW.ne (by omega)) | exact and31r (hW.gp (by omega)) | exact and31r (by decide)) (by first | omega | exact ite01_lt | exact bt8_lt31 _ _ | exact godB_lt31 _ _ _ | exact pop_lt31 _ | assumption | exact b31 (hW.gp (by omega)) | exact b31 (hW.ne (by omega)) | exact b31 (hW.op (by omega)) | exact and31 (hW.gp (by omega)) | exact and31 (hW.ne (by omega)) | exact and31 (hW.op (by omega)) | exact and31 (by assumption) | exact and31r (hW.ne (by omega)) | exact and31r (hW.gp (by omega)) | exact and31r (by decide)) (fun c_19 => ?_) (fun c_19 => ?_)
    · refine mm_ciN 0 d_M_calm_26 rfl ?_
      refine mm_ist3 d_M_calm_27 ?_
      refine mm_ciN 0 d_M_calm_28 rfl ?_
      refine mm_ist4 d_M_calm_29 ?_
      first
        | exact inn c_19
        | exact ex0 0 (by decide) (fun z => absurd z.1 (by omega))
    · refine mm_ciN 1 d_M_calm_22 rfl ?_
      refine mm_goto d_M_calm_23 ?_
      refine mm_ist3 d_M_calm_27 ?_
      refine mm_ciN 0 d_M_calm_28 rfl ?_
      refine mm_ist4 d_M_calm_29 ?_
      first
        | exact inn c_19
        | exact ex0 0 (by decide) (fun z => absurd z.1 (by omega))
def raftK (D : mm_D) : Nat → Nat
  | 0 => 0
  | s + 1 => if pop (unionN D s) = 3 * pop s ∧ pop (raftK D s) < pop s then s else raftK D s
theorem raftK_le (D : mm_D) : ∀ k, raftK D k ≤ k
  | 0 => Nat.le_refl 0
  | k + 1 => by
    have := raftK_le D k
    unfold raftK
    split <;> omega
theorem sp_Cr_largestRaft {X : mm_X} {μ : mm_M} {q : Int32 → mm_M → Prop} {a : Nat} {D : mm_D} (hCD : CoD μ a D) (hW : WfD D) (h : q (nI (raftK D (2 ^ dn D))) μ) : mm_Ci X 2 0 0 k_Cr_largestRaft [.ref a] μ q := by
  show mm_T X 2 0 0 k_Cr_largestRaft 0 [some (.ref a), none, none, none, none] [] μ _
  have hal := all_lt hW
  have hal2 := one_le_two_pow (dn D)
  refine mm_ciN 0 d_Cr_largestRaft_0 rfl ?_
  refine mm_ist1 d_Cr_largestRaft_1 ?_
  refine mm_ciN 0 d_Cr_largestRaft_2 rfl ?_
  refine mm_ist2 d_Cr_largestRaft_3 ?_
  refine mm_up (P := fun s => ∀ l3 l4 : Option Value, mm_T X _ 0 0 k_Cr_largestRaft 4 [some (.ref a), some (.int (nI (raftK D s))), some (.int (nI s)), l3, l4] [] μ _) (2 ^ dn D) ?_ (fun s hs ih => ?_) none none
  · intro l3 l4
    refine mm_iload d_Cr_largestRaft_4 rfl ?_
    refine mm_aload d_Cr_largestRaft_5 rfl ?_
    refine mm_v0i d_Cr_largestRaft_6 hCD.1.1 (sp_Co_allChildrenN hCD hW ?_)
    refine mm_icmp_gtN d_Cr_largestRaft_9 (by first | omega | exact ite01_lt | exact bt8_lt31 _ _ | exact godB_lt31 _ _ _ | exact pop_lt31 _ | assumption | exact b31 (hW.gp (by omega)) | exact b31 (hW.ne (by omega)) | exact b31 (hW.op (by omega)) | exact and31 (hW.gp (by omega)) | exact and31 (hW.ne (by omega)) | exact and31 (hW.op (by omega)) | exact and31 (by assumption) | exact and31r (hW.ne (by omega)) | exact and31r (hW.gp (by omega)) | exact and31r (by decide)) (by first | omega | exact ite01_lt | exact bt8_lt31 _ _ | exact godB_lt31 _ _ _ | exact pop_lt31 _ | assumption | exact b31 (hW.gp (by omega)) | exact b31 (hW.ne (by omega)) | exact b31 (hW.op (by omega)) | exact and31 (hW.gp (by omega)) | exact and31 (hW.ne (by omega)) | exact and31 (hW.op (by omega)) | exact and31 (by assumption) | exact and31r (hW.ne (by omega)) | exact and31r (hW.gp (by omega)) | exact and31r (by decide)) (fun c_9 => ?_) (fun c_9 => False.elim (by omega))
    refine mm_iload d_Cr_largestRaft_59 rfl ?_
    exact mm_ri d_Cr_largestRaft_60 h
  · intro l3 l4
    have hle := raftK_le D s
    have hu := unionN_lt hW s
    have hps := pop_le s
    refine mm_iload d_Cr_largestRaft_4 rfl ?_
    refine mm_aload d_Cr_largestRaft_5 rfl ?_
    refine mm_v0i d_Cr_largestRaft_6 hCD.1.1 (sp_Co_allChildrenN hCD hW ?_)
    refine mm_icmp_gtN d_Cr_largestRaft_9 (by first | omega | exact ite01_lt | exact bt8_lt31 _ _ | exact godB_lt31 _ _ _ | exact pop_lt31 _ | assumption | exact b31 (hW.gp (by omega)) | exact b31 (hW.ne (by omega)) | exact b31 (hW.op (by omega)) | exact and31 (hW.gp (by omega)) | exact and31 (hW.ne (by omega)) | exact and31 (hW.op (by omega)) | exact and31 (by assumption) | exact and31r (hW.ne (by omega)) | exact and31r (hW.gp (by omega)) | exact and31r (by decide)) (by first | omega | exact ite01_lt | exact bt8_lt31 _ _ | exact godB_lt31 _ _ _ | exact pop_lt31 _ | assumption | exact b31 (hW.gp (by omega)) | exact b31 (hW.ne (by omega)) | exact b31 (hW.op (by omega)) | exact and31 (hW.gp (by omega)) | exact and31 (hW.ne (by omega)) | exact and31 (hW.op (by omega)) | exact and31 (by assumption) | exact and31r (hW.ne (by omega)) | exact and31r (hW.gp (by omega)) | exact and31r (by decide)) (fun c_9 => False.elim (by omega)) (fun c_9 => ?_)
    refine mm_iload d_Cr_largestRaft_12 rfl ?_
    refine mm_s1i d_Cr_largestRaft_13 (sp_Int_bitCount (by first | omega | assumption | exact hW.gp (by omega) | exact hW.ne (by omega) | exact hW.op (by omega) | exact and_lt256 (hW.gp (by omega)) | exact and_lt256 (hW.ne (by omega)) | exact and_lt256 (hW.op (by omega)) | exact and_lt256 (by assumption)) ?_)
    refine mm_ist3 d_Cr_largestRaft_16 ?_
    refine mm_aload d_Cr_largestRaft_17 rfl ?_
    refine mm_iload d_Cr_largestRaft_18 rfl ?_
    refine mm_s2i d_Cr_largestRaft_19 (sp_Cr_weathersOf hCD hW (by first | omega | assumption | exact hW.gp (by omega) | exact hW.ne (by omega) | exact hW.op (by omega) | exact and_lt256 (hW.gp (by omega)) | exact and_lt256 (hW.ne (by omega)) | exact and_lt256 (hW.op (by omega)) | exact and_lt256 (by assumption)) ?_)
    refine mm_s1i d_Cr_largestRaft_22 (sp_Int_bitCount (by first | omega | assumption | exact hW.gp (by omega) | exact hW.ne (by omega) | exact hW.op (by omega) | exact and_lt256 (hW.gp (by omega)) | exact and_lt256 (hW.ne (by omega)) | exact and_lt256 (hW.op (by omega)) | exact and_lt256 (by assumption)) ?_)
    refine mm_ciN 3 d_Cr_largestRaft_25 rfl ?_
    refine mm_iload d_Cr_largestRaft_26 rfl ?_
    refine mm_imulN d_Cr_largestRaft_27 ?_
    refine mm_icmp_neN d_Cr_largestRaft_28 (by first | omega | exact ite01_lt | exact bt8_lt31 _ _ | exact godB_lt31 _ _ _ | exact pop_lt31 _ | assumption | exact b31 (hW.gp (by omega)) | exact b31 (hW.ne (by omega)) | exact b31 (hW.op (by omega)) | exact and31 (hW.gp (by omega)) | exact and31 (hW.ne (by omega)) | exact and31 (hW.op (by omega)) | exact and31 (by assumption) | exact and31r (hW.ne (by omega)) | exact and31r (hW.gp (by omega)) | exact and31r (by decide)) (by first | omega | exact ite01_lt | exact bt8_lt31 _ _ | exact godB_lt31 _ _ _ | exact pop_lt31 _ | assumption | exact b31 (hW.gp (by omega)) | exact b31 (hW.ne (by omega)) | exact b31 (hW.op (by omega)) | exact and31 (hW.gp (by omega)) | exact and31 (hW.ne (by omega)) | exact and31 (hW.op (by omega)) | exact and31 (by assumption) | exact and31r (hW.ne (by omega)) | exact and31r (hW.gp (by omega)) | exact and31r (by decide)) (fun c_28 => ?_) (fun c_28 => ?_)
    · refine mm_ciN 0 d_Cr_largestRaft_35 rfl ?_
      refine mm_ist4 d_Cr_largestRaft_36 ?_
      refine mm_iload d_Cr_largestRaft_38 rfl ?_
      refine mm_if_eqN d_Cr_largestRaft_40 (by first | omega | exact ite01_lt | exact bt8_lt31 _ _ | exact godB_lt31 _ _ _ | exact pop_lt31 _ | assumption | exact b31 (hW.gp (by omega)) | exact b31 (hW.ne (by omega)) | exact b31 (hW.op (by omega)) | exact and31 (hW.gp (by omega)) | exact and31 (hW.ne (by omega)) | exact and31 (hW.op (by omega)) | exact and31 (by assumption) | exact and31r (hW.ne (by omega)) | exact and31r (hW.gp (by omega)) | exact and31r (by decide)) (fun c_40 => ?_) (fun c_40 => False.elim (by omega))
      refine mm_inc2N d_Cr_largestRaft_53 ?_
      refine mm_goto d_Cr_largestRaft_56 ?_
      first
        | (rw [show raftK D (s + 1) = s from if_pos ⟨c_28, c_48⟩] at ih; exact ih _ _)
        | (rw [show raftK D (s + 1) = raftK D s from if_neg (by omega)] at ih; exact ih _ _)
    · refine mm_ciN 1 d_Cr_largestRaft_31 rfl ?_
      refine mm_goto d_Cr_largestRaft_32 ?_
      refine mm_ist4 d_Cr_largestRaft_36 ?_
      refine mm_iload d_Cr_largestRaft_38 rfl ?_
      refine mm_if_eqN d_Cr_largestRaft_40 (by first | omega | exact ite01_lt | exact bt8_lt31 _ _ | exact godB_lt31 _ _ _ | exact pop_lt31 _ | assumption | exact b31 (hW.gp (by omega)) | exact b31 (hW.ne (by omega)) | exact b31 (hW.op (by omega)) | exact and31 (hW.gp (by omega)) | exact and31 (hW.ne (by omega)) | exact and31 (hW.op (by omega)) | exact and31 (by assumption) | exact and31r (hW.ne (by omega)) | exact and31r (hW.gp (by omega)) | exact and31r (by decide)) (fun c_40 => False.elim (by omega)) (fun c_40 => ?_)
      refine mm_iload d_Cr_largestRaft_43 rfl ?_
      refine mm_iload d_Cr_largestRaft_44 rfl ?_
      refine mm_s1i d_Cr_largestRaft_45 (sp_Int_bitCount (by first | omega | assumption | exact hW.gp (by omega) | exact hW.ne (by omega) | exact hW.op (by omega) | exact and_lt256 (hW.gp (by omega)) | exact and_lt256 (hW.ne (by omega)) | exact and_lt256 (hW.op (by omega)) | exact and_lt256 (by assumption)) ?_)
      refine mm_icmp_leN d_Cr_largestRaft_48 (by first | omega | exact ite01_lt | exact bt8_lt31 _ _ | exact godB_lt31 _ _ _ | exact pop_lt31 _ | assumption | exact b31 (hW.gp (by omega)) | exact b31 (hW.ne (by omega)) | exact b31 (hW.op (by omega)) | exact and31 (hW.gp (by omega)) | exact and31 (hW.ne (by omega)) | exact and31 (hW.op (by omega)) | exact and31 (by assumption) | exact and31r (hW.ne (by omega)) | exact and31r (hW.gp (by omega)) | exact and31r (by decide)) (by first | omega | exact ite01_lt | exact bt8_lt31 _ _ | exact godB_lt31 _ _ _ | exact pop_lt31 _ | assumption | exact b31 (hW.gp (by omega)) | exact b31 (hW.ne (by omega)) | exact b31 (hW.op (by omega)) | exact and31 (hW.gp (by omega)) | exact and31 (hW.ne (by omega)) | exact and31 (hW.op (by omega)) | exact and31 (by assumption) | exact and31r (hW.ne (by omega)) | exact and31r (hW.gp (by omega)) | exact and31r (by decide)) (fun c_48 => ?_) (fun c_48 => ?_)
      · refine mm_inc2N d_Cr_largestRaft_53 ?_
        refine mm_goto d_Cr_largestRaft_56 ?_
        first
          | (rw [show raftK D (s + 1) = s from if_pos ⟨c_28, c_48⟩] at ih; exact ih _ _)
          | (rw [show raftK D (s + 1) = raftK D s from if_neg (by omega)] at ih; exact ih _ _)
      · refine mm_iload d_Cr_largestRaft_51 rfl ?_
        refine mm_ist1 d_Cr_largestRaft_52 ?_
        refine mm_inc2N d_Cr_largestRaft_53 ?_
        refine mm_goto d_Cr_largestRaft_56 ?_
        first
          | (rw [show raftK D (s + 1) = s from if_pos ⟨c_28, c_48⟩] at ih; exact ih _ _)
          | (rw [show raftK D (s + 1) = raftK D s from if_neg (by omega)] at ih; exact ih _ _)
theorem popK_eq : ∀ n, n ≤ 6 → ∀ s, s < 2 ^ n → popK s n = pop s := by decide +kernel
theorem sp_M_raft {X : mm_X} {μ : mm_M} {q : Int32 → mm_M → Prop} {k : Nat} {D : mm_D} (hH : Hd μ k D) (h : q (nI (raftK D (2 ^ dn D))) μ) : mm_Ci X 2 0 0 k_M_raft [.ref 71] μ q := by
  show mm_T X 2 0 0 k_M_raft 0 [some (.ref 71), none, none, none, none, none] [] μ _
  have hM := hH.1
  have hW := hH.wf
  have hn6 := hW.1
  have hal := all_lt hW
  have hal2 := one_le_two_pow (dn D)
  refine mm_ciN 0 d_M_raft_0 rfl ?_
  refine mm_ist1 d_M_raft_1 ?_
  refine mm_ciN 0 d_M_raft_2 rfl ?_
  refine mm_ist2 d_M_raft_3 ?_
  refine mm_up (P := fun s => ∀ l3 l4 l5 : Option Value, mm_T X _ 0 0 k_M_raft 4 [some (.ref 71), some (.int (nI (raftK D s))), some (.int (nI s)), l3, l4, l5] [] μ _) (2 ^ dn D) ?_ (fun s hs ih => ?_) none none none
  · intro l3 l4 l5
    refine mm_iload d_M_raft_4 rfl ?_
    refine mm_ciN 1 d_M_raft_5 rfl ?_
    refine mm_aload d_M_raft_6 rfl ?_
    refine mm_getIN d_M_raft_7 rfl (sk_o_71 hM) hH.n ?_
    refine mm_ishl1N d_M_raft_10 (by omega) ?_
    refine mm_icmp_geN d_M_raft_11 (by first | omega | exact ite01_lt | exact bt8_lt31 _ _ | exact godB_lt31 _ _ _ | exact pop_lt31 _ | assumption | exact b31 (hW.gp (by omega)) | exact b31 (hW.ne (by omega)) | exact b31 (hW.op (by omega)) | exact and31 (hW.gp (by omega)) | exact and31 (hW.ne (by omega)) | exact and31 (hW.op (by omega)) | exact and31 (by assumption) | exact and31r (hW.ne (by omega)) | exact and31r (hW.gp (by omega)) | exact and31r (by decide)) (by first | omega | exact ite01_lt | exact bt8_lt31 _ _ | exact godB_lt31 _ _ _ | exact pop_lt31 _ | assumption | exact b31 (hW.gp (by omega)) | exact b31 (hW.ne (by omega)) | exact b31 (hW.op (by omega)) | exact and31 (hW.gp (by omega)) | exact and31 (hW.ne (by omega)) | exact and31 (hW.op (by omega)) | exact and31 (by assumption) | exact and31r (hW.ne (by omega)) | exact and31r (hW.gp (by omega)) | exact and31r (by decide)) (fun c_11 => ?_) (fun c_11 => False.elim (by omega))
    refine mm_iload d_M_raft_110 rfl ?_
    exact mm_ri d_M_raft_111 h
  · intro l3 l4 l5
    have hle := raftK_le D s
    have hu := unionN_lt hW s
    have hps := pop_le s
    have hpk := popK_eq (dn D) hn6 s hs
    refine mm_iload d_M_raft_4 rfl ?_
    refine mm_ciN 1 d_M_raft_5 rfl ?_
    refine mm_aload d_M_raft_6 rfl ?_
    refine mm_getIN d_M_raft_7 rfl (sk_o_71 hM) hH.n ?_
    refine mm_ishl1N d_M_raft_10 (by omega) ?_
    refine mm_icmp_geN d_M_raft_11 (by first | omega | exact ite01_lt | exact bt8_lt31 _ _ | exact godB_lt31 _ _ _ | exact pop_lt31 _ | assumption | exact b31 (hW.gp (by omega)) | exact b31 (hW.ne (by omega)) | exact b31 (hW.op (by omega)) | exact and31 (hW.gp (by omega)) | exact and31 (hW.ne (by omega)) | exact and31 (hW.op (by omega)) | exact and31 (by assumption) | exact and31r (hW.ne (by omega)) | exact and31r (hW.gp (by omega)) | exact and31r (by decide)) (by first | omega | exact ite01_lt | exact bt8_lt31 _ _ | exact godB_lt31 _ _ _ | exact pop_lt31 _ | assumption | exact b31 (hW.gp (by omega)) | exact b31 (hW.ne (by omega)) | exact b31 (hW.op (by omega)) | exact and31 (hW.gp (by omega)) | exact and31 (hW.ne (by omega)) | exact and31 (hW.op (by omega)) | exact and31 (by assumption) | exact and31r (hW.ne (by omega)) | exact and31r (hW.gp (by omega)) | exact and31r (by decide)) (fun c_11 => False.elim (by omega)) (fun c_11 => ?_)
    refine mm_ciN 0 d_M_raft_14 rfl ?_
    refine mm_ist3 d_M_raft_15 ?_
    refine mm_ciN 0 d_M_raft_16 rfl ?_
    refine mm_ist4 d_M_raft_17 ?_
    refine mm_ciN 0 d_M_raft_19 rfl ?_
    refine mm_ist5 d_M_raft_20 ?_
    refine mm_up (P := fun c => mm_T X _ 0 0 k_M_raft 22 [some (.ref 71), some (.int (nI (raftK D s))), some (.int (nI s)), some (.int (nI (unionK D s c))), some (.int (nI (3 * popK s c))), some (.int (nI c))] [] μ _) (dn D) ?_ (fun c hc ih2 => ?_)
    · rw [hpk, show unionK D s (dn D) = unionN D s from rfl]
      refine mm_iload d_M_raft_22 rfl ?_
      refine mm_aload d_M_raft_24 rfl ?_
      refine mm_getIN d_M_raft_25 rfl (sk_o_71 hM) hH.n ?_
      refine mm_icmp_geN d_M_raft_28 (by first | omega | exact ite01_lt | exact bt8_lt31 _ _ | exact godB_lt31 _ _ _ | exact pop_lt31 _ | assumption | exact b31 (hW.gp (by omega)) | exact b31 (hW.ne (by omega)) | exact b31 (hW.op (by omega)) | exact and31 (hW.gp (by omega)) | exact and31 (hW.ne (by omega)) | exact and31 (hW.op (by omega)) | exact and31 (by assumption) | exact and31r (hW.ne (by omega)) | exact and31r (hW.gp (by omega)) | exact and31r (by decide)) (by first | omega | exact ite01_lt | exact bt8_lt31 _ _ | exact godB_lt31 _ _ _ | exact pop_lt31 _ | assumption | exact b31 (hW.gp (by omega)) | exact b31 (hW.ne (by omega)) | exact b31 (hW.op (by omega)) | exact and31 (hW.gp (by omega)) | exact and31 (hW.ne (by omega)) | exact and31 (hW.op (by omega)) | exact and31 (by assumption) | exact and31r (hW.ne (by omega)) | exact and31r (hW.gp (by omega)) | exact and31r (by decide)) (fun c_28 => ?_) (fun c_28 => False.elim (by omega))
      refine mm_iload d_M_raft_78 rfl ?_
      refine mm_s1i d_M_raft_79 (sp_M_ones (by first | omega | assumption | exact hW.gp (by omega) | exact hW.ne (by omega) | exact hW.op (by omega) | exact and_lt256 (hW.gp (by omega)) | exact and_lt256 (hW.ne (by omega)) | exact and_lt256 (hW.op (by omega)) | exact and_lt256 (by assumption)) ?_)
      refine mm_iload d_M_raft_82 rfl ?_
      refine mm_icmp_neN d_M_raft_84 (by first | omega | exact ite01_lt | exact bt8_lt31 _ _ | exact godB_lt31 _ _ _ | exact pop_lt31 _ | assumption | exact b31 (hW.gp (by omega)) | exact b31 (hW.ne (by omega)) | exact b31 (hW.op (by omega)) | exact and31 (hW.gp (by omega)) | exact and31 (hW.ne (by omega)) | exact and31 (hW.op (by omega)) | exact and31 (by assumption) | exact and31r (hW.ne (by omega)) | exact and31r (hW.gp (by omega)) | exact and31r (by decide)) (by first | omega | exact ite01_lt | exact bt8_lt31 _ _ | exact godB_lt31 _ _ _ | exact pop_lt31 _ | assumption | exact b31 (hW.gp (by omega)) | exact b31 (hW.ne (by omega)) | exact b31 (hW.op (by omega)) | exact and31 (hW.gp (by omega)) | exact and31 (hW.ne (by omega)) | exact and31 (hW.op (by omega)) | exact and31 (by assumption) | exact and31r (hW.ne (by omega)) | exact and31r (hW.gp (by omega)) | exact and31r (by decide)) (fun c_84 => ?_) (fun c_84 => ?_)
      · refine mm_iload d_M_raft_102 rfl ?_
        refine mm_ist1 d_M_raft_103 ?_
        refine mm_inc2N d_M_raft_104 ?_
        refine mm_goto d_M_raft_107 ?_
        first
          | (rw [show raftK D (s + 1) = s from if_pos ⟨c_84, c_95⟩] at ih; exact ih _ _ _)
          | (rw [show raftK D (s + 1) = raftK D s from if_neg (by omega)] at ih; exact ih _ _ _)
      · refine mm_iload d_M_raft_87 rfl ?_
        refine mm_s1i d_M_raft_88 (sp_M_ones (by first | omega | assumption | exact hW.gp (by omega) | exact hW.ne (by omega) | exact hW.op (by omega) | exact and_lt256 (hW.gp (by omega)) | exact and_lt256 (hW.ne (by omega)) | exact and_lt256 (hW.op (by omega)) | exact and_lt256 (by assumption)) ?_)
        refine mm_iload d_M_raft_91 rfl ?_
        refine mm_s1i d_M_raft_92 (sp_M_ones (by first | omega | assumption | exact hW.gp (by omega) | exact hW.ne (by omega) | exact hW.op (by omega) | exact and_lt256 (hW.gp (by omega)) | exact and_lt256 (hW.ne (by omega)) | exact and_lt256 (hW.op (by omega)) | exact and_lt256 (by assumption)) ?_)
        refine mm_icmp_leN d_M_raft_95 (by first | omega | exact ite01_lt | exact bt8_lt31 _ _ | exact godB_lt31 _ _ _ | exact pop_lt31 _ | assumption | exact b31 (hW.gp (by omega)) | exact b31 (hW.ne (by omega)) | exact b31 (hW.op (by omega)) | exact and31 (hW.gp (by omega)) | exact and31 (hW.ne (by omega)) | exact and31 (hW.op (by omega)) | exact and31 (by assumption) | exact and31r (hW.ne (by omega)) | exact and31r (hW.gp (by omega)) | exact and31r (by decide)) (by first | omega | exact ite01_lt | exact bt8_lt31 _ _ | exact godB_lt31 _ _ _ | exact pop_lt31 _ | assumption | exact b31 (hW.gp (by omega)) | exact b31 (hW.ne (by omega)) | exact b31 (hW.op (by omega)) | exact and31 (hW.gp (by omega)) | exact and31 (hW.ne (by omega)) | exact and31 (hW.op (by omega)) | exact and31 (by assumption) | exact and31r (hW.ne (by omega)) | exact and31r (hW.gp (by omega)) | exact and31r (by decide)) (fun c_95 => ?_) (fun c_95 => ?_)
        · refine mm_iload d_M_raft_102 rfl ?_
          refine mm_ist1 d_M_raft_103 ?_
          refine mm_inc2N d_M_raft_104 ?_
          refine mm_goto d_M_raft_107 ?_
          first
            | (rw [show raftK D (s + 1) = s from if_pos ⟨c_84, c_95⟩] at ih; exact ih _ _ _)
            | (rw [show raftK D (s + 1) = raftK D s from if_neg (by omega)] at ih; exact ih _ _ _)
        · refine mm_iload d_M_raft_98 rfl ?_
          refine mm_goto d_M_raft_99 ?_
          refine mm_ist1 d_M_raft_103 ?_
          refine mm_inc2N d_M_raft_104 ?_
          refine mm_goto d_M_raft_107 ?_
          first
            | (rw [show raftK D (s + 1) = s from if_pos ⟨c_84, c_95⟩] at ih; exact ih _ _ _)
            | (rw [show raftK D (s + 1) = raftK D s from if_neg (by omega)] at ih; exact ih _ _ _)
    · have hb := bt8_01 s c
      refine mm_iload d_M_raft_22 rfl ?_
      refine mm_aload d_M_raft_24 rfl ?_
      refine mm_getIN d_M_raft_25 rfl (sk_o_71 hM) hH.n ?_
      refine mm_icmp_geN d_M_raft_28 (by first | omega | exact ite01_lt | exact bt8_lt31 _ _ | exact godB_lt31 _ _ _ | exact pop_lt31 _ | assumption | exact b31 (hW.gp (by omega)) | exact b31 (hW.ne (by omega)) | exact b31 (hW.op (by omega)) | exact and31 (hW.gp (by omega)) | exact and31 (hW.ne (by omega)) | exact and31 (hW.op (by omega)) | exact and31 (by assumption) | exact and31r (hW.ne (by omega)) | exact and31r (hW.gp (by omega)) | exact and31r (by decide)) (by first | omega | exact ite01_lt | exact bt8_lt31 _ _ | exact godB_lt31 _ _ _ | exact pop_lt31 _ | assumption | exact b31 (hW.gp (by omega)) | exact b31 (hW.ne (by omega)) | exact b31 (hW.op (by omega)) | exact and31 (hW.gp (by omega)) | exact and31 (hW.ne (by omega)) | exact and31 (hW.op (by omega)) | exact and31 (by assumption) | exact and31r (hW.ne (by omega)) | exact and31r (hW.gp (by omega)) | exact and31r (by decide)) (fun c_28 => False.elim (by omega)) (fun c_28 => ?_)
      refine mm_iload d_M_raft_31 rfl ?_
      refine mm_iload d_M_raft_32 rfl ?_
      refine mm_iload d_M_raft_33 rfl ?_
      refine mm_s2i d_M_raft_35 (sp_M_has (by first | omega | assumption | exact hW.gp (by omega) | exact hW.ne (by omega) | exact hW.op (by omega) | exact and_lt256 (hW.gp (by omega)) | exact and_lt256 (hW.ne (by omega)) | exact and_lt256 (hW.op (by omega)) | exact and_lt256 (by assumption)) (by omega) ?_)
      refine mm_if_eqN d_M_raft_38 (by first | omega | exact ite01_lt | exact bt8_lt31 _ _ | exact godB_lt31 _ _ _ | exact pop_lt31 _ | assumption | exact b31 (hW.gp (by omega)) | exact b31 (hW.ne (by omega)) | exact b31 (hW.op (by omega)) | exact and31 (hW.gp (by omega)) | exact and31 (hW.ne (by omega)) | exact and31 (hW.op (by omega)) | exact and31 (by assumption) | exact and31r (hW.ne (by omega)) | exact and31r (hW.gp (by omega)) | exact and31r (by decide)) (fun c_38 => ?_) (fun c_38 => ?_)
      · refine mm_ciN 0 d_M_raft_50 rfl ?_
        refine mm_iorN d_M_raft_51 ?_
        refine mm_ist3 d_M_raft_52 ?_
        refine mm_iload d_M_raft_53 rfl ?_
        refine mm_iload d_M_raft_55 rfl ?_
        refine mm_iload d_M_raft_56 rfl ?_
        refine mm_s2i d_M_raft_58 (sp_M_has (by first | omega | assumption | exact hW.gp (by omega) | exact hW.ne (by omega) | exact hW.op (by omega) | exact and_lt256 (hW.gp (by omega)) | exact and_lt256 (hW.ne (by omega)) | exact and_lt256 (hW.op (by omega)) | exact and_lt256 (by assumption)) (by omega) ?_)
        try (exact absurd rfl rfl)
        refine mm_if_eqN d_M_raft_61 (by first | omega | exact ite01_lt | exact bt8_lt31 _ _ | exact godB_lt31 _ _ _ | exact pop_lt31 _ | assumption | exact b31 (hW.gp (by omega)) | exact b31 (hW.ne (by omega)) | exact b31 (hW.op (by omega)) | exact and31 (hW.gp (by omega)) | exact and31 (hW.ne (by omega)) | exact and31 (hW.op (by omega)) | exact and31 (by assumption) | exact and31r (hW.ne (by omega)) | exact and31r (hW.gp (by omega)) | exact and31r (by decide)) (fun c_61 => ?_) (fun c_61 => ?_)
        · refine mm_ciN 0 d_M_raft_68 rfl ?_
          refine mm_iaddN d_M_raft_69 ?_
          refine mm_ist4 d_M_raft_70 ?_
          refine mm_inc5N d_M_raft_72 ?_
          refine mm_goto d_M_raft_75 ?_
          first
            | (have z := ih2; simp only [unionK, if_pos c_38] at z; rw [show 3 * popK s (c + 1) = 3 * popK s c + 0 by show 3 * (popK s c + bt8 s c) = _; omega] at z; exact z)
            | (have z := ih2; simp only [unionK, if_neg c_38] at z; rw [show 3 * popK s (c + 1) = 3 * popK s c + 3 by show 3 * (popK s c + bt8 s c) = _; omega] at z; exact z)
            | exact absurd c_38 c_61
            | exact absurd c_61 c_38
        · refine mm_ciN 3 d_M_raft_64 rfl ?_
          refine mm_goto d_M_raft_65 ?_
          refine mm_iaddN d_M_raft_69 ?_
          refine mm_ist4 d_M_raft_70 ?_
          refine mm_inc5N d_M_raft_72 ?_
          refine mm_goto d_M_raft_75 ?_
          first
            | (have z := ih2; simp only [unionK, if_pos c_38] at z; rw [show 3 * popK s (c + 1) = 3 * popK s c + 0 by show 3 * (popK s c + bt8 s c) = _; omega] at z; exact z)
            | (have z := ih2; simp only [unionK, if_neg c_38] at z; rw [show 3 * popK s (c + 1) = 3 * popK s c + 3 by show 3 * (popK s c + bt8 s c) = _; omega] at z; exact z)
            | exact absurd c_38 c_61
            | exact absurd c_61 c_38
      · refine mm_aload d_M_raft_41 rfl ?_
        refine mm_iload d_M_raft_42 rfl ?_
        refine mm_v1i d_M_raft_44 (sk_o_71 hM) (sp_M_gods hH (by omega) ?_)
        refine mm_goto d_M_raft_47 ?_
        refine mm_iorN d_M_raft_51 ?_
        refine mm_ist3 d_M_raft_52 ?_
        refine mm_iload d_M_raft_53 rfl ?_
        refine mm_iload d_M_raft_55 rfl ?_
        refine mm_iload d_M_raft_56 rfl ?_
        refine mm_s2i d_M_raft_58 (sp_M_has (by first | omega | assumption | exact hW.gp (by omega) | exact hW.ne (by omega) | exact hW.op (by omega) | exact and_lt256 (hW.gp (by omega)) | exact and_lt256 (hW.ne (by omega)) | exact and_lt256 (hW.op (by omega)) | exact and_lt256 (by assumption)) (by omega) ?_)
        try (exact absurd rfl rfl)
        refine mm_if_eqN d_M_raft_61 (by first | omega | exact ite01_lt | exact bt8_lt31 _ _ | exact godB_lt31 _ _ _ | exact pop_lt31 _ | assumption | exact b31 (hW.gp (by omega)) | exact b31 (hW.ne (by omega)) | exact b31 (hW.op (by omega)) | exact and31 (hW.gp (by omega)) | exact and31 (hW.ne (by omega)) | exact and31 (hW.op (by omega)) | exact and31 (by assumption) | exact and31r (hW.ne (by omega)) | exact and31r (hW.gp (by omega)) | exact and31r (by decide)) (fun c_61 => ?_) (fun c_61 => ?_)
        · refine mm_ciN 0 d_M_raft_68 rfl ?_
          refine mm_iaddN d_M_raft_69 ?_
          refine mm_ist4 d_M_raft_70 ?_
          refine mm_inc5N d_M_raft_72 ?_
          refine mm_goto d_M_raft_75 ?_
          first
            | (have z := ih2; simp only [unionK, if_pos c_38] at z; rw [show 3 * popK s (c + 1) = 3 * popK s c + 0 by show 3 * (popK s c + bt8 s c) = _; omega] at z; exact z)
            | (have z := ih2; simp only [unionK, if_neg c_38] at z; rw [show 3 * popK s (c + 1) = 3 * popK s c + 3 by show 3 * (popK s c + bt8 s c) = _; omega] at z; exact z)
            | exact absurd c_38 c_61
            | exact absurd c_61 c_38
        · refine mm_ciN 3 d_M_raft_64 rfl ?_
          refine mm_goto d_M_raft_65 ?_
          refine mm_iaddN d_M_raft_69 ?_
          refine mm_ist4 d_M_raft_70 ?_
          refine mm_inc5N d_M_raft_72 ?_
          refine mm_goto d_M_raft_75 ?_
          first
            | (have z := ih2; simp only [unionK, if_pos c_38] at z; rw [show 3 * popK s (c + 1) = 3 * popK s c + 0 by show 3 * (popK s c + bt8 s c) = _; omega] at z; exact z)
            | (have z := ih2; simp only [unionK, if_neg c_38] at z; rw [show 3 * popK s (c + 1) = 3 * popK s c + 3 by show 3 * (popK s c + bt8 s c) = _; omega] at z; exact z)
            | exact absurd c_38 c_61
            | exact absurd c_61 c_38
