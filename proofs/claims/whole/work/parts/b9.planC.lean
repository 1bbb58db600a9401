/-! plan: the class -/
theorem lbl {p : Prop} [Decidable p] : (if p then 1 else 0 : Nat) < 2 ^ 63 := by split <;> decide
theorem sp_G_unionOf {X : mm_X} {μ : mm_M} {q : Int32 → mm_M → Prop} {x : Int64} {p : Nat → Bool} (hp : ∀ s, s < 64 → lb x s = p s) (h : q (nI (unF p 64)) μ) : mm_Ci X 0 0 0 k_G_unionOf [.long x] μ q := by
  show mm_T X 0 0 0 k_G_unionOf 0 [some (.long x), none, none, none] [] μ _
  refine mm_ciN 0 d_G_unionOf_0 rfl ?_
  refine mm_ist2 d_G_unionOf_1 ?_
  refine mm_ciN 0 d_G_unionOf_2 rfl ?_
  refine mm_ist3 d_G_unionOf_3 ?_
  refine mm_up (P := fun i => mm_T X _ 0 0 k_G_unionOf 4 [some (.long x), none, some (.int (nI (unF p i))), some (.int (nI i))] [] μ _) (64) ?_ (fun i hi ih => ?_)
  · refine mm_iload d_G_unionOf_4 rfl ?_
    refine mm_ciN 64 d_G_unionOf_5 rfl ?_
    refine mm_icmp_geN d_G_unionOf_7 (by first | omega | exact ite01_lt | exact bt8_lt31 _ _ | exact godB_lt31 _ _ _ | exact pop_lt31 _ | assumption | exact b31 (hW.gp (by omega)) | exact b31 (hW.ne (by omega)) | exact b31 (hW.op (by omega)) | exact and31 (hW.gp (by omega)) | exact and31 (hW.ne (by omega)) | exact and31 (hW.op (by omega)) | exact and31 (by assumption) | exact and31r (hW.ne (by omega)) | exact and31r (hW.gp (by omega)) | exact and31r (by decide)) (by first | omega | exact ite01_lt | exact bt8_lt31 _ _ | exact godB_lt31 _ _ _ | exact pop_lt31 _ | assumption | exact b31 (hW.gp (by omega)) | exact b31 (hW.ne (by omega)) | exact b31 (hW.op (by omega)) | exact and31 (hW.gp (by omega)) | exact and31 (hW.ne (by omega)) | exact and31 (hW.op (by omega)) | exact and31 (by assumption) | exact and31r (hW.ne (by omega)) | exact and31r (hW.gp (by omega)) | exact and31r (by decide)) (fun c_7 => ?_) (fun c_7 => False.elim (by omega))
    refine mm_iload d_G_unionOf_30 rfl ?_
    exact mm_ri d_G_unionOf_31 h
  · refine mm_iload d_G_unionOf_4 rfl ?_
    refine mm_ciN 64 d_G_unionOf_5 rfl ?_
    refine mm_icmp_geN d_G_unionOf_7 (by first | omega | exact ite01_lt | exact bt8_lt31 _ _ | exact godB_lt31 _ _ _ | exact pop_lt31 _ | assumption | exact b31 (hW.gp (by omega)) | exact b31 (hW.ne (by omega)) | exact b31 (hW.op (by omega)) | exact and31 (hW.gp (by omega)) | exact and31 (hW.ne (by omega)) | exact and31 (hW.op (by omega)) | exact and31 (by assumption) | exact and31r (hW.ne (by omega)) | exact and31r (hW.gp (by omega)) | exact and31r (by decide)) (by first | omega | exact ite01_lt | exact bt8_lt31 _ _ | exact godB_lt31 _ _ _ | exact pop_lt31 _ | assumption | exact b31 (hW.gp (by omega)) | exact b31 (hW.ne (by omega)) | exact b31 (hW.op (by omega)) | exact and31 (hW.gp (by omega)) | exact and31 (hW.ne (by omega)) | exact and31 (hW.op (by omega)) | exact and31 (by assumption) | exact and31r (hW.ne (by omega)) | exact and31r (hW.gp (by omega)) | exact and31r (by decide)) (fun c_7 => False.elim (by omega)) (fun c_7 => ?_)
    refine mm_lload d_G_unionOf_10 rfl ?_
    refine mm_iload d_G_unionOf_11 rfl ?_
    refine mm_lushr d_G_unionOf_12 ?_
    refine mm_lciN 1 d_G_unionOf_13 rfl ?_
    refine mm_land d_G_unionOf_14 ?_
    rw [tst (by omega), hp i hi]
    refine mm_lciN 0 d_G_unionOf_15 rfl ?_
    refine mm_lcmp d_G_unionOf_16 ?_
    refine mm_lif_eqN d_G_unionOf_17 (by first | exact lbl | decide) (by first | exact lbl | decide) (fun c_17 => ?_) (fun c_17 => ?_)
    · refine mm_inc3N d_G_unionOf_24 ?_
      refine mm_goto d_G_unionOf_27 ?_
      first | (have z := ite01_eq c_17; rw [show unF p (i + 1) = unF p i from if_neg z] at ih; exact ih) | (have z := ite01_ne c_17; rw [show unF p (i + 1) = unF p i ||| i from if_pos z] at ih; exact ih)
    · refine mm_iload d_G_unionOf_20 rfl ?_
      refine mm_iload d_G_unionOf_21 rfl ?_
      refine mm_iorN d_G_unionOf_22 ?_
      refine mm_ist2 d_G_unionOf_23 ?_
      refine mm_inc3N d_G_unionOf_24 ?_
      refine mm_goto d_G_unionOf_27 ?_
      first | (have z := ite01_eq c_17; rw [show unF p (i + 1) = unF p i from if_neg z] at ih; exact ih) | (have z := ite01_ne c_17; rw [show unF p (i + 1) = unF p i ||| i from if_pos z] at ih; exact ih)
theorem sp_G_oneDayMore {X : mm_X} {μ : mm_M} {q : Int64 → mm_M → Prop} {r st : Int64} (h : ∀ y, (∀ t, t < 64 → (lb y t = true ↔ ∃ b s, b < 64 ∧ s < 64 ∧ lb r b = true ∧ lb st s = true ∧ b ||| s = t)) → q y μ) : mm_Cj X 0 0 0 k_G_oneDayMore [.long r, .long st] μ q := by
  show mm_T X 0 0 0 k_G_oneDayMore 0 [some (.long r), none, some (.long st), none, none, none, none, none] [] μ _
  refine mm_lciN 0 d_G_oneDayMore_0 rfl ?_
  refine mm_lst4 d_G_oneDayMore_1 ?_
  refine mm_ciN 0 d_G_oneDayMore_3 rfl ?_
  refine mm_ist6 d_G_oneDayMore_4 ?_
  refine mm_up (P := fun b => ∀ (y : Int64) (l7 : Option Value), (∀ t, t < 64 → (lb y t = true ↔ ∃ b' s, b' < b ∧ s < 64 ∧ lb r b' = true ∧ lb st s = true ∧ b' ||| s = t)) → mm_T X 0 0 0 k_G_oneDayMore 6 [some (.long r), none, some (.long st), none, some (.long y), none, some (.int (nI b)), l7] [] μ (fun v μ' => ∃ r, v = some (.long r) ∧ q r μ')) 64 ?_ ?_ (lN 0) none (fun t ht => by rw [lb_0 t ht]; exact ⟨fun z => (by cases z), fun ⟨b', s, z, _⟩ => absurd z (Nat.not_lt_zero b')⟩)
  · intro y l7 hy
    refine mm_iload d_G_oneDayMore_6 rfl ?_
    refine mm_ciN 64 d_G_oneDayMore_8 rfl ?_
    refine mm_icmp_geN d_G_oneDayMore_10 (by first | omega | exact ite01_lt | exact bt8_lt31 _ _ | exact godB_lt31 _ _ _ | exact pop_lt31 _ | assumption | exact b31 (hW.gp (by omega)) | exact b31 (hW.ne (by omega)) | exact b31 (hW.op (by omega)) | exact and31 (hW.gp (by omega)) | exact and31 (hW.ne (by omega)) | exact and31 (hW.op (by omega)) | exact and31 (by assumption) | exact and31r (hW.ne (by omega)) | exact and31r (hW.gp (by omega)) | exact and31r (by decide)) (by first | omega | exact ite01_lt | exact bt8_lt31 _ _ | exact godB_lt31 _ _ _ | exact pop_lt31 _ | assumption | exact b31 (hW.gp (by omega)) | exact b31 (hW.ne (by omega)) | exact b31 (hW.op (by omega)) | exact and31 (hW.gp (by omega)) | exact and31 (hW.ne (by omega)) | exact and31 (hW.op (by omega)) | exact and31 (by assumption) | exact and31r (hW.ne (by omega)) | exact and31r (hW.gp (by omega)) | exact and31r (by decide)) (fun c_10 => ?_) (fun c_10 => False.elim (by omega))
    refine mm_lload d_G_oneDayMore_69 rfl ?_
    exact mm_rj d_G_oneDayMore_71 (h y hy)
  · intro b hb IH y l7 hy
    have inner : lb r b = true → mm_T X 0 0 0 k_G_oneDayMore 27 [some (.long r), none, some (.long st), none, some (.long y), none, some (.int (nI b)), some (.int (nI 0))] [] μ (fun v μ' => ∃ r, v = some (.long r) ∧ q r μ') := by
      intro hrb
      refine mm_up (P := fun j => ∀ (y : Int64), (∀ t, t < 64 → (lb y t = true ↔ (∃ b' s, b' < b ∧ s < 64 ∧ lb r b' = true ∧ lb st s = true ∧ b' ||| s = t) ∨ ∃ s, s < j ∧ lb st s = true ∧ b ||| s = t)) → mm_T X 0 0 0 k_G_oneDayMore 27 [some (.long r), none, some (.long st), none, some (.long y), none, some (.int (nI b)), some (.int (nI j))] [] μ (fun v μ' => ∃ r, v = some (.long r) ∧ q r μ')) 64 ?_ ?_ y (fun t ht => by rw [hy t ht]; exact ⟨fun z => Or.inl z, fun z => z.elim (fun w => w) (fun ⟨s, w, _⟩ => absurd w (Nat.not_lt_zero s))⟩)
      · intro y hy
        refine mm_iload d_G_oneDayMore_27 rfl ?_
        refine mm_ciN 64 d_G_oneDayMore_29 rfl ?_
        refine mm_icmp_geN d_G_oneDayMore_31 (by first | omega | exact ite01_lt | exact bt8_lt31 _ _ | exact godB_lt31 _ _ _ | exact pop_lt31 _ | assumption | exact b31 (hW.gp (by omega)) | exact b31 (hW.ne (by omega)) | exact b31 (hW.op (by omega)) | exact and31 (hW.gp (by omega)) | exact and31 (hW.ne (by omega)) | exact and31 (hW.op (by omega)) | exact and31 (by assumption) | exact and31r (hW.ne (by omega)) | exact and31r (hW.gp (by omega)) | exact and31r (by decide)) (by first | omega | exact ite01_lt | exact bt8_lt31 _ _ | exact godB_lt31 _ _ _ | exact pop_lt31 _ | assumption | exact b31 (hW.gp (by omega)) | exact b31 (hW.ne (by omega)) | exact b31 (hW.op (by omega)) | exact and31 (hW.gp (by omega)) | exact and31 (hW.ne (by omega)) | exact and31 (hW.op (by omega)) | exact and31 (by assumption) | exact and31r (hW.ne (by omega)) | exact and31r (hW.gp (by omega)) | exact and31r (by decide)) (fun c_31 => ?_) (fun c_31 => False.elim (by omega))
        refine mm_inc6N d_G_oneDayMore_63 ?_
        refine mm_goto d_G_oneDayMore_66 ?_
        exact IH y _ (fun t ht => by rw [hy t ht]; exact ⟨fun z => z.elim (fun ⟨b', s, a1, a2⟩ => ⟨b', s, by omega, a2⟩) (fun ⟨s, a1, a2, a3⟩ => ⟨b, s, by omega, a1, hrb, a2, a3⟩), fun ⟨b', s, a1, a2, a3, a4, a5⟩ => by by_cases z : b' = b; (subst z; exact Or.inr ⟨s, a2, a4, a5⟩); exact Or.inl ⟨b', s, by omega, a2, a3, a4, a5⟩⟩)
      · intro j hj IH2 y hy
        have hbj := or_lt64 hb hj
        refine mm_iload d_G_oneDayMore_27 rfl ?_
        refine mm_ciN 64 d_G_oneDayMore_29 rfl ?_
        refine mm_icmp_geN d_G_oneDayMore_31 (by first | omega | exact ite01_lt | exact bt8_lt31 _ _ | exact godB_lt31 _ _ _ | exact pop_lt31 _ | assumption | exact b31 (hW.gp (by omega)) | exact b31 (hW.ne (by omega)) | exact b31 (hW.op (by omega)) | exact and31 (hW.gp (by omega)) | exact and31 (hW.ne (by omega)) | exact and31 (hW.op (by omega)) | exact and31 (by assumption) | exact and31r (hW.ne (by omega)) | exact and31r (hW.gp (by omega)) | exact and31r (by decide)) (by first | omega | exact ite01_lt | exact bt8_lt31 _ _ | exact godB_lt31 _ _ _ | exact pop_lt31 _ | assumption | exact b31 (hW.gp (by omega)) | exact b31 (hW.ne (by omega)) | exact b31 (hW.op (by omega)) | exact and31 (hW.gp (by omega)) | exact and31 (hW.ne (by omega)) | exact and31 (hW.op (by omega)) | exact and31 (by assumption) | exact and31r (hW.ne (by omega)) | exact and31r (hW.gp (by omega)) | exact and31r (by decide)) (fun c_31 => False.elim (by omega)) (fun c_31 => ?_)
        refine mm_lload d_G_oneDayMore_34 rfl ?_
        refine mm_iload d_G_oneDayMore_35 rfl ?_
        refine mm_lushr d_G_oneDayMore_37 ?_
        refine mm_lciN 1 d_G_oneDayMore_38 rfl ?_
        refine mm_land d_G_oneDayMore_39 ?_
        rw [tst hj]
        refine mm_lciN 0 d_G_oneDayMore_40 rfl ?_
        refine mm_lcmp d_G_oneDayMore_41 ?_
        refine mm_lif_eqN d_G_oneDayMore_42 (by first | exact lbl | decide) (by first | exact lbl | decide) (fun c_42 => ?_) (fun c_42 => ?_)
        · refine mm_inc7N d_G_oneDayMore_57 ?_
          refine mm_goto d_G_oneDayMore_60 ?_
          first | exact IH2 y (fun t ht => by rw [hy t ht]; exact ⟨fun z => z.elim Or.inl (fun ⟨s, a1, a2⟩ => Or.inr ⟨s, by omega, a2⟩), fun z => z.elim Or.inl (fun ⟨s, a1, a2, a3⟩ => Or.inr ⟨s, by have : s ≠ j := fun w => (ite01_eq c_42) (by rw [← w]; exact a2); omega, a2, a3⟩)⟩) | exact IH2 _ (fun t ht => by rw [lb_or, lb_sh _ hbj t ht, Bool.or_eq_true, hy t ht, decide_eq_true_iff]; exact ⟨fun z => z.elim (fun w => w.elim Or.inl (fun ⟨s, a1, a2⟩ => Or.inr ⟨s, by omega, a2⟩)) (fun w => Or.inr ⟨j, by omega, ite01_ne c_42, w.symm⟩), fun z => z.elim (fun w => Or.inl (Or.inl w)) (fun ⟨s, a1, a2, a3⟩ => by by_cases w : s = j; (subst w; exact Or.inr a3.symm); exact Or.inl (Or.inr ⟨s, by omega, a2, a3⟩))⟩)
        · refine mm_lload d_G_oneDayMore_45 rfl ?_
          refine mm_lciN 1 d_G_oneDayMore_47 rfl ?_
          refine mm_iload d_G_oneDayMore_48 rfl ?_
          refine mm_iload d_G_oneDayMore_50 rfl ?_
          refine mm_iorN d_G_oneDayMore_52 ?_
          refine mm_lshl d_G_oneDayMore_53 ?_
          refine mm_lor d_G_oneDayMore_54 ?_
          refine mm_lst4 d_G_oneDayMore_55 ?_
          refine mm_inc7N d_G_oneDayMore_57 ?_
          refine mm_goto d_G_oneDayMore_60 ?_
          first | exact IH2 y (fun t ht => by rw [hy t ht]; exact ⟨fun z => z.elim Or.inl (fun ⟨s, a1, a2⟩ => Or.inr ⟨s, by omega, a2⟩), fun z => z.elim Or.inl (fun ⟨s, a1, a2, a3⟩ => Or.inr ⟨s, by have : s ≠ j := fun w => (ite01_eq c_42) (by rw [← w]; exact a2); omega, a2, a3⟩)⟩) | exact IH2 _ (fun t ht => by rw [lb_or, lb_sh _ hbj t ht, Bool.or_eq_true, hy t ht, decide_eq_true_iff]; exact ⟨fun z => z.elim (fun w => w.elim Or.inl (fun ⟨s, a1, a2⟩ => Or.inr ⟨s, by omega, a2⟩)) (fun w => Or.inr ⟨j, by omega, ite01_ne c_42, w.symm⟩), fun z => z.elim (fun w => Or.inl (Or.inl w)) (fun ⟨s, a1, a2, a3⟩ => by by_cases w : s = j; (subst w; exact Or.inr a3.symm); exact Or.inl (Or.inr ⟨s, by omega, a2, a3⟩))⟩)
    refine mm_iload d_G_oneDayMore_6 rfl ?_
    refine mm_ciN 64 d_G_oneDayMore_8 rfl ?_
    refine mm_icmp_geN d_G_oneDayMore_10 (by first | omega | exact ite01_lt | exact bt8_lt31 _ _ | exact godB_lt31 _ _ _ | exact pop_lt31 _ | assumption | exact b31 (hW.gp (by omega)) | exact b31 (hW.ne (by omega)) | exact b31 (hW.op (by omega)) | exact and31 (hW.gp (by omega)) | exact and31 (hW.ne (by omega)) | exact and31 (hW.op (by omega)) | exact and31 (by assumption) | exact and31r (hW.ne (by omega)) | exact and31r (hW.gp (by omega)) | exact and31r (by decide)) (by first | omega | exact ite01_lt | exact bt8_lt31 _ _ | exact godB_lt31 _ _ _ | exact pop_lt31 _ | assumption | exact b31 (hW.gp (by omega)) | exact b31 (hW.ne (by omega)) | exact b31 (hW.op (by omega)) | exact and31 (hW.gp (by omega)) | exact and31 (hW.ne (by omega)) | exact and31 (hW.op (by omega)) | exact and31 (by assumption) | exact and31r (hW.ne (by omega)) | exact and31r (hW.gp (by omega)) | exact and31r (by decide)) (fun c_10 => False.elim (by omega)) (fun c_10 => ?_)
    refine mm_lload d_G_oneDayMore_13 rfl ?_
    refine mm_iload d_G_oneDayMore_14 rfl ?_
    refine mm_lushr d_G_oneDayMore_16 ?_
    refine mm_lciN 1 d_G_oneDayMore_17 rfl ?_
    refine mm_land d_G_oneDayMore_18 ?_
    rw [tst hb]
    refine mm_lciN 0 d_G_oneDayMore_19 rfl ?_
    refine mm_lcmp d_G_oneDayMore_20 ?_
    refine mm_lif_eqN d_G_oneDayMore_21 (by first | exact lbl | decide) (by first | exact lbl | decide) (fun c_21 => ?_) (fun c_21 => ?_)
    · refine mm_inc6N d_G_oneDayMore_63 ?_
      refine mm_goto d_G_oneDayMore_66 ?_
      exact IH y _ (fun t ht => by rw [hy t ht]; exact ⟨fun ⟨b', s, a1, a2⟩ => ⟨b', s, by omega, a2⟩, fun ⟨b', s, a1, a2, a3, a4⟩ => ⟨b', s, by have : b' ≠ b := fun z => (ite01_eq c_21) (by rw [← z]; exact a3); omega, a2, a3, a4⟩⟩)
    · refine mm_ciN 0 d_G_oneDayMore_24 rfl ?_
      refine mm_ist7 d_G_oneDayMore_25 ?_
      exact inner (ite01_ne c_21)
theorem sp_G_fewestDays {X : mm_X} {μ : mm_M} {q : Int32 → mm_M → Prop} {x : Int64} {can : Nat} {p : Nat → Bool} (hp : ∀ s, s < 64 → lb x s = p s) (hc : can < 64) (h : ∀ d, d ≤ 6 → (∀ d', d' < d → ¬ RdD p d' can) → (d = 6 ∨ RdD p d can) → q (nI d) μ) : mm_Ci X 1 0 0 k_G_fewestDays [.long x, .int (nI can)] μ q := by
  show mm_T X 1 0 0 k_G_fewestDays 0 [some (.long x), none, some (.int (nI can)), none, none, none] [] μ _
  refine mm_lciN 1 d_G_fewestDays_0 rfl ?_
  refine mm_lst3 d_G_fewestDays_1 ?_
  refine mm_ciN 0 d_G_fewestDays_2 rfl ?_
  refine mm_ist5 d_G_fewestDays_3 ?_
  refine mm_up (P := fun d => ∀ (y : Int64), (∀ t, t < 64 → (lb y t = true ↔ RdD p d t)) → (∀ d', d' < d → ¬ RdD p d' can) → mm_T X 1 0 0 k_G_fewestDays 5 [some (.long x), none, some (.int (nI can)), some (.long y), none, some (.int (nI d))] [] μ (fun v μ' => ∃ r, v = some (.int r) ∧ q r μ')) 6 ?_ ?_ (lN 1) (fun t ht => by rw [lb_1 t ht, decide_eq_true_iff]; exact Iff.rfl) (fun d' hd => absurd hd (Nat.not_lt_zero d'))
  · intro y hy hn
    refine mm_iload d_G_fewestDays_5 rfl ?_
    refine mm_ciN 6 d_G_fewestDays_7 rfl ?_
    refine mm_icmp_geN d_G_fewestDays_9 (by first | omega | exact ite01_lt | exact bt8_lt31 _ _ | exact godB_lt31 _ _ _ | exact pop_lt31 _ | assumption | exact b31 (hW.gp (by omega)) | exact b31 (hW.ne (by omega)) | exact b31 (hW.op (by omega)) | exact and31 (hW.gp (by omega)) | exact and31 (hW.ne (by omega)) | exact and31 (hW.op (by omega)) | exact and31 (by assumption) | exact and31r (hW.ne (by omega)) | exact and31r (hW.gp (by omega)) | exact and31r (by decide)) (by first | omega | exact ite01_lt | exact bt8_lt31 _ _ | exact godB_lt31 _ _ _ | exact pop_lt31 _ | assumption | exact b31 (hW.gp (by omega)) | exact b31 (hW.ne (by omega)) | exact b31 (hW.op (by omega)) | exact and31 (hW.gp (by omega)) | exact and31 (hW.ne (by omega)) | exact and31 (hW.op (by omega)) | exact and31 (by assumption) | exact and31r (hW.ne (by omega)) | exact and31r (hW.gp (by omega)) | exact and31r (by decide)) (fun c_9 => ?_) (fun c_9 => False.elim (by omega))
    refine mm_iload d_G_fewestDays_34 rfl ?_
    exact mm_ri d_G_fewestDays_36 (h 6 (Nat.le_refl _) hn (Or.inl rfl))
  · intro d hd IH y hy hn
    refine mm_iload d_G_fewestDays_5 rfl ?_
    refine mm_ciN 6 d_G_fewestDays_7 rfl ?_
    refine mm_icmp_geN d_G_fewestDays_9 (by first | omega | exact ite01_lt | exact bt8_lt31 _ _ | exact godB_lt31 _ _ _ | exact pop_lt31 _ | assumption | exact b31 (hW.gp (by omega)) | exact b31 (hW.ne (by omega)) | exact b31 (hW.op (by omega)) | exact and31 (hW.gp (by omega)) | exact and31 (hW.ne (by omega)) | exact and31 (hW.op (by omega)) | exact and31 (by assumption) | exact and31r (hW.ne (by omega)) | exact and31r (hW.gp (by omega)) | exact and31r (by decide)) (by first | omega | exact ite01_lt | exact bt8_lt31 _ _ | exact godB_lt31 _ _ _ | exact pop_lt31 _ | assumption | exact b31 (hW.gp (by omega)) | exact b31 (hW.ne (by omega)) | exact b31 (hW.op (by omega)) | exact and31 (hW.gp (by omega)) | exact and31 (hW.ne (by omega)) | exact and31 (hW.op (by omega)) | exact and31 (by assumption) | exact and31r (hW.ne (by omega)) | exact and31r (hW.gp (by omega)) | exact and31r (by decide)) (fun c_9 => False.elim (by omega)) (fun c_9 => ?_)
    refine mm_lload d_G_fewestDays_12 rfl ?_
    refine mm_iload d_G_fewestDays_13 rfl ?_
    refine mm_lushr d_G_fewestDays_14 ?_
    refine mm_lciN 1 d_G_fewestDays_15 rfl ?_
    refine mm_land d_G_fewestDays_16 ?_
    rw [tst hc]
    refine mm_lciN 0 d_G_fewestDays_17 rfl ?_
    refine mm_lcmp d_G_fewestDays_18 ?_
    refine mm_lif_neN d_G_fewestDays_19 (by first | exact lbl | decide) (by first | exact lbl | decide) (fun c_19 => ?_) (fun c_19 => ?_)
    · refine mm_iload d_G_fewestDays_34 rfl ?_
      exact mm_ri d_G_fewestDays_36 (h d (by omega) hn (Or.inr ((hy can hc).mp (ite01_ne c_19))))
    · refine mm_lload d_G_fewestDays_22 rfl ?_
      refine mm_lload d_G_fewestDays_23 rfl ?_
      refine mm_s2j d_G_fewestDays_24 (sp_G_oneDayMore (fun y2 hy2 => ?_))
      refine mm_lst3 d_G_fewestDays_27 ?_
      refine mm_inc5N d_G_fewestDays_28 ?_
      refine mm_goto d_G_fewestDays_31 ?_
      exact IH y2 (fun t ht => by rw [hy2 t ht]; exact ⟨fun ⟨b, s, a1, a2, a3, a4, a5⟩ => ⟨b, s, a1, a2, (hy b a1).mp a3, by rw [← hp s a2]; exact a4, a5⟩, fun ⟨b, s, a1, a2, a3, a4, a5⟩ => ⟨b, s, a1, a2, (hy b a1).mpr a3, by rw [hp s a2]; exact a4, a5⟩⟩) (fun d' hd' => by by_cases z : d' = d; (rw [z]; exact fun w => (ite01_eq c_19) ((hy can hc).mpr w)); exact hn d' (by omega))
theorem sp_As_setsOfOneDay {X : mm_X} {μ : mm_M} {q : Int64 → mm_M → Prop} {D : mm_D} {e w : Nat} (hM : SK μ) (he : e < 2) (hC0 : CoD μ (4 + 7 * e) D) (hW : WfD D) (hw : mm_I μ 57 5 = nI w) (hw2 : w + 1 < 2 ^ 30) (hS : WkS w μ) (h : ∀ ν y, Fr scC μ ν → mm_I ν 57 5 = nI (w + 1) → WkS (w + 1) ν → (∀ t, t < 64 → (lb y t = true ↔ ∃ x, x < 256 ∧ (∃ s, s < 4 ^ dn D ∧ hbF D ou0 (dn D) 0 s = some x) ∧ readyN D x = t)) → q y ν) : mm_Cj X 11 0 0 k_As_setsOfOneDay [.ref 57, .ref (4 + 7 * e)] μ q := by
  show mm_T X 11 0 0 k_As_setsOfOneDay 0 [some (.ref 57), some (.ref (4 + 7 * e)), none, none, none] [] μ _
  have hn6 := hW.1
  have hal := all_lt hW
  refine mm_aload d_As_setsOfOneDay_0 rfl ?_
  refine mm_aload d_As_setsOfOneDay_1 rfl ?_
  refine mm_ciN 1 d_As_setsOfOneDay_2 rfl ?_
  refine mm_v2v d_As_setsOfOneDay_3 (sk_o_57 hM) (sp_As_begin hM he hC0 hW (fun ν f e57 hA => ?_))
  have hM1 := hA.1
  have hC1 := hA.2.2.2.1
  have hS1 : WkS w ν := by intro j hj; rw [(f.2.2.1 62 rfl).1]; exact hS j hj
  refine mm_aload d_As_setsOfOneDay_6 rfl ?_
  refine mm_aload d_As_setsOfOneDay_7 rfl ?_
  refine mm_getP d_As_setsOfOneDay_8 rfl (sk_o_57 hM1) hA.2.2.1 ?_
  refine mm_v0i d_As_setsOfOneDay_11 hC1.1.1 (sp_Co_allChildrenN hC1 hW ?_)
  refine mm_v1i d_As_setsOfOneDay_14 (sk_o_57 hM1) (sp_As_most hA (fun x => Nat.lt_trans (gN_lt hW (nI 1) x) (by decide)) (crw_all (dn D) hn6) hal (by rw [e57]; exact hw) hw2 hS1 (fun ν' f2 hA2 e5 hS2 _ hreach => ?_))
  have hM := hA2.1
  have hCD := hA2.2.2.2.1
  have hP := hA2.2.2.1
  have f3 : Fr scC μ ν' := (f.sub scB_C).trans (f2.sub scK_C)
  refine mm_pop d_As_setsOfOneDay_17 rfl ?_
  refine mm_lciN 0 d_As_setsOfOneDay_18 rfl ?_
  refine mm_lst2 d_As_setsOfOneDay_19 ?_
  refine mm_ciN 0 d_As_setsOfOneDay_20 rfl ?_
  refine mm_ist4 d_As_setsOfOneDay_21 ?_
  refine mm_up (P := fun i => ∀ (y : Int64), (∀ t, t < 64 → (lb y t = true ↔ ∃ x, x < i ∧ Sn (w + 1) ν' (dn D) x ∧ readyN D x = t)) → mm_T X 11 0 0 k_As_setsOfOneDay 23 [some (.ref 57), some (.ref (4 + 7 * e)), some (.long y), none, some (.int (nI i))] [] ν' (fun v μ' => ∃ r, v = some (.long r) ∧ q r μ')) 256 ?_ ?_ (lN 0) (fun t ht => by rw [lb_0 t ht]; exact ⟨fun z => (by cases z), fun ⟨x, z, _⟩ => absurd z (Nat.not_lt_zero x)⟩)
  · intro y hy
    refine mm_iload d_As_setsOfOneDay_23 rfl ?_
    refine mm_ciN 255 d_As_setsOfOneDay_25 rfl ?_
    refine mm_icmp_gtN d_As_setsOfOneDay_28 (by first | omega | exact ite01_lt | exact bt8_lt31 _ _ | exact godB_lt31 _ _ _ | exact pop_lt31 _ | assumption | exact b31 (hW.gp (by omega)) | exact b31 (hW.ne (by omega)) | exact b31 (hW.op (by omega)) | exact and31 (hW.gp (by omega)) | exact and31 (hW.ne (by omega)) | exact and31 (hW.op (by omega)) | exact and31 (by assumption) | exact and31r (hW.ne (by omega)) | exact and31r (hW.gp (by omega)) | exact and31r (by decide)) (by first | omega | exact ite01_lt | exact bt8_lt31 _ _ | exact godB_lt31 _ _ _ | exact pop_lt31 _ | assumption | exact b31 (hW.gp (by omega)) | exact b31 (hW.ne (by omega)) | exact b31 (hW.op (by omega)) | exact and31 (hW.gp (by omega)) | exact and31 (hW.ne (by omega)) | exact and31 (hW.op (by omega)) | exact and31 (by assumption) | exact and31r (hW.ne (by omega)) | exact and31r (hW.gp (by omega)) | exact and31r (by decide)) (fun c_28 => ?_) (fun c_28 => False.elim (by omega))
    refine mm_lload d_As_setsOfOneDay_77 rfl ?_
    exact mm_rj d_As_setsOfOneDay_78 (h ν' y f3 e5 hS2 (fun t ht => by rw [hy t ht]; exact ⟨fun ⟨x, a1, a2, a3⟩ => ⟨x, a1, (hreach x a1).mp a2, a3⟩, fun ⟨x, a1, a2, a3⟩ => ⟨x, a1, (hreach x a1).mpr a2, a3⟩⟩))
  · intro i hi IH y hy
    obtain ⟨z, hz, ez⟩ := hS2 (dn D * 256 + i) (by omega)
    have hr := readyN_lt hW i
    refine mm_iload d_As_setsOfOneDay_23 rfl ?_
    refine mm_ciN 255 d_As_setsOfOneDay_25 rfl ?_
    refine mm_icmp_gtN d_As_setsOfOneDay_28 (by first | omega | exact ite01_lt | exact bt8_lt31 _ _ | exact godB_lt31 _ _ _ | exact pop_lt31 _ | assumption | exact b31 (hW.gp (by omega)) | exact b31 (hW.ne (by omega)) | exact b31 (hW.op (by omega)) | exact and31 (hW.gp (by omega)) | exact and31 (hW.ne (by omega)) | exact and31 (hW.op (by omega)) | exact and31 (by assumption) | exact and31r (hW.ne (by omega)) | exact and31r (hW.gp (by omega)) | exact and31r (by decide)) (by first | omega | exact ite01_lt | exact bt8_lt31 _ _ | exact godB_lt31 _ _ _ | exact pop_lt31 _ | assumption | exact b31 (hW.gp (by omega)) | exact b31 (hW.ne (by omega)) | exact b31 (hW.op (by omega)) | exact and31 (hW.gp (by omega)) | exact and31 (hW.ne (by omega)) | exact and31 (hW.op (by omega)) | exact and31 (by assumption) | exact and31r (hW.ne (by omega)) | exact and31r (hW.gp (by omega)) | exact and31r (by decide)) (fun c_28 => False.elim (by omega)) (fun c_28 => ?_)
    refine mm_aload d_As_setsOfOneDay_31 rfl ?_
    refine mm_getP d_As_setsOfOneDay_32 rfl (sk_o_57 hM) (sk_p_57_4 hM) ?_
    refine mm_aload d_As_setsOfOneDay_35 rfl ?_
    refine mm_getP d_As_setsOfOneDay_36 rfl (sk_o_57 hM) hP ?_
    refine mm_getIN d_As_setsOfOneDay_39 rfl hCD.1.1 hCD.n ?_
    refine mm_ciN 256 d_As_setsOfOneDay_42 rfl ?_
    refine mm_imulN d_As_setsOfOneDay_45 ?_
    refine mm_iload d_As_setsOfOneDay_46 rfl ?_
    refine mm_iaddN d_As_setsOfOneDay_48 ?_
    refine mm_ialdN d_As_setsOfOneDay_49 (sk_a_62 hM) (by omega) (by decide) ez ?_
    refine mm_aload d_As_setsOfOneDay_50 rfl ?_
    refine mm_getIN d_As_setsOfOneDay_51 rfl (sk_o_57 hM) e5 ?_
    refine mm_icmp_neN d_As_setsOfOneDay_54 (by first | omega | exact ite01_lt | exact bt8_lt31 _ _ | exact godB_lt31 _ _ _ | exact pop_lt31 _ | assumption | exact b31 (hW.gp (by omega)) | exact b31 (hW.ne (by omega)) | exact b31 (hW.op (by omega)) | exact and31 (hW.gp (by omega)) | exact and31 (hW.ne (by omega)) | exact and31 (hW.op (by omega)) | exact and31 (by assumption) | exact and31r (hW.ne (by omega)) | exact and31r (hW.gp (by omega)) | exact and31r (by decide)) (by first | omega | exact ite01_lt | exact bt8_lt31 _ _ | exact godB_lt31 _ _ _ | exact pop_lt31 _ | assumption | exact b31 (hW.gp (by omega)) | exact b31 (hW.ne (by omega)) | exact b31 (hW.op (by omega)) | exact and31 (hW.gp (by omega)) | exact and31 (hW.ne (by omega)) | exact and31 (hW.op (by omega)) | exact and31 (by assumption) | exact and31r (hW.ne (by omega)) | exact and31r (hW.gp (by omega)) | exact and31r (by decide)) (fun c_54 => ?_) (fun c_54 => ?_)
    · refine mm_inc4N d_As_setsOfOneDay_71 ?_
      refine mm_goto d_As_setsOfOneDay_74 ?_
      first | exact IH y (fun t ht => by rw [hy t ht]; exact ⟨fun ⟨x, a1, a2⟩ => ⟨x, by omega, a2⟩, fun ⟨x, a1, a2, a3⟩ => ⟨x, by have : x ≠ i := fun u => c_54 (by unfold Sn at a2; rw [u, Nat.mul_comm, ez] at a2; exact (nI_eqq (by omega) (by omega)).mp a2); omega, a2, a3⟩⟩) | exact IH _ (fun t ht => by rw [lb_or, lb_sh _ hr t ht, Bool.or_eq_true, hy t ht, decide_eq_true_iff]; exact ⟨fun u => u.elim (fun ⟨x, a1, a2⟩ => ⟨x, by omega, a2⟩) (fun u => ⟨i, by omega, by unfold Sn; rw [Nat.mul_comm, ez, c_54], u.symm⟩), fun ⟨x, a1, a2, a3⟩ => by by_cases u : x = i; (subst u; exact Or.inr a3.symm); exact Or.inl ⟨x, by omega, a2, a3⟩⟩)
    · refine mm_lload d_As_setsOfOneDay_57 rfl ?_
      refine mm_lciN 1 d_As_setsOfOneDay_58 rfl ?_
      refine mm_aload d_As_setsOfOneDay_59 rfl ?_
      refine mm_getP d_As_setsOfOneDay_60 rfl (sk_o_57 hM) hP ?_
      refine mm_iload d_As_setsOfOneDay_63 rfl ?_
      refine mm_v1i d_As_setsOfOneDay_65 hCD.1.1 (sp_Co_worksWith hCD hW ?_)
      refine mm_lshl d_As_setsOfOneDay_68 ?_
      refine mm_lor d_As_setsOfOneDay_69 ?_
      refine mm_lst2 d_As_setsOfOneDay_70 ?_
      refine mm_inc4N d_As_setsOfOneDay_71 ?_
      refine mm_goto d_As_setsOfOneDay_74 ?_
      first | exact IH y (fun t ht => by rw [hy t ht]; exact ⟨fun ⟨x, a1, a2⟩ => ⟨x, by omega, a2⟩, fun ⟨x, a1, a2, a3⟩ => ⟨x, by have : x ≠ i := fun u => c_54 (by unfold Sn at a2; rw [u, Nat.mul_comm, ez] at a2; exact (nI_eqq (by omega) (by omega)).mp a2); omega, a2, a3⟩⟩) | exact IH _ (fun t ht => by rw [lb_or, lb_sh _ hr t ht, Bool.or_eq_true, hy t ht, decide_eq_true_iff]; exact ⟨fun u => u.elim (fun ⟨x, a1, a2⟩ => ⟨x, by omega, a2⟩) (fun u => ⟨i, by omega, by unfold Sn; rw [Nat.mul_comm, ez, c_54], u.symm⟩), fun ⟨x, a1, a2, a3⟩ => by by_cases u : x = i; (subst u; exact Or.inr a3.symm); exact Or.inl ⟨x, by omega, a2, a3⟩⟩)
