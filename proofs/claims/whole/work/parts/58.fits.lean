/-! logs: what fits; whose -/
def fitK (E : mm_E) (s : Nat) : Nat → Bool
  | 0 => true
  | k + 1 => fitK E s k && decide (bt8 s (ew E k) = if ek E k = 0 then 1 else 0)
def fitB (E : mm_E) (s : Nat) : Bool := fitK E s (en E) && decide (pop s = 3)
def fitI (E : mm_E) (s : Nat) : Nat := if fitB E s = true then 1 else 0
theorem fitI_01 (E : mm_E) (s : Nat) : fitI E s = 0 ∨ fitI E s = 1 := by unfold fitI; split <;> simp
theorem fitI_lt31 (E : mm_E) (s : Nat) : fitI E s < 2 ^ 31 := by have := fitI_01 E s; omega
theorem fitK_f {E : mm_E} {s i : Nat} (h : fitK E s i = false) : ∀ d, fitK E s (i + d) = false
  | 0 => h
  | d + 1 => by
    show (fitK E s (i + d) && _) = false
    rw [fitK_f h d]
    rfl
theorem fitI_0 {E : mm_E} {s i : Nat} (h : fitK E s i = false) (hi : i ≤ en E) : fitI E s = 0 := by
  have := fitK_f h (en E - i)
  rw [show i + (en E - i) = en E by omega] at this
  unfold fitI fitB
  rw [this]
  rfl
theorem fitI_p {E : mm_E} {s : Nat} (h : pop s ≠ 3) : fitI E s = 0 := by
  unfold fitI fitB
  simp [h]
theorem fitI_1 {E : mm_E} {s : Nat} (h : fitK E s (en E) = true) (h3 : pop s = 3) : fitI E s = 1 := by
  unfold fitI fitB
  simp [h, h3]
theorem fitK_1 {E : mm_E} {s i : Nat} (h : fitK E s i = true) (h1 : bt8 s (ew E i) = if ek E i = 0 then 1 else 0) : fitK E s (i + 1) = true := by
  show (fitK E s i && decide _) = true
  rw [h]
  simpa using h1
theorem fitK_0 {E : mm_E} {s i : Nat} (h1 : ¬ bt8 s (ew E i) = if ek E i = 0 then 1 else 0) : fitK E s (i + 1) = false := by
  show (fitK E s i && decide _) = false
  simp [h1]
theorem sp_Lo_allows {X : mm_X} {μ : mm_M} {q : Int32 → mm_M → Prop} {a s : Nat} {E : mm_E} (hLD : LoD μ a E) (hWE : WfE E) (hs : s < 256) (h : q (nI (fitI E s)) μ) : mm_Ci X 1 0 0 k_Lo_allows [.ref a, .int (nI s)] μ q := by
  show mm_T X 1 0 0 k_Lo_allows 0 [some (.ref a), some (.int (nI s)), none] [] μ _
  obtain ⟨⟨hYo, ⟨hp0, ha0⟩, ⟨hp1, ha1⟩⟩, hYn, hY1⟩ := id hLD
  have h8 := hWE.1
  refine mm_ciN 0 d_Lo_allows_0 rfl ?_
  refine mm_ist2 d_Lo_allows_1 ?_
  refine mm_up (P := fun i => fitK E s i = true → mm_T X _ 0 0 k_Lo_allows 2 [some (.ref a), some (.int (nI s)), some (.int (nI i))] [] μ _) (en E) ?_ (fun i hi ih => ?_) rfl
  · intro hk
    refine mm_iload d_Lo_allows_2 rfl ?_
    refine mm_aload d_Lo_allows_3 rfl ?_
    refine mm_getIN d_Lo_allows_4 rfl (by assumption) hYn ?_
    refine mm_icmp_geN d_Lo_allows_7 (by first | omega | exact ite01_lt | exact bt8_lt31 _ _ | exact godB_lt31 _ _ _ | exact pop_lt31 _ | assumption | exact b31 (hW.gp (by omega)) | exact b31 (hW.ne (by omega)) | exact b31 (hW.op (by omega)) | exact and31 (hW.gp (by omega)) | exact and31 (hW.ne (by omega)) | exact and31 (hW.op (by omega)) | exact and31 (by assumption) | exact and31r (hW.ne (by omega)) | exact and31r (hW.gp (by omega)) | exact and31r (by decide)) (by first | omega | exact ite01_lt | exact bt8_lt31 _ _ | exact godB_lt31 _ _ _ | exact pop_lt31 _ | assumption | exact b31 (hW.gp (by omega)) | exact b31 (hW.ne (by omega)) | exact b31 (hW.op (by omega)) | exact and31 (hW.gp (by omega)) | exact and31 (hW.ne (by omega)) | exact and31 (hW.op (by omega)) | exact and31 (by assumption) | exact and31r (hW.ne (by omega)) | exact and31r (hW.gp (by omega)) | exact and31r (by decide)) (fun c_7 => ?_) (fun c_7 => False.elim (by omega))
    refine mm_iload d_Lo_allows_45 rfl ?_
    refine mm_s1i d_Lo_allows_46 (sp_Int_bitCount (by first | omega | assumption | exact hW.gp (by omega) | exact hW.ne (by omega) | exact hW.op (by omega) | exact and_lt256 (hW.gp (by omega)) | exact and_lt256 (hW.ne (by omega)) | exact and_lt256 (hW.op (by omega)) | exact and_lt256 (by assumption)) ?_)
    refine mm_ciN 3 d_Lo_allows_49 rfl ?_
    refine mm_icmp_neN d_Lo_allows_50 (by first | omega | exact ite01_lt | exact bt8_lt31 _ _ | exact godB_lt31 _ _ _ | exact pop_lt31 _ | assumption | exact b31 (hW.gp (by omega)) | exact b31 (hW.ne (by omega)) | exact b31 (hW.op (by omega)) | exact and31 (hW.gp (by omega)) | exact and31 (hW.ne (by omega)) | exact and31 (hW.op (by omega)) | exact and31 (by assumption) | exact and31r (hW.ne (by omega)) | exact and31r (hW.gp (by omega)) | exact and31r (by decide)) (by first | omega | exact ite01_lt | exact bt8_lt31 _ _ | exact godB_lt31 _ _ _ | exact pop_lt31 _ | assumption | exact b31 (hW.gp (by omega)) | exact b31 (hW.ne (by omega)) | exact b31 (hW.op (by omega)) | exact and31 (hW.gp (by omega)) | exact and31 (hW.ne (by omega)) | exact and31 (hW.op (by omega)) | exact and31 (by assumption) | exact and31r (hW.ne (by omega)) | exact and31r (hW.gp (by omega)) | exact and31r (by decide)) (fun c_50 => ?_) (fun c_50 => ?_)
    · refine mm_ciN 0 d_Lo_allows_57 rfl ?_
      exact mm_rz d_Lo_allows_58 (by first | (rw [fitI_p c_50] at h; exact h) | (rw [fitI_1 hk c_50] at h; exact h))
    · refine mm_ciN 1 d_Lo_allows_53 rfl ?_
      refine mm_goto d_Lo_allows_54 ?_
      exact mm_rz d_Lo_allows_58 (by first | (rw [fitI_p c_50] at h; exact h) | (rw [fitI_1 hk c_50] at h; exact h))
  · intro hk
    have hw1 := (hWE.2 i hi).1
    have hw2 := (hWE.2 i hi).2
    refine mm_iload d_Lo_allows_2 rfl ?_
    refine mm_aload d_Lo_allows_3 rfl ?_
    refine mm_getIN d_Lo_allows_4 rfl (by assumption) hYn ?_
    refine mm_icmp_geN d_Lo_allows_7 (by first | omega | exact ite01_lt | exact bt8_lt31 _ _ | exact godB_lt31 _ _ _ | exact pop_lt31 _ | assumption | exact b31 (hW.gp (by omega)) | exact b31 (hW.ne (by omega)) | exact b31 (hW.op (by omega)) | exact and31 (hW.gp (by omega)) | exact and31 (hW.ne (by omega)) | exact and31 (hW.op (by omega)) | exact and31 (by assumption) | exact and31r (hW.ne (by omega)) | exact and31r (hW.gp (by omega)) | exact and31r (by decide)) (by first | omega | exact ite01_lt | exact bt8_lt31 _ _ | exact godB_lt31 _ _ _ | exact pop_lt31 _ | assumption | exact b31 (hW.gp (by omega)) | exact b31 (hW.ne (by omega)) | exact b31 (hW.op (by omega)) | exact and31 (hW.gp (by omega)) | exact and31 (hW.ne (by omega)) | exact and31 (hW.op (by omega)) | exact and31 (by assumption) | exact and31r (hW.ne (by omega)) | exact and31r (hW.gp (by omega)) | exact and31r (by decide)) (fun c_7 => False.elim (by omega)) (fun c_7 => ?_)
    refine mm_iload d_Lo_allows_10 rfl ?_
    refine mm_aload d_Lo_allows_11 rfl ?_
    refine mm_getP d_Lo_allows_12 rfl (by assumption) (by assumption) ?_
    refine mm_iload d_Lo_allows_15 rfl ?_
    refine mm_ialdN d_Lo_allows_16 (by assumption) (by omega) (by decide) (hY1 i hi).2 ?_
    refine mm_s2i d_Lo_allows_17 (sp_has (by first | omega | assumption | exact hW.gp (by omega) | exact hW.ne (by omega) | exact hW.op (by omega) | exact and_lt256 (hW.gp (by omega)) | exact and_lt256 (hW.ne (by omega)) | exact and_lt256 (hW.op (by omega)) | exact and_lt256 (by assumption)) (by omega) ?_)
    refine mm_aload d_Lo_allows_20 rfl ?_
    refine mm_getP d_Lo_allows_21 rfl (by assumption) (by assumption) ?_
    refine mm_iload d_Lo_allows_24 rfl ?_
    refine mm_ialdN d_Lo_allows_25 (by assumption) (by omega) (by decide) (hY1 i hi).1 ?_
    refine mm_if_neN d_Lo_allows_26 (by first | omega | exact ite01_lt | exact bt8_lt31 _ _ | exact godB_lt31 _ _ _ | exact pop_lt31 _ | assumption | exact b31 (hW.gp (by omega)) | exact b31 (hW.ne (by omega)) | exact b31 (hW.op (by omega)) | exact and31 (hW.gp (by omega)) | exact and31 (hW.ne (by omega)) | exact and31 (hW.op (by omega)) | exact and31 (by assumption) | exact and31r (hW.ne (by omega)) | exact and31r (hW.gp (by omega)) | exact and31r (by decide)) (fun c_26 => ?_) (fun c_26 => ?_)
    · refine mm_ciN 0 d_Lo_allows_33 rfl ?_
      refine mm_icmp_eqN d_Lo_allows_34 (by first | omega | exact ite01_lt | exact bt8_lt31 _ _ | exact godB_lt31 _ _ _ | exact pop_lt31 _ | assumption | exact b31 (hW.gp (by omega)) | exact b31 (hW.ne (by omega)) | exact b31 (hW.op (by omega)) | exact and31 (hW.gp (by omega)) | exact and31 (hW.ne (by omega)) | exact and31 (hW.op (by omega)) | exact and31 (by assumption) | exact and31r (hW.ne (by omega)) | exact and31r (hW.gp (by omega)) | exact and31r (by decide)) (by first | omega | exact ite01_lt | exact bt8_lt31 _ _ | exact godB_lt31 _ _ _ | exact pop_lt31 _ | assumption | exact b31 (hW.gp (by omega)) | exact b31 (hW.ne (by omega)) | exact b31 (hW.op (by omega)) | exact and31 (hW.gp (by omega)) | exact and31 (hW.ne (by omega)) | exact and31 (hW.op (by omega)) | exact and31 (by assumption) | exact and31r (hW.ne (by omega)) | exact and31r (hW.gp (by omega)) | exact and31r (by decide)) (fun c_34 => ?_) (fun c_34 => ?_)
      · refine mm_inc2N d_Lo_allows_39 ?_
        refine mm_goto d_Lo_allows_42 ?_
        first
          | exact ih (fitK_1 hk (by rw [if_pos c_26]; exact c_34))
          | exact ih (fitK_1 hk (by rw [if_neg c_26]; exact c_34))
      · refine mm_ciN 0 d_Lo_allows_37 rfl ?_
        exact mm_rz d_Lo_allows_38 (by first | (rw [fitI_0 (fitK_0 (E := E) (s := s) (i := i) (by rw [if_pos c_26]; exact c_34)) (by omega)] at h; exact h) | (rw [fitI_0 (fitK_0 (E := E) (s := s) (i := i) (by rw [if_neg c_26]; exact c_34)) (by omega)] at h; exact h))
    · refine mm_ciN 1 d_Lo_allows_29 rfl ?_
      refine mm_goto d_Lo_allows_30 ?_
      refine mm_icmp_eqN d_Lo_allows_34 (by first | omega | exact ite01_lt | exact bt8_lt31 _ _ | exact godB_lt31 _ _ _ | exact pop_lt31 _ | assumption | exact b31 (hW.gp (by omega)) | exact b31 (hW.ne (by omega)) | exact b31 (hW.op (by omega)) | exact and31 (hW.gp (by omega)) | exact and31 (hW.ne (by omega)) | exact and31 (hW.op (by omega)) | exact and31 (by assumption) | exact and31r (hW.ne (by omega)) | exact and31r (hW.gp (by omega)) | exact and31r (by decide)) (by first | omega | exact ite01_lt | exact bt8_lt31 _ _ | exact godB_lt31 _ _ _ | exact pop_lt31 _ | assumption | exact b31 (hW.gp (by omega)) | exact b31 (hW.ne (by omega)) | exact b31 (hW.op (by omega)) | exact and31 (hW.gp (by omega)) | exact and31 (hW.ne (by omega)) | exact and31 (hW.op (by omega)) | exact and31 (by assumption) | exact and31r (hW.ne (by omega)) | exact and31r (hW.gp (by omega)) | exact and31r (by decide)) (fun c_34 => ?_) (fun c_34 => ?_)
      · refine mm_inc2N d_Lo_allows_39 ?_
        refine mm_goto d_Lo_allows_42 ?_
        first
          | exact ih (fitK_1 hk (by rw [if_pos c_26]; exact c_34))
          | exact ih (fitK_1 hk (by rw [if_neg c_26]; exact c_34))
      · refine mm_ciN 0 d_Lo_allows_37 rfl ?_
        exact mm_rz d_Lo_allows_38 (by first | (rw [fitI_0 (fitK_0 (E := E) (s := s) (i := i) (by rw [if_pos c_26]; exact c_34)) (by omega)] at h; exact h) | (rw [fitI_0 (fitK_0 (E := E) (s := s) (i := i) (by rw [if_neg c_26]; exact c_34)) (by omega)] at h; exact h))
theorem sp_M_isFit {X : mm_X} {μ : mm_M} {q : Int32 → mm_M → Prop} {l s : Nat} {E : mm_E} (hL : HL μ l E) (hs : s < 256) (h : q (nI (fitI E s)) μ) : mm_Ci X 2 0 0 k_M_isFit [.ref 71, .int (nI s)] μ q := by
  show mm_T X 2 0 0 k_M_isFit 0 [some (.ref 71), some (.int (nI s)), none, none] [] μ _
  have hM := hL.1
  have hWE := hL.2.2.2.2
  have h8 := hWE.1
  have ex0 : ∀ j, j ≤ 8 → fitI E s = 0 → mm_T X 2 0 0 k_M_isFit 16 [some (.ref 71), some (.int (nI s)), some (.int (nI 0)), some (.int (nI j))] [] μ (fun v μ' => ∃ r, v = some (.int r) ∧ q r μ') := by
    intro j hj h0
    rw [h0] at h
    refine mm_iload d_M_isFit_16 rfl ?_
    refine mm_aload d_M_isFit_17 rfl ?_
    refine mm_v0i d_M_isFit_18 (sk_o_71 hM) (sp_M_facts hL ?_)
    refine mm_icmp_geN d_M_isFit_21 (by first | omega | exact ite01_lt | exact bt8_lt31 _ _ | exact godB_lt31 _ _ _ | exact pop_lt31 _ | assumption | exact b31 (hW.gp (by omega)) | exact b31 (hW.ne (by omega)) | exact b31 (hW.op (by omega)) | exact and31 (hW.gp (by omega)) | exact and31 (hW.ne (by omega)) | exact and31 (hW.op (by omega)) | exact and31 (by assumption) | exact and31r (hW.ne (by omega)) | exact and31r (hW.gp (by omega)) | exact and31r (by decide)) (by first | omega | exact ite01_lt | exact bt8_lt31 _ _ | exact godB_lt31 _ _ _ | exact pop_lt31 _ | assumption | exact b31 (hW.gp (by omega)) | exact b31 (hW.ne (by omega)) | exact b31 (hW.op (by omega)) | exact and31 (hW.gp (by omega)) | exact and31 (hW.ne (by omega)) | exact and31 (hW.op (by omega)) | exact and31 (by assumption) | exact and31r (hW.ne (by omega)) | exact and31r (hW.gp (by omega)) | exact and31r (by decide)) (fun c_21 => ?_) (fun c_21 => ?_)
    · refine mm_iload d_M_isFit_67 rfl ?_
      exact mm_rz d_M_isFit_68 h
    · refine mm_iload d_M_isFit_24 rfl ?_
      refine mm_if_eqN d_M_isFit_25 (by first | omega | exact ite01_lt | exact bt8_lt31 _ _ | exact godB_lt31 _ _ _ | exact pop_lt31 _ | assumption | exact b31 (hW.gp (by omega)) | exact b31 (hW.ne (by omega)) | exact b31 (hW.op (by omega)) | exact and31 (hW.gp (by omega)) | exact and31 (hW.ne (by omega)) | exact and31 (hW.op (by omega)) | exact and31 (by assumption) | exact and31r (hW.ne (by omega)) | exact and31r (hW.gp (by omega)) | exact and31r (by decide)) (fun c_25 => ?_) (fun c_25 => False.elim (by omega))
      refine mm_iload d_M_isFit_67 rfl ?_
      exact mm_rz d_M_isFit_68 h
  have inn : pop s = 3 → mm_T X 2 0 0 k_M_isFit 16 [some (.ref 71), some (.int (nI s)), some (.int (nI 1)), some (.int (nI 0))] [] μ (fun v μ' => ∃ r, v = some (.int r) ∧ q r μ') := by
    intro h3
    refine mm_up (P := fun i => fitK E s i = true → mm_T X _ 0 0 k_M_isFit 16 [some (.ref 71), some (.int (nI s)), some (.int (nI 1)), some (.int (nI i))] [] μ _) (en E) ?_ (fun i hi ih => ?_) rfl
    · intro hk
      rw [fitI_1 hk h3] at h
      refine mm_iload d_M_isFit_16 rfl ?_
      refine mm_aload d_M_isFit_17 rfl ?_
      refine mm_v0i d_M_isFit_18 (sk_o_71 hM) (sp_M_facts hL ?_)
      refine mm_icmp_geN d_M_isFit_21 (by first | omega | exact ite01_lt | exact bt8_lt31 _ _ | exact godB_lt31 _ _ _ | exact pop_lt31 _ | assumption | exact b31 (hW.gp (by omega)) | exact b31 (hW.ne (by omega)) | exact b31 (hW.op (by omega)) | exact and31 (hW.gp (by omega)) | exact and31 (hW.ne (by omega)) | exact and31 (hW.op (by omega)) | exact and31 (by assumption) | exact and31r (hW.ne (by omega)) | exact and31r (hW.gp (by omega)) | exact and31r (by decide)) (by first | omega | exact ite01_lt | exact bt8_lt31 _ _ | exact godB_lt31 _ _ _ | exact pop_lt31 _ | assumption | exact b31 (hW.gp (by omega)) | exact b31 (hW.ne (by omega)) | exact b31 (hW.op (by omega)) | exact and31 (hW.gp (by omega)) | exact and31 (hW.ne (by omega)) | exact and31 (hW.op (by omega)) | exact and31 (by assumption) | exact and31r (hW.ne (by omega)) | exact and31r (hW.gp (by omega)) | exact and31r (by decide)) (fun c_21 => ?_) (fun c_21 => False.elim (by omega))
      refine mm_iload d_M_isFit_67 rfl ?_
      exact mm_rz d_M_isFit_68 h
    · intro hk
      have hw1 := (hWE.2 i hi).1
      have hw2 := (hWE.2 i hi).2
      refine mm_iload d_M_isFit_16 rfl ?_
      refine mm_aload d_M_isFit_17 rfl ?_
      refine mm_v0i d_M_isFit_18 (sk_o_71 hM) (sp_M_facts hL ?_)
      refine mm_icmp_geN d_M_isFit_21 (by first | omega | exact ite01_lt | exact bt8_lt31 _ _ | exact godB_lt31 _ _ _ | exact pop_lt31 _ | assumption | exact b31 (hW.gp (by omega)) | exact b31 (hW.ne (by omega)) | exact b31 (hW.op (by omega)) | exact and31 (hW.gp (by omega)) | exact and31 (hW.ne (by omega)) | exact and31 (hW.op (by omega)) | exact and31 (by assumption) | exact and31r (hW.ne (by omega)) | exact and31r (hW.gp (by omega)) | exact and31r (by decide)) (by first | omega | exact ite01_lt | exact bt8_lt31 _ _ | exact godB_lt31 _ _ _ | exact pop_lt31 _ | assumption | exact b31 (hW.gp (by omega)) | exact b31 (hW.ne (by omega)) | exact b31 (hW.op (by omega)) | exact and31 (hW.gp (by omega)) | exact and31 (hW.ne (by omega)) | exact and31 (hW.op (by omega)) | exact and31 (by assumption) | exact and31r (hW.ne (by omega)) | exact and31r (hW.gp (by omega)) | exact and31r (by decide)) (fun c_21 => False.elim (by omega)) (fun c_21 => ?_)
      refine mm_iload d_M_isFit_24 rfl ?_
      refine mm_if_eqN d_M_isFit_25 (by first | omega | exact ite01_lt | exact bt8_lt31 _ _ | exact godB_lt31 _ _ _ | exact pop_lt31 _ | assumption | exact b31 (hW.gp (by omega)) | exact b31 (hW.ne (by omega)) | exact b31 (hW.op (by omega)) | exact and31 (hW.gp (by omega)) | exact and31 (hW.ne (by omega)) | exact and31 (hW.op (by omega)) | exact and31 (by assumption) | exact and31r (hW.ne (by omega)) | exact and31r (hW.gp (by omega)) | exact and31r (by decide)) (fun c_25 => False.elim (by omega)) (fun c_25 => ?_)
      refine mm_iload d_M_isFit_28 rfl ?_
      refine mm_aload d_M_isFit_29 rfl ?_
      refine mm_iload d_M_isFit_30 rfl ?_
      refine mm_ciN 1 d_M_isFit_31 rfl ?_
      refine mm_v2i d_M_isFit_32 (sk_o_71 hM) (sp_M_factOf1 hL hi ?_)
      refine mm_s2i d_M_isFit_35 (sp_M_has (by first | omega | assumption | exact hW.gp (by omega) | exact hW.ne (by omega) | exact hW.op (by omega) | exact and_lt256 (hW.gp (by omega)) | exact and_lt256 (hW.ne (by omega)) | exact and_lt256 (hW.op (by omega)) | exact and_lt256 (by assumption)) (by omega) ?_)
      refine mm_aload d_M_isFit_38 rfl ?_
      refine mm_iload d_M_isFit_39 rfl ?_
      refine mm_ciN 0 d_M_isFit_40 rfl ?_
      refine mm_v2i d_M_isFit_41 (sk_o_71 hM) (sp_M_factOf0 hL hi ?_)
      refine mm_if_neN d_M_isFit_44 (by first | omega | exact ite01_lt | exact bt8_lt31 _ _ | exact godB_lt31 _ _ _ | exact pop_lt31 _ | assumption | exact b31 (hW.gp (by omega)) | exact b31 (hW.ne (by omega)) | exact b31 (hW.op (by omega)) | exact and31 (hW.gp (by omega)) | exact and31 (hW.ne (by omega)) | exact and31 (hW.op (by omega)) | exact and31 (by assumption) | exact and31r (hW.ne (by omega)) | exact and31r (hW.gp (by omega)) | exact and31r (by decide)) (fun c_44 => ?_) (fun c_44 => ?_)
      · refine mm_ciN 0 d_M_isFit_51 rfl ?_
        refine mm_icmp_neN d_M_isFit_52 (by first | omega | exact ite01_lt | exact bt8_lt31 _ _ | exact godB_lt31 _ _ _ | exact pop_lt31 _ | assumption | exact b31 (hW.gp (by omega)) | exact b31 (hW.ne (by omega)) | exact b31 (hW.op (by omega)) | exact and31 (hW.gp (by omega)) | exact and31 (hW.ne (by omega)) | exact and31 (hW.op (by omega)) | exact and31 (by assumption) | exact and31r (hW.ne (by omega)) | exact and31r (hW.gp (by omega)) | exact and31r (by decide)) (by first | omega | exact ite01_lt | exact bt8_lt31 _ _ | exact godB_lt31 _ _ _ | exact pop_lt31 _ | assumption | exact b31 (hW.gp (by omega)) | exact b31 (hW.ne (by omega)) | exact b31 (hW.op (by omega)) | exact and31 (hW.gp (by omega)) | exact and31 (hW.ne (by omega)) | exact and31 (hW.op (by omega)) | exact and31 (by assumption) | exact and31r (hW.ne (by omega)) | exact and31r (hW.gp (by omega)) | exact and31r (by decide)) (fun c_52 => ?_) (fun c_52 => ?_)
        · refine mm_ciN 0 d_M_isFit_59 rfl ?_
          refine mm_ist2 d_M_isFit_60 ?_
          refine mm_inc3N d_M_isFit_61 ?_
          refine mm_goto d_M_isFit_64 ?_
          first
            | exact ih (fitK_1 hk (by rw [if_pos c_44]; exact c_52))
            | exact ih (fitK_1 hk (by rw [if_neg c_44]; exact c_52))
            | exact ex0 _ (by omega) (fitI_0 (fitK_0 (E := E) (s := s) (i := i) (by rw [if_pos c_44]; exact c_52)) (by omega))
            | exact ex0 _ (by omega) (fitI_0 (fitK_0 (E := E) (s := s) (i := i) (by rw [if_neg c_44]; exact c_52)) (by omega))
        · refine mm_ciN 1 d_M_isFit_55 rfl ?_
          refine mm_goto d_M_isFit_56 ?_
          refine mm_ist2 d_M_isFit_60 ?_
          refine mm_inc3N d_M_isFit_61 ?_
          refine mm_goto d_M_isFit_64 ?_
          first
            | exact ih (fitK_1 hk (by rw [if_pos c_44]; exact c_52))
            | exact ih (fitK_1 hk (by rw [if_neg c_44]; exact c_52))
            | exact ex0 _ (by omega) (fitI_0 (fitK_0 (E := E) (s := s) (i := i) (by rw [if_pos c_44]; exact c_52)) (by omega))
            | exact ex0 _ (by omega) (fitI_0 (fitK_0 (E := E) (s := s) (i := i) (by rw [if_neg c_44]; exact c_52)) (by omega))
      · refine mm_ciN 1 d_M_isFit_47 rfl ?_
        refine mm_goto d_M_isFit_48 ?_
        refine mm_icmp_neN d_M_isFit_52 (by first | omega | exact ite01_lt | exact bt8_lt31 _ _ | exact godB_lt31 _ _ _ | exact pop_lt31 _ | assumption | exact b31 (hW.gp (by omega)) | exact b31 (hW.ne (by omega)) | exact b31 (hW.op (by omega)) | exact and31 (hW.gp (by omega)) | exact and31 (hW.ne (by omega)) | exact and31 (hW.op (by omega)) | exact and31 (by assumption) | exact and31r (hW.ne (by omega)) | exact and31r (hW.gp (by omega)) | exact and31r (by decide)) (by first | omega | exact ite01_lt | exact bt8_lt31 _ _ | exact godB_lt31 _ _ _ | exact pop_lt31 _ | assumption | exact b31 (hW.gp (by omega)) | exact b31 (hW.ne (by omega)) | exact b31 (hW.op (by omega)) | exact and31 (hW.gp (by omega)) | exact and31 (hW.ne (by omega)) | exact and31 (hW.op (by omega)) | exact and31 (by assumption) | exact and31r (hW.ne (by omega)) | exact and31r (hW.gp (by omega)) | exact and31r (by decide)) (fun c_52 => ?_) (fun c_52 => ?_)
        · refine mm_ciN 0 d_M_isFit_59 rfl ?_
          refine mm_ist2 d_M_isFit_60 ?_
          refine mm_inc3N d_M_isFit_61 ?_
          refine mm_goto d_M_isFit_64 ?_
          first
            | exact ih (fitK_1 hk (by rw [if_pos c_44]; exact c_52))
            | exact ih (fitK_1 hk (by rw [if_neg c_44]; exact c_52))
            | exact ex0 _ (by omega) (fitI_0 (fitK_0 (E := E) (s := s) (i := i) (by rw [if_pos c_44]; exact c_52)) (by omega))
            | exact ex0 _ (by omega) (fitI_0 (fitK_0 (E := E) (s := s) (i := i) (by rw [if_neg c_44]; exact c_52)) (by omega))
        · refine mm_ciN 1 d_M_isFit_55 rfl ?_
          refine mm_goto d_M_isFit_56 ?_
          refine mm_ist2 d_M_isFit_60 ?_
          refine mm_inc3N d_M_isFit_61 ?_
          refine mm_goto d_M_isFit_64 ?_
          first
            | exact ih (fitK_1 hk (by rw [if_pos c_44]; exact c_52))
            | exact ih (fitK_1 hk (by rw [if_neg c_44]; exact c_52))
            | exact ex0 _ (by omega) (fitI_0 (fitK_0 (E := E) (s := s) (i := i) (by rw [if_pos c_44]; exact c_52)) (by omega))
            | exact ex0 _ (by omega) (fitI_0 (fitK_0 (E := E) (s := s) (i := i) (by rw [if_neg c_44]; exact c_52)) (by omega))
  refine mm_iload d_M_isFit_0 rfl ?_
  refine mm_s1i d_M_isFit_1 (sp_M_ones (by first | omega | assumption | exact hW.gp (by omega) | exact hW.ne (by omega) | exact hW.op (by omega) | exact and_lt256 (hW.gp (by omega)) | exact and_lt256 (hW.ne (by omega)) | exact and_lt256 (hW.op (by omega)) | exact and_lt256 (by assumption)) ?_)
  refine mm_ciN 3 d_M_isFit_4 rfl ?_
  refine mm_icmp_neN d_M_isFit_5 (by first | omega | exact ite01_lt | exact bt8_lt31 _ _ | exact godB_lt31 _ _ _ | exact pop_lt31 _ | assumption | exact b31 (hW.gp (by omega)) | exact b31 (hW.ne (by omega)) | exact b31 (hW.op (by omega)) | exact and31 (hW.gp (by omega)) | exact and31 (hW.ne (by omega)) | exact and31 (hW.op (by omega)) | exact and31 (by assumption) | exact and31r (hW.ne (by omega)) | exact and31r (hW.gp (by omega)) | exact and31r (by decide)) (by first | omega | exact ite01_lt | exact bt8_lt31 _ _ | exact godB_lt31 _ _ _ | exact pop_lt31 _ | assumption | exact b31 (hW.gp (by omega)) | exact b31 (hW.ne (by omega)) | exact b31 (hW.op (by omega)) | exact and31 (hW.gp (by omega)) | exact and31 (hW.ne (by omega)) | exact and31 (hW.op (by omega)) | exact and31 (by assumption) | exact and31r (hW.ne (by omega)) | exact and31r (hW.gp (by omega)) | exact and31r (by decide)) (fun c_5 => ?_) (fun c_5 => ?_)
  · refine mm_ciN 0 d_M_isFit_12 rfl ?_
    refine mm_ist2 d_M_isFit_13 ?_
    refine mm_ciN 0 d_M_isFit_14 rfl ?_
    refine mm_ist3 d_M_isFit_15 ?_
    first
      | exact inn c_5
      | exact ex0 0 (by decide) (fitI_p c_5)
  · refine mm_ciN 1 d_M_isFit_8 rfl ?_
    refine mm_goto d_M_isFit_9 ?_
    refine mm_ist2 d_M_isFit_13 ?_
    refine mm_ciN 0 d_M_isFit_14 rfl ?_
    refine mm_ist3 d_M_isFit_15 ?_
    first
      | exact inn c_5
      | exact ex0 0 (by decide) (fitI_p c_5)
def whoK (D : mm_D) (E : mm_E) : Nat → Nat
  | 0 => 0
  | k + 1 => whoK D E k ||| (if fitI E (dgp D k) = 0 then 0 else 2 ^ k)
theorem pair_whose {X : mm_X} {k : Nat} {μ : mm_M} (hJ : JJ k μ) (y1 y2 : Int32) : PairI X (JJ (k + 1)) k_G_whose k_M_whose [.int y1, .int y2] μ := by
  obtain ⟨c, h02, h0, m0, hv⟩ := hJ.coast y1
  obtain ⟨c', h02', h0', m0', hv'⟩ := hJ.log y2
  have hM := hJ.1
  have hw := hJ.2.2.2.up
  rcases hv' with hz | ⟨l, E, hl, rfl, hWE, hLD, hLM⟩
  · refine pairQ (-1) hJ (d := 12) (d' := 4) (by decide) (by decide) ?_ (fun μ1 hf => n_M_whose (hf.2.2.2 hM) (by rw [(hf.2.2.1 76 rfl).1]; exact m0') h02' hz (fun μ' hk => ⟨rfl, hk.fr (hf.2.2.2 hM)⟩))
    rcases hv with hx | ⟨i, D, hi, rfl, hW, hCD, hDM⟩
    · show mm_T X 12 0 0 k_G_whose 0 [some (.ref 0), some (.int y1), some (.int y2), none, none, none, none] [] μ _
      refine mm_aload d_G_whose_0 rfl ?_
      refine mm_getP d_G_whose_1 rfl (sk_o_0 hM) (sk_p_0_0 hM) ?_
      refine mm_iload d_G_whose_4 rfl ?_
      refine mm_v1r d_G_whose_5 (sk_o_1 hM) (sp_To_coastAt0 hM h0 h02 hx ?_)
      refine mm_astN3 d_G_whose_8 ?_
      refine mm_aload d_G_whose_9 rfl ?_
      refine mm_getP d_G_whose_10 rfl (sk_o_0 hM) (sk_p_0_0 hM) ?_
      refine mm_iload d_G_whose_13 rfl ?_
      refine mm_v1r d_G_whose_14 (sk_o_1 hM) (sp_To_logAt0 hM h0' h02' hz ?_)
      refine mm_astN4 d_G_whose_17 ?_
      refine mm_aloadN d_G_whose_19 rfl ?_
      refine mm_ifnullN d_G_whose_20 ?_
      refine mm_ci d_G_whose_28 ?_
      exact mm_ri d_G_whose_29 ⟨rfl, Fr.rf, hw⟩
    · show mm_T X 12 0 0 k_G_whose 0 [some (.ref 0), some (.int (nI i)), some (.int y2), none, none, none, none] [] μ _
      refine mm_aload d_G_whose_0 rfl ?_
      refine mm_getP d_G_whose_1 rfl (sk_o_0 hM) (sk_p_0_0 hM) ?_
      refine mm_iload d_G_whose_4 rfl ?_
      refine mm_v1r d_G_whose_5 (sk_o_1 hM) (sp_To_coastAtI hM h0 h02 hi ?_)
      refine mm_ast3 d_G_whose_8 ?_
      refine mm_aload d_G_whose_9 rfl ?_
      refine mm_getP d_G_whose_10 rfl (sk_o_0 hM) (sk_p_0_0 hM) ?_
      refine mm_iload d_G_whose_13 rfl ?_
      refine mm_v1r d_G_whose_14 (sk_o_1 hM) (sp_To_logAt0 hM h0' h02' hz ?_)
      refine mm_astN4 d_G_whose_17 ?_
      refine mm_aload d_G_whose_19 rfl ?_
      refine mm_ifnull d_G_whose_20 ?_
      refine mm_aloadN d_G_whose_23 rfl ?_
      refine mm_ifnonnullN d_G_whose_25 ?_
      refine mm_ci d_G_whose_28 ?_
      exact mm_ri d_G_whose_29 ⟨rfl, Fr.rf, hw⟩
  · rcases hv with hx | ⟨i, D, hi, rfl, hW, hCD, hDM⟩
    · refine pairQ (-1) hJ (d := 12) (d' := 12) (by decide) (by decide) ?_ (fun μ1 hf => ?_)
      · show mm_T X 12 0 0 k_G_whose 0 [some (.ref 0), some (.int y1), some (.int (nI l)), none, none, none, none] [] μ _
        refine mm_aload d_G_whose_0 rfl ?_
        refine mm_getP d_G_whose_1 rfl (sk_o_0 hM) (sk_p_0_0 hM) ?_
        refine mm_iload d_G_whose_4 rfl ?_
        refine mm_v1r d_G_whose_5 (sk_o_1 hM) (sp_To_coastAt0 hM h0 h02 hx ?_)
        refine mm_astN3 d_G_whose_8 ?_
        refine mm_aload d_G_whose_9 rfl ?_
        refine mm_getP d_G_whose_10 rfl (sk_o_0 hM) (sk_p_0_0 hM) ?_
        refine mm_iload d_G_whose_13 rfl ?_
        refine mm_v1r d_G_whose_14 (sk_o_1 hM) (sp_To_logAtI hM h0' h02' hl ?_)
        refine mm_ast4 d_G_whose_17 ?_
        refine mm_aloadN d_G_whose_19 rfl ?_
        refine mm_ifnullN d_G_whose_20 ?_
        refine mm_ci d_G_whose_28 ?_
        exact mm_ri d_G_whose_29 ⟨rfl, Fr.rf, hw⟩
      · show mm_T X 12 0 0 k_M_whose 0 [some (.ref 71), some (.int y1), some (.int (nI l)), none, none] [] μ1 _
        replace hM := hf.2.2.2 hM
        refine mm_aload d_M_whose_0 rfl ?_
        refine mm_ciN 0 d_M_whose_1 rfl ?_
        refine mm_putI d_M_whose_2 rfl (sk_o_71 hM) (Or.inl rfl) ?_
        refine mm_aload d_M_whose_5 rfl ?_
        refine mm_iload d_M_whose_6 rfl ?_
        refine mm_v1i d_M_whose_7 (sk_o_71 hM) (sp_M_hasLogT hM (by rw [mm_sI_off (by decide), (hf.2.2.1 76 rfl).1]; exact m0') h02' hl ((hLM.frC hf rfl).sI) hWE (fun hL => ?_))
        refine mm_if_eqN d_M_whose_10 (by first | omega | exact ite01_lt | exact bt8_lt31 _ _ | exact godB_lt31 _ _ _ | exact pop_lt31 _ | assumption | exact b31 (hW.gp (by omega)) | exact b31 (hW.ne (by omega)) | exact b31 (hW.op (by omega)) | exact and31 (hW.gp (by omega)) | exact and31 (hW.ne (by omega)) | exact and31 (hW.op (by omega)) | exact and31 (by assumption) | exact and31r (hW.ne (by omega)) | exact and31r (hW.gp (by omega)) | exact and31r (by decide)) (fun c_10 => False.elim (by omega)) (fun c_10 => ?_)
        refine mm_aload d_M_whose_13 rfl ?_
        refine mm_iload d_M_whose_14 rfl ?_
        refine mm_v1i d_M_whose_15 (sk_o_71 hM) (n_M_hand hM (by rw [mm_sI_off (by decide), mm_sI_off (by decide), (hf.2.2.1 76 rfl).1]; exact m0) h02 hx ?_)
        refine mm_if_ne d_M_whose_18 (fun z => absurd rfl z) (fun _ => ?_)
        refine mm_ci d_M_whose_21 ?_
        exact mm_ri d_M_whose_22 ⟨rfl, (Fr.rf.sI rfl).sI rfl⟩
    · have hn6 := hW.1
      refine pairQ (nI (whoK D E (dn D))) hJ (d := 12) (d' := 12) (by decide) (by decide) ?_ (fun μ1 hf => ?_)
      · show mm_T X 12 0 0 k_G_whose 0 [some (.ref 0), some (.int (nI i)), some (.int (nI l)), none, none, none, none] [] μ _
        refine mm_aload d_G_whose_0 rfl ?_
        refine mm_getP d_G_whose_1 rfl (sk_o_0 hM) (sk_p_0_0 hM) ?_
        refine mm_iload d_G_whose_4 rfl ?_
        refine mm_v1r d_G_whose_5 (sk_o_1 hM) (sp_To_coastAtI hM h0 h02 hi ?_)
        refine mm_ast3 d_G_whose_8 ?_
        refine mm_aload d_G_whose_9 rfl ?_
        refine mm_getP d_G_whose_10 rfl (sk_o_0 hM) (sk_p_0_0 hM) ?_
        refine mm_iload d_G_whose_13 rfl ?_
        refine mm_v1r d_G_whose_14 (sk_o_1 hM) (sp_To_logAtI hM h0' h02' hl ?_)
        refine mm_ast4 d_G_whose_17 ?_
        refine mm_aload d_G_whose_19 rfl ?_
        refine mm_ifnull d_G_whose_20 ?_
        refine mm_aload d_G_whose_23 rfl ?_
        refine mm_ifnonnull d_G_whose_25 ?_
        refine mm_ciN 0 d_G_whose_30 rfl ?_
        refine mm_ist5 d_G_whose_31 ?_
        refine mm_ciN 0 d_G_whose_33 rfl ?_
        refine mm_ist6 d_G_whose_34 ?_
        generalize 4 + 7 * i = a at hCD ⊢
        generalize nI i = l1
        refine mm_up (P := fun i => mm_T X _ 0 0 k_G_whose 36 [some (.ref 0), some (.int l1), some (.int (nI l)), some (.ref a), some (.ref (28 + 3 * l)), some (.int (nI (whoK D E i))), some (.int (nI i))] [] μ _) (dn D) ?_ (fun i hi ih => ?_)
        · refine mm_iload d_G_whose_36 rfl ?_
          refine mm_aload d_G_whose_38 rfl ?_
          refine mm_getIN d_G_whose_39 rfl hCD.1.1 hCD.n ?_
          refine mm_icmp_geN d_G_whose_42 (by first | omega | exact ite01_lt | exact bt8_lt31 _ _ | exact godB_lt31 _ _ _ | exact pop_lt31 _ | assumption | exact b31 (hW.gp (by omega)) | exact b31 (hW.ne (by omega)) | exact b31 (hW.op (by omega)) | exact and31 (hW.gp (by omega)) | exact and31 (hW.ne (by omega)) | exact and31 (hW.op (by omega)) | exact and31 (by assumption) | exact and31r (hW.ne (by omega)) | exact and31r (hW.gp (by omega)) | exact and31r (by decide)) (by first | omega | exact ite01_lt | exact bt8_lt31 _ _ | exact godB_lt31 _ _ _ | exact pop_lt31 _ | assumption | exact b31 (hW.gp (by omega)) | exact b31 (hW.ne (by omega)) | exact b31 (hW.op (by omega)) | exact and31 (hW.gp (by omega)) | exact and31 (hW.ne (by omega)) | exact and31 (hW.op (by omega)) | exact and31 (by assumption) | exact and31r (hW.ne (by omega)) | exact and31r (hW.gp (by omega)) | exact and31r (by decide)) (fun c_42 => ?_) (fun c_42 => False.elim (by omega))
          refine mm_iload d_G_whose_75 rfl ?_
          exact mm_ri d_G_whose_77 ⟨rfl, Fr.rf, hw⟩
        · refine mm_iload d_G_whose_36 rfl ?_
          refine mm_aload d_G_whose_38 rfl ?_
          refine mm_getIN d_G_whose_39 rfl hCD.1.1 hCD.n ?_
          have hg := hW.gp (j := i) (by omega)
          have hfi := fitI_lt31 E (dgp D i)
          refine mm_icmp_geN d_G_whose_42 (by first | omega | exact ite01_lt | exact bt8_lt31 _ _ | exact godB_lt31 _ _ _ | exact pop_lt31 _ | assumption | exact b31 (hW.gp (by omega)) | exact b31 (hW.ne (by omega)) | exact b31 (hW.op (by omega)) | exact and31 (hW.gp (by omega)) | exact and31 (hW.ne (by omega)) | exact and31 (hW.op (by omega)) | exact and31 (by assumption) | exact and31r (hW.ne (by omega)) | exact and31r (hW.gp (by omega)) | exact and31r (by decide)) (by first | omega | exact ite01_lt | exact bt8_lt31 _ _ | exact godB_lt31 _ _ _ | exact pop_lt31 _ | assumption | exact b31 (hW.gp (by omega)) | exact b31 (hW.ne (by omega)) | exact b31 (hW.op (by omega)) | exact and31 (hW.gp (by omega)) | exact and31 (hW.ne (by omega)) | exact and31 (hW.op (by omega)) | exact and31 (by assumption) | exact and31r (hW.ne (by omega)) | exact and31r (hW.gp (by omega)) | exact and31r (by decide)) (fun c_42 => False.elim (by omega)) (fun c_42 => ?_)
          refine mm_aload d_G_whose_45 rfl ?_
          refine mm_aload d_G_whose_47 rfl ?_
          refine mm_getP d_G_whose_48 rfl hCD.1.1 (CoS_p3 hCD.1) ?_
          refine mm_iload d_G_whose_51 rfl ?_
          refine mm_ialdN d_G_whose_53 (CoS_a3 hCD.1) (by omega) (by decide) (hCD.f3 (by omega)) ?_
          refine mm_v1i d_G_whose_54 hLD.1.1 (sp_Lo_allows hLD hWE hg ?_)
          refine mm_if_eqN d_G_whose_57 (by first | omega | exact ite01_lt | exact bt8_lt31 _ _ | exact godB_lt31 _ _ _ | exact pop_lt31 _ | assumption | exact b31 (hW.gp (by omega)) | exact b31 (hW.ne (by omega)) | exact b31 (hW.op (by omega)) | exact and31 (hW.gp (by omega)) | exact and31 (hW.ne (by omega)) | exact and31 (hW.op (by omega)) | exact and31 (by assumption) | exact and31r (hW.ne (by omega)) | exact and31r (hW.gp (by omega)) | exact and31r (by decide)) (fun c_57 => ?_) (fun c_57 => ?_)
          · refine mm_inc6N d_G_whose_69 ?_
            refine mm_goto d_G_whose_72 ?_
            first
              | exact ih
              | (have z := ih; simp only [whoK, if_pos c_57] at z; exact z)
              | (have z := ih; simp only [whoK, if_pos c_57, Nat.or_zero, Nat.add_zero] at z; exact z)
              | (have z := ih; simp only [whoK, if_pos c_57, Nat.mul_one] at z; exact z)
              | (have z := ih; simp only [whoK, if_neg c_57] at z; exact z)
              | (have z := ih; simp only [whoK, if_neg c_57, Nat.or_zero, Nat.add_zero] at z; exact z)
              | (have z := ih; simp only [whoK, if_neg c_57, Nat.mul_one] at z; exact z)
              | (have z := ih; simp only [whoK, if_neg (Nat.not_lt.mpr c_57)] at z; exact z)
              | (have z := ih; simp only [whoK, if_neg (Nat.not_lt.mpr c_57), Nat.or_zero, Nat.add_zero] at z; exact z)
              | (have z := ih; simp only [whoK, if_neg (Nat.not_lt.mpr c_57), Nat.mul_one] at z; exact z)
              | (have z := ih; simp only [whoK, if_neg (Nat.not_le.mpr c_57)] at z; exact z)
              | (have z := ih; simp only [whoK, if_neg (Nat.not_le.mpr c_57), Nat.or_zero, Nat.add_zero] at z; exact z)
              | (have z := ih; simp only [whoK, if_neg (Nat.not_le.mpr c_57), Nat.mul_one] at z; exact z)
          · refine mm_iload d_G_whose_60 rfl ?_
            refine mm_ciN 1 d_G_whose_62 rfl ?_
            refine mm_iload d_G_whose_63 rfl ?_
            refine mm_ishl1N d_G_whose_65 (by omega) ?_
            refine mm_iorN d_G_whose_66 ?_
            refine mm_ist5 d_G_whose_67 ?_
            refine mm_inc6N d_G_whose_69 ?_
            refine mm_goto d_G_whose_72 ?_
            first
              | exact ih
              | (have z := ih; simp only [whoK, if_pos c_57] at z; exact z)
              | (have z := ih; simp only [whoK, if_pos c_57, Nat.or_zero, Nat.add_zero] at z; exact z)
              | (have z := ih; simp only [whoK, if_pos c_57, Nat.mul_one] at z; exact z)
              | (have z := ih; simp only [whoK, if_neg c_57] at z; exact z)
              | (have z := ih; simp only [whoK, if_neg c_57, Nat.or_zero, Nat.add_zero] at z; exact z)
              | (have z := ih; simp only [whoK, if_neg c_57, Nat.mul_one] at z; exact z)
              | (have z := ih; simp only [whoK, if_neg (Nat.not_lt.mpr c_57)] at z; exact z)
              | (have z := ih; simp only [whoK, if_neg (Nat.not_lt.mpr c_57), Nat.or_zero, Nat.add_zero] at z; exact z)
              | (have z := ih; simp only [whoK, if_neg (Nat.not_lt.mpr c_57), Nat.mul_one] at z; exact z)
              | (have z := ih; simp only [whoK, if_neg (Nat.not_le.mpr c_57)] at z; exact z)
              | (have z := ih; simp only [whoK, if_neg (Nat.not_le.mpr c_57), Nat.or_zero, Nat.add_zero] at z; exact z)
              | (have z := ih; simp only [whoK, if_neg (Nat.not_le.mpr c_57), Nat.mul_one] at z; exact z)
      · show mm_T X 12 0 0 k_M_whose 0 [some (.ref 71), some (.int (nI i)), some (.int (nI l)), none, none] [] μ1 _
        replace hM := hf.2.2.2 hM
        replace hDM := hDM.frC hf
        refine mm_aload d_M_whose_0 rfl ?_
        refine mm_ciN 0 d_M_whose_1 rfl ?_
        refine mm_putI d_M_whose_2 rfl (sk_o_71 hM) (Or.inl rfl) ?_
        refine mm_aload d_M_whose_5 rfl ?_
        refine mm_iload d_M_whose_6 rfl ?_
        refine mm_v1i d_M_whose_7 (sk_o_71 hM) (sp_M_hasLogT hM (by rw [mm_sI_off (by decide), (hf.2.2.1 76 rfl).1]; exact m0') h02' hl ((hLM.frC hf rfl).sI) hWE (fun hL => ?_))
        refine mm_if_eqN d_M_whose_10 (by first | omega | exact ite01_lt | exact bt8_lt31 _ _ | exact godB_lt31 _ _ _ | exact pop_lt31 _ | assumption | exact b31 (hW.gp (by omega)) | exact b31 (hW.ne (by omega)) | exact b31 (hW.op (by omega)) | exact and31 (hW.gp (by omega)) | exact and31 (hW.ne (by omega)) | exact and31 (hW.op (by omega)) | exact and31 (by assumption) | exact and31r (hW.ne (by omega)) | exact and31r (hW.gp (by omega)) | exact and31r (by decide)) (fun c_10 => False.elim (by omega)) (fun c_10 => ?_)
        refine mm_aload d_M_whose_13 rfl ?_
        refine mm_iload d_M_whose_14 rfl ?_
        refine mm_v1i d_M_whose_15 (sk_o_71 hM) (sp_M_handK hM (by rw [mm_sI_off (by decide), mm_sI_off (by decide), (hf.2.2.1 76 rfl).1]; exact m0) h02 hi ((hDM.eq (mm_sI_off (by decide))).eq (mm_sI_off (by decide))) hW (fun μ2 g1 hH hZ g41 => ?_))
        replace hM := hH.1
        replace hL : HL μ2 l E := ⟨hM, hL.2.1, (g41 41 (by decide)).trans hL.2.2.1, hL.2.2.2.1.frC g1 rfl, hWE⟩
        refine mm_if_neN d_M_whose_18 (by first | omega | exact ite01_lt | exact bt8_lt31 _ _ | exact godB_lt31 _ _ _ | exact pop_lt31 _ | assumption | exact b31 (hW.gp (by omega)) | exact b31 (hW.ne (by omega)) | exact b31 (hW.op (by omega)) | exact and31 (hW.gp (by omega)) | exact and31 (hW.ne (by omega)) | exact and31 (hW.op (by omega)) | exact and31 (by assumption) | exact and31r (hW.ne (by omega)) | exact and31r (hW.gp (by omega)) | exact and31r (by decide)) (fun c_18 => ?_) (fun c_18 => False.elim (by omega))
        refine mm_ciN 0 d_M_whose_23 rfl ?_
        refine mm_ist3 d_M_whose_24 ?_
        refine mm_ciN 0 d_M_whose_25 rfl ?_
        refine mm_ist4 d_M_whose_26 ?_
        have gf : Fr scM μ1 μ2 := ((Fr.rf.sI rfl).sI rfl).trans g1
        generalize nI i = l1
        refine mm_up (P := fun i => mm_T X _ 0 0 k_M_whose 28 [some (.ref 71), some (.int l1), some (.int (nI l)), some (.int (nI (whoK D E i))), some (.int (nI i))] [] μ2 _) (dn D) ?_ (fun i hi ih => ?_)
        · refine mm_iload d_M_whose_28 rfl ?_
          refine mm_aload d_M_whose_30 rfl ?_
          refine mm_getIN d_M_whose_31 rfl (sk_o_71 hM) hH.n ?_
          refine mm_icmp_geN d_M_whose_34 (by first | omega | exact ite01_lt | exact bt8_lt31 _ _ | exact godB_lt31 _ _ _ | exact pop_lt31 _ | assumption | exact b31 (hW.gp (by omega)) | exact b31 (hW.ne (by omega)) | exact b31 (hW.op (by omega)) | exact and31 (hW.gp (by omega)) | exact and31 (hW.ne (by omega)) | exact and31 (hW.op (by omega)) | exact and31 (by assumption) | exact and31r (hW.ne (by omega)) | exact and31r (hW.gp (by omega)) | exact and31r (by decide)) (by first | omega | exact ite01_lt | exact bt8_lt31 _ _ | exact godB_lt31 _ _ _ | exact pop_lt31 _ | assumption | exact b31 (hW.gp (by omega)) | exact b31 (hW.ne (by omega)) | exact b31 (hW.op (by omega)) | exact and31 (hW.gp (by omega)) | exact and31 (hW.ne (by omega)) | exact and31 (hW.op (by omega)) | exact and31 (by assumption) | exact and31r (hW.ne (by omega)) | exact and31r (hW.gp (by omega)) | exact and31r (by decide)) (fun c_34 => ?_) (fun c_34 => False.elim (by omega))
          refine mm_iload d_M_whose_67 rfl ?_
          exact mm_ri d_M_whose_68 ⟨rfl, gf⟩
        · refine mm_iload d_M_whose_28 rfl ?_
          refine mm_aload d_M_whose_30 rfl ?_
          refine mm_getIN d_M_whose_31 rfl (sk_o_71 hM) hH.n ?_
          have hg := hW.gp (j := i) (by omega)
          have hfi := fitI_lt31 E (dgp D i)
          refine mm_icmp_geN d_M_whose_34 (by first | omega | exact ite01_lt | exact bt8_lt31 _ _ | exact godB_lt31 _ _ _ | exact pop_lt31 _ | assumption | exact b31 (hW.gp (by omega)) | exact b31 (hW.ne (by omega)) | exact b31 (hW.op (by omega)) | exact and31 (hW.gp (by omega)) | exact and31 (hW.ne (by omega)) | exact and31 (hW.op (by omega)) | exact and31 (by assumption) | exact and31r (hW.ne (by omega)) | exact and31r (hW.gp (by omega)) | exact and31r (by decide)) (by first | omega | exact ite01_lt | exact bt8_lt31 _ _ | exact godB_lt31 _ _ _ | exact pop_lt31 _ | assumption | exact b31 (hW.gp (by omega)) | exact b31 (hW.ne (by omega)) | exact b31 (hW.op (by omega)) | exact and31 (hW.gp (by omega)) | exact and31 (hW.ne (by omega)) | exact and31 (hW.op (by omega)) | exact and31 (by assumption) | exact and31r (hW.ne (by omega)) | exact and31r (hW.gp (by omega)) | exact and31r (by decide)) (fun c_34 => False.elim (by omega)) (fun c_34 => ?_)
          refine mm_iload d_M_whose_37 rfl ?_
          refine mm_aload d_M_whose_38 rfl ?_
          refine mm_aload d_M_whose_39 rfl ?_
          refine mm_iload d_M_whose_40 rfl ?_
          refine mm_v1i d_M_whose_42 (sk_o_71 hM) (sp_M_gods hH (by omega) ?_)
          refine mm_v1i d_M_whose_45 (sk_o_71 hM) (sp_M_isFit hL hg ?_)
          refine mm_if_eqN d_M_whose_48 (by first | omega | exact ite01_lt | exact bt8_lt31 _ _ | exact godB_lt31 _ _ _ | exact pop_lt31 _ | assumption | exact b31 (hW.gp (by omega)) | exact b31 (hW.ne (by omega)) | exact b31 (hW.op (by omega)) | exact and31 (hW.gp (by omega)) | exact and31 (hW.ne (by omega)) | exact and31 (hW.op (by omega)) | exact and31 (by assumption) | exact and31r (hW.ne (by omega)) | exact and31r (hW.gp (by omega)) | exact and31r (by decide)) (fun c_48 => ?_) (fun c_48 => ?_)
          · refine mm_ciN 0 d_M_whose_58 rfl ?_
            refine mm_iorN d_M_whose_59 ?_
            refine mm_ist3 d_M_whose_60 ?_
            refine mm_inc4N d_M_whose_61 ?_
            refine mm_goto d_M_whose_64 ?_
            first
              | exact ih
              | (have z := ih; simp only [whoK, if_pos c_48] at z; exact z)
              | (have z := ih; simp only [whoK, if_pos c_48, Nat.or_zero, Nat.add_zero] at z; exact z)
              | (have z := ih; simp only [whoK, if_pos c_48, Nat.mul_one] at z; exact z)
              | (have z := ih; simp only [whoK, if_neg c_48] at z; exact z)
              | (have z := ih; simp only [whoK, if_neg c_48, Nat.or_zero, Nat.add_zero] at z; exact z)
              | (have z := ih; simp only [whoK, if_neg c_48, Nat.mul_one] at z; exact z)
              | (have z := ih; simp only [whoK, if_neg (Nat.not_lt.mpr c_48)] at z; exact z)
              | (have z := ih; simp only [whoK, if_neg (Nat.not_lt.mpr c_48), Nat.or_zero, Nat.add_zero] at z; exact z)
              | (have z := ih; simp only [whoK, if_neg (Nat.not_lt.mpr c_48), Nat.mul_one] at z; exact z)
              | (have z := ih; simp only [whoK, if_neg (Nat.not_le.mpr c_48)] at z; exact z)
              | (have z := ih; simp only [whoK, if_neg (Nat.not_le.mpr c_48), Nat.or_zero, Nat.add_zero] at z; exact z)
              | (have z := ih; simp only [whoK, if_neg (Nat.not_le.mpr c_48), Nat.mul_one] at z; exact z)
          · refine mm_ciN 1 d_M_whose_51 rfl ?_
            refine mm_iload d_M_whose_52 rfl ?_
            refine mm_ishl1N d_M_whose_54 (by omega) ?_
            refine mm_goto d_M_whose_55 ?_
            refine mm_iorN d_M_whose_59 ?_
            refine mm_ist3 d_M_whose_60 ?_
            refine mm_inc4N d_M_whose_61 ?_
            refine mm_goto d_M_whose_64 ?_
            first
              | exact ih
              | (have z := ih; simp only [whoK, if_pos c_48] at z; exact z)
              | (have z := ih; simp only [whoK, if_pos c_48, Nat.or_zero, Nat.add_zero] at z; exact z)
              | (have z := ih; simp only [whoK, if_pos c_48, Nat.mul_one] at z; exact z)
              | (have z := ih; simp only [whoK, if_neg c_48] at z; exact z)
              | (have z := ih; simp only [whoK, if_neg c_48, Nat.or_zero, Nat.add_zero] at z; exact z)
              | (have z := ih; simp only [whoK, if_neg c_48, Nat.mul_one] at z; exact z)
              | (have z := ih; simp only [whoK, if_neg (Nat.not_lt.mpr c_48)] at z; exact z)
              | (have z := ih; simp only [whoK, if_neg (Nat.not_lt.mpr c_48), Nat.or_zero, Nat.add_zero] at z; exact z)
              | (have z := ih; simp only [whoK, if_neg (Nat.not_lt.mpr c_48), Nat.mul_one] at z; exact z)
              | (have z := ih; simp only [whoK, if_neg (Nat.not_le.mpr c_48)] at z; exact z)
              | (have z := ih; simp only [whoK, if_neg (Nat.not_le.mpr c_48), Nat.or_zero, Nat.add_zero] at z; exact z)
              | (have z := ih; simp only [whoK, if_neg (Nat.not_le.mpr c_48), Nat.mul_one] at z; exact z)
