/-! pairs: plan -/
theorem hbF_all {D : mm_D} : ∀ m h s, ∃ x, hbF D ou0 m h s = some x
  | 0, h, _ => ⟨h, rfl⟩
  | m + 1, h, s => by
    unfold hbF
    split
    · exact hbF_all m h s
    · rw [if_pos (show ou0 (dn D - (m + 1)) = 0 from rfl)]; exact hbF_all m _ s
def hx (D : mm_D) (r : Nat) : Nat := (hbF D ou0 (dn D) 0 r).getD 0
theorem hx_s {D : mm_D} (r : Nat) : hbF D ou0 (dn D) 0 r = some (hx D r) := by
  obtain ⟨x, e⟩ := hbF_all (D := D) (dn D) 0 r
  unfold hx
  rw [e]
  rfl
theorem hx_lt {D : mm_D} (hW : WfD D) (r : Nat) : hx D r < 256 := hbF_lt hW _ _ _ _ (Nat.le_refl _) (by decide) (hx_s r)
def rs (D : mm_D) (r : Nat) : Nat := readyN D (hx D r)
def pK (D : mm_D) : Nat → Nat → Bool
  | 0, _ => false
  | k + 1, s => pK D k s || decide (rs D k = s)
theorem pK_ne {D : mm_D} {k s : Nat} (h : s ≠ rs D k) : pK D (k + 1) s = pK D k s := by
  show (pK D k s || decide (rs D k = s)) = _
  rw [decide_eq_false (fun w => h w.symm), Bool.or_false]
theorem pK_eq {D : mm_D} {k s : Nat} (h : s = rs D k) : pK D (k + 1) s = true := by
  show (pK D k s || decide (rs D k = s)) = _
  rw [decide_eq_true h.symm, Bool.or_true]
theorem pK_i {D : mm_D} {s : Nat} : ∀ k, pK D k s = true ↔ ∃ r, r < k ∧ rs D r = s
  | 0 => ⟨fun z => (by cases z), fun ⟨r, h, _⟩ => absurd h (Nat.not_lt_zero r)⟩
  | k + 1 => by
    unfold pK
    rw [Bool.or_eq_true, pK_i k, decide_eq_true_iff]
    constructor
    · rintro (⟨r, a, b⟩ | a)
      · exact ⟨r, by omega, b⟩
      · exact ⟨k, by omega, a⟩
    · rintro ⟨r, a, b⟩
      by_cases e : r = k
      · subst e; exact Or.inr b
      · exact Or.inl ⟨r, by omega, b⟩
def alK (D : mm_D) : Nat → Nat
  | 0 => 0
  | k + 1 => alK D k ||| rs D k
theorem alK_lt {D : mm_D} (hW : WfD D) : ∀ k, alK D k < 64
  | 0 => show (0 : Nat) < 64 by decide
  | k + 1 => or_lt64 (alK_lt hW k) (readyN_lt hW _)
theorem alK_t {D : mm_D} {t : Nat} : ∀ k, (alK D k).testBit t = true ↔ ∃ r, r < k ∧ (rs D r).testBit t = true
  | 0 => by
    show (0 : Nat).testBit t = true ↔ _
    rw [Nat.zero_testBit]
    exact ⟨fun z => (by cases z), fun ⟨s, h, _⟩ => absurd h (Nat.not_lt_zero s)⟩
  | k + 1 => by
    show (alK D k ||| rs D k).testBit t = true ↔ _
    rw [Nat.testBit_or, Bool.or_eq_true, alK_t k]
    constructor
    · rintro (⟨s, a, b⟩ | z)
      · exact ⟨s, by omega, b⟩
      · exact ⟨k, by omega, z⟩
    · rintro ⟨s, a, b⟩
      by_cases e : s = k
      · subst e; exact Or.inr b
      · exact Or.inl ⟨s, by omega, b⟩
def p0 (D : mm_D) : Nat → Bool := pK D (4 ^ dn D)
theorem al_un {D : mm_D} (hW : WfD D) : alK D (4 ^ dn D) = unF (p0 D) 64 := by
  apply Nat.eq_of_testBit_eq
  intro t
  have h : (alK D (4 ^ dn D)).testBit t = true ↔ (unF (p0 D) 64).testBit t = true := by
    rw [alK_t, unF_t]
    constructor
    · rintro ⟨r, a, b⟩
      exact ⟨rs D r, readyN_lt hW _, (pK_i _).mpr ⟨r, a, rfl⟩, b⟩
    · rintro ⟨s, -, b, d⟩
      obtain ⟨r, r1, r2⟩ := (pK_i _).mp b
      exact ⟨r, r1, by rw [r2]; exact d⟩
  cases a : (alK D (4 ^ dn D)).testBit t with
  | true => exact (h.mp a).symm
  | false =>
    cases b : (unF (p0 D) 64).testBit t with
    | true => rw [h.mpr b] at a; cases a
    | false => rfl
theorem p0_lb {D : mm_D} (hW : WfD D) {y : Int64} (h : ∀ t, t < 64 → (lb y t = true ↔ ∃ x, x < 256 ∧ (∃ s, s < 4 ^ dn D ∧ hbF D ou0 (dn D) 0 s = some x) ∧ readyN D x = t)) : ∀ s, s < 64 → lb y s = p0 D s := by
  intro t ht
  have : lb y t = true ↔ p0 D t = true := by
    rw [h t ht]
    unfold p0
    rw [pK_i]
    constructor
    · rintro ⟨x, -, ⟨s, s1, s2⟩, e⟩
      refine ⟨s, s1, ?_⟩
      have := hx_s (D := D) s
      rw [s2] at this
      unfold rs
      rw [← Option.some.inj this]
      exact e
    · rintro ⟨r, r1, r2⟩
      exact ⟨hx D r, hx_lt hW r, ⟨r, r1, hx_s r⟩, r2⟩
  cases a : lb y t with
  | true => exact (this.mp a).symm
  | false =>
    cases b : p0 D t with
    | true => rw [this.mpr b] at a; cases a
    | false => rfl
theorem sp_M_doable {X : mm_X} {μ : mm_M} {q : Int32 → mm_M → Prop} {k : Nat} {D : mm_D} (hH : Hd μ k D) (h : ∀ ν, Fr scM μ ν → Hd ν k D → (∀ s, s < 64 → mm_I ν 92 s = nI (if p0 D s = true then 1 else 0)) → q (nI (alK D (4 ^ dn D))) ν) : mm_Ci X 4 0 0 k_M_doable [.ref 71] μ q := by
  show mm_T X 4 0 0 k_M_doable 0 [some (.ref 71), none, none, none] [] μ _
  have hW := hH.wf
  have hn6 := hW.1
  have h46 : 4 ^ dn D ≤ 4096 := Nat.pow_le_pow_right (n := 4) (by decide) hn6
  have rows : ∀ (ν : mm_M) (l3 : Option Value), Fr scM μ ν → Hd ν k D → (∀ s, s < 64 → mm_I ν 92 s = nI (if pK D 0 s = true then 1 else 0)) → mm_T X 4 0 0 k_M_doable 25 [some (.ref 71), some (.int (nI (alK D 0))), some (.int (nI 0)), l3] [] ν (fun v μ' => ∃ r, v = some (.int r) ∧ q r μ') := by
    refine mm_up (P := fun i => ∀ (ν : mm_M) (l3 : Option Value), Fr scM μ ν → Hd ν k D → (∀ s, s < 64 → mm_I ν 92 s = nI (if pK D i s = true then 1 else 0)) → mm_T X 4 0 0 k_M_doable 25 [some (.ref 71), some (.int (nI (alK D i))), some (.int (nI i)), l3] [] ν (fun v μ' => ∃ r, v = some (.int r) ∧ q r μ')) (4 ^ dn D) ?_ ?_
    · intro ν l3 hf hH e
      have hM := hH.1
      refine mm_iload d_M_doable_25 rfl ?_
      refine mm_aload d_M_doable_26 rfl ?_
      refine mm_getIN d_M_doable_27 rfl (sk_o_71 hM) hH.n ?_
      refine mm_s1i d_M_doable_30 (sp_M_fours hn6 ?_)
      refine mm_icmp_geN d_M_doable_33 (by first | omega | exact ite01_lt | exact bt8_lt31 _ _ | exact godB_lt31 _ _ _ | exact pop_lt31 _ | assumption | exact b31 (hW.gp (by omega)) | exact b31 (hW.ne (by omega)) | exact b31 (hW.op (by omega)) | exact and31 (hW.gp (by omega)) | exact and31 (hW.ne (by omega)) | exact and31 (hW.op (by omega)) | exact and31 (by assumption) | exact and31r (hW.ne (by omega)) | exact and31r (hW.gp (by omega)) | exact and31r (by decide)) (by first | omega | exact ite01_lt | exact bt8_lt31 _ _ | exact godB_lt31 _ _ _ | exact pop_lt31 _ | assumption | exact b31 (hW.gp (by omega)) | exact b31 (hW.ne (by omega)) | exact b31 (hW.op (by omega)) | exact and31 (hW.gp (by omega)) | exact and31 (hW.ne (by omega)) | exact and31 (hW.op (by omega)) | exact and31 (by assumption) | exact and31r (hW.ne (by omega)) | exact and31r (hW.gp (by omega)) | exact and31r (by decide)) (fun c_33 => ?_) (fun c_33 => False.elim (by omega))
      refine mm_iload d_M_doable_64 rfl ?_
      exact mm_ri d_M_doable_65 (h ν hf hH e)
    · intro i hi IH ν l3 hf hH e
      have hM := hH.1
      have hr : rs D i < 64 := readyN_lt hW _
      have hx0 := hx_s (D := D) i
      refine mm_iload d_M_doable_25 rfl ?_
      refine mm_aload d_M_doable_26 rfl ?_
      refine mm_getIN d_M_doable_27 rfl (sk_o_71 hM) hH.n ?_
      refine mm_s1i d_M_doable_30 (sp_M_fours hn6 ?_)
      refine mm_icmp_geN d_M_doable_33 (by first | omega | exact ite01_lt | exact bt8_lt31 _ _ | exact godB_lt31 _ _ _ | exact pop_lt31 _ | assumption | exact b31 (hW.gp (by omega)) | exact b31 (hW.ne (by omega)) | exact b31 (hW.op (by omega)) | exact and31 (hW.gp (by omega)) | exact and31 (hW.ne (by omega)) | exact and31 (hW.op (by omega)) | exact and31 (by assumption) | exact and31r (hW.ne (by omega)) | exact and31r (hW.gp (by omega)) | exact and31r (by decide)) (by first | omega | exact ite01_lt | exact bt8_lt31 _ _ | exact godB_lt31 _ _ _ | exact pop_lt31 _ | assumption | exact b31 (hW.gp (by omega)) | exact b31 (hW.ne (by omega)) | exact b31 (hW.op (by omega)) | exact and31 (hW.gp (by omega)) | exact and31 (hW.ne (by omega)) | exact and31 (hW.op (by omega)) | exact and31 (by assumption) | exact and31r (hW.ne (by omega)) | exact and31r (hW.gp (by omega)) | exact and31r (by decide)) (fun c_33 => False.elim (by omega)) (fun c_33 => ?_)
      refine mm_aload d_M_doable_36 rfl ?_
      refine mm_aload d_M_doable_37 rfl ?_
      refine mm_iload d_M_doable_38 rfl ?_
      refine mm_ciN 0 d_M_doable_39 rfl ?_
      refine mm_v2i d_M_doable_40 (sk_o_71 hM) (sp_M_hereBy (ou := ou0) hH (by omega) (fun c _ => bt8_0 c) (by decide) ?_)
      rw [hx0, oQ_s]
      refine mm_v1i d_M_doable_43 (sk_o_71 hM) (sp_M_readyBy hH ?_)
      rw [show readyN D (hx D i) = rs D i from rfl]
      refine mm_ist3 d_M_doable_46 ?_
      refine mm_aload d_M_doable_47 rfl ?_
      refine mm_getP d_M_doable_48 rfl (sk_o_71 hM) (sk_p_71_48 hM) ?_
      refine mm_iload d_M_doable_51 rfl ?_
      refine mm_ciN 1 d_M_doable_52 rfl ?_
      refine mm_zastX d_M_doable_53 (sk_a_92 hM) (by omega) (by decide) (Or.inr rfl) ?_
      refine mm_iload d_M_doable_54 rfl ?_
      refine mm_iload d_M_doable_55 rfl ?_
      refine mm_iorN d_M_doable_56 ?_
      refine mm_ist1 d_M_doable_57 ?_
      refine mm_inc2N d_M_doable_58 ?_
      refine mm_goto d_M_doable_61 ?_
      exact IH _ _ (hf.sI rfl) (hH.sI (by decide) (by decide)) (fun s hs => by rw [mm_I_sI]; by_cases z : s = rs D i; (rw [if_pos ⟨rfl, z⟩, if_pos (pK_eq z)]); (rw [if_neg (fun w => z w.2), e s hs, pK_ne z]))
  refine mm_ciN 0 d_M_doable_0 rfl ?_
  refine mm_ist1 d_M_doable_1 ?_
  refine mm_ciN 0 d_M_doable_2 rfl ?_
  refine mm_ist2 d_M_doable_3 ?_
  refine mm_up (P := fun i => ∀ (ν : mm_M), (Fr scM μ ν ∧ Hd ν k D ∧ ∀ s, s < i → mm_I ν 92 s = nI 0) → mm_T X 4 0 0 k_M_doable 4 [some (.ref 71), some (.int (nI 0)), some (.int (nI i)), none] [] ν (fun v μ' => ∃ r, v = some (.int r) ∧ q r μ')) 64 ?_ ?_ μ ⟨Fr.rf, hH, fun s hs => absurd hs (Nat.not_lt_zero s)⟩
  · rintro ν ⟨hf, hH, e⟩
    have hM := hH.1
    refine mm_iload d_M_doable_4 rfl ?_
    refine mm_ciN 64 d_M_doable_5 rfl ?_
    refine mm_icmp_geN d_M_doable_7 (by first | omega | exact ite01_lt | exact bt8_lt31 _ _ | exact godB_lt31 _ _ _ | exact pop_lt31 _ | assumption | exact b31 (hW.gp (by omega)) | exact b31 (hW.ne (by omega)) | exact b31 (hW.op (by omega)) | exact and31 (hW.gp (by omega)) | exact and31 (hW.ne (by omega)) | exact and31 (hW.op (by omega)) | exact and31 (by assumption) | exact and31r (hW.ne (by omega)) | exact and31r (hW.gp (by omega)) | exact and31r (by decide)) (by first | omega | exact ite01_lt | exact bt8_lt31 _ _ | exact godB_lt31 _ _ _ | exact pop_lt31 _ | assumption | exact b31 (hW.gp (by omega)) | exact b31 (hW.ne (by omega)) | exact b31 (hW.op (by omega)) | exact and31 (hW.gp (by omega)) | exact and31 (hW.ne (by omega)) | exact and31 (hW.op (by omega)) | exact and31 (by assumption) | exact and31r (hW.ne (by omega)) | exact and31r (hW.gp (by omega)) | exact and31r (by decide)) (fun c_7 => ?_) (fun c_7 => False.elim (by omega))
    refine mm_ciN 0 d_M_doable_23 rfl ?_
    refine mm_ist2 d_M_doable_24 ?_
    exact rows ν _ hf hH (fun s hs => e s hs)
  · rintro i hi IH ν ⟨hf, hH, e⟩
    have hM := hH.1
    refine mm_iload d_M_doable_4 rfl ?_
    refine mm_ciN 64 d_M_doable_5 rfl ?_
    refine mm_icmp_geN d_M_doable_7 (by first | omega | exact ite01_lt | exact bt8_lt31 _ _ | exact godB_lt31 _ _ _ | exact pop_lt31 _ | assumption | exact b31 (hW.gp (by omega)) | exact b31 (hW.ne (by omega)) | exact b31 (hW.op (by omega)) | exact and31 (hW.gp (by omega)) | exact and31 (hW.ne (by omega)) | exact and31 (hW.op (by omega)) | exact and31 (by assumption) | exact and31r (hW.ne (by omega)) | exact and31r (hW.gp (by omega)) | exact and31r (by decide)) (by first | omega | exact ite01_lt | exact bt8_lt31 _ _ | exact godB_lt31 _ _ _ | exact pop_lt31 _ | assumption | exact b31 (hW.gp (by omega)) | exact b31 (hW.ne (by omega)) | exact b31 (hW.op (by omega)) | exact and31 (hW.gp (by omega)) | exact and31 (hW.ne (by omega)) | exact and31 (hW.op (by omega)) | exact and31 (by assumption) | exact and31r (hW.ne (by omega)) | exact and31r (hW.gp (by omega)) | exact and31r (by decide)) (fun c_7 => False.elim (by omega)) (fun c_7 => ?_)
    refine mm_aload d_M_doable_10 rfl ?_
    refine mm_getP d_M_doable_11 rfl (sk_o_71 hM) (sk_p_71_48 hM) ?_
    refine mm_iload d_M_doable_14 rfl ?_
    refine mm_ciN 0 d_M_doable_15 rfl ?_
    refine mm_zastX d_M_doable_16 (sk_a_92 hM) (by omega) (by decide) (Or.inl rfl) ?_
    refine mm_inc2N d_M_doable_17 ?_
    refine mm_goto d_M_doable_20 ?_
    exact IH _ ⟨hf.sI rfl, hH.sI (by decide) (by decide), fun s hs => by rw [mm_I_sI]; by_cases z : s = i; (rw [if_pos ⟨rfl, z⟩]); (rw [if_neg (fun w => z w.2)]; exact e s (by omega))⟩
theorem sp_M_planDays {X : mm_X} {μ : mm_M} {q : Int32 → mm_M → Prop} {all : Nat} {p : Nat → Bool} (hM : SK μ) (ha : all < 64) (hp : ∀ s, s < 64 → mm_I μ 92 s = nI (if p s = true then 1 else 0)) (h : ∀ ν f, Fr scM μ ν → NdI p 64 0 f → q (nI (f all)) ν) : mm_Ci X 1 0 0 k_M_planDays [.ref 71, .int (nI all)] μ q := by
  show mm_T X 1 0 0 k_M_planDays 0 [some (.ref 71), some (.int (nI all)), none, none] [] μ _
  have main : ∀ (ν : mm_M) (l3 : Option Value) (f : Nat → Nat), Fr scM μ ν → mm_I ν 92 = mm_I μ 92 → (∀ t, t < 64 → mm_I ν 93 t = nI (f t)) → NdI p 0 0 f → mm_T X 1 0 0 k_M_planDays 33 [some (.ref 71), some (.int (nI all)), some (.int (nI 0)), l3] [] ν (fun v μ' => ∃ r, v = some (.int r) ∧ q r μ') := by
    refine mm_up (P := fun i => ∀ (ν : mm_M) (l3 : Option Value) (f : Nat → Nat), Fr scM μ ν → mm_I ν 92 = mm_I μ 92 → (∀ t, t < 64 → mm_I ν 93 t = nI (f t)) → NdI p i 0 f → mm_T X 1 0 0 k_M_planDays 33 [some (.ref 71), some (.int (nI all)), some (.int (nI i)), l3] [] ν (fun v μ' => ∃ r, v = some (.int r) ∧ q r μ')) 64 ?_ ?_
    · intro ν l3 f hf e92 e hN
      have hM := hf.2.2.2 hM
      refine mm_iload d_M_planDays_33 rfl ?_
      refine mm_ciN 64 d_M_planDays_34 rfl ?_
      refine mm_icmp_geN d_M_planDays_36 (by first | omega | exact ite01_lt | exact bt8_lt31 _ _ | exact godB_lt31 _ _ _ | exact pop_lt31 _ | assumption | exact b31 (hW.gp (by omega)) | exact b31 (hW.ne (by omega)) | exact b31 (hW.op (by omega)) | exact and31 (hW.gp (by omega)) | exact and31 (hW.ne (by omega)) | exact and31 (hW.op (by omega)) | exact and31 (by assumption) | exact and31r (hW.ne (by omega)) | exact and31r (hW.gp (by omega)) | exact and31r (by decide)) (by first | omega | exact ite01_lt | exact bt8_lt31 _ _ | exact godB_lt31 _ _ _ | exact pop_lt31 _ | assumption | exact b31 (hW.gp (by omega)) | exact b31 (hW.ne (by omega)) | exact b31 (hW.op (by omega)) | exact and31 (hW.gp (by omega)) | exact and31 (hW.ne (by omega)) | exact and31 (hW.op (by omega)) | exact and31 (by assumption) | exact and31r (hW.ne (by omega)) | exact and31r (hW.gp (by omega)) | exact and31r (by decide)) (fun c_36 => ?_) (fun c_36 => False.elim (by omega))
      refine mm_aload d_M_planDays_106 rfl ?_
      refine mm_getP d_M_planDays_107 rfl (sk_o_71 hM) (sk_p_71_49 hM) ?_
      refine mm_iload d_M_planDays_110 rfl ?_
      refine mm_ialdN d_M_planDays_111 (sk_a_93 hM) (by omega) (by decide) (e all ha) ?_
      exact mm_ri d_M_planDays_112 (h ν f hf hN)
    · intro i hi IH ν l3 f hf e92 e hN
      have hM0 := hf.2.2.2 hM
      have inner : ∀ (ν : mm_M) (f : Nat → Nat), Fr scM μ ν → mm_I ν 92 = mm_I μ 92 → (∀ t, t < 64 → mm_I ν 93 t = nI (f t)) → NdI p i 0 f → mm_T X 1 0 0 k_M_planDays 41 [some (.ref 71), some (.int (nI all)), some (.int (nI i)), some (.int (nI 0))] [] ν (fun v μ' => ∃ r, v = some (.int r) ∧ q r μ') := by
        refine mm_up (P := fun j => ∀ (ν : mm_M) (f : Nat → Nat), Fr scM μ ν → mm_I ν 92 = mm_I μ 92 → (∀ t, t < 64 → mm_I ν 93 t = nI (f t)) → NdI p i j f → mm_T X 1 0 0 k_M_planDays 41 [some (.ref 71), some (.int (nI all)), some (.int (nI i)), some (.int (nI j))] [] ν (fun v μ' => ∃ r, v = some (.int r) ∧ q r μ')) 64 ?_ ?_
        · intro ν f hf e92 e hN
          have hM := hf.2.2.2 hM
          refine mm_iload d_M_planDays_41 rfl ?_
          refine mm_ciN 64 d_M_planDays_42 rfl ?_
          refine mm_icmp_geN d_M_planDays_44 (by first | omega | exact ite01_lt | exact bt8_lt31 _ _ | exact godB_lt31 _ _ _ | exact pop_lt31 _ | assumption | exact b31 (hW.gp (by omega)) | exact b31 (hW.ne (by omega)) | exact b31 (hW.op (by omega)) | exact and31 (hW.gp (by omega)) | exact and31 (hW.ne (by omega)) | exact and31 (hW.op (by omega)) | exact and31 (by assumption) | exact and31r (hW.ne (by omega)) | exact and31r (hW.gp (by omega)) | exact and31r (by decide)) (by first | omega | exact ite01_lt | exact bt8_lt31 _ _ | exact godB_lt31 _ _ _ | exact pop_lt31 _ | assumption | exact b31 (hW.gp (by omega)) | exact b31 (hW.ne (by omega)) | exact b31 (hW.op (by omega)) | exact and31 (hW.gp (by omega)) | exact and31 (hW.ne (by omega)) | exact and31 (hW.op (by omega)) | exact and31 (by assumption) | exact and31r (hW.ne (by omega)) | exact and31r (hW.gp (by omega)) | exact and31r (by decide)) (fun c_44 => ?_) (fun c_44 => False.elim (by omega))
          refine mm_inc2N d_M_planDays_100 ?_
          refine mm_goto d_M_planDays_103 ?_
          exact IH ν _ f hf e92 e (NdI_row hN)
        · intro j hj IH2 ν f hf e92 e hN
          have hM := hf.2.2.2 hM
          have hij := or_lt64 hi hj
          have b1 := (hN.2.1 i hi).1
          have b2 := (hN.2.1 _ hij).1
          have ed : mm_I ν 92 j = nI (if p j = true then 1 else 0) := by rw [e92]; exact hp j hj
          refine mm_iload d_M_planDays_41 rfl ?_
          refine mm_ciN 64 d_M_planDays_42 rfl ?_
          refine mm_icmp_geN d_M_planDays_44 (by first | omega | exact ite01_lt | exact bt8_lt31 _ _ | exact godB_lt31 _ _ _ | exact pop_lt31 _ | assumption | exact b31 (hW.gp (by omega)) | exact b31 (hW.ne (by omega)) | exact b31 (hW.op (by omega)) | exact and31 (hW.gp (by omega)) | exact and31 (hW.ne (by omega)) | exact and31 (hW.op (by omega)) | exact and31 (by assumption) | exact and31r (hW.ne (by omega)) | exact and31r (hW.gp (by omega)) | exact and31r (by decide)) (by first | omega | exact ite01_lt | exact bt8_lt31 _ _ | exact godB_lt31 _ _ _ | exact pop_lt31 _ | assumption | exact b31 (hW.gp (by omega)) | exact b31 (hW.ne (by omega)) | exact b31 (hW.op (by omega)) | exact and31 (hW.gp (by omega)) | exact and31 (hW.ne (by omega)) | exact and31 (hW.op (by omega)) | exact and31 (by assumption) | exact and31r (hW.ne (by omega)) | exact and31r (hW.gp (by omega)) | exact and31r (by decide)) (fun c_44 => False.elim (by omega)) (fun c_44 => ?_)
          refine mm_aload d_M_planDays_47 rfl ?_
          refine mm_getP d_M_planDays_48 rfl (sk_o_71 hM) (sk_p_71_49 hM) ?_
          refine mm_iload d_M_planDays_51 rfl ?_
          refine mm_iload d_M_planDays_52 rfl ?_
          refine mm_iorN d_M_planDays_53 ?_
          refine mm_aload d_M_planDays_54 rfl ?_
          refine mm_getP d_M_planDays_55 rfl (sk_o_71 hM) (sk_p_71_48 hM) ?_
          refine mm_iload d_M_planDays_58 rfl ?_
          refine mm_zaldN d_M_planDays_59 (sk_a_92 hM) (by omega) (by decide) ed ?_
          refine mm_if_eqN d_M_planDays_60 (by first | omega | exact ite01_lt | exact bt8_lt31 _ _ | exact godB_lt31 _ _ _ | exact pop_lt31 _ | assumption | exact b31 (hW.gp (by omega)) | exact b31 (hW.ne (by omega)) | exact b31 (hW.op (by omega)) | exact and31 (hW.gp (by omega)) | exact and31 (hW.ne (by omega)) | exact and31 (hW.op (by omega)) | exact and31 (by assumption) | exact and31r (hW.ne (by omega)) | exact and31r (hW.gp (by omega)) | exact and31r (by decide)) (fun c_60 => ?_) (fun c_60 => ?_)
          · refine mm_aload d_M_planDays_85 rfl ?_
            refine mm_getP d_M_planDays_86 rfl (sk_o_71 hM) (sk_p_71_49 hM) ?_
            refine mm_iload d_M_planDays_89 rfl ?_
            refine mm_iload d_M_planDays_90 rfl ?_
            refine mm_iorN d_M_planDays_91 ?_
            refine mm_ialdN d_M_planDays_92 (sk_a_93 hM) (by omega) (by decide) (e _ hij) ?_
            refine mm_iastX d_M_planDays_93 (sk_a_93 hM) (by omega) (by decide) ?_
            refine mm_inc3N d_M_planDays_94 ?_
            refine mm_goto d_M_planDays_97 ?_
            first | (have z := ite01_eq c_60; exact IH2 _ f (hf.sI rfl) (by rw [mm_sI_off (by decide)]; exact e92) (fun t ht => by rw [mm_I_sI]; by_cases y : t = i ||| j; (rw [if_pos ⟨rfl, y⟩, y]); (rw [if_neg (fun w => y w.2)]; exact e t ht)) (NdI_skip hN z)) | (have z := ite01_ne c_60; exact IH2 _ (fun t => if t = i ||| j then min (f (i ||| j)) (f i + 1) else f t) (hf.sI rfl) (by rw [mm_sI_off (by decide)]; exact e92) (fun t ht => by rw [mm_I_sI]; by_cases y : t = i ||| j; (rw [if_pos ⟨rfl, y⟩, if_pos y]); (rw [if_neg (fun w => y w.2), if_neg y]; exact e t ht)) (NdI_set hN hi hj z (fun t => rfl)))
          · refine mm_aload d_M_planDays_63 rfl ?_
            refine mm_getP d_M_planDays_64 rfl (sk_o_71 hM) (sk_p_71_49 hM) ?_
            refine mm_iload d_M_planDays_67 rfl ?_
            refine mm_iload d_M_planDays_68 rfl ?_
            refine mm_iorN d_M_planDays_69 ?_
            refine mm_ialdN d_M_planDays_70 (sk_a_93 hM) (by omega) (by decide) (e _ hij) ?_
            refine mm_aload d_M_planDays_71 rfl ?_
            refine mm_getP d_M_planDays_72 rfl (sk_o_71 hM) (sk_p_71_49 hM) ?_
            refine mm_iload d_M_planDays_75 rfl ?_
            refine mm_ialdN d_M_planDays_76 (sk_a_93 hM) (by omega) (by decide) (e i hi) ?_
            refine mm_ciN 1 d_M_planDays_77 rfl ?_
            refine mm_iaddN d_M_planDays_78 ?_
            refine mm_s2i d_M_planDays_79 (sp_M_lesserN (by first | omega | exact ite01_lt | exact bt8_lt31 _ _ | exact godB_lt31 _ _ _ | exact pop_lt31 _ | assumption | exact b31 (hW.gp (by omega)) | exact b31 (hW.ne (by omega)) | exact b31 (hW.op (by omega)) | exact and31 (hW.gp (by omega)) | exact and31 (hW.ne (by omega)) | exact and31 (hW.op (by omega)) | exact and31 (by assumption) | exact and31r (hW.ne (by omega)) | exact and31r (hW.gp (by omega)) | exact and31r (by decide)) (by first | omega | exact ite01_lt | exact bt8_lt31 _ _ | exact godB_lt31 _ _ _ | exact pop_lt31 _ | assumption | exact b31 (hW.gp (by omega)) | exact b31 (hW.ne (by omega)) | exact b31 (hW.op (by omega)) | exact and31 (hW.gp (by omega)) | exact and31 (hW.ne (by omega)) | exact and31 (hW.op (by omega)) | exact and31 (by assumption) | exact and31r (hW.ne (by omega)) | exact and31r (hW.gp (by omega)) | exact and31r (by decide)) ?_)
            refine mm_goto d_M_planDays_82 ?_
            refine mm_iastX d_M_planDays_93 (sk_a_93 hM) (by omega) (by decide) ?_
            refine mm_inc3N d_M_planDays_94 ?_
            refine mm_goto d_M_planDays_97 ?_
            first | (have z := ite01_eq c_60; exact IH2 _ f (hf.sI rfl) (by rw [mm_sI_off (by decide)]; exact e92) (fun t ht => by rw [mm_I_sI]; by_cases y : t = i ||| j; (rw [if_pos ⟨rfl, y⟩, y]); (rw [if_neg (fun w => y w.2)]; exact e t ht)) (NdI_skip hN z)) | (have z := ite01_ne c_60; exact IH2 _ (fun t => if t = i ||| j then min (f (i ||| j)) (f i + 1) else f t) (hf.sI rfl) (by rw [mm_sI_off (by decide)]; exact e92) (fun t ht => by rw [mm_I_sI]; by_cases y : t = i ||| j; (rw [if_pos ⟨rfl, y⟩, if_pos y]); (rw [if_neg (fun w => y w.2), if_neg y]; exact e t ht)) (NdI_set hN hi hj z (fun t => rfl)))
      have hM := hM0
      refine mm_iload d_M_planDays_33 rfl ?_
      refine mm_ciN 64 d_M_planDays_34 rfl ?_
      refine mm_icmp_geN d_M_planDays_36 (by first | omega | exact ite01_lt | exact bt8_lt31 _ _ | exact godB_lt31 _ _ _ | exact pop_lt31 _ | assumption | exact b31 (hW.gp (by omega)) | exact b31 (hW.ne (by omega)) | exact b31 (hW.op (by omega)) | exact and31 (hW.gp (by omega)) | exact and31 (hW.ne (by omega)) | exact and31 (hW.op (by omega)) | exact and31 (by assumption) | exact and31r (hW.ne (by omega)) | exact and31r (hW.gp (by omega)) | exact and31r (by decide)) (by first | omega | exact ite01_lt | exact bt8_lt31 _ _ | exact godB_lt31 _ _ _ | exact pop_lt31 _ | assumption | exact b31 (hW.gp (by omega)) | exact b31 (hW.ne (by omega)) | exact b31 (hW.op (by omega)) | exact and31 (hW.gp (by omega)) | exact and31 (hW.ne (by omega)) | exact and31 (hW.op (by omega)) | exact and31 (by assumption) | exact and31r (hW.ne (by omega)) | exact and31r (hW.gp (by omega)) | exact and31r (by decide)) (fun c_36 => False.elim (by omega)) (fun c_36 => ?_)
      refine mm_ciN 0 d_M_planDays_39 rfl ?_
      refine mm_ist3 d_M_planDays_40 ?_
      exact inner ν f hf e92 e hN
  refine mm_ciN 0 d_M_planDays_0 rfl ?_
  refine mm_ist2 d_M_planDays_1 ?_
  refine mm_up (P := fun i => ∀ (ν : mm_M), (Fr scM μ ν ∧ mm_I ν 92 = mm_I μ 92 ∧ ∀ t, t < i → mm_I ν 93 t = nI (if t = 0 then 0 else 1000000)) → mm_T X 1 0 0 k_M_planDays 2 [some (.ref 71), some (.int (nI all)), some (.int (nI i)), none] [] ν (fun v μ' => ∃ r, v = some (.int r) ∧ q r μ')) 64 ?_ ?_ μ ⟨Fr.rf, rfl, fun s hs => absurd hs (Nat.not_lt_zero s)⟩
  · rintro ν ⟨hf, e92, e⟩
    have hM := hf.2.2.2 hM
    refine mm_iload d_M_planDays_2 rfl ?_
    refine mm_ciN 64 d_M_planDays_3 rfl ?_
    refine mm_icmp_geN d_M_planDays_5 (by first | omega | exact ite01_lt | exact bt8_lt31 _ _ | exact godB_lt31 _ _ _ | exact pop_lt31 _ | assumption | exact b31 (hW.gp (by omega)) | exact b31 (hW.ne (by omega)) | exact b31 (hW.op (by omega)) | exact and31 (hW.gp (by omega)) | exact and31 (hW.ne (by omega)) | exact and31 (hW.op (by omega)) | exact and31 (by assumption) | exact and31r (hW.ne (by omega)) | exact and31r (hW.gp (by omega)) | exact and31r (by decide)) (by first | omega | exact ite01_lt | exact bt8_lt31 _ _ | exact godB_lt31 _ _ _ | exact pop_lt31 _ | assumption | exact b31 (hW.gp (by omega)) | exact b31 (hW.ne (by omega)) | exact b31 (hW.op (by omega)) | exact and31 (hW.gp (by omega)) | exact and31 (hW.ne (by omega)) | exact and31 (hW.op (by omega)) | exact and31 (by assumption) | exact and31r (hW.ne (by omega)) | exact and31r (hW.gp (by omega)) | exact and31r (by decide)) (fun c_5 => ?_) (fun c_5 => False.elim (by omega))
    refine mm_ciN 0 d_M_planDays_31 rfl ?_
    refine mm_ist2 d_M_planDays_32 ?_
    exact main ν _ _ hf e92 e NdI_0
  · rintro i hi IH ν ⟨hf, e92, e⟩
    have hM := hf.2.2.2 hM
    refine mm_iload d_M_planDays_2 rfl ?_
    refine mm_ciN 64 d_M_planDays_3 rfl ?_
    refine mm_icmp_geN d_M_planDays_5 (by first | omega | exact ite01_lt | exact bt8_lt31 _ _ | exact godB_lt31 _ _ _ | exact pop_lt31 _ | assumption | exact b31 (hW.gp (by omega)) | exact b31 (hW.ne (by omega)) | exact b31 (hW.op (by omega)) | exact and31 (hW.gp (by omega)) | exact and31 (hW.ne (by omega)) | exact and31 (hW.op (by omega)) | exact and31 (by assumption) | exact and31r (hW.ne (by omega)) | exact and31r (hW.gp (by omega)) | exact and31r (by decide)) (by first | omega | exact ite01_lt | exact bt8_lt31 _ _ | exact godB_lt31 _ _ _ | exact pop_lt31 _ | assumption | exact b31 (hW.gp (by omega)) | exact b31 (hW.ne (by omega)) | exact b31 (hW.op (by omega)) | exact and31 (hW.gp (by omega)) | exact and31 (hW.ne (by omega)) | exact and31 (hW.op (by omega)) | exact and31 (by assumption) | exact and31r (hW.ne (by omega)) | exact and31r (hW.gp (by omega)) | exact and31r (by decide)) (fun c_5 => False.elim (by omega)) (fun c_5 => ?_)
    refine mm_aload d_M_planDays_8 rfl ?_
    refine mm_getP d_M_planDays_9 rfl (sk_o_71 hM) (sk_p_71_49 hM) ?_
    refine mm_iload d_M_planDays_12 rfl ?_
    refine mm_iload d_M_planDays_13 rfl ?_
    refine mm_if_neN d_M_planDays_14 (by first | omega | exact ite01_lt | exact bt8_lt31 _ _ | exact godB_lt31 _ _ _ | exact pop_lt31 _ | assumption | exact b31 (hW.gp (by omega)) | exact b31 (hW.ne (by omega)) | exact b31 (hW.op (by omega)) | exact and31 (hW.gp (by omega)) | exact and31 (hW.ne (by omega)) | exact and31 (hW.op (by omega)) | exact and31 (by assumption) | exact and31r (hW.ne (by omega)) | exact and31r (hW.gp (by omega)) | exact and31r (by decide)) (fun c_14 => ?_) (fun c_14 => ?_)
    · refine mm_ciN 1000000 d_M_planDays_21 rfl ?_
      refine mm_iastX d_M_planDays_24 (sk_a_93 hM) (by omega) (by decide) ?_
      refine mm_inc2N d_M_planDays_25 ?_
      refine mm_goto d_M_planDays_28 ?_
      exact IH _ ⟨hf.sI rfl, by rw [mm_sI_off (by decide)]; exact e92, fun t ht => by rw [mm_I_sI]; by_cases z : t = i; (rw [if_pos ⟨rfl, z⟩, z]; first | rw [if_pos c_14] | rw [if_neg c_14]); (rw [if_neg (fun w => z w.2)]; exact e t (by omega))⟩
    · refine mm_ciN 0 d_M_planDays_17 rfl ?_
      refine mm_goto d_M_planDays_18 ?_
      refine mm_iastX d_M_planDays_24 (sk_a_93 hM) (by omega) (by decide) ?_
      refine mm_inc2N d_M_planDays_25 ?_
      refine mm_goto d_M_planDays_28 ?_
      exact IH _ ⟨hf.sI rfl, by rw [mm_sI_off (by decide)]; exact e92, fun t ht => by rw [mm_I_sI]; by_cases z : t = i; (rw [if_pos ⟨rfl, z⟩, z]; first | rw [if_pos c_14] | rw [if_neg c_14]); (rw [if_neg (fun w => z w.2)]; exact e t (by omega))⟩
theorem pair_plan {X : mm_X} {k : Nat} {μ : mm_M} (hk : k ≤ 511) (hJ : JJ k μ) (y1 y2 : Int32) : PairI X (JJ (k + 1)) k_G_plan k_M_plan [.int y1, .int y2] μ := by
  obtain ⟨c, h02, h0, m0, hv⟩ := hJ.coast y1
  have hM := hJ.1
  have hw := hJ.2.2.2.up
  rcases hv with hx | ⟨i, D, hi, rfl, hW, hCD, hDM⟩
  · exact pairQ (-1) hJ (d := 2) (d' := 4) (by decide) (by decide) (n_G_plan hM h0 h02 hx ⟨rfl, Fr.rf, hw⟩) (fun μ1 hf => n_M_plan (hf.2.2.2 hM) (by rw [(hf.2.2.1 76 rfl).1]; exact m0) h02 hx (fun μ' hk => ⟨rfl, hk.fr (hf.2.2.2 hM)⟩))
  have hn6 := hW.1
  have hw6 := hW.2.1
  obtain ⟨w, w1, w2, w3⟩ := hJ.2.2.2
  have hi2 : i < 2 := by omega
  have hu := unF_lt (p := p0 D) 64 (Nat.le_refl _)
  by_cases hy : y2 = 0
  · subst hy
    obtain ⟨d, hd1, hd2, hd3⟩ : ∃ d, d ≤ 6 ∧ (∀ d', d' < d → ¬ RdD (p0 D) d' (unF (p0 D) 64)) ∧ (d = 6 ∨ RdD (p0 D) d (unF (p0 D) 64)) := by
      have key : ∀ n, n ≤ 6 → (∃ d, d ≤ n ∧ (∀ d', d' < d → ¬ RdD (p0 D) d' (unF (p0 D) 64)) ∧ RdD (p0 D) d (unF (p0 D) 64)) ∨ ∀ d', d' ≤ n → ¬ RdD (p0 D) d' (unF (p0 D) 64) := by
        intro n
        induction n with
        | zero =>
          intro _
          by_cases z : RdD (p0 D) 0 (unF (p0 D) 64)
          · exact Or.inl ⟨0, Nat.le_refl _, fun d' hd => absurd hd (Nat.not_lt_zero d'), z⟩
          · exact Or.inr (fun d' hd => by rw [show d' = 0 by omega]; exact z)
        | succ n ih =>
          intro hn
          rcases ih (by omega) with ⟨d, a, b, c⟩ | a
          · exact Or.inl ⟨d, by omega, b, c⟩
          · by_cases z : RdD (p0 D) (n + 1) (unF (p0 D) 64)
            · exact Or.inl ⟨n + 1, Nat.le_refl _, fun d' hd => a d' (by omega), z⟩
            · exact Or.inr (fun d' hd => by by_cases e : d' = n + 1; (rw [e]; exact z); exact a d' (by omega))
      rcases key 6 (Nat.le_refl _) with ⟨d, a, b, c⟩ | a
      · exact ⟨d, a, b, Or.inr c⟩
      · exact ⟨6, Nat.le_refl _, fun d' hd => a d' (by omega), Or.inl rfl⟩
    have uniq : ∀ d', d' ≤ 6 → (∀ d'', d'' < d' → ¬ RdD (p0 D) d'' (unF (p0 D) 64)) → (d' = 6 ∨ RdD (p0 D) d' (unF (p0 D) 64)) → d' = d := by
      intro d' a b c
      rcases Nat.lt_trichotomy d' d with z | z | z
      · rcases c with c | c
        · omega
        · exact absurd c (hd2 d' z)
      · exact z
      · rcases hd3 with c | c
        · omega
        · exact absurd c (b d z)
    refine pairQ (nI d) hJ (d := 12) (d' := 12) (by decide) (by decide) ?_ (fun μ1 hf => ?_)
    · show mm_T X 12 0 0 k_G_plan 0 [some (.ref 0), some (.int (nI i)), some (.int 0), none, none, none, none] [] μ _
      refine mm_aload d_G_plan_0 rfl ?_
      refine mm_getP d_G_plan_1 rfl (sk_o_0 hM) (sk_p_0_0 hM) ?_
      refine mm_iload d_G_plan_4 rfl ?_
      refine mm_v1r d_G_plan_5 (sk_o_1 hM) (sp_To_coastAtI hM h0 h02 hi ?_)
      refine mm_ast3 d_G_plan_8 ?_
      refine mm_aload d_G_plan_9 rfl ?_
      refine mm_ifnonnull d_G_plan_10 ?_
      refine mm_aload d_G_plan_15 rfl ?_
      refine mm_getP d_G_plan_16 rfl (sk_o_0 hM) (sk_p_0_4 hM) ?_
      refine mm_aload d_G_plan_19 rfl ?_
      refine mm_v1j d_G_plan_20 (sk_o_57 hM) (sp_As_setsOfOneDay hM hi2 hCD hW w2 (by omega) w3 (fun ν y f e5 hs hyy => ?_))
      have hp := p0_lb hW hyy
      refine mm_lst4 d_G_plan_23 ?_
      refine mm_lload d_G_plan_25 rfl ?_
      refine mm_s1i d_G_plan_27 (sp_G_unionOf hp ?_)
      refine mm_ist6 d_G_plan_30 ?_
      refine mm_iload d_G_plan_32 rfl ?_
      refine mm_if_eq d_G_plan_33 (fun c_33 => ?_) (fun c_33 => False.elim (c_33 rfl))
      refine mm_lload d_G_plan_48 rfl ?_
      refine mm_iload d_G_plan_50 rfl ?_
      refine mm_s2i d_G_plan_52 (sp_G_fewestDays hp hu (fun d' b1 b2 b3 => ?_))
      exact mm_ri d_G_plan_55 ⟨by rw [uniq d' b1 b2 b3], f, Wk.of (by omega) e5 hs⟩
    · show mm_T X 12 0 0 k_M_plan 0 [some (.ref 71), some (.int (nI i)), some (.int 0), none] [] μ1 _
      replace hM := hf.2.2.2 hM
      replace m0 : mm_I μ1 76 0 = nI c := by rw [(hf.2.2.1 76 rfl).1]; exact m0
      replace hDM := hDM.frC hf
      refine mm_aload d_M_plan_0 rfl ?_
      refine mm_ciN 0 d_M_plan_1 rfl ?_
      refine mm_putI d_M_plan_2 rfl (sk_o_71 hM) (Or.inl rfl) ?_
      refine mm_aload d_M_plan_5 rfl ?_
      refine mm_iload d_M_plan_6 rfl ?_
      refine mm_v1i d_M_plan_7 (sk_o_71 hM) (sp_M_handN hM (by first | exact m0 | (rw [mm_sI_off (by decide)]; exact m0)) h02 hi (by first | exact hDM | exact hDM.eq (mm_sI_off (by decide))) hW (fun μ2 g1 hH hZ => ?_))
      replace hM := hH.1
      refine mm_if_neN d_M_plan_10 (by first | omega | exact ite01_lt | exact bt8_lt31 _ _ | exact godB_lt31 _ _ _ | exact pop_lt31 _ | assumption | exact b31 (hW.gp (by omega)) | exact b31 (hW.ne (by omega)) | exact b31 (hW.op (by omega)) | exact and31 (hW.gp (by omega)) | exact and31 (hW.ne (by omega)) | exact and31 (hW.op (by omega)) | exact and31 (by assumption) | exact and31r (hW.ne (by omega)) | exact and31r (hW.gp (by omega)) | exact and31r (by decide)) (fun c_10 => ?_) (fun c_10 => False.elim (by omega))
      refine mm_aload d_M_plan_15 rfl ?_
      refine mm_v0i d_M_plan_16 (sk_o_71 hM) (sp_M_doable hH (fun ν f hH3 ed => ?_))
      refine mm_ist3 d_M_plan_19 ?_
      refine mm_iload d_M_plan_20 rfl ?_
      refine mm_if_eq d_M_plan_21 (fun c_21 => ?_) (fun c_21 => False.elim (c_21 rfl))
      refine mm_aload d_M_plan_39 rfl ?_
      refine mm_iload d_M_plan_40 rfl ?_
      refine mm_v1i d_M_plan_41 (sk_o_71 hH3.1) (sp_M_planDays hH3.1 (alK_lt hW _) ed (fun ν2 ff f4 hN => ?_))
      exact mm_ri d_M_plan_44 ⟨by rw [al_un hW, days_eq hN hd1 hd2 hd3], (((Fr.rf.sI rfl).trans g1).trans f).trans f4⟩
  · refine pairQ (nI ((2 ^ dw D - 1) &&& (unF (p0 D) 64 ^^^ 4294967295))) hJ (d := 12) (d' := 12) (by decide) (by decide) ?_ (fun μ1 hf => ?_)
    · show mm_T X 12 0 0 k_G_plan 0 [some (.ref 0), some (.int (nI i)), some (.int y2), none, none, none, none] [] μ _
      refine mm_aload d_G_plan_0 rfl ?_
      refine mm_getP d_G_plan_1 rfl (sk_o_0 hM) (sk_p_0_0 hM) ?_
      refine mm_iload d_G_plan_4 rfl ?_
      refine mm_v1r d_G_plan_5 (sk_o_1 hM) (sp_To_coastAtI hM h0 h02 hi ?_)
      refine mm_ast3 d_G_plan_8 ?_
      refine mm_aload d_G_plan_9 rfl ?_
      refine mm_ifnonnull d_G_plan_10 ?_
      refine mm_aload d_G_plan_15 rfl ?_
      refine mm_getP d_G_plan_16 rfl (sk_o_0 hM) (sk_p_0_4 hM) ?_
      refine mm_aload d_G_plan_19 rfl ?_
      refine mm_v1j d_G_plan_20 (sk_o_57 hM) (sp_As_setsOfOneDay hM hi2 hCD hW w2 (by omega) w3 (fun ν y f e5 hs hyy => ?_))
      have hp := p0_lb hW hyy
      have hCD := hCD.frC f hi2
      refine mm_lst4 d_G_plan_23 ?_
      refine mm_lload d_G_plan_25 rfl ?_
      refine mm_s1i d_G_plan_27 (sp_G_unionOf hp ?_)
      refine mm_ist6 d_G_plan_30 ?_
      refine mm_iload d_G_plan_32 rfl ?_
      refine mm_if_eq d_G_plan_33 (fun c_33 => False.elim (hy c_33)) (fun c_33 => ?_)
      refine mm_aload d_G_plan_36 rfl ?_
      refine mm_v0i d_G_plan_37 hCD.1.1 (sp_Co_allWorksN hCD hW ?_)
      refine mm_iload d_G_plan_40 rfl ?_
      refine mm_ci d_G_plan_42 ?_
      refine mm_inotN d_G_plan_43 ?_
      refine mm_iandN d_G_plan_44 ?_
      refine mm_goto d_G_plan_45 ?_
      exact mm_ri d_G_plan_55 ⟨rfl, f, Wk.of (by omega) e5 hs⟩
    · show mm_T X 12 0 0 k_M_plan 0 [some (.ref 71), some (.int (nI i)), some (.int y2), none] [] μ1 _
      replace hM := hf.2.2.2 hM
      replace m0 : mm_I μ1 76 0 = nI c := by rw [(hf.2.2.1 76 rfl).1]; exact m0
      replace hDM := hDM.frC hf
      refine mm_aload d_M_plan_0 rfl ?_
      refine mm_ciN 0 d_M_plan_1 rfl ?_
      refine mm_putI d_M_plan_2 rfl (sk_o_71 hM) (Or.inl rfl) ?_
      refine mm_aload d_M_plan_5 rfl ?_
      refine mm_iload d_M_plan_6 rfl ?_
      refine mm_v1i d_M_plan_7 (sk_o_71 hM) (sp_M_handN hM (by first | exact m0 | (rw [mm_sI_off (by decide)]; exact m0)) h02 hi (by first | exact hDM | exact hDM.eq (mm_sI_off (by decide))) hW (fun μ2 g1 hH hZ => ?_))
      replace hM := hH.1
      refine mm_if_neN d_M_plan_10 (by first | omega | exact ite01_lt | exact bt8_lt31 _ _ | exact godB_lt31 _ _ _ | exact pop_lt31 _ | assumption | exact b31 (hW.gp (by omega)) | exact b31 (hW.ne (by omega)) | exact b31 (hW.op (by omega)) | exact and31 (hW.gp (by omega)) | exact and31 (hW.ne (by omega)) | exact and31 (hW.op (by omega)) | exact and31 (by assumption) | exact and31r (hW.ne (by omega)) | exact and31r (hW.gp (by omega)) | exact and31r (by decide)) (fun c_10 => ?_) (fun c_10 => False.elim (by omega))
      refine mm_aload d_M_plan_15 rfl ?_
      refine mm_v0i d_M_plan_16 (sk_o_71 hM) (sp_M_doable hH (fun ν f hH3 ed => ?_))
      have hM := hH3.1
      have hH := hH3
      have hpw := one_le_two_pow (dw D)
      refine mm_ist3 d_M_plan_19 ?_
      refine mm_iload d_M_plan_20 rfl ?_
      refine mm_if_eq d_M_plan_21 (fun c_21 => False.elim (hy c_21)) (fun c_21 => ?_)
      refine mm_ciN 1 d_M_plan_24 rfl ?_
      refine mm_aload d_M_plan_25 rfl ?_
      refine mm_getIN d_M_plan_26 rfl (sk_o_71 hM) hH.w ?_
      refine mm_ishl1N d_M_plan_29 (by omega) ?_
      refine mm_ciN 1 d_M_plan_30 rfl ?_
      refine mm_isubN d_M_plan_31 (by omega) ?_
      refine mm_iload d_M_plan_32 rfl ?_
      refine mm_ci d_M_plan_33 ?_
      refine mm_inotN d_M_plan_34 ?_
      refine mm_iandN d_M_plan_35 ?_
      refine mm_goto d_M_plan_36 ?_
      exact mm_ri d_M_plan_44 ⟨by rw [al_un hW], ((Fr.rf.sI rfl).trans g1).trans f⟩
