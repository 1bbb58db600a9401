/-! texts: a text is read, by the class -/
def t0F (s j : Nat) : Nat := if s = 0 ∧ 2 ≤ j ∧ j ≤ 17 then 3 else 0
theorem bt8_0 (j : Nat) : bt8 0 j = 0 := by unfold bt8; rw [Nat.zero_div]
theorem WfT_0 {s : Nat} (hs : s < 3) : WfT s (t0F s) := by
  refine ⟨fun z => ?_, fun z => ?_, fun z => ?_⟩
  · subst z
    refine ⟨WfD_mk (by decide) (by decide) (fun j hj => ?_) (fun j hj => ?_) (fun j hj => ?_) (fun j hj => ?_) (fun j hj => ?_) (fun j hj => ?_) (fun j hj => absurd hj (Nat.not_lt_zero j)) (fun i j hi hj => ?_), by decide⟩
    · unfold t0F; rw [if_pos (by omega)]; decide
    · unfold t0F; rw [if_pos (by omega)]; decide
    · unfold t0F; rw [if_neg (by omega)]; decide
    · unfold t0F; rw [if_neg (by omega)]; decide
    · unfold t0F; rw [if_neg (by omega)]; decide
    · unfold t0F; rw [if_neg (by omega)]; decide
    · unfold t0F; rw [if_neg (by omega), if_neg (by omega), bt8_0, bt8_0]; exact ⟨rfl, rfl⟩
  · have e : t0F s 0 = 0 := by unfold t0F; rw [if_neg (by omega)]
    rw [e]
    exact ⟨by decide, fun j hj => absurd hj (Nat.not_lt_zero j)⟩
  · have e : t0F s 0 = 0 := by unfold t0F; rw [if_neg (by omega)]
    rw [e]
    exact ⟨by decide, fun j hj => absurd hj (Nat.not_lt_zero j)⟩
def rd (s : Nat) (u : Nat → Nat) (L : Nat) : Nat → Nat → (Nat → Nat) → Nat → Nat → Nat × Nat × (Nat → Nat)
  | 0, _, t, fl, pl => (fl, pl, t)
  | n + 1, p, t, fl, pl => if tK u L p = 1 then (fl, pl, t) else match lnX s u L p with
    | some x => (1, x, t)
    | none => rd s u L n (pE s u L p) (jg s u L p t fl pl).2.2 (jg s u L p t fl pl).1 (jg s u L p t fl pl).2.1
def rdE (s L : Nat) (r : Nat × Nat × (Nat → Nat)) : Nat × Nat × (Nat → Nat) := if r.1 = 0 ∧ s = 0 ∧ 2 ^ r.2.2 1 ≤ r.2.2 44 then (4, L, r.2.2) else r
def rdF (s : Nat) (u : Nat → Nat) (L : Nat) : Nat × Nat × (Nat → Nat) := rdE s L (rd s u L (L + 1) 0 (t0F s) 0 0)
theorem pE_gt {s : Nat} {u : Nat → Nat} {L p : Nat} (h : tK u L p ≠ 1) : p < pE s u L p ∧ p < L := by
  have h1 := tN_gt h
  have h2 := tP_ge (u := u) (L := L) (p := p)
  have h3 := ps_ge (u := u) (L := L) (p := p) (nu (lnF s u L p) + 1)
  unfold pE
  omega
theorem jg_lt {s : Nat} {u : Nat → Nat} {L p : Nat} {t : Nat → Nat} {fl pl : Nat} (h : fl < 5) : (jg s u L p t fl pl).1 < 5 := by
  unfold jg
  by_cases h0 : fl ≠ 0
  · rw [if_pos h0]; exact h
  · rw [if_neg h0]
    by_cases h1 : fu (lnF s u L p) t = true
    · rw [if_pos h1]; exact (show (3 : Nat) < 5 by decide)
    · rw [if_neg h1]
      cases fb (lnF s u L p) (vv u L p) (nu (lnF s u L p)) 0 with
      | none => exact Nat.lt_of_lt_of_le (Nat.zero_lt_succ 0) (by decide)
      | some i => exact Nat.lt_of_lt_of_le (Nat.lt_succ_self 2) (by decide)
theorem jg_ne {s : Nat} {u : Nat → Nat} {L p : Nat} {t : Nat → Nat} {fl pl : Nat} (h : fl ≠ 1) : (jg s u L p t fl pl).1 ≠ 1 := by
  unfold jg
  by_cases h0 : fl ≠ 0
  · rw [if_pos h0]; exact h
  · rw [if_neg h0]
    by_cases h1 : fu (lnF s u L p) t = true
    · rw [if_pos h1]; exact fun z => absurd (show (3 : Nat) = 1 from z) (by decide)
    · rw [if_neg h1]
      cases fb (lnF s u L p) (vv u L p) (nu (lnF s u L p)) 0 with
      | none => exact fun z => absurd (show (0 : Nat) = 1 from z) (by decide)
      | some i => exact fun z => absurd (show (2 : Nat) = 1 from z) (by decide)
theorem sp_Co_clear {X : mm_X} {μ : mm_M} {q : mm_M → Prop} (hM : SK μ) (h : ∀ ν, Fr (scR 37 6) μ ν → mm_P ν = mm_P μ → mm_I ν 37 6 = nI 0 → mm_I ν 37 7 = nI 0 → (∀ j, j < 8 → mm_I ν 38 j = nI 3 ∧ mm_I ν 39 j = nI 3 ∧ mm_I ν 40 j = nI 0) → (∀ j, j < 6 → mm_I ν 41 j = nI 0 ∧ mm_I ν 42 j = nI 0 ∧ mm_I ν 43 j = nI 0) → q ν) : mm_Cv X 1 0 0 k_Co_clear [.ref 37] μ q := by
  show mm_T X 1 0 0 k_Co_clear 0 [some (.ref 37)] [] μ _
  refine mm_aload d_Co_clear_0 rfl ?_
  refine mm_getP d_Co_clear_1 rfl (sk_o_37 hM) (sk_p_37_0 hM) ?_
  refine mm_ciN 3 d_Co_clear_4 rfl ?_
  refine mm_s2v d_Co_clear_5 (sp_Arr_fillI (sk_a_38 hM) (by decide) ?_)
  refine mm_aload d_Co_clear_8 rfl ?_
  refine mm_getP d_Co_clear_9 rfl (sk_o_37 hM) (sk_p_37_1 hM) ?_
  refine mm_ciN 3 d_Co_clear_12 rfl ?_
  refine mm_s2v d_Co_clear_13 (sp_Arr_fillI (sk_a_39 hM) (by decide) ?_)
  refine mm_aload d_Co_clear_16 rfl ?_
  refine mm_getP d_Co_clear_17 rfl (sk_o_37 hM) (sk_p_37_2 hM) ?_
  refine mm_ciN 0 d_Co_clear_20 rfl ?_
  refine mm_s2v d_Co_clear_21 (sp_Arr_fillI (sk_a_40 hM) (by decide) ?_)
  refine mm_aload d_Co_clear_24 rfl ?_
  refine mm_getP d_Co_clear_25 rfl (sk_o_37 hM) (sk_p_37_3 hM) ?_
  refine mm_ciN 0 d_Co_clear_28 rfl ?_
  refine mm_s2v d_Co_clear_29 (sp_Arr_fillI (sk_a_41 hM) (by decide) ?_)
  refine mm_aload d_Co_clear_32 rfl ?_
  refine mm_getP d_Co_clear_33 rfl (sk_o_37 hM) (sk_p_37_4 hM) ?_
  refine mm_ciN 0 d_Co_clear_36 rfl ?_
  refine mm_s2v d_Co_clear_37 (sp_Arr_fillI (sk_a_42 hM) (by decide) ?_)
  refine mm_aload d_Co_clear_40 rfl ?_
  refine mm_getP d_Co_clear_41 rfl (sk_o_37 hM) (sk_p_37_5 hM) ?_
  refine mm_ciN 0 d_Co_clear_44 rfl ?_
  refine mm_s2v d_Co_clear_45 (sp_Arr_fillI (sk_a_43 hM) (by decide) ?_)
  refine mm_aload d_Co_clear_48 rfl ?_
  refine mm_ciN 0 d_Co_clear_49 rfl ?_
  refine mm_putI d_Co_clear_50 rfl (sk_o_37 hM) (Or.inl rfl) ?_
  refine mm_aload d_Co_clear_53 rfl ?_
  refine mm_ciN 0 d_Co_clear_54 rfl ?_
  refine mm_putI d_Co_clear_55 rfl (sk_o_37 hM) (Or.inl rfl) ?_
  exact mm_rv d_Co_clear_58 (h _ ((((((((Fr.rf.row rfl).row rfl).row rfl).row rfl).row rfl).row rfl).sI rfl).sI rfl) rfl (by rw [mm_I_sI, if_neg (by decide), mm_I_sI, if_pos ⟨rfl, rfl⟩]) (by rw [mm_I_sI, if_pos ⟨rfl, rfl⟩]) (fun j hj => ⟨by rw [mm_sI_off (by decide), mm_sI_off (by decide), mm_row_off (by decide), mm_row_off (by decide), mm_row_off (by decide), mm_row_off (by decide), mm_row_off (by decide), mm_row_at]; exact if_pos hj, by rw [mm_sI_off (by decide), mm_sI_off (by decide), mm_row_off (by decide), mm_row_off (by decide), mm_row_off (by decide), mm_row_off (by decide), mm_row_at]; exact if_pos hj, by rw [mm_sI_off (by decide), mm_sI_off (by decide), mm_row_off (by decide), mm_row_off (by decide), mm_row_off (by decide), mm_row_at]; exact if_pos hj⟩) (fun j hj => ⟨by rw [mm_sI_off (by decide), mm_sI_off (by decide), mm_row_off (by decide), mm_row_off (by decide), mm_row_at]; exact if_pos hj, by rw [mm_sI_off (by decide), mm_sI_off (by decide), mm_row_off (by decide), mm_row_at]; exact if_pos hj, by rw [mm_sI_off (by decide), mm_sI_off (by decide), mm_row_at]; exact if_pos hj⟩))
theorem sp_Co_allWorksW {X : mm_X} {μ : mm_M} {q : Int32 → mm_M → Prop} {a w : Nat} (hC : CoS μ a) (hw : mm_I μ a 7 = nI w) (hw6 : w ≤ 6) (h : q (nI (2 ^ w - 1)) μ) : mm_Ci X 0 0 0 k_Co_allWorks [.ref a] μ q := sp_Co_allWorks hC (by rw [hw, nI_sh1 (by omega), show (1 : Int32) = nI 1 from rfl, pk_sub (one_le_two_pow _)]; exact h)
theorem far_z : ∀ W, W < 64 → ∀ w, w < 7 → ((W &&& ((2 ^ w - 1) ^^^ 4294967295)) = 0 ↔ W < 2 ^ w) ∧ (W &&& ((2 ^ w - 1) ^^^ 4294967295)) < 64 := by decide +kernel
theorem sp_Re_read {X : mm_X} {μ : mm_M} {q : mm_M → Prop} {s L : Nat} {u : Nat → Nat} (hM : SK μ) (hs3 : s < 3) (hL : L ≤ 600) (hb : ∀ j, fits .byte (.int (mm_I μ 2 j)) = true ∧ ub (mm_I μ 2 j) = u j) (h : ∀ ν, Fr scRe μ ν → mm_I ν 36 3 = nI (rdF s u L).1 → (mm_I ν 36 4 = if (rdF s u L).1 = 0 then -1 else nI (rdF s u L).2.1) → ((rdF s u L).1 = 0 → RC s (rdF s u L).2.2 ν ∧ WfT s (rdF s u L).2.2) → (rdF s u L).1 < 5 → q ν) : mm_Cv X 8 0 0 k_Re_read [.ref 36, .ref 2, .int (nI L), .int (nI s)] μ q := by
  have fin : ∀ (r : Nat × Nat × (Nat → Nat)) (ν : mm_M) (l4 : Option Value), rdF s u L = rdE s L r → r.1 < 5 → Fr scRe μ ν → mm_I ν 36 8 = nI L → mm_I ν 36 3 = nI r.1 → (mm_I ν 36 4 = if r.1 = 0 then -1 else nI r.2.1) → (r.1 = 0 → RC s r.2.2 ν ∧ WfT s r.2.2) → mm_T X 8 0 0 k_Re_read 105 [some (.ref 36), some (.ref 2), some (.int (nI L)), some (.int (nI s)), l4] [] ν (fun w μ' => w = none ∧ q μ') := by
    intro r ν l4 hr h5 hf e8 e3 e4 hD
    have hMν := hf.2.2.2 hM
    by_cases hr0 : r.1 = 0
    · obtain ⟨hC, hW⟩ := hD hr0
      rw [hr0] at e3
      rw [if_pos hr0] at e4
      have key : ∃ W w : Nat, W < 64 ∧ w < 7 ∧ mm_I ν 36 10 = nI W ∧ mm_I ν 37 7 = nI w ∧ (2 ^ w ≤ W ↔ (r.1 = 0 ∧ s = 0 ∧ 2 ^ r.2.2 1 ≤ r.2.2 44)) := by
        by_cases hs0 : s = 0
        · subst hs0
          obtain ⟨b0, b1, b2⟩ := hW.b0
          obtain ⟨c1, c2⟩ := hC.1 rfl
          exact ⟨r.2.2 44, r.2.2 1, b2, by omega, c2, c1.w, ⟨fun z => ⟨hr0, rfl, z⟩, fun z => z.2.2⟩⟩
        · obtain ⟨c1, c2⟩ := hC.2.2.2 hs0
          exact ⟨0, 0, by decide, by decide, c1, c2, ⟨fun z => absurd z (by decide), fun z => absurd z.2.1 hs0⟩⟩
      obtain ⟨W, w, hW6, hw7, i10, i7, hk⟩ := key
      obtain ⟨z1, z2⟩ := far_z W hW6 w hw7
      have hM := hMν
      by_cases hc : 2 ^ w ≤ W
      · have er : rdF s u L = (4, L, r.2.2) := by rw [hr]; exact if_pos (hk.mp hc)
        rw [er] at h
        refine mm_aload d_Re_read_105 rfl ?_
        refine mm_getIV d_Re_read_106 rfl (sk_o_36 hM) e3 ?_
        refine mm_if_neN d_Re_read_109 (by first | omega | exact ite01_lt | exact bt8_lt31 _ _ | exact godB_lt31 _ _ _ | exact pop_lt31 _ | assumption | exact b31 (hW.gp (by omega)) | exact b31 (hW.ne (by omega)) | exact b31 (hW.op (by omega)) | exact and31 (hW.gp (by omega)) | exact and31 (hW.ne (by omega)) | exact and31 (hW.op (by omega)) | exact and31 (by assumption) | exact and31r (hW.ne (by omega)) | exact and31r (hW.gp (by omega)) | exact and31r (by decide)) (fun c_109 => False.elim (by omega)) (fun c_109 => ?_)
        refine mm_aload d_Re_read_112 rfl ?_
        refine mm_getIN d_Re_read_113 rfl (sk_o_36 hM) i10 ?_
        refine mm_aload d_Re_read_116 rfl ?_
        refine mm_getP d_Re_read_117 rfl (sk_o_36 hM) (sk_p_36_0 hM) ?_
        refine mm_v0i d_Re_read_120 (sk_o_37 hM) (sp_Co_allWorksW (sk_c_37 hM) i7 (by omega) ?_)
        refine mm_ci d_Re_read_123 ?_
        refine mm_inotN d_Re_read_124 ?_
        refine mm_iandN d_Re_read_125 ?_
        refine mm_if_eqN d_Re_read_126 (by first | omega | exact ite01_lt | exact bt8_lt31 _ _ | exact godB_lt31 _ _ _ | exact pop_lt31 _ | assumption | exact b31 (hW.gp (by omega)) | exact b31 (hW.ne (by omega)) | exact b31 (hW.op (by omega)) | exact and31 (hW.gp (by omega)) | exact and31 (hW.ne (by omega)) | exact and31 (hW.op (by omega)) | exact and31 (by assumption) | exact and31r (hW.ne (by omega)) | exact and31r (hW.gp (by omega)) | exact and31r (by decide)) (fun c_126 => False.elim (by omega)) (fun c_126 => ?_)
        refine mm_aload d_Re_read_129 rfl ?_
        refine mm_ciN 4 d_Re_read_130 rfl ?_
        refine mm_aload d_Re_read_131 rfl ?_
        refine mm_getIN d_Re_read_132 rfl (sk_o_36 hM) e8 ?_
        refine mm_v2v d_Re_read_135 (sk_o_36 hM) (sp_Re_note hM ?_)
        exact mm_rv d_Re_read_138 (h _ ((hf.sI rfl).sI rfl) (by rw [mm_I_sI, if_neg (by decide), mm_I_sI, if_pos ⟨rfl, rfl⟩]) (by rw [mm_I_sI, if_pos ⟨rfl, rfl⟩]; rfl) (fun z => absurd (show (4 : Nat) = 0 from z) (by decide)) (Nat.lt_succ_self 4))
      · have er : rdF s u L = r := by rw [hr]; exact if_neg (fun z => hc (hk.mpr z))
        rw [er] at h
        refine mm_aload d_Re_read_105 rfl ?_
        refine mm_getIV d_Re_read_106 rfl (sk_o_36 hM) e3 ?_
        refine mm_if_neN d_Re_read_109 (by first | omega | exact ite01_lt | exact bt8_lt31 _ _ | exact godB_lt31 _ _ _ | exact pop_lt31 _ | assumption | exact b31 (hW.gp (by omega)) | exact b31 (hW.ne (by omega)) | exact b31 (hW.op (by omega)) | exact and31 (hW.gp (by omega)) | exact and31 (hW.ne (by omega)) | exact and31 (hW.op (by omega)) | exact and31 (by assumption) | exact and31r (hW.ne (by omega)) | exact and31r (hW.gp (by omega)) | exact and31r (by decide)) (fun c_109 => False.elim (by omega)) (fun c_109 => ?_)
        refine mm_aload d_Re_read_112 rfl ?_
        refine mm_getIN d_Re_read_113 rfl (sk_o_36 hM) i10 ?_
        refine mm_aload d_Re_read_116 rfl ?_
        refine mm_getP d_Re_read_117 rfl (sk_o_36 hM) (sk_p_36_0 hM) ?_
        refine mm_v0i d_Re_read_120 (sk_o_37 hM) (sp_Co_allWorksW (sk_c_37 hM) i7 (by omega) ?_)
        refine mm_ci d_Re_read_123 ?_
        refine mm_inotN d_Re_read_124 ?_
        refine mm_iandN d_Re_read_125 ?_
        refine mm_if_eqN d_Re_read_126 (by first | omega | exact ite01_lt | exact bt8_lt31 _ _ | exact godB_lt31 _ _ _ | exact pop_lt31 _ | assumption | exact b31 (hW.gp (by omega)) | exact b31 (hW.ne (by omega)) | exact b31 (hW.op (by omega)) | exact and31 (hW.gp (by omega)) | exact and31 (hW.ne (by omega)) | exact and31 (hW.op (by omega)) | exact and31 (by assumption) | exact and31r (hW.ne (by omega)) | exact and31r (hW.gp (by omega)) | exact and31r (by decide)) (fun c_126 => ?_) (fun c_126 => False.elim (by omega))
        exact mm_rv d_Re_read_138 (h ν hf (by rw [hr0]; exact e3) (by rw [if_pos hr0]; exact e4) (fun _ => ⟨hC, hW⟩) h5)
    · have er : rdF s u L = r := by rw [hr]; exact if_neg (fun z => hr0 z.1)
      rw [er] at h
      have hM := hMν
      refine mm_aload d_Re_read_105 rfl ?_
      refine mm_getIN d_Re_read_106 rfl (sk_o_36 hM) e3 ?_
      refine mm_if_neN d_Re_read_109 (by first | omega | exact ite01_lt | exact bt8_lt31 _ _ | exact godB_lt31 _ _ _ | exact pop_lt31 _ | assumption | exact b31 (hW.gp (by omega)) | exact b31 (hW.ne (by omega)) | exact b31 (hW.op (by omega)) | exact and31 (hW.gp (by omega)) | exact and31 (hW.ne (by omega)) | exact and31 (hW.op (by omega)) | exact and31 (by assumption) | exact and31r (hW.ne (by omega)) | exact and31r (hW.gp (by omega)) | exact and31r (by decide)) (fun c_109 => ?_) (fun c_109 => False.elim (by omega))
      exact mm_rv d_Re_read_138 (h ν hf e3 e4 hD h5)
  have loop : ∀ (n p i : Nat) (t : Nat → Nat) (fl pl : Nat) (ν : mm_M), L - p < n → i ≤ p → p ≤ L → fl < 5 → fl ≠ 1 → rdF s u L = rdE s L (rd s u L n p t fl pl) → Fr scRe μ ν → ClS s u L p t fl pl ν → mm_T X 8 0 0 k_Re_read 70 [some (.ref 36), some (.ref 2), some (.int (nI L)), some (.int (nI s)), some (.int (nI i))] [] ν (fun w μ' => w = none ∧ q μ') := by
    intro n
    induction n with
    | zero => intro p i t fl pl ν hn; exact absurd hn (Nat.not_lt_zero _)
    | succ n ih =>
      intro p i t fl pl ν hn hip hp hfl hf1 hr hf hS
      have hS' := hS
      obtain ⟨hR, hT, h9, hF, hFp, hD⟩ := hS
      have hM := hR.1
      have e8 := hR.2.2.1
      have hk5 := tK_lt (u := u) (L := L) (p := p)
      rw [show rd s u L (n + 1) p t fl pl = if tK u L p = 1 then (fl, pl, t) else match lnX s u L p with | some x => (1, x, t) | none => rd s u L n (pE s u L p) (jg s u L p t fl pl).2.2 (jg s u L p t fl pl).1 (jg s u L p t fl pl).2.1 from rfl] at hr
      by_cases h1 : tK u L p = 1
      · rw [if_pos h1] at hr
        refine mm_iload d_Re_read_70 rfl ?_
        refine mm_aload d_Re_read_72 rfl ?_
        refine mm_getIN d_Re_read_73 rfl (sk_o_36 hM) e8 ?_
        refine mm_icmp_gtN d_Re_read_76 (by first | omega | exact ite01_lt | exact bt8_lt31 _ _ | exact godB_lt31 _ _ _ | exact pop_lt31 _ | assumption | exact b31 (hW.gp (by omega)) | exact b31 (hW.ne (by omega)) | exact b31 (hW.op (by omega)) | exact and31 (hW.gp (by omega)) | exact and31 (hW.ne (by omega)) | exact and31 (hW.op (by omega)) | exact and31 (by assumption) | exact and31r (hW.ne (by omega)) | exact and31r (hW.gp (by omega)) | exact and31r (by decide)) (by first | omega | exact ite01_lt | exact bt8_lt31 _ _ | exact godB_lt31 _ _ _ | exact pop_lt31 _ | assumption | exact b31 (hW.gp (by omega)) | exact b31 (hW.ne (by omega)) | exact b31 (hW.op (by omega)) | exact and31 (hW.gp (by omega)) | exact and31 (hW.ne (by omega)) | exact and31 (hW.op (by omega)) | exact and31 (by assumption) | exact and31r (hW.ne (by omega)) | exact and31r (hW.gp (by omega)) | exact and31r (by decide)) (fun c_76 => False.elim (by omega)) (fun c_76 => ?_)
        refine mm_aload d_Re_read_79 rfl ?_
        refine mm_getIN d_Re_read_80 rfl (sk_o_36 hM) hT.2.1 ?_
        refine mm_ciN 1 d_Re_read_83 rfl ?_
        refine mm_icmp_eqN d_Re_read_84 (by first | omega | exact ite01_lt | exact bt8_lt31 _ _ | exact godB_lt31 _ _ _ | exact pop_lt31 _ | assumption | exact b31 (hW.gp (by omega)) | exact b31 (hW.ne (by omega)) | exact b31 (hW.op (by omega)) | exact and31 (hW.gp (by omega)) | exact and31 (hW.ne (by omega)) | exact and31 (hW.op (by omega)) | exact and31 (by assumption) | exact and31r (hW.ne (by omega)) | exact and31r (hW.gp (by omega)) | exact and31r (by decide)) (by first | omega | exact ite01_lt | exact bt8_lt31 _ _ | exact godB_lt31 _ _ _ | exact pop_lt31 _ | assumption | exact b31 (hW.gp (by omega)) | exact b31 (hW.ne (by omega)) | exact b31 (hW.op (by omega)) | exact and31 (hW.gp (by omega)) | exact and31 (hW.ne (by omega)) | exact and31 (hW.op (by omega)) | exact and31 (by assumption) | exact and31r (hW.ne (by omega)) | exact and31r (hW.gp (by omega)) | exact and31r (by decide)) (fun c_84 => ?_) (fun c_84 => False.elim (by omega))
        exact fin (fl, pl, t) ν _ hr hfl hf e8 hF hFp hD
      · rw [if_neg h1] at hr
        obtain ⟨g1, g2⟩ := pE_gt (s := s) h1
        have pEl : pE s u L p ≤ L := ps_le hp _
        refine mm_iload d_Re_read_70 rfl ?_
        refine mm_aload d_Re_read_72 rfl ?_
        refine mm_getIN d_Re_read_73 rfl (sk_o_36 hM) e8 ?_
        refine mm_icmp_gtN d_Re_read_76 (by first | omega | exact ite01_lt | exact bt8_lt31 _ _ | exact godB_lt31 _ _ _ | exact pop_lt31 _ | assumption | exact b31 (hW.gp (by omega)) | exact b31 (hW.ne (by omega)) | exact b31 (hW.op (by omega)) | exact and31 (hW.gp (by omega)) | exact and31 (hW.ne (by omega)) | exact and31 (hW.op (by omega)) | exact and31 (by assumption) | exact and31r (hW.ne (by omega)) | exact and31r (hW.gp (by omega)) | exact and31r (by decide)) (by first | omega | exact ite01_lt | exact bt8_lt31 _ _ | exact godB_lt31 _ _ _ | exact pop_lt31 _ | assumption | exact b31 (hW.gp (by omega)) | exact b31 (hW.ne (by omega)) | exact b31 (hW.op (by omega)) | exact and31 (hW.gp (by omega)) | exact and31 (hW.ne (by omega)) | exact and31 (hW.op (by omega)) | exact and31 (by assumption) | exact and31r (hW.ne (by omega)) | exact and31r (hW.gp (by omega)) | exact and31r (by decide)) (fun c_76 => False.elim (by omega)) (fun c_76 => ?_)
        refine mm_aload d_Re_read_79 rfl ?_
        refine mm_getIN d_Re_read_80 rfl (sk_o_36 hM) hT.2.1 ?_
        refine mm_ciN 1 d_Re_read_83 rfl ?_
        refine mm_icmp_eqN d_Re_read_84 (by first | omega | exact ite01_lt | exact bt8_lt31 _ _ | exact godB_lt31 _ _ _ | exact pop_lt31 _ | assumption | exact b31 (hW.gp (by omega)) | exact b31 (hW.ne (by omega)) | exact b31 (hW.op (by omega)) | exact and31 (hW.gp (by omega)) | exact and31 (hW.ne (by omega)) | exact and31 (hW.op (by omega)) | exact and31 (by assumption) | exact and31r (hW.ne (by omega)) | exact and31r (hW.gp (by omega)) | exact and31r (by decide)) (by first | omega | exact ite01_lt | exact bt8_lt31 _ _ | exact godB_lt31 _ _ _ | exact pop_lt31 _ | assumption | exact b31 (hW.gp (by omega)) | exact b31 (hW.ne (by omega)) | exact b31 (hW.op (by omega)) | exact and31 (hW.gp (by omega)) | exact and31 (hW.ne (by omega)) | exact and31 (hW.op (by omega)) | exact and31 (by assumption) | exact and31r (hW.ne (by omega)) | exact and31r (hW.gp (by omega)) | exact and31r (by decide)) (fun c_84 => False.elim (by omega)) (fun c_84 => ?_)
        refine mm_aload d_Re_read_87 rfl ?_
        refine mm_getIN d_Re_read_88 rfl (sk_o_36 hM) hF ?_
        refine mm_ciN 1 d_Re_read_91 rfl ?_
        refine mm_icmp_eqN d_Re_read_92 (by first | omega | exact ite01_lt | exact bt8_lt31 _ _ | exact godB_lt31 _ _ _ | exact pop_lt31 _ | assumption | exact b31 (hW.gp (by omega)) | exact b31 (hW.ne (by omega)) | exact b31 (hW.op (by omega)) | exact and31 (hW.gp (by omega)) | exact and31 (hW.ne (by omega)) | exact and31 (hW.op (by omega)) | exact and31 (by assumption) | exact and31r (hW.ne (by omega)) | exact and31r (hW.gp (by omega)) | exact and31r (by decide)) (by first | omega | exact ite01_lt | exact bt8_lt31 _ _ | exact godB_lt31 _ _ _ | exact pop_lt31 _ | assumption | exact b31 (hW.gp (by omega)) | exact b31 (hW.ne (by omega)) | exact b31 (hW.op (by omega)) | exact and31 (hW.gp (by omega)) | exact and31 (hW.ne (by omega)) | exact and31 (hW.op (by omega)) | exact and31 (by assumption) | exact and31r (hW.ne (by omega)) | exact and31r (hW.gp (by omega)) | exact and31r (by decide)) (fun c_92 => False.elim (by omega)) (fun c_92 => ?_)
        refine mm_aload d_Re_read_95 rfl ?_
        refine mm_v0v d_Re_read_96 (sk_o_36 hM) (sp_Re_readLine hS' hs3 hp hfl (fun x ξ hx g gP g8 gt g3 g4 => ?_) (fun ξ hx g gP gS => ?_))
        · rw [hx] at hr
          replace hM := g.2.2.2 hM
          obtain ⟨y, y5, hy⟩ := gt
          have e8' : mm_I ξ 36 8 = nI L := g8.trans e8
          refine mm_inc4N d_Re_read_99 ?_
          refine mm_goto d_Re_read_102 ?_
          refine mm_iload d_Re_read_70 rfl ?_
          refine mm_aload d_Re_read_72 rfl ?_
          refine mm_getIN d_Re_read_73 rfl (sk_o_36 hM) e8' ?_
          refine mm_icmp_gtN d_Re_read_76 (by omega) (by omega) (fun c => False.elim (by omega)) (fun _ => ?_)
          refine mm_aload d_Re_read_79 rfl ?_
          refine mm_getIN d_Re_read_80 rfl (sk_o_36 hM) hy ?_
          refine mm_ciN 1 d_Re_read_83 rfl ?_
          refine mm_icmp_eqN d_Re_read_84 (by omega) (by omega) (fun _ => fin (1, x, t) ξ _ hr (show (1 : Nat) < 5 by decide) (hf.trans g) e8' g3 g4 (fun z => absurd (show (1 : Nat) = 0 from z) (by decide))) (fun _ => ?_)
          refine mm_aload d_Re_read_87 rfl ?_
          refine mm_getIN d_Re_read_88 rfl (sk_o_36 hM) g3 ?_
          refine mm_ciN 1 d_Re_read_91 rfl ?_
          refine mm_icmp_eqN d_Re_read_92 (by omega) (by omega) (fun _ => fin (1, x, t) ξ _ hr (show (1 : Nat) < 5 by decide) (hf.trans g) e8' g3 g4 (fun z => absurd (show (1 : Nat) = 0 from z) (by decide))) (fun c => absurd rfl c)
        · rw [hx] at hr
          refine mm_inc4N d_Re_read_99 ?_
          refine mm_goto d_Re_read_102 ?_
          exact ih (pE s u L p) (i + 1) _ _ _ ξ (by omega) (by omega) pEl (jg_lt hfl) (jg_ne hf1) hr (hf.trans g) gS
  show mm_T X 8 0 0 k_Re_read 0 [some (.ref 36), some (.ref 2), some (.int (nI L)), some (.int (nI s)), none] [] μ _
  refine mm_aload d_Re_read_0 rfl ?_
  refine mm_aload d_Re_read_1 rfl ?_
  refine mm_putP d_Re_read_2 rfl (by decide) (sk_o_36 hM) (Or.inl rfl) ?_
  have f0 : Fr scRe μ (mm_sP μ 36 7 (some 2)) := Fr.rf.sP rfl (by decide)
  replace hM := f0.2.2.2 hM
  refine mm_aload d_Re_read_5 rfl ?_
  refine mm_iload d_Re_read_6 rfl ?_
  refine mm_aload d_Re_read_7 rfl ?_
  refine mm_alen d_Re_read_8 (sk_a_2 hM) ?_
  refine mm_mminN d_Re_read_9 (by omega) (by decide) (by decide) (by decide) ?_
  rw [Nat.min_eq_left hL]
  refine mm_putI d_Re_read_12 rfl (sk_o_36 hM) (Or.inl rfl) ?_
  refine mm_aload d_Re_read_15 rfl ?_
  refine mm_iload d_Re_read_16 rfl ?_
  refine mm_putI d_Re_read_17 rfl (sk_o_36 hM) (Or.inl rfl) ?_
  refine mm_aload d_Re_read_20 rfl ?_
  refine mm_ciN 0 d_Re_read_21 rfl ?_
  refine mm_putI d_Re_read_22 rfl (sk_o_36 hM) (Or.inl rfl) ?_
  refine mm_aload d_Re_read_25 rfl ?_
  refine mm_ciN 0 d_Re_read_26 rfl ?_
  refine mm_putI d_Re_read_27 rfl (sk_o_36 hM) (Or.inl rfl) ?_
  refine mm_aload d_Re_read_30 rfl ?_
  refine mm_ci d_Re_read_31 ?_
  refine mm_putI d_Re_read_32 rfl (sk_o_36 hM) (Or.inl rfl) ?_
  refine mm_aload d_Re_read_35 rfl ?_
  refine mm_ciN 0 d_Re_read_36 rfl ?_
  refine mm_putI d_Re_read_37 rfl (sk_o_36 hM) (Or.inl rfl) ?_
  refine mm_aload d_Re_read_40 rfl ?_
  refine mm_getP d_Re_read_41 rfl (sk_o_36 hM) (sk_p_36_0 hM) ?_
  refine mm_v0v d_Re_read_44 (sk_o_37 hM) (sp_Co_clear hM (fun ν1 g1 p1 c6 c7 ca cb => ?_))
  replace hM := g1.2.2.2 hM
  refine mm_aload d_Re_read_47 rfl ?_
  refine mm_getP d_Re_read_48 rfl (sk_o_36 hM) (sk_p_36_1 hM) ?_
  refine mm_ciN 0 d_Re_read_51 rfl ?_
  refine mm_putI d_Re_read_52 rfl (sk_o_44 hM) (Or.inl rfl) ?_
  refine mm_aload d_Re_read_55 rfl ?_
  refine mm_getP d_Re_read_56 rfl (sk_o_36 hM) (sk_p_36_2 hM) ?_
  refine mm_ciN 0 d_Re_read_59 rfl ?_
  refine mm_putI d_Re_read_60 rfl (sk_o_48 hM) (Or.inl rfl) ?_
  refine mm_aload d_Re_read_63 rfl ?_
  have fN : Fr scRe μ (mm_sI (mm_sI ν1 44 3 (nI 0)) 48 2 (nI 0)) := (((((((((f0.sI rfl).sI rfl).sI rfl).sI rfl).sI rfl).sI rfl).trans (g1.sub (fun a z => by have := scR_o z; unfold scRe; simp; omega))).sI rfl).sI rfl)
  have o36 : ∀ j, mm_I (mm_sI (mm_sI ν1 44 3 (nI 0)) 48 2 (nI 0)) 36 j = mm_I (mm_sI (mm_sI (mm_sI (mm_sI (mm_sI (mm_sI (mm_sP μ 36 7 (some 2)) 36 8 (nI L)) 36 9 (nI s)) 36 11 (nI 0)) 36 3 (nI 0)) 36 4 (-1)) 36 10 (nI 0)) 36 j := fun j => by rw [mm_sI_off (by decide), mm_sI_off (by decide), (g1.2.2.1 36 rfl).1]
  have hRN : Rd u L (mm_sI (mm_sI ν1 44 3 (nI 0)) 48 2 (nI 0)) := ⟨hM, by show mm_P ν1 36 7 = some 2; rw [p1]; show mm_P (mm_sP μ 36 7 (some 2)) 36 7 = some 2; rw [mm_P_sP, if_pos ⟨rfl, rfl⟩], by rw [o36]; simp only [mm_I_sI]; (repeat (first | rw [if_neg (by first | omega | (intro z; have := z.2; omega))] | rw [if_pos (by first | omega | trivial | (refine ⟨trivial, ?_⟩; first | trivial | omega))])), hL, by rw [(fN.2.2.1 2 rfl).1]; exact hb⟩
  refine mm_v0v d_Re_read_64 (sk_o_36 hM) (sp_Re_takeToken hRN (show _ = nI 0 by rw [o36]; simp only [mm_I_sI]; (repeat (first | rw [if_neg (by first | omega | (intro z; have := z.2; omega))] | rw [if_pos (by first | omega | trivial | (refine ⟨trivial, ?_⟩; first | trivial | omega))]))) (Nat.zero_le _) (fun ξ kt tk => ?_))
  refine mm_ciN 0 d_Re_read_67 rfl ?_
  refine mm_ist4 d_Re_read_68 ?_
  have k36 : ∀ j, j < 11 → mm_I ξ 36 j = mm_I (mm_sI (mm_sI (mm_sI (mm_sI (mm_sI (mm_sI (mm_sP μ 36 7 (some 2)) 36 8 (nI L)) 36 9 (nI s)) 36 11 (nI 0)) 36 3 (nI 0)) 36 4 (-1)) 36 10 (nI 0)) 36 j := fun j hj => by rw [kt.2.2 j (Or.inl hj), o36]
  have ko : ∀ a, 37 ≤ a → a ≤ 50 → mm_I ξ a = mm_I (mm_sI (mm_sI ν1 44 3 (nI 0)) 48 2 (nI 0)) a := fun a h1 h2 => (kt.1.2.2.1 a (by unfold sc36; simp; omega)).1
  have ko1 : ∀ a, 37 ≤ a → a ≤ 43 → mm_I ξ a = mm_I ν1 a := fun a h1 h2 => by rw [ko a h1 (by omega), mm_sI_off (by omega), mm_sI_off (by omega)]
  have hMx := kt.1.2.2.2 hM
  have hRC : RC s (t0F s) ξ := by
    refine ⟨fun z => ?_, fun z => ?_, fun z => ?_, fun z => ?_⟩
    · subst z
      refine ⟨CoD_mk hMx (by rw [ko1 37 (by decide) (by decide)]; exact c6) (by rw [ko1 37 (by decide) (by decide)]; exact c7) (fun j hj => ?_) (fun j hj => ?_) (fun j hj => ?_) (fun j hj => ?_) (fun j hj => ?_) (fun j hj => ?_), by rw [k36 10 (by decide)]; simp only [mm_I_sI]; (repeat (first | rw [if_neg (by first | omega | (intro z; have := z.2; omega))] | rw [if_pos (by first | omega | trivial | (refine ⟨trivial, ?_⟩; first | trivial | omega))])); rfl⟩
      · rw [ko1 38 (by decide) (by decide), (ca j hj).1]; unfold t0F; rw [if_pos (by omega)]
      · rw [ko1 39 (by decide) (by decide), (ca j hj).2.1]; unfold t0F; rw [if_pos (by omega)]
      · rw [ko1 40 (by decide) (by decide), (ca j hj).2.2]; unfold t0F; rw [if_neg (by omega)]
      · rw [ko1 41 (by decide) (by decide), (cb j hj).1]; unfold t0F; rw [if_neg (by omega)]
      · rw [ko1 42 (by decide) (by decide), (cb j hj).2.1]; unfold t0F; rw [if_neg (by omega)]
      · rw [ko1 43 (by decide) (by decide), (cb j hj).2.2]; unfold t0F; rw [if_neg (by omega)]
    · have e : t0F s 0 = 0 := by unfold t0F; rw [if_neg (by omega)]
      rw [e]
      exact ⟨by rw [ko 44 (by decide) (by decide), mm_sI_off (by decide), mm_I_sI, if_pos ⟨rfl, rfl⟩], fun j hj => absurd hj (Nat.not_lt_zero j)⟩
    · have e : t0F s 0 = 0 := by unfold t0F; rw [if_neg (by omega)]
      rw [e]
      exact ⟨by rw [ko 48 (by decide) (by decide), mm_I_sI, if_pos ⟨rfl, rfl⟩], fun j hj => absurd hj (Nat.not_lt_zero j)⟩
    · exact ⟨by rw [k36 10 (by decide)]; simp only [mm_I_sI]; (repeat (first | rw [if_neg (by first | omega | (intro z; have := z.2; omega))] | rw [if_pos (by first | omega | trivial | (refine ⟨trivial, ?_⟩; first | trivial | omega))])), by rw [ko1 37 (by decide) (by decide)]; exact c7⟩
  exact loop (L + 1) 0 0 (t0F s) 0 0 ξ (by omega) (Nat.le_refl _) (Nat.zero_le _) (by decide) (by decide) rfl (fN.trans kt.re) ⟨hRN.kt kt, tk, by rw [k36 9 (by decide)]; simp only [mm_I_sI]; (repeat (first | rw [if_neg (by first | omega | (intro z; have := z.2; omega))] | rw [if_pos (by first | omega | trivial | (refine ⟨trivial, ?_⟩; first | trivial | omega))])), by rw [k36 3 (by decide)]; simp only [mm_I_sI]; (repeat (first | rw [if_neg (by first | omega | (intro z; have := z.2; omega))] | rw [if_pos (by first | omega | trivial | (refine ⟨trivial, ?_⟩; first | trivial | omega))])), by rw [k36 4 (by decide)]; simp only [mm_I_sI]; (repeat (first | rw [if_neg (by first | omega | (intro z; have := z.2; omega))] | rw [if_pos (by first | omega | trivial | (refine ⟨trivial, ?_⟩; first | trivial | omega))])), fun _ => ⟨hRC, WfT_0 hs3⟩⟩
