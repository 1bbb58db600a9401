/-! pairs: call -/
def hdN (D : mm_D) (N n : Nat) : Nat → Nat
  | 0 => 0
  | i + 1 => hdN D N n i ||| 2 ^ fc D N (n - (i + 1)) i (hdN D N n i)
theorem rw_eq {D : mm_D} {N n : Nat} : ∀ r i j, r + i = n → i ≤ j → j < n → rwC D N r i (hdN D N n i) j = fc D N (n - (j + 1)) j (hdN D N n j)
  | 0, i, j, h1, h2, h3 => absurd h3 (by omega)
  | r + 1, i, j, h1, h2, h3 => by
    have er : n - (i + 1) = r := by omega
    unfold rwC
    by_cases e : j = i
    · subst e
      rw [if_pos rfl, er]
    · rw [if_neg e]
      have := rw_eq (D := D) (N := N) r (i + 1) j (by omega) (by omega) h3
      rw [← this]
      show _ = rwC D N r (i + 1) (hdN D N n i ||| 2 ^ fc D N (n - (i + 1)) i (hdN D N n i)) j
      rw [er]
theorem cn_next {D : mm_D} {N r i had : Nat} (h : cn D N (r + 1) i had = true) : fc D N r i had < dn D ∧ gd D N i had (cn D N r (i + 1)) (fc D N r i had) = true ∧ (∀ c, c < fc D N r i had → ¬ gd D N i had (cn D N r (i + 1)) c = true) ∧ cn D N r (i + 1) (had ||| 2 ^ fc D N r i had) = true := by
  unfold cn at h
  rcases lst_i (g := gd D N i had (cn D N r (i + 1))) (dn D) with ⟨h1, h2⟩ | ⟨c, h1, h2, h3, h4⟩
  · rw [h1] at h; cases h
  · have e : fc D N r i had = c := by unfold fc; rw [h2]; rfl
    rw [e]
    refine ⟨h1, h3, h4, ?_⟩
    unfold gd at h3
    rw [Bool.and_eq_true] at h3
    exact h3.2
theorem cn_path {D : mm_D} (hW : WfD D) {N n : Nat} (h : cn D N n 0 0 = true) : ∀ i, i ≤ n → cn D N (n - i) i (hdN D N n i) = true ∧ hdN D N n i < 64
  | 0, _ => ⟨h, show (0 : Nat) < 64 by decide⟩
  | i + 1, hi => by
    obtain ⟨a, b⟩ := cn_path hW h i (by omega)
    rw [show n - i = (n - (i + 1)) + 1 by omega] at a
    obtain ⟨c1, -, -, c4⟩ := cn_next a
    have hn6 := hW.1
    exact ⟨c4, or_lt64 b (p2_lt (by omega))⟩
theorem sp_M_callBy {X : mm_X} {ν : mm_M} {q : Int32 → mm_M → Prop} {k N i had c : Nat} {D : mm_D} (hH : Hd ν k D) (hN : N < 256) (hi : i < pop N) (hh : had < 64) (hc : c < dn D) (ht : ∀ h', h' < 64 → mm_I ν 85 (64 * (i + 1) + h') = nI (if cn D N (pop N - (i + 1)) (i + 1) h' = true then 1 else 0)) (h : q (nI (if gd D N i had (cn D N (pop N - (i + 1)) (i + 1)) c = true then 1 else 0)) ν) : mm_Ci X 2 0 0 k_M_callBy [.ref 71, .int (nI N), .int (nI i), .int (nI had), .int (nI c)] ν q := by
  show mm_T X 2 0 0 k_M_callBy 0 [some (.ref 71), some (.int (nI N)), some (.int (nI i)), some (.int (nI had)), some (.int (nI c))] [] ν _
  have hM := hH.1
  have hW := hH.wf
  have hn6 := hW.1
  have hp8 := pop_le N
  obtain ⟨-, -, m3⟩ := rem_ok N hN i (by omega)
  obtain ⟨-, k2, k3, k4⟩ := m3 hi
  have hhc : had ||| 2 ^ c < 64 := or_lt64 hh (p2_lt (by omega))
  have hgB : godB D c (kthN N i) = bt8 (dgp D c) (kthN N i) := if_pos hc
  refine mm_iload d_M_callBy_0 rfl ?_
  refine mm_iload d_M_callBy_1 rfl ?_
  refine mm_s2i d_M_callBy_3 (sp_M_has (by first | omega | assumption | exact hW.gp (by omega) | exact hW.ne (by omega) | exact hW.op (by omega) | exact and_lt256 (hW.gp (by omega)) | exact and_lt256 (hW.ne (by omega)) | exact and_lt256 (hW.op (by omega)) | exact and_lt256 (by assumption)) (by omega) ?_)
  refine mm_if_neN d_M_callBy_6 (by first | omega | exact ite01_lt | exact bt8_lt31 _ _ | exact godB_lt31 _ _ _ | exact pop_lt31 _ | assumption | exact b31 (hW.gp (by omega)) | exact b31 (hW.ne (by omega)) | exact b31 (hW.op (by omega)) | exact and31 (hW.gp (by omega)) | exact and31 (hW.ne (by omega)) | exact and31 (hW.op (by omega)) | exact and31 (by assumption) | exact and31r (hW.ne (by omega)) | exact and31r (hW.gp (by omega)) | exact and31r (by decide)) (fun c_6 => ?_) (fun c_6 => ?_)
  · refine mm_ciN 0 d_M_callBy_52 rfl ?_
    exact mm_rz d_M_callBy_53 (by first | (rw [if_neg (gd_f (Or.inl c_6))] at h; exact h) | (rw [if_neg (gd_f (Or.inr (Or.inl (hgB.trans c_24))))] at h; exact h) | (rw [if_neg (gd_f (Or.inr (Or.inr (Bool.eq_false_iff.mpr (ite01_eq c_45)))))] at h; exact h) | (rw [if_pos (gd_t c_6 (by rw [hgB]; exact c_24) (ite01_ne c_45))] at h; exact h))
  · refine mm_aload d_M_callBy_9 rfl ?_
    refine mm_iload d_M_callBy_10 rfl ?_
    refine mm_v1i d_M_callBy_12 (sk_o_71 hM) (sp_M_gods hH (by omega) ?_)
    refine mm_aload d_M_callBy_15 rfl ?_
    refine mm_iload d_M_callBy_16 rfl ?_
    refine mm_iload d_M_callBy_17 rfl ?_
    refine mm_v2i d_M_callBy_18 (sk_o_71 hM) (sp_M_kth hM hN k2 k3 k4 ?_)
    refine mm_s2i d_M_callBy_21 (sp_M_has (by first | omega | assumption | exact hW.gp (by omega) | exact hW.ne (by omega) | exact hW.op (by omega) | exact and_lt256 (hW.gp (by omega)) | exact and_lt256 (hW.ne (by omega)) | exact and_lt256 (hW.op (by omega)) | exact and_lt256 (by assumption)) (by omega) ?_)
    refine mm_if_eqN d_M_callBy_24 (by first | omega | exact ite01_lt | exact bt8_lt31 _ _ | exact godB_lt31 _ _ _ | exact pop_lt31 _ | assumption | exact b31 (hW.gp (by omega)) | exact b31 (hW.ne (by omega)) | exact b31 (hW.op (by omega)) | exact and31 (hW.gp (by omega)) | exact and31 (hW.ne (by omega)) | exact and31 (hW.op (by omega)) | exact and31 (by assumption) | exact and31r (hW.ne (by omega)) | exact and31r (hW.gp (by omega)) | exact and31r (by decide)) (fun c_24 => ?_) (fun c_24 => ?_)
    · refine mm_ciN 0 d_M_callBy_52 rfl ?_
      exact mm_rz d_M_callBy_53 (by first | (rw [if_neg (gd_f (Or.inl c_6))] at h; exact h) | (rw [if_neg (gd_f (Or.inr (Or.inl (hgB.trans c_24))))] at h; exact h) | (rw [if_neg (gd_f (Or.inr (Or.inr (Bool.eq_false_iff.mpr (ite01_eq c_45)))))] at h; exact h) | (rw [if_pos (gd_t c_6 (by rw [hgB]; exact c_24) (ite01_ne c_45))] at h; exact h))
    · refine mm_aload d_M_callBy_27 rfl ?_
      refine mm_getP d_M_callBy_28 rfl (sk_o_71 hM) (sk_p_71_34 hM) ?_
      refine mm_ciN 64 d_M_callBy_31 rfl ?_
      refine mm_iload d_M_callBy_33 rfl ?_
      refine mm_ciN 1 d_M_callBy_34 rfl ?_
      refine mm_iaddN d_M_callBy_35 ?_
      refine mm_imulN d_M_callBy_36 ?_
      refine mm_iload d_M_callBy_37 rfl ?_
      refine mm_ciN 1 d_M_callBy_38 rfl ?_
      refine mm_iload d_M_callBy_39 rfl ?_
      refine mm_ishl1N d_M_callBy_41 (by omega) ?_
      refine mm_iorN d_M_callBy_42 ?_
      refine mm_iaddN d_M_callBy_43 ?_
      refine mm_zaldN d_M_callBy_44 (sk_a_85 hM) (by omega) (by decide) (ht _ hhc) ?_
      refine mm_if_eqN d_M_callBy_45 (by first | omega | exact ite01_lt | exact bt8_lt31 _ _ | exact godB_lt31 _ _ _ | exact pop_lt31 _ | assumption | exact b31 (hW.gp (by omega)) | exact b31 (hW.ne (by omega)) | exact b31 (hW.op (by omega)) | exact and31 (hW.gp (by omega)) | exact and31 (hW.ne (by omega)) | exact and31 (hW.op (by omega)) | exact and31 (by assumption) | exact and31r (hW.ne (by omega)) | exact and31r (hW.gp (by omega)) | exact and31r (by decide)) (fun c_45 => ?_) (fun c_45 => ?_)
      · refine mm_ciN 0 d_M_callBy_52 rfl ?_
        exact mm_rz d_M_callBy_53 (by first | (rw [if_neg (gd_f (Or.inl c_6))] at h; exact h) | (rw [if_neg (gd_f (Or.inr (Or.inl (hgB.trans c_24))))] at h; exact h) | (rw [if_neg (gd_f (Or.inr (Or.inr (Bool.eq_false_iff.mpr (ite01_eq c_45)))))] at h; exact h) | (rw [if_pos (gd_t c_6 (by rw [hgB]; exact c_24) (ite01_ne c_45))] at h; exact h))
      · refine mm_ciN 1 d_M_callBy_48 rfl ?_
        refine mm_goto d_M_callBy_49 ?_
        exact mm_rz d_M_callBy_53 (by first | (rw [if_neg (gd_f (Or.inl c_6))] at h; exact h) | (rw [if_neg (gd_f (Or.inr (Or.inl (hgB.trans c_24))))] at h; exact h) | (rw [if_neg (gd_f (Or.inr (Or.inr (Bool.eq_false_iff.mpr (ite01_eq c_45)))))] at h; exact h) | (rw [if_pos (gd_t c_6 (by rw [hgB]; exact c_24) (ite01_ne c_45))] at h; exact h))
/-- the model's table from the row i on -/
def TB (D : mm_D) (N k : Nat) (μ : mm_M) (i : Nat) (ν : mm_M) : Prop := Fr scM μ ν ∧ Hd ν k D ∧ ∀ i' h', i ≤ i' → i' ≤ pop N → h' < 64 → mm_I ν 85 (64 * i' + h') = nI (if cn D N (pop N - i') i' h' = true then 1 else 0)
theorem sp_M_findCalls {X : mm_X} {μ : mm_M} {q : mm_M → Prop} {k N : Nat} {D : mm_D} (hH : Hd μ k D) (hN : N < 256) (h : ∀ ν, TB D N k μ 0 ν → q ν) : mm_Cv X 3 0 0 k_M_findCalls [.ref 71, .int (nI N)] μ q := by
  show mm_T X 3 0 0 k_M_findCalls 0 [some (.ref 71), some (.int (nI N)), none, none, none, none, none] [] μ _
  have hW := hH.wf
  have hn6 := hW.1
  have hp8 := pop_le N
  have row : ∀ (i : Nat) (ν : mm_M) (l4 l5 l6 : Option Value), i ≤ pop N → TB D N k μ (i + 1) ν → (∀ ν' l4 l5 l6, TB D N k μ i ν' → mm_T X 3 0 0 k_M_findCalls 88 [some (.ref 71), some (.int (nI N)), some (.int (nI (pop N))), some (.int (nI i)), l4, l5, l6] [] ν' (fun v μ' => v = none ∧ q μ')) → mm_T X 3 0 0 k_M_findCalls 11 [some (.ref 71), some (.int (nI N)), some (.int (nI (pop N))), some (.int (nI i)), l4, l5, l6] [] ν (fun v μ' => v = none ∧ q μ') := by
    intro i ν l4 l5 l6 hi hT go
    refine mm_ciN 0 d_M_findCalls_11 rfl ?_
    refine mm_ist4 d_M_findCalls_12 ?_
    refine mm_up (P := fun had => ∀ (l5 l6 : Option Value) (ν : mm_M), TB D N k μ (i + 1) ν → (∀ h', h' < had → mm_I ν 85 (64 * i + h') = nI (if cn D N (pop N - i) i h' = true then 1 else 0)) → mm_T X 3 0 0 k_M_findCalls 14 [some (.ref 71), some (.int (nI N)), some (.int (nI (pop N))), some (.int (nI i)), some (.int (nI had)), l5, l6] [] ν (fun v μ' => v = none ∧ q μ')) 64 ?_ ?_ l5 l6 ν hT (fun h' hh => absurd hh (Nat.not_lt_zero h'))
    · intro l5 l6 ν hT e
      have hM := hT.2.1.1
      refine mm_iload d_M_findCalls_14 rfl ?_
      refine mm_ciN 64 d_M_findCalls_16 rfl ?_
      refine mm_icmp_geN d_M_findCalls_18 (by first | omega | exact ite01_lt | exact bt8_lt31 _ _ | exact godB_lt31 _ _ _ | exact pop_lt31 _ | assumption | exact b31 (hW.gp (by omega)) | exact b31 (hW.ne (by omega)) | exact b31 (hW.op (by omega)) | exact and31 (hW.gp (by omega)) | exact and31 (hW.ne (by omega)) | exact and31 (hW.op (by omega)) | exact and31 (by assumption) | exact and31r (hW.ne (by omega)) | exact and31r (hW.gp (by omega)) | exact and31r (by decide)) (by first | omega | exact ite01_lt | exact bt8_lt31 _ _ | exact godB_lt31 _ _ _ | exact pop_lt31 _ | assumption | exact b31 (hW.gp (by omega)) | exact b31 (hW.ne (by omega)) | exact b31 (hW.op (by omega)) | exact and31 (hW.gp (by omega)) | exact and31 (hW.ne (by omega)) | exact and31 (hW.op (by omega)) | exact and31 (by assumption) | exact and31r (hW.ne (by omega)) | exact and31r (hW.gp (by omega)) | exact and31r (by decide)) (fun c_18 => ?_) (fun c_18 => False.elim (by omega))
      exact go ν _ _ _ ⟨hT.1, hT.2.1, fun i' h' a1 a2 a3 => by by_cases y : i' = i; (subst y; exact e h' a3); exact hT.2.2 i' h' (by omega) a2 a3⟩
    · intro had hh IH l5 l6 ν hT e
      have hM := hT.2.1.1
      have hH := hT.2.1
      have store : ∀ (z : Nat) (l6 : Option Value), z = (if cn D N (pop N - i) i had = true then 1 else 0) → mm_T X 3 0 0 k_M_findCalls 68 [some (.ref 71), some (.int (nI N)), some (.int (nI (pop N))), some (.int (nI i)), some (.int (nI had)), some (.int (nI z)), l6] [] ν (fun v μ' => v = none ∧ q μ') := by
        intro z l6 hz
        have z01 : nI z = 0 ∨ nI z = 1 := by rw [hz]; split; exact Or.inr rfl; exact Or.inl rfl
        refine mm_aload d_M_findCalls_68 rfl ?_
        refine mm_getP d_M_findCalls_69 rfl (sk_o_71 hM) (sk_p_71_34 hM) ?_
        refine mm_ciN 64 d_M_findCalls_72 rfl ?_
        refine mm_iload d_M_findCalls_74 rfl ?_
        refine mm_imulN d_M_findCalls_75 ?_
        refine mm_iload d_M_findCalls_76 rfl ?_
        refine mm_iaddN d_M_findCalls_78 ?_
        refine mm_iload d_M_findCalls_79 rfl ?_
        refine mm_zastX d_M_findCalls_81 (sk_a_85 hM) (by omega) (by decide) z01 ?_
        refine mm_inc4N d_M_findCalls_82 ?_
        refine mm_goto d_M_findCalls_85 ?_
        refine IH _ _ _ ⟨hT.1.sI rfl, hH.sI (by decide) (by decide), fun i' h' a1 a2 a3 => ?_⟩ (fun h' a => ?_)
        · rw [mm_I_sI, if_neg (by omega)]; exact hT.2.2 i' h' a1 a2 a3
        · rw [mm_I_sI]
          by_cases y : h' = had
          · rw [if_pos ⟨rfl, by rw [y]⟩, hz, y]
          · rw [if_neg (by omega)]; exact e h' (by omega)
      by_cases hin : i = pop N
      · subst hin
        have hc1 : cn D N (pop N - pop N) (pop N) had = true := by rw [Nat.sub_self]; rfl
        rw [hc1, if_pos rfl] at store
        refine mm_iload d_M_findCalls_14 rfl ?_
        refine mm_ciN 64 d_M_findCalls_16 rfl ?_
        refine mm_icmp_geN d_M_findCalls_18 (by first | omega | exact ite01_lt | exact bt8_lt31 _ _ | exact godB_lt31 _ _ _ | exact pop_lt31 _ | assumption | exact b31 (hW.gp (by omega)) | exact b31 (hW.ne (by omega)) | exact b31 (hW.op (by omega)) | exact and31 (hW.gp (by omega)) | exact and31 (hW.ne (by omega)) | exact and31 (hW.op (by omega)) | exact and31 (by assumption) | exact and31r (hW.ne (by omega)) | exact and31r (hW.gp (by omega)) | exact and31r (by decide)) (by first | omega | exact ite01_lt | exact bt8_lt31 _ _ | exact godB_lt31 _ _ _ | exact pop_lt31 _ | assumption | exact b31 (hW.gp (by omega)) | exact b31 (hW.ne (by omega)) | exact b31 (hW.op (by omega)) | exact and31 (hW.gp (by omega)) | exact and31 (hW.ne (by omega)) | exact and31 (hW.op (by omega)) | exact and31 (by assumption) | exact and31r (hW.ne (by omega)) | exact and31r (hW.gp (by omega)) | exact and31r (by decide)) (fun c_18 => False.elim (by omega)) (fun c_18 => ?_)
        refine mm_iload d_M_findCalls_21 rfl ?_
        refine mm_iload d_M_findCalls_22 rfl ?_
        refine mm_icmp_neN d_M_findCalls_23 (by first | omega | exact ite01_lt | exact bt8_lt31 _ _ | exact godB_lt31 _ _ _ | exact pop_lt31 _ | assumption | exact b31 (hW.gp (by omega)) | exact b31 (hW.ne (by omega)) | exact b31 (hW.op (by omega)) | exact and31 (hW.gp (by omega)) | exact and31 (hW.ne (by omega)) | exact and31 (hW.op (by omega)) | exact and31 (by assumption) | exact and31r (hW.ne (by omega)) | exact and31r (hW.gp (by omega)) | exact and31r (by decide)) (by first | omega | exact ite01_lt | exact bt8_lt31 _ _ | exact godB_lt31 _ _ _ | exact pop_lt31 _ | assumption | exact b31 (hW.gp (by omega)) | exact b31 (hW.ne (by omega)) | exact b31 (hW.op (by omega)) | exact and31 (hW.gp (by omega)) | exact and31 (hW.ne (by omega)) | exact and31 (hW.op (by omega)) | exact and31 (by assumption) | exact and31r (hW.ne (by omega)) | exact and31r (hW.gp (by omega)) | exact and31r (by decide)) (fun c_23 => False.elim (by omega)) (fun c_23 => ?_)
        refine mm_ciN 1 d_M_findCalls_26 rfl ?_
        refine mm_goto d_M_findCalls_27 ?_
        refine mm_ist5 d_M_findCalls_31 ?_
        refine mm_ciN 0 d_M_findCalls_33 rfl ?_
        refine mm_ist6 d_M_findCalls_34 ?_
        refine mm_iload d_M_findCalls_36 rfl ?_
        refine mm_aload d_M_findCalls_38 rfl ?_
        refine mm_getIN d_M_findCalls_39 rfl (sk_o_71 hM) hH.n ?_
        refine mm_icmp_geN d_M_findCalls_42 (by first | omega | exact ite01_lt | exact bt8_lt31 _ _ | exact godB_lt31 _ _ _ | exact pop_lt31 _ | assumption | exact b31 (hW.gp (by omega)) | exact b31 (hW.ne (by omega)) | exact b31 (hW.op (by omega)) | exact and31 (hW.gp (by omega)) | exact and31 (hW.ne (by omega)) | exact and31 (hW.op (by omega)) | exact and31 (by assumption) | exact and31r (hW.ne (by omega)) | exact and31r (hW.gp (by omega)) | exact and31r (by decide)) (by first | omega | exact ite01_lt | exact bt8_lt31 _ _ | exact godB_lt31 _ _ _ | exact pop_lt31 _ | assumption | exact b31 (hW.gp (by omega)) | exact b31 (hW.ne (by omega)) | exact b31 (hW.op (by omega)) | exact and31 (hW.gp (by omega)) | exact and31 (hW.ne (by omega)) | exact and31 (hW.op (by omega)) | exact and31 (by assumption) | exact and31r (hW.ne (by omega)) | exact and31r (hW.gp (by omega)) | exact and31r (by decide)) (fun c_42 => ?_) (fun c_42 => ?_)
        · exact store 1 _ rfl
        · refine mm_iload d_M_findCalls_45 rfl ?_
          refine mm_if_neN d_M_findCalls_47 (by first | omega | exact ite01_lt | exact bt8_lt31 _ _ | exact godB_lt31 _ _ _ | exact pop_lt31 _ | assumption | exact b31 (hW.gp (by omega)) | exact b31 (hW.ne (by omega)) | exact b31 (hW.op (by omega)) | exact and31 (hW.gp (by omega)) | exact and31 (hW.ne (by omega)) | exact and31 (hW.op (by omega)) | exact and31 (by assumption) | exact and31r (hW.ne (by omega)) | exact and31r (hW.gp (by omega)) | exact and31r (by decide)) (fun c_47 => ?_) (fun c_47 => False.elim (by omega))
          exact store 1 _ rfl
      · have er : pop N - i = (pop N - (i + 1)) + 1 := by omega
        have ht := fun h' hh' => hT.2.2 (i + 1) h' (Nat.le_refl _) (by omega) hh'
        have ecn : cn D N (pop N - i) i had = (lst (gd D N i had (cn D N (pop N - (i + 1)) (i + 1))) (dn D)).isSome := by rw [er]; rfl
        refine mm_iload d_M_findCalls_14 rfl ?_
        refine mm_ciN 64 d_M_findCalls_16 rfl ?_
        refine mm_icmp_geN d_M_findCalls_18 (by first | omega | exact ite01_lt | exact bt8_lt31 _ _ | exact godB_lt31 _ _ _ | exact pop_lt31 _ | assumption | exact b31 (hW.gp (by omega)) | exact b31 (hW.ne (by omega)) | exact b31 (hW.op (by omega)) | exact and31 (hW.gp (by omega)) | exact and31 (hW.ne (by omega)) | exact and31 (hW.op (by omega)) | exact and31 (by assumption) | exact and31r (hW.ne (by omega)) | exact and31r (hW.gp (by omega)) | exact and31r (by decide)) (by first | omega | exact ite01_lt | exact bt8_lt31 _ _ | exact godB_lt31 _ _ _ | exact pop_lt31 _ | assumption | exact b31 (hW.gp (by omega)) | exact b31 (hW.ne (by omega)) | exact b31 (hW.op (by omega)) | exact and31 (hW.gp (by omega)) | exact and31 (hW.ne (by omega)) | exact and31 (hW.op (by omega)) | exact and31 (by assumption) | exact and31r (hW.ne (by omega)) | exact and31r (hW.gp (by omega)) | exact and31r (by decide)) (fun c_18 => False.elim (by omega)) (fun c_18 => ?_)
        refine mm_iload d_M_findCalls_21 rfl ?_
        refine mm_iload d_M_findCalls_22 rfl ?_
        refine mm_icmp_neN d_M_findCalls_23 (by first | omega | exact ite01_lt | exact bt8_lt31 _ _ | exact godB_lt31 _ _ _ | exact pop_lt31 _ | assumption | exact b31 (hW.gp (by omega)) | exact b31 (hW.ne (by omega)) | exact b31 (hW.op (by omega)) | exact and31 (hW.gp (by omega)) | exact and31 (hW.ne (by omega)) | exact and31 (hW.op (by omega)) | exact and31 (by assumption) | exact and31r (hW.ne (by omega)) | exact and31r (hW.gp (by omega)) | exact and31r (by decide)) (by first | omega | exact ite01_lt | exact bt8_lt31 _ _ | exact godB_lt31 _ _ _ | exact pop_lt31 _ | assumption | exact b31 (hW.gp (by omega)) | exact b31 (hW.ne (by omega)) | exact b31 (hW.op (by omega)) | exact and31 (hW.gp (by omega)) | exact and31 (hW.ne (by omega)) | exact and31 (hW.op (by omega)) | exact and31 (by assumption) | exact and31r (hW.ne (by omega)) | exact and31r (hW.gp (by omega)) | exact and31r (by decide)) (fun c_23 => ?_) (fun c_23 => False.elim (by omega))
        refine mm_ciN 0 d_M_findCalls_30 rfl ?_
        refine mm_ist5 d_M_findCalls_31 ?_
        refine mm_ciN 0 d_M_findCalls_33 rfl ?_
        refine mm_ist6 d_M_findCalls_34 ?_
        refine mm_up (P := fun c => (∀ c', c' < c → ¬ gd D N i had (cn D N (pop N - (i + 1)) (i + 1)) c' = true) → mm_T X 3 0 0 k_M_findCalls 36 [some (.ref 71), some (.int (nI N)), some (.int (nI (pop N))), some (.int (nI i)), some (.int (nI had)), some (.int (nI 0)), some (.int (nI c))] [] ν (fun v μ' => v = none ∧ q μ')) (dn D) ?_ ?_ (fun c' hc => absurd hc (Nat.not_lt_zero c'))
        · intro hl
          have hc0 : cn D N (pop N - i) i had = false := by rw [ecn, lst_n _ hl]; rfl
          rw [hc0] at store
          refine mm_iload d_M_findCalls_36 rfl ?_
          refine mm_aload d_M_findCalls_38 rfl ?_
          refine mm_getIN d_M_findCalls_39 rfl (sk_o_71 hM) hH.n ?_
          refine mm_icmp_geN d_M_findCalls_42 (by first | omega | exact ite01_lt | exact bt8_lt31 _ _ | exact godB_lt31 _ _ _ | exact pop_lt31 _ | assumption | exact b31 (hW.gp (by omega)) | exact b31 (hW.ne (by omega)) | exact b31 (hW.op (by omega)) | exact and31 (hW.gp (by omega)) | exact and31 (hW.ne (by omega)) | exact and31 (hW.op (by omega)) | exact and31 (by assumption) | exact and31r (hW.ne (by omega)) | exact and31r (hW.gp (by omega)) | exact and31r (by decide)) (by first | omega | exact ite01_lt | exact bt8_lt31 _ _ | exact godB_lt31 _ _ _ | exact pop_lt31 _ | assumption | exact b31 (hW.gp (by omega)) | exact b31 (hW.ne (by omega)) | exact b31 (hW.op (by omega)) | exact and31 (hW.gp (by omega)) | exact and31 (hW.ne (by omega)) | exact and31 (hW.op (by omega)) | exact and31 (by assumption) | exact and31r (hW.ne (by omega)) | exact and31r (hW.gp (by omega)) | exact and31r (by decide)) (fun c_42 => ?_) (fun c_42 => False.elim (by omega))
          exact store 0 _ rfl
        · intro c hc IH2 hl
          by_cases hg : gd D N i had (cn D N (pop N - (i + 1)) (i + 1)) c = true
          · have hc1 : cn D N (pop N - i) i had = true := by rw [ecn, lst_s hg hl _ hc]; rfl
            rw [hc1, if_pos rfl] at store
            refine mm_iload d_M_findCalls_36 rfl ?_
            refine mm_aload d_M_findCalls_38 rfl ?_
            refine mm_getIN d_M_findCalls_39 rfl (sk_o_71 hM) hH.n ?_
            refine mm_icmp_geN d_M_findCalls_42 (by first | omega | exact ite01_lt | exact bt8_lt31 _ _ | exact godB_lt31 _ _ _ | exact pop_lt31 _ | assumption | exact b31 (hW.gp (by omega)) | exact b31 (hW.ne (by omega)) | exact b31 (hW.op (by omega)) | exact and31 (hW.gp (by omega)) | exact and31 (hW.ne (by omega)) | exact and31 (hW.op (by omega)) | exact and31 (by assumption) | exact and31r (hW.ne (by omega)) | exact and31r (hW.gp (by omega)) | exact and31r (by decide)) (by first | omega | exact ite01_lt | exact bt8_lt31 _ _ | exact godB_lt31 _ _ _ | exact pop_lt31 _ | assumption | exact b31 (hW.gp (by omega)) | exact b31 (hW.ne (by omega)) | exact b31 (hW.op (by omega)) | exact and31 (hW.gp (by omega)) | exact and31 (hW.ne (by omega)) | exact and31 (hW.op (by omega)) | exact and31 (by assumption) | exact and31r (hW.ne (by omega)) | exact and31r (hW.gp (by omega)) | exact and31r (by decide)) (fun c_42 => False.elim (by omega)) (fun c_42 => ?_)
            refine mm_iload d_M_findCalls_45 rfl ?_
            refine mm_if_neN d_M_findCalls_47 (by first | omega | exact ite01_lt | exact bt8_lt31 _ _ | exact godB_lt31 _ _ _ | exact pop_lt31 _ | assumption | exact b31 (hW.gp (by omega)) | exact b31 (hW.ne (by omega)) | exact b31 (hW.op (by omega)) | exact and31 (hW.gp (by omega)) | exact and31 (hW.ne (by omega)) | exact and31 (hW.op (by omega)) | exact and31 (by assumption) | exact and31r (hW.ne (by omega)) | exact and31r (hW.gp (by omega)) | exact and31r (by decide)) (fun c_47 => False.elim (by omega)) (fun c_47 => ?_)
            refine mm_aload d_M_findCalls_50 rfl ?_
            refine mm_iload d_M_findCalls_51 rfl ?_
            refine mm_iload d_M_findCalls_52 rfl ?_
            refine mm_iload d_M_findCalls_53 rfl ?_
            refine mm_iload d_M_findCalls_55 rfl ?_
            refine mm_v4i d_M_findCalls_57 (sk_o_71 hM) (sp_M_callBy hH hN (by omega) hh hc ht ?_)
            rw [if_pos hg]
            refine mm_ist5 d_M_findCalls_60 ?_
            refine mm_inc6N d_M_findCalls_62 ?_
            refine mm_goto d_M_findCalls_65 ?_
            skip
            refine mm_iload d_M_findCalls_36 rfl ?_
            refine mm_aload d_M_findCalls_38 rfl ?_
            refine mm_getIN d_M_findCalls_39 rfl (sk_o_71 hM) hH.n ?_
            refine mm_icmp_geN d_M_findCalls_42 (by first | omega | exact ite01_lt | exact bt8_lt31 _ _ | exact godB_lt31 _ _ _ | exact pop_lt31 _ | assumption | exact b31 (hW.gp (by omega)) | exact b31 (hW.ne (by omega)) | exact b31 (hW.op (by omega)) | exact and31 (hW.gp (by omega)) | exact and31 (hW.ne (by omega)) | exact and31 (hW.op (by omega)) | exact and31 (by assumption) | exact and31r (hW.ne (by omega)) | exact and31r (hW.gp (by omega)) | exact and31r (by decide)) (by first | omega | exact ite01_lt | exact bt8_lt31 _ _ | exact godB_lt31 _ _ _ | exact pop_lt31 _ | assumption | exact b31 (hW.gp (by omega)) | exact b31 (hW.ne (by omega)) | exact b31 (hW.op (by omega)) | exact and31 (hW.gp (by omega)) | exact and31 (hW.ne (by omega)) | exact and31 (hW.op (by omega)) | exact and31 (by assumption) | exact and31r (hW.ne (by omega)) | exact and31r (hW.gp (by omega)) | exact and31r (by decide)) (fun c_42 => ?_) (fun c_42 => ?_)
            · exact store 1 _ rfl
            · refine mm_iload d_M_findCalls_45 rfl ?_
              refine mm_if_neN d_M_findCalls_47 (by first | omega | exact ite01_lt | exact bt8_lt31 _ _ | exact godB_lt31 _ _ _ | exact pop_lt31 _ | assumption | exact b31 (hW.gp (by omega)) | exact b31 (hW.ne (by omega)) | exact b31 (hW.op (by omega)) | exact and31 (hW.gp (by omega)) | exact and31 (hW.ne (by omega)) | exact and31 (hW.op (by omega)) | exact and31 (by assumption) | exact and31r (hW.ne (by omega)) | exact and31r (hW.gp (by omega)) | exact and31r (by decide)) (fun c_47 => ?_) (fun c_47 => False.elim (by omega))
              exact store 1 _ rfl
          · refine mm_iload d_M_findCalls_36 rfl ?_
            refine mm_aload d_M_findCalls_38 rfl ?_
            refine mm_getIN d_M_findCalls_39 rfl (sk_o_71 hM) hH.n ?_
            refine mm_icmp_geN d_M_findCalls_42 (by first | omega | exact ite01_lt | exact bt8_lt31 _ _ | exact godB_lt31 _ _ _ | exact pop_lt31 _ | assumption | exact b31 (hW.gp (by omega)) | exact b31 (hW.ne (by omega)) | exact b31 (hW.op (by omega)) | exact and31 (hW.gp (by omega)) | exact and31 (hW.ne (by omega)) | exact and31 (hW.op (by omega)) | exact and31 (by assumption) | exact and31r (hW.ne (by omega)) | exact and31r (hW.gp (by omega)) | exact and31r (by decide)) (by first | omega | exact ite01_lt | exact bt8_lt31 _ _ | exact godB_lt31 _ _ _ | exact pop_lt31 _ | assumption | exact b31 (hW.gp (by omega)) | exact b31 (hW.ne (by omega)) | exact b31 (hW.op (by omega)) | exact and31 (hW.gp (by omega)) | exact and31 (hW.ne (by omega)) | exact and31 (hW.op (by omega)) | exact and31 (by assumption) | exact and31r (hW.ne (by omega)) | exact and31r (hW.gp (by omega)) | exact and31r (by decide)) (fun c_42 => False.elim (by omega)) (fun c_42 => ?_)
            refine mm_iload d_M_findCalls_45 rfl ?_
            refine mm_if_neN d_M_findCalls_47 (by first | omega | exact ite01_lt | exact bt8_lt31 _ _ | exact godB_lt31 _ _ _ | exact pop_lt31 _ | assumption | exact b31 (hW.gp (by omega)) | exact b31 (hW.ne (by omega)) | exact b31 (hW.op (by omega)) | exact and31 (hW.gp (by omega)) | exact and31 (hW.ne (by omega)) | exact and31 (hW.op (by omega)) | exact and31 (by assumption) | exact and31r (hW.ne (by omega)) | exact and31r (hW.gp (by omega)) | exact and31r (by decide)) (fun c_47 => False.elim (by omega)) (fun c_47 => ?_)
            refine mm_aload d_M_findCalls_50 rfl ?_
            refine mm_iload d_M_findCalls_51 rfl ?_
            refine mm_iload d_M_findCalls_52 rfl ?_
            refine mm_iload d_M_findCalls_53 rfl ?_
            refine mm_iload d_M_findCalls_55 rfl ?_
            refine mm_v4i d_M_findCalls_57 (sk_o_71 hM) (sp_M_callBy hH hN (by omega) hh hc ht ?_)
            rw [if_neg hg]
            refine mm_ist5 d_M_findCalls_60 ?_
            refine mm_inc6N d_M_findCalls_62 ?_
            refine mm_goto d_M_findCalls_65 ?_
            exact IH2 (fun c' hc' => by by_cases y : c' = c; (rw [y]; exact hg); exact hl c' (by omega))
  have outer : ∀ (i : Nat) (ν : mm_M) (l4 l5 l6 : Option Value), i ≤ pop N → TB D N k μ (i + 1) ν → mm_T X 3 0 0 k_M_findCalls 7 [some (.ref 71), some (.int (nI N)), some (.int (nI (pop N))), some (.int (nI i)), l4, l5, l6] [] ν (fun v μ' => v = none ∧ q μ') := by
    intro i
    induction i with
    | zero =>
      intro ν l4 l5 l6 hi hT
      refine mm_iload d_M_findCalls_7 rfl ?_
      refine mm_if_ltN d_M_findCalls_8 (by first | omega | exact ite01_lt | exact bt8_lt31 _ _ | exact godB_lt31 _ _ _ | exact pop_lt31 _ | assumption | exact b31 (hW.gp (by omega)) | exact b31 (hW.ne (by omega)) | exact b31 (hW.op (by omega)) | exact and31 (hW.gp (by omega)) | exact and31 (hW.ne (by omega)) | exact and31 (hW.op (by omega)) | exact and31 (by assumption) | exact and31r (hW.ne (by omega)) | exact and31r (hW.gp (by omega)) | exact and31r (by decide)) ?_
      refine row 0 ν _ _ _ hi hT (fun ν' l4 l5 l6 hT' => ?_)
      refine mm_inc3 d_M_findCalls_88 ?_
      refine mm_goto d_M_findCalls_91 ?_
      refine mm_iload d_M_findCalls_7 rfl ?_
      refine mm_if_lt d_M_findCalls_8 (fun _ => ?_) (fun y => absurd (by decide) y)
      exact mm_rv d_M_findCalls_94 (h ν' hT')
    | succ i ih =>
      intro ν l4 l5 l6 hi hT
      refine mm_iload d_M_findCalls_7 rfl ?_
      refine mm_if_ltN d_M_findCalls_8 (by first | omega | exact ite01_lt | exact bt8_lt31 _ _ | exact godB_lt31 _ _ _ | exact pop_lt31 _ | assumption | exact b31 (hW.gp (by omega)) | exact b31 (hW.ne (by omega)) | exact b31 (hW.op (by omega)) | exact and31 (hW.gp (by omega)) | exact and31 (hW.ne (by omega)) | exact and31 (hW.op (by omega)) | exact and31 (by assumption) | exact and31r (hW.ne (by omega)) | exact and31r (hW.gp (by omega)) | exact and31r (by decide)) ?_
      refine row (i + 1) ν _ _ _ hi hT (fun ν' l4 l5 l6 hT' => ?_)
      refine mm_inc3D d_M_findCalls_88 (by omega) ?_
      refine mm_goto d_M_findCalls_91 ?_
      exact ih ν' _ _ _ (by omega) hT'
  refine mm_iload d_M_findCalls_0 rfl ?_
  refine mm_s1i d_M_findCalls_1 (sp_M_ones (by first | omega | assumption | exact hW.gp (by omega) | exact hW.ne (by omega) | exact hW.op (by omega) | exact and_lt256 (hW.gp (by omega)) | exact and_lt256 (hW.ne (by omega)) | exact and_lt256 (hW.op (by omega)) | exact and_lt256 (by assumption)) ?_)
  refine mm_ist2 d_M_findCalls_4 ?_
  refine mm_iload d_M_findCalls_5 rfl ?_
  refine mm_ist3 d_M_findCalls_6 ?_
  exact outer (pop N) μ _ _ _ (Nat.le_refl _) ⟨Fr.rf, hH, fun i' h' a1 a2 => absurd a2 (by omega)⟩
theorem inD_m : ∀ n, n ≤ 8 → inG (-1) (-1) (nI n - nI 1) = nI 1 := by decide +kernel
theorem inD_i : ∀ n, n ≤ 8 → ∀ j, j < n → inG (nI j) (-1) (nI n - nI 1) = nI 1 := by decide +kernel
theorem lt_m1 {y : Int32} (hy : y ≠ -1) (a : y < 0) : y < -1 := by
  rw [Int32.lt_iff_toInt_lt] at a ⊢
  have h1 : y.toInt ≠ (-1 : Int32).toInt := fun z => hy (Int32.toInt_inj.mp z)
  have e1 : (-1 : Int32).toInt = -1 := by decide
  have e0 : (0 : Int32).toInt = 0 := by decide
  rw [e1] at h1 ⊢
  rw [e0] at a
  omega
theorem atF_or2 {n : Nat} {y : Int32} (hz : atF n y = none) : y < 0 ∨ nI n ≤ y := by
  unfold atF at hz
  by_cases a : y < 0
  · exact Or.inl a
  · rw [if_neg a] at hz
    by_cases b : nI n ≤ y
    · exact Or.inr b
    · rw [if_neg b] at hz; cases hz
theorem inD_n {n : Nat} (hn : n ≤ 8) {y : Int32} (hy : y ≠ -1) (hz : atF n y = none) : inG y (-1) (nI n - nI 1) = nI 0 := by
  unfold inG
  rcases atF_or2 hz with a | b
  · rw [if_pos (lt_m1 hy a)]; rfl
  · by_cases c : y < -1
    · rw [if_pos c]; rfl
    · have a : ¬ y < 0 := fun z => c (lt_m1 hy z)
      have h2 : nI n - nI 1 < y := by
        cases n with
        | zero =>
          have e : nI 0 - nI 1 = -1 := by decide
          rw [e]
          exact Int32.lt_of_lt_of_le (by decide) (Int32.not_lt.mp a)
        | succ n => rw [pk_sub (by omega)]; exact Int32.lt_of_lt_of_le (nI_lt (by omega) (by omega)) b
      rw [if_neg c, if_pos h2]; rfl
theorem Wk.cg {k : Nat} {μ ν : mm_M} (h : Wk k μ) (e1 : mm_I ν 57 = mm_I μ 57) (e2 : mm_I ν 62 = mm_I μ 62) : Wk k ν := by
  obtain ⟨w, a, b, c⟩ := h
  exact ⟨w, a, by rw [e1]; exact b, by rw [e2]; exact c⟩
def clN (D : mm_D) (N n : Nat) : Nat → Nat
  | 0 => 0
  | i + 1 => fc D N (n - (i + 1)) i (hdN D N n i)
