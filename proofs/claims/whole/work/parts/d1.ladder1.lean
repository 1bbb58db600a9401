/-! ladder: the class's longest, the model's table -/
def gL (D : mm_D) (w : Nat) : Nat := if dop D w = 0 then 0 else 1 + Lg D w (2 ^ w)
def gF (D : mm_D) (w : Nat) : Nat × Option Nat := fo (gL D) 0 w
theorem pop_one : ∀ w, w < 8 → pop (2 ^ w) = 1 := by decide
theorem bt8_one {w x : Nat} : bt8 (2 ^ w) x = if x = w then 1 else 0 := by
  have := bt8_orv (s := 0) (o := w) (x := x)
  rw [Nat.zero_or, bt8_0] at this
  exact this
theorem NZ_one {D : mm_D} {w : Nat} (h : dop D w ≠ 0) : NZ D (2 ^ w) := by
  intro x hx hb
  rw [bt8_one] at hb
  by_cases e : x = w
  · rw [e]; exact h
  · rw [if_neg e] at hb; exact absurd rfl hb
theorem gL_le {D : mm_D} {w : Nat} (hw : w < 8) : gL D w ≤ 8 := by
  unfold gL
  split
  · exact Nat.zero_le _
  · have := Lg_le (D := D) w (2 ^ w)
    rw [pop_one w hw] at this
    omega
theorem gF_le {D : mm_D} : ∀ k, k ≤ 8 → (gF D k).1 ≤ 8
  | 0, _ => Nat.zero_le _
  | k + 1, h => by
    have := gF_le (D := D) k (by omega)
    have h2 := gL_le (D := D) (w := k) (by omega)
    show (fo (gL D) 0 (k + 1)).1 ≤ 8
    rw [fo_1]
    unfold gF at this
    omega
theorem sp_Sk_longestLadder {X : mm_X} {μ : mm_M} {q : Int32 → mm_M → Prop} {D : mm_D} {e : Nat} (hM : SK μ) (he : e < 2) (hC0 : CoD μ (4 + 7 * e) D) (hW : WfD D) (h : ∀ ν, Fr scL μ ν → (∀ j, j < (gF D 8).1 → mm_I ν 68 j = nI (itA D ((gF D 8).2.getD 0) (2 ^ (gF D 8).2.getD 0) j).1) → q (nI (gF D 8).1) ν) : mm_Ci X 11 0 0 k_Sk_longestLadder [.ref 67, .ref (4 + 7 * e)] μ q := by
  show mm_T X 11 0 0 k_Sk_longestLadder 0 [some (.ref 67), some (.ref (4 + 7 * e)), none] [] μ _
  have hM0 := hM
  have main : ∀ ξ, Fr scL μ ξ → SkC D e ξ → mm_I ξ 67 4 = nI 0 → mm_T X 11 0 0 k_Sk_longestLadder 57 [some (.ref 67), some (.ref (4 + 7 * e)), some (.int (nI 0))] [] ξ (fun v μ' => ∃ r, v = some (.int r) ∧ q r μ') := by
    intro ξ hf hS h4
    refine mm_up (P := fun w => ∀ ξ, Fr scL μ ξ → SkC D e ξ → mm_I ξ 67 4 = nI (gF D w).1 → (∀ j, j < (gF D w).1 → mm_I ξ 68 j = nI (itA D ((gF D w).2.getD 0) (2 ^ (gF D w).2.getD 0) j).1) → mm_T X 11 0 0 k_Sk_longestLadder 57 [some (.ref 67), some (.ref (4 + 7 * e)), some (.int (nI w))] [] ξ (fun v μ' => ∃ r, v = some (.int r) ∧ q r μ')) 8 ?_ ?_ ξ hf hS h4 (fun j hj => absurd hj (Nat.not_lt_zero j))
    · intro ξ hf hS h4 h8
      have hM := hS.1
      refine mm_iload d_Sk_longestLadder_57 rfl ?_
      refine mm_ciN 8 d_Sk_longestLadder_58 rfl ?_
      refine mm_icmp_geN d_Sk_longestLadder_60 (by first | omega | exact ite01_lt | exact bt8_lt31 _ _ | exact godB_lt31 _ _ _ | exact pop_lt31 _ | assumption | exact b31 (hW.gp (by omega)) | exact b31 (hW.ne (by omega)) | exact b31 (hW.op (by omega)) | exact and31 (hW.gp (by omega)) | exact and31 (hW.ne (by omega)) | exact and31 (hW.op (by omega)) | exact and31 (by assumption) | exact and31r (hW.ne (by omega)) | exact and31r (hW.gp (by omega)) | exact and31r (by decide)) (by first | omega | exact ite01_lt | exact bt8_lt31 _ _ | exact godB_lt31 _ _ _ | exact pop_lt31 _ | assumption | exact b31 (hW.gp (by omega)) | exact b31 (hW.ne (by omega)) | exact b31 (hW.op (by omega)) | exact and31 (hW.gp (by omega)) | exact and31 (hW.ne (by omega)) | exact and31 (hW.op (by omega)) | exact and31 (by assumption) | exact and31r (hW.ne (by omega)) | exact and31r (hW.gp (by omega)) | exact and31r (by decide)) (fun c_60 => ?_) (fun c_60 => False.elim (by omega))
      refine mm_aload d_Sk_longestLadder_90 rfl ?_
      refine mm_getIN d_Sk_longestLadder_91 rfl (sk_o_67 hM) h4 ?_
      exact mm_ri d_Sk_longestLadder_94 (h ξ hf h8)
    · intro w hw IH ξ hf hS h4 h8
      have hM := hS.1
      have hCD := hS.2.2.2.1
      have hP := hS.2.2.1
      have hb := gF_le (D := D) w (by omega)
      have es : gF D (w + 1) = if (gF D w).1 < gL D w then (gL D w, some w) else gF D w := rfl
      have nx0 : dop D w = 0 → mm_T X 11 0 0 k_Sk_longestLadder 57 [some (.ref 67), some (.ref (4 + 7 * e)), some (.int (nI (w + 1)))] [] ξ (fun v μ' => ∃ r, v = some (.int r) ∧ q r μ') := by
        intro c_72
        have eg : gL D w = 0 := if_pos c_72
        rw [eg, if_neg (Nat.not_lt_zero _)] at es
        rw [es] at IH
        exact IH ξ hf hS h4 h8
      have nx1 : dop D w ≠ 0 → ∀ ν', CP D w (2 ^ w) 1 (gF D w).1 ξ ν' → mm_T X 11 0 0 k_Sk_longestLadder 57 [some (.ref 67), some (.ref (4 + 7 * e)), some (.int (nI (w + 1)))] [] ν' (fun v μ' => ∃ r, v = some (.int r) ∧ q r μ') := by
        intro c_72 ν' hc
        have eg : gL D w = 1 + Lg D w (2 ^ w) := if_neg c_72
        obtain ⟨c1, c2, c3, -⟩ := hc
        by_cases y : (gF D w).1 < gL D w
        · rw [if_pos y] at es
          rw [es] at IH
          refine IH ν' (hf.trans c1.1) (hS.kl c1) ?_ (fun j hj => ?_)
          · rw [c2, ← eg, Nat.max_eq_right (by omega)]
          · replace hj : j < gL D w := hj
            rw [c3 j (by omega), if_pos (by omega), if_neg (by omega), show j + 1 - 1 = j by omega]
            rfl
        · rw [if_neg y] at es
          rw [es] at IH
          refine IH ν' (hf.trans c1.1) (hS.kl c1) ?_ (fun j hj => ?_)
          · rw [c2, Nat.max_eq_left (by omega)]
          · rw [c3 j (by omega), if_neg (by omega)]
            exact h8 j hj
      refine mm_iload d_Sk_longestLadder_57 rfl ?_
      refine mm_ciN 8 d_Sk_longestLadder_58 rfl ?_
      refine mm_icmp_geN d_Sk_longestLadder_60 (by first | omega | exact ite01_lt | exact bt8_lt31 _ _ | exact godB_lt31 _ _ _ | exact pop_lt31 _ | assumption | exact b31 (hW.gp (by omega)) | exact b31 (hW.ne (by omega)) | exact b31 (hW.op (by omega)) | exact and31 (hW.gp (by omega)) | exact and31 (hW.ne (by omega)) | exact and31 (hW.op (by omega)) | exact and31 (by assumption) | exact and31r (hW.ne (by omega)) | exact and31r (hW.gp (by omega)) | exact and31r (by decide)) (by first | omega | exact ite01_lt | exact bt8_lt31 _ _ | exact godB_lt31 _ _ _ | exact pop_lt31 _ | assumption | exact b31 (hW.gp (by omega)) | exact b31 (hW.ne (by omega)) | exact b31 (hW.op (by omega)) | exact and31 (hW.gp (by omega)) | exact and31 (hW.ne (by omega)) | exact and31 (hW.op (by omega)) | exact and31 (by assumption) | exact and31r (hW.ne (by omega)) | exact and31r (hW.gp (by omega)) | exact and31r (by decide)) (fun c_60 => False.elim (by omega)) (fun c_60 => ?_)
      refine mm_aload d_Sk_longestLadder_63 rfl ?_
      refine mm_getP d_Sk_longestLadder_64 rfl (sk_o_67 hM) hP ?_
      refine mm_getP d_Sk_longestLadder_67 rfl hCD.1.1 (CoS_p2 hCD.1) ?_
      refine mm_iload d_Sk_longestLadder_70 rfl ?_
      refine mm_ialdN d_Sk_longestLadder_71 (CoS_a2 hCD.1) (by omega) (by decide) (hCD.f2 (by omega)) ?_
      refine mm_if_eqN d_Sk_longestLadder_72 (by first | omega | exact ite01_lt | exact bt8_lt31 _ _ | exact godB_lt31 _ _ _ | exact pop_lt31 _ | assumption | exact b31 (hW.gp (by omega)) | exact b31 (hW.ne (by omega)) | exact b31 (hW.op (by omega)) | exact and31 (hW.gp (by omega)) | exact and31 (hW.ne (by omega)) | exact and31 (hW.op (by omega)) | exact and31 (by assumption) | exact and31r (hW.ne (by omega)) | exact and31r (hW.gp (by omega)) | exact and31r (by decide)) (fun c_72 => ?_) (fun c_72 => ?_)
      · refine mm_inc2N d_Sk_longestLadder_84 ?_
        refine mm_goto d_Sk_longestLadder_87 ?_
        first | exact nx0 c_72 | exact nx1 c_72 ν' hc
      · refine mm_aload d_Sk_longestLadder_75 rfl ?_
        refine mm_iload d_Sk_longestLadder_76 rfl ?_
        refine mm_ciN 1 d_Sk_longestLadder_77 rfl ?_
        refine mm_iload d_Sk_longestLadder_78 rfl ?_
        refine mm_ishl1N d_Sk_longestLadder_79 (by omega) ?_
        refine mm_ciN 1 d_Sk_longestLadder_80 rfl ?_
        refine mm_v3v d_Sk_longestLadder_81 (sk_o_67 hM) (sp_Sk_climb 7 1 rfl (by decide) w (2 ^ w) (gF D w).1 ξ _ hw (p256 hw) (pop_one w hw) (NZ_one c_72) hb hS h4 (fun ν' hc => ?_)) (hdd := by omega)
        refine mm_inc2N d_Sk_longestLadder_84 ?_
        refine mm_goto d_Sk_longestLadder_87 ?_
        first | exact nx0 c_72 | exact nx1 c_72 ν' hc
  have h00 : Fr scL μ (mm_sI (mm_sI (mm_sP μ 67 3 (some (4 + 7 * e))) 67 4 (nI 0)) 67 5 (nI 0)) ∧ mm_P (mm_sI (mm_sI (mm_sP μ 67 3 (some (4 + 7 * e))) 67 4 (nI 0)) 67 5 (nI 0)) 67 3 = some (4 + 7 * e) ∧ mm_I (mm_sI (mm_sI (mm_sP μ 67 3 (some (4 + 7 * e))) 67 4 (nI 0)) 67 5 (nI 0)) 67 4 = nI 0 ∧ mm_I (mm_sI (mm_sI (mm_sP μ 67 3 (some (4 + 7 * e))) 67 4 (nI 0)) 67 5 (nI 0)) 67 5 = nI (bnd D 0) := by
    refine ⟨((Fr.rf.sP rfl (by decide)).sI rfl).sI rfl, ?_, ?_, ?_⟩
    · show mm_P (mm_sP μ 67 3 (some (4 + 7 * e))) 67 3 = _
      rw [mm_P_sP, if_pos ⟨rfl, rfl⟩]
    · rw [mm_I_sI, if_neg (by decide), mm_I_sI, if_pos ⟨rfl, rfl⟩]
    · rw [mm_I_sI, if_pos ⟨rfl, rfl⟩]; rfl
  refine mm_aload d_Sk_longestLadder_0 rfl ?_
  refine mm_aload d_Sk_longestLadder_1 rfl ?_
  refine mm_putP d_Sk_longestLadder_2 rfl (by decide) (sk_o_67 hM) (Or.inl rfl) ?_
  have hM : SK (mm_sP μ 67 3 (some (4 + 7 * e))) := (Fr.rf (S := scL) (μ := μ).sP (a := 67) (j := 3) rfl (by decide)).2.2.2 hM0
  refine mm_aload d_Sk_longestLadder_5 rfl ?_
  refine mm_ciN 0 d_Sk_longestLadder_6 rfl ?_
  refine mm_putI d_Sk_longestLadder_7 rfl (sk_o_67 hM) (Or.inl rfl) ?_
  refine mm_aload d_Sk_longestLadder_10 rfl ?_
  refine mm_ciN 0 d_Sk_longestLadder_11 rfl ?_
  refine mm_putI d_Sk_longestLadder_12 rfl (sk_o_67 hM) (Or.inl rfl) ?_
  refine mm_ciN 0 d_Sk_longestLadder_15 rfl ?_
  refine mm_ist2 d_Sk_longestLadder_16 ?_
  refine mm_up (P := fun w => ∀ ξ, (Fr scL μ ξ ∧ mm_P ξ 67 3 = some (4 + 7 * e) ∧ mm_I ξ 67 4 = nI 0 ∧ mm_I ξ 67 5 = nI (bnd D w)) → mm_T X 11 0 0 k_Sk_longestLadder 17 [some (.ref 67), some (.ref (4 + 7 * e)), some (.int (nI w))] [] ξ (fun v μ' => ∃ r, v = some (.int r) ∧ q r μ')) 8 ?_ ?_ _ h00
  · rintro ξ ⟨hf, hP, e4, e5⟩
    have hM := hf.2.2.2 hM0
    refine mm_iload d_Sk_longestLadder_17 rfl ?_
    refine mm_ciN 8 d_Sk_longestLadder_18 rfl ?_
    refine mm_icmp_geN d_Sk_longestLadder_20 (by first | omega | exact ite01_lt | exact bt8_lt31 _ _ | exact godB_lt31 _ _ _ | exact pop_lt31 _ | assumption | exact b31 (hW.gp (by omega)) | exact b31 (hW.ne (by omega)) | exact b31 (hW.op (by omega)) | exact and31 (hW.gp (by omega)) | exact and31 (hW.ne (by omega)) | exact and31 (hW.op (by omega)) | exact and31 (by assumption) | exact and31r (hW.ne (by omega)) | exact and31r (hW.gp (by omega)) | exact and31r (by decide)) (by first | omega | exact ite01_lt | exact bt8_lt31 _ _ | exact godB_lt31 _ _ _ | exact pop_lt31 _ | assumption | exact b31 (hW.gp (by omega)) | exact b31 (hW.ne (by omega)) | exact b31 (hW.op (by omega)) | exact and31 (hW.gp (by omega)) | exact and31 (hW.ne (by omega)) | exact and31 (hW.op (by omega)) | exact and31 (by assumption) | exact and31r (hW.ne (by omega)) | exact and31r (hW.gp (by omega)) | exact and31r (by decide)) (fun c_20 => ?_) (fun c_20 => False.elim (by omega))
    refine mm_ciN 0 d_Sk_longestLadder_55 rfl ?_
    refine mm_ist2 d_Sk_longestLadder_56 ?_
    exact main ξ hf ⟨hM, he, hP, hC0.frC (hf.sub scL_C) he, hW, e5⟩ e4
  · rintro w hw IH ξ ⟨hf, hP, e4, e5⟩
    have hM := hf.2.2.2 hM0
    have hCD := hC0.frC (hf.sub scL_C) he
    have hb8 := bnd_le (D := D) w
    have es : bnd D (w + 1) = bnd D w + (if dop D w = 0 then 0 else 1) := rfl
    refine mm_iload d_Sk_longestLadder_17 rfl ?_
    refine mm_ciN 8 d_Sk_longestLadder_18 rfl ?_
    refine mm_icmp_geN d_Sk_longestLadder_20 (by first | omega | exact ite01_lt | exact bt8_lt31 _ _ | exact godB_lt31 _ _ _ | exact pop_lt31 _ | assumption | exact b31 (hW.gp (by omega)) | exact b31 (hW.ne (by omega)) | exact b31 (hW.op (by omega)) | exact and31 (hW.gp (by omega)) | exact and31 (hW.ne (by omega)) | exact and31 (hW.op (by omega)) | exact and31 (by assumption) | exact and31r (hW.ne (by omega)) | exact and31r (hW.gp (by omega)) | exact and31r (by decide)) (by first | omega | exact ite01_lt | exact bt8_lt31 _ _ | exact godB_lt31 _ _ _ | exact pop_lt31 _ | assumption | exact b31 (hW.gp (by omega)) | exact b31 (hW.ne (by omega)) | exact b31 (hW.op (by omega)) | exact and31 (hW.gp (by omega)) | exact and31 (hW.ne (by omega)) | exact and31 (hW.op (by omega)) | exact and31 (by assumption) | exact and31r (hW.ne (by omega)) | exact and31r (hW.gp (by omega)) | exact and31r (by decide)) (fun c_20 => False.elim (by omega)) (fun c_20 => ?_)
    refine mm_aload d_Sk_longestLadder_23 rfl ?_
    refine mm_dup d_Sk_longestLadder_24 rfl ?_
    refine mm_getIN d_Sk_longestLadder_25 rfl (sk_o_67 hM) e5 ?_
    refine mm_aload d_Sk_longestLadder_28 rfl ?_
    refine mm_getP d_Sk_longestLadder_29 rfl (sk_o_67 hM) hP ?_
    refine mm_getP d_Sk_longestLadder_32 rfl hCD.1.1 (CoS_p2 hCD.1) ?_
    refine mm_iload d_Sk_longestLadder_35 rfl ?_
    refine mm_ialdN d_Sk_longestLadder_36 (CoS_a2 hCD.1) (by omega) (by decide) (hCD.f2 (by omega)) ?_
    refine mm_if_eqN d_Sk_longestLadder_37 (by first | omega | exact ite01_lt | exact bt8_lt31 _ _ | exact godB_lt31 _ _ _ | exact pop_lt31 _ | assumption | exact b31 (hW.gp (by omega)) | exact b31 (hW.ne (by omega)) | exact b31 (hW.op (by omega)) | exact and31 (hW.gp (by omega)) | exact and31 (hW.ne (by omega)) | exact and31 (hW.op (by omega)) | exact and31 (by assumption) | exact and31r (hW.ne (by omega)) | exact and31r (hW.gp (by omega)) | exact and31r (by decide)) (fun c_37 => ?_) (fun c_37 => ?_)
    · refine mm_ciN 0 d_Sk_longestLadder_44 rfl ?_
      refine mm_iaddN d_Sk_longestLadder_45 ?_
      refine mm_putI d_Sk_longestLadder_46 rfl (sk_o_67 hM) (Or.inl rfl) ?_
      refine mm_inc2N d_Sk_longestLadder_49 ?_
      refine mm_goto d_Sk_longestLadder_52 ?_
      refine IH _ ⟨hf.sI rfl, hP, by rw [mm_I_sI, if_neg (by decide)]; exact e4, ?_⟩
      rw [mm_I_sI, if_pos ⟨rfl, rfl⟩, es]
      first | rw [if_pos c_37] | rw [if_neg c_37]
    · refine mm_ciN 1 d_Sk_longestLadder_40 rfl ?_
      refine mm_goto d_Sk_longestLadder_41 ?_
      refine mm_iaddN d_Sk_longestLadder_45 ?_
      refine mm_putI d_Sk_longestLadder_46 rfl (sk_o_67 hM) (Or.inl rfl) ?_
      refine mm_inc2N d_Sk_longestLadder_49 ?_
      refine mm_goto d_Sk_longestLadder_52 ?_
      refine IH _ ⟨hf.sI rfl, hP, by rw [mm_I_sI, if_neg (by decide)]; exact e4, ?_⟩
      rw [mm_I_sI, if_pos ⟨rfl, rfl⟩, es]
      first | rw [if_pos c_37] | rw [if_neg c_37]
theorem sp_M_rungBy {X : mm_X} {ν : mm_M} {q : Int32 → mm_M → Prop} {k h a w : Nat} {D : mm_D} (hH : Hd ν k D) (hh : h < 256) (ha : a ≤ 8) (hw : w < 8) (ht : bt8 h w = 0 → mm_I ν 90 (256 * w + (h ||| 2 ^ w)) = nI (Lg D w (h ||| 2 ^ w))) (hq : q (nI (rb D (Lg D) h a w)) ν) : mm_Ci X 1 0 0 k_M_rungBy [.ref 71, .int (nI h), .int (nI a), .int (nI w)] ν q := by
  show mm_T X 1 0 0 k_M_rungBy 0 [some (.ref 71), some (.int (nI h)), some (.int (nI a)), some (.int (nI w)), none] [] ν _
  have hM := hH.1
  have hW := hH.wf
  have hs := or_set hh hw
  have hl := Lg_le (D := D) w (h ||| 2 ^ w)
  unfold rb at hq
  by_cases c : bt8 h w = 0
  · have e := ht c
    by_cases c8 : a = 8
    · rw [if_pos ⟨c, Or.inl c8⟩] at hq
      refine mm_iload d_M_rungBy_0 rfl ?_
      refine mm_iload d_M_rungBy_1 rfl ?_
      refine mm_s2i d_M_rungBy_2 (sp_M_has (by first | omega | assumption | exact hW.gp (by omega) | exact hW.ne (by omega) | exact hW.op (by omega) | exact and_lt256 (hW.gp (by omega)) | exact and_lt256 (hW.ne (by omega)) | exact and_lt256 (hW.op (by omega)) | exact and_lt256 (by assumption)) (by omega) ?_)
      refine mm_if_neN d_M_rungBy_5 (by first | omega | exact ite01_lt | exact bt8_lt31 _ _ | exact godB_lt31 _ _ _ | exact pop_lt31 _ | assumption | exact b31 (hW.gp (by omega)) | exact b31 (hW.ne (by omega)) | exact b31 (hW.op (by omega)) | exact and31 (hW.gp (by omega)) | exact and31 (hW.ne (by omega)) | exact and31 (hW.op (by omega)) | exact and31 (by assumption) | exact and31r (hW.ne (by omega)) | exact and31r (hW.gp (by omega)) | exact and31r (by decide)) (fun c_5 => False.elim (by omega)) (fun c_5 => ?_)
      refine mm_iload d_M_rungBy_8 rfl ?_
      refine mm_ciN 8 d_M_rungBy_9 rfl ?_
      refine mm_icmp_eqN d_M_rungBy_11 (by first | omega | exact ite01_lt | exact bt8_lt31 _ _ | exact godB_lt31 _ _ _ | exact pop_lt31 _ | assumption | exact b31 (hW.gp (by omega)) | exact b31 (hW.ne (by omega)) | exact b31 (hW.op (by omega)) | exact and31 (hW.gp (by omega)) | exact and31 (hW.ne (by omega)) | exact and31 (hW.op (by omega)) | exact and31 (by assumption) | exact and31r (hW.ne (by omega)) | exact and31r (hW.gp (by omega)) | exact and31r (by decide)) (by first | omega | exact ite01_lt | exact bt8_lt31 _ _ | exact godB_lt31 _ _ _ | exact pop_lt31 _ | assumption | exact b31 (hW.gp (by omega)) | exact b31 (hW.ne (by omega)) | exact b31 (hW.op (by omega)) | exact and31 (hW.gp (by omega)) | exact and31 (hW.ne (by omega)) | exact and31 (hW.op (by omega)) | exact and31 (by assumption) | exact and31r (hW.ne (by omega)) | exact and31r (hW.gp (by omega)) | exact and31r (by decide)) (fun c_11 => ?_) (fun c_11 => False.elim (by omega))
      refine mm_ciN 1 d_M_rungBy_29 rfl ?_
      refine mm_goto d_M_rungBy_30 ?_
      refine mm_ist4 d_M_rungBy_34 ?_
      refine mm_iload d_M_rungBy_36 rfl ?_
      refine mm_if_eqN d_M_rungBy_38 (by first | omega | exact ite01_lt | exact bt8_lt31 _ _ | exact godB_lt31 _ _ _ | exact pop_lt31 _ | assumption | exact b31 (hW.gp (by omega)) | exact b31 (hW.ne (by omega)) | exact b31 (hW.op (by omega)) | exact and31 (hW.gp (by omega)) | exact and31 (hW.ne (by omega)) | exact and31 (hW.op (by omega)) | exact and31 (by assumption) | exact and31r (hW.ne (by omega)) | exact and31r (hW.gp (by omega)) | exact and31r (by decide)) (fun c_38 => False.elim (by omega)) (fun c_38 => ?_)
      refine mm_ciN 1 d_M_rungBy_41 rfl ?_
      refine mm_aload d_M_rungBy_42 rfl ?_
      refine mm_getP d_M_rungBy_43 rfl (sk_o_71 hM) (sk_p_71_46 hM) ?_
      refine mm_ciN 256 d_M_rungBy_46 rfl ?_
      refine mm_iload d_M_rungBy_49 rfl ?_
      refine mm_imulN d_M_rungBy_50 ?_
      refine mm_iload d_M_rungBy_51 rfl ?_
      refine mm_ciN 1 d_M_rungBy_52 rfl ?_
      refine mm_iload d_M_rungBy_53 rfl ?_
      refine mm_ishl1N d_M_rungBy_54 (by omega) ?_
      refine mm_iorN d_M_rungBy_55 ?_
      refine mm_iaddN d_M_rungBy_56 ?_
      refine mm_ialdN d_M_rungBy_57 (sk_a_90 hM) (by omega) (by decide) e ?_
      refine mm_iaddN d_M_rungBy_58 ?_
      refine mm_goto d_M_rungBy_59 ?_
      exact mm_ri d_M_rungBy_63 hq
    · have ha8 : a < 8 := by omega
      have hop := hW.op ha8
      by_cases c2 : bt8 (dop D a) w = 0
      · rw [if_neg (fun y => y.2.elim c8 (fun z => z c2))] at hq
        refine mm_iload d_M_rungBy_0 rfl ?_
        refine mm_iload d_M_rungBy_1 rfl ?_
        refine mm_s2i d_M_rungBy_2 (sp_M_has (by first | omega | assumption | exact hW.gp (by omega) | exact hW.ne (by omega) | exact hW.op (by omega) | exact and_lt256 (hW.gp (by omega)) | exact and_lt256 (hW.ne (by omega)) | exact and_lt256 (hW.op (by omega)) | exact and_lt256 (by assumption)) (by omega) ?_)
        refine mm_if_neN d_M_rungBy_5 (by first | omega | exact ite01_lt | exact bt8_lt31 _ _ | exact godB_lt31 _ _ _ | exact pop_lt31 _ | assumption | exact b31 (hW.gp (by omega)) | exact b31 (hW.ne (by omega)) | exact b31 (hW.op (by omega)) | exact and31 (hW.gp (by omega)) | exact and31 (hW.ne (by omega)) | exact and31 (hW.op (by omega)) | exact and31 (by assumption) | exact and31r (hW.ne (by omega)) | exact and31r (hW.gp (by omega)) | exact and31r (by decide)) (fun c_5 => False.elim (by omega)) (fun c_5 => ?_)
        refine mm_iload d_M_rungBy_8 rfl ?_
        refine mm_ciN 8 d_M_rungBy_9 rfl ?_
        refine mm_icmp_eqN d_M_rungBy_11 (by first | omega | exact ite01_lt | exact bt8_lt31 _ _ | exact godB_lt31 _ _ _ | exact pop_lt31 _ | assumption | exact b31 (hW.gp (by omega)) | exact b31 (hW.ne (by omega)) | exact b31 (hW.op (by omega)) | exact and31 (hW.gp (by omega)) | exact and31 (hW.ne (by omega)) | exact and31 (hW.op (by omega)) | exact and31 (by assumption) | exact and31r (hW.ne (by omega)) | exact and31r (hW.gp (by omega)) | exact and31r (by decide)) (by first | omega | exact ite01_lt | exact bt8_lt31 _ _ | exact godB_lt31 _ _ _ | exact pop_lt31 _ | assumption | exact b31 (hW.gp (by omega)) | exact b31 (hW.ne (by omega)) | exact b31 (hW.op (by omega)) | exact and31 (hW.gp (by omega)) | exact and31 (hW.ne (by omega)) | exact and31 (hW.op (by omega)) | exact and31 (by assumption) | exact and31r (hW.ne (by omega)) | exact and31r (hW.gp (by omega)) | exact and31r (by decide)) (fun c_11 => False.elim (by omega)) (fun c_11 => ?_)
        refine mm_aload d_M_rungBy_14 rfl ?_
        refine mm_ciN 18 d_M_rungBy_15 rfl ?_
        refine mm_iload d_M_rungBy_17 rfl ?_
        refine mm_iaddN d_M_rungBy_18 ?_
        refine mm_v1i d_M_rungBy_19 (sk_o_71 hM) (sp_M_ofN hH (by omega) (hH.f2 (by omega)) ?_)
        refine mm_iload d_M_rungBy_22 rfl ?_
        refine mm_s2i d_M_rungBy_23 (sp_M_has (by first | omega | assumption | exact hW.gp (by omega) | exact hW.ne (by omega) | exact hW.op (by omega) | exact and_lt256 (hW.gp (by omega)) | exact and_lt256 (hW.ne (by omega)) | exact and_lt256 (hW.op (by omega)) | exact and_lt256 (by assumption)) (by omega) ?_)
        refine mm_if_eqN d_M_rungBy_26 (by first | omega | exact ite01_lt | exact bt8_lt31 _ _ | exact godB_lt31 _ _ _ | exact pop_lt31 _ | assumption | exact b31 (hW.gp (by omega)) | exact b31 (hW.ne (by omega)) | exact b31 (hW.op (by omega)) | exact and31 (hW.gp (by omega)) | exact and31 (hW.ne (by omega)) | exact and31 (hW.op (by omega)) | exact and31 (by assumption) | exact and31r (hW.ne (by omega)) | exact and31r (hW.gp (by omega)) | exact and31r (by decide)) (fun c_26 => ?_) (fun c_26 => False.elim (by omega))
        refine mm_ciN 0 d_M_rungBy_33 rfl ?_
        refine mm_ist4 d_M_rungBy_34 ?_
        refine mm_iload d_M_rungBy_36 rfl ?_
        refine mm_if_eqN d_M_rungBy_38 (by first | omega | exact ite01_lt | exact bt8_lt31 _ _ | exact godB_lt31 _ _ _ | exact pop_lt31 _ | assumption | exact b31 (hW.gp (by omega)) | exact b31 (hW.ne (by omega)) | exact b31 (hW.op (by omega)) | exact and31 (hW.gp (by omega)) | exact and31 (hW.ne (by omega)) | exact and31 (hW.op (by omega)) | exact and31 (by assumption) | exact and31r (hW.ne (by omega)) | exact and31r (hW.gp (by omega)) | exact and31r (by decide)) (fun c_38 => ?_) (fun c_38 => False.elim (by omega))
        refine mm_ciN 0 d_M_rungBy_62 rfl ?_
        exact mm_ri d_M_rungBy_63 hq
      · rw [if_pos ⟨c, Or.inr c2⟩] at hq
        refine mm_iload d_M_rungBy_0 rfl ?_
        refine mm_iload d_M_rungBy_1 rfl ?_
        refine mm_s2i d_M_rungBy_2 (sp_M_has (by first | omega | assumption | exact hW.gp (by omega) | exact hW.ne (by omega) | exact hW.op (by omega) | exact and_lt256 (hW.gp (by omega)) | exact and_lt256 (hW.ne (by omega)) | exact and_lt256 (hW.op (by omega)) | exact and_lt256 (by assumption)) (by omega) ?_)
        refine mm_if_neN d_M_rungBy_5 (by first | omega | exact ite01_lt | exact bt8_lt31 _ _ | exact godB_lt31 _ _ _ | exact pop_lt31 _ | assumption | exact b31 (hW.gp (by omega)) | exact b31 (hW.ne (by omega)) | exact b31 (hW.op (by omega)) | exact and31 (hW.gp (by omega)) | exact and31 (hW.ne (by omega)) | exact and31 (hW.op (by omega)) | exact and31 (by assumption) | exact and31r (hW.ne (by omega)) | exact and31r (hW.gp (by omega)) | exact and31r (by decide)) (fun c_5 => False.elim (by omega)) (fun c_5 => ?_)
        refine mm_iload d_M_rungBy_8 rfl ?_
        refine mm_ciN 8 d_M_rungBy_9 rfl ?_
        refine mm_icmp_eqN d_M_rungBy_11 (by first | omega | exact ite01_lt | exact bt8_lt31 _ _ | exact godB_lt31 _ _ _ | exact pop_lt31 _ | assumption | exact b31 (hW.gp (by omega)) | exact b31 (hW.ne (by omega)) | exact b31 (hW.op (by omega)) | exact and31 (hW.gp (by omega)) | exact and31 (hW.ne (by omega)) | exact and31 (hW.op (by omega)) | exact and31 (by assumption) | exact and31r (hW.ne (by omega)) | exact and31r (hW.gp (by omega)) | exact and31r (by decide)) (by first | omega | exact ite01_lt | exact bt8_lt31 _ _ | exact godB_lt31 _ _ _ | exact pop_lt31 _ | assumption | exact b31 (hW.gp (by omega)) | exact b31 (hW.ne (by omega)) | exact b31 (hW.op (by omega)) | exact and31 (hW.gp (by omega)) | exact and31 (hW.ne (by omega)) | exact and31 (hW.op (by omega)) | exact and31 (by assumption) | exact and31r (hW.ne (by omega)) | exact and31r (hW.gp (by omega)) | exact and31r (by decide)) (fun c_11 => False.elim (by omega)) (fun c_11 => ?_)
        refine mm_aload d_M_rungBy_14 rfl ?_
        refine mm_ciN 18 d_M_rungBy_15 rfl ?_
        refine mm_iload d_M_rungBy_17 rfl ?_
        refine mm_iaddN d_M_rungBy_18 ?_
        refine mm_v1i d_M_rungBy_19 (sk_o_71 hM) (sp_M_ofN hH (by omega) (hH.f2 (by omega)) ?_)
        refine mm_iload d_M_rungBy_22 rfl ?_
        refine mm_s2i d_M_rungBy_23 (sp_M_has (by first | omega | assumption | exact hW.gp (by omega) | exact hW.ne (by omega) | exact hW.op (by omega) | exact and_lt256 (hW.gp (by omega)) | exact and_lt256 (hW.ne (by omega)) | exact and_lt256 (hW.op (by omega)) | exact and_lt256 (by assumption)) (by omega) ?_)
        refine mm_if_eqN d_M_rungBy_26 (by first | omega | exact ite01_lt | exact bt8_lt31 _ _ | exact godB_lt31 _ _ _ | exact pop_lt31 _ | assumption | exact b31 (hW.gp (by omega)) | exact b31 (hW.ne (by omega)) | exact b31 (hW.op (by omega)) | exact and31 (hW.gp (by omega)) | exact and31 (hW.ne (by omega)) | exact and31 (hW.op (by omega)) | exact and31 (by assumption) | exact and31r (hW.ne (by omega)) | exact and31r (hW.gp (by omega)) | exact and31r (by decide)) (fun c_26 => False.elim (by omega)) (fun c_26 => ?_)
        refine mm_ciN 1 d_M_rungBy_29 rfl ?_
        refine mm_goto d_M_rungBy_30 ?_
        refine mm_ist4 d_M_rungBy_34 ?_
        refine mm_iload d_M_rungBy_36 rfl ?_
        refine mm_if_eqN d_M_rungBy_38 (by first | omega | exact ite01_lt | exact bt8_lt31 _ _ | exact godB_lt31 _ _ _ | exact pop_lt31 _ | assumption | exact b31 (hW.gp (by omega)) | exact b31 (hW.ne (by omega)) | exact b31 (hW.op (by omega)) | exact and31 (hW.gp (by omega)) | exact and31 (hW.ne (by omega)) | exact and31 (hW.op (by omega)) | exact and31 (by assumption) | exact and31r (hW.ne (by omega)) | exact and31r (hW.gp (by omega)) | exact and31r (by decide)) (fun c_38 => False.elim (by omega)) (fun c_38 => ?_)
        refine mm_ciN 1 d_M_rungBy_41 rfl ?_
        refine mm_aload d_M_rungBy_42 rfl ?_
        refine mm_getP d_M_rungBy_43 rfl (sk_o_71 hM) (sk_p_71_46 hM) ?_
        refine mm_ciN 256 d_M_rungBy_46 rfl ?_
        refine mm_iload d_M_rungBy_49 rfl ?_
        refine mm_imulN d_M_rungBy_50 ?_
        refine mm_iload d_M_rungBy_51 rfl ?_
        refine mm_ciN 1 d_M_rungBy_52 rfl ?_
        refine mm_iload d_M_rungBy_53 rfl ?_
        refine mm_ishl1N d_M_rungBy_54 (by omega) ?_
        refine mm_iorN d_M_rungBy_55 ?_
        refine mm_iaddN d_M_rungBy_56 ?_
        refine mm_ialdN d_M_rungBy_57 (sk_a_90 hM) (by omega) (by decide) e ?_
        refine mm_iaddN d_M_rungBy_58 ?_
        refine mm_goto d_M_rungBy_59 ?_
        exact mm_ri d_M_rungBy_63 hq
  · rw [if_neg (fun y => c y.1)] at hq
    refine mm_iload d_M_rungBy_0 rfl ?_
    refine mm_iload d_M_rungBy_1 rfl ?_
    refine mm_s2i d_M_rungBy_2 (sp_M_has (by first | omega | assumption | exact hW.gp (by omega) | exact hW.ne (by omega) | exact hW.op (by omega) | exact and_lt256 (hW.gp (by omega)) | exact and_lt256 (hW.ne (by omega)) | exact and_lt256 (hW.op (by omega)) | exact and_lt256 (by assumption)) (by omega) ?_)
    refine mm_if_neN d_M_rungBy_5 (by first | omega | exact ite01_lt | exact bt8_lt31 _ _ | exact godB_lt31 _ _ _ | exact pop_lt31 _ | assumption | exact b31 (hW.gp (by omega)) | exact b31 (hW.ne (by omega)) | exact b31 (hW.op (by omega)) | exact and31 (hW.gp (by omega)) | exact and31 (hW.ne (by omega)) | exact and31 (hW.op (by omega)) | exact and31 (by assumption) | exact and31r (hW.ne (by omega)) | exact and31r (hW.gp (by omega)) | exact and31r (by decide)) (fun c_5 => ?_) (fun c_5 => False.elim (by omega))
    refine mm_ciN 0 d_M_rungBy_33 rfl ?_
    refine mm_ist4 d_M_rungBy_34 ?_
    refine mm_iload d_M_rungBy_36 rfl ?_
    refine mm_if_eqN d_M_rungBy_38 (by first | omega | exact ite01_lt | exact bt8_lt31 _ _ | exact godB_lt31 _ _ _ | exact pop_lt31 _ | assumption | exact b31 (hW.gp (by omega)) | exact b31 (hW.ne (by omega)) | exact b31 (hW.op (by omega)) | exact and31 (hW.gp (by omega)) | exact and31 (hW.ne (by omega)) | exact and31 (hW.op (by omega)) | exact and31 (by assumption) | exact and31r (hW.ne (by omega)) | exact and31r (hW.gp (by omega)) | exact and31r (by decide)) (fun c_38 => ?_) (fun c_38 => False.elim (by omega))
    refine mm_ciN 0 d_M_rungBy_62 rfl ?_
    exact mm_ri d_M_rungBy_63 hq
def TG (D : mm_D) (k : Nat) (μ : mm_M) (had : Nat) (ν : mm_M) : Prop := Fr scM μ ν ∧ Hd ν k D ∧ ∀ a h', a ≤ 8 → had ≤ h' → h' < 256 → mm_I ν 90 (256 * a + h') = nI (Lg D a h')
theorem or_gt : ∀ h, h < 256 → ∀ w, w < 8 → bt8 h w = 0 → h + 1 ≤ h ||| 2 ^ w := by decide +kernel
theorem sp_M_findRungs {X : mm_X} {μ : mm_M} {q : mm_M → Prop} {k : Nat} {D : mm_D} (hH : Hd μ k D) (h : ∀ ν, TG D k μ 0 ν → q ν) : mm_Cv X 2 0 0 k_M_findRungs [.ref 71] μ q := by
  show mm_T X 2 0 0 k_M_findRungs 0 [some (.ref 71), none, none, none, none] [] μ _
  have row : ∀ (i : Nat) (ν : mm_M) (l2 l3 l4 : Option Value), i < 256 → TG D k μ (i + 1) ν → (∀ ν' l2 l3 l4, TG D k μ i ν' → mm_T X 2 0 0 k_M_findRungs 66 [some (.ref 71), some (.int (nI i)), l2, l3, l4] [] ν' (fun v μ' => v = none ∧ q μ')) → mm_T X 2 0 0 k_M_findRungs 8 [some (.ref 71), some (.int (nI i)), l2, l3, l4] [] ν (fun v μ' => v = none ∧ q μ') := by
    intro i ν l2 l3 l4 hi hT go
    refine mm_ciN 0 d_M_findRungs_8 rfl ?_
    refine mm_ist2 d_M_findRungs_9 ?_
    refine mm_up (P := fun a => ∀ (l3 l4 : Option Value) (ν : mm_M), TG D k μ (i + 1) ν → (∀ a', a' < a → mm_I ν 90 (256 * a' + i) = nI (Lg D a' i)) → mm_T X 2 0 0 k_M_findRungs 10 [some (.ref 71), some (.int (nI i)), some (.int (nI a)), l3, l4] [] ν (fun v μ' => v = none ∧ q μ')) 9 ?_ ?_ l3 l4 ν hT (fun a' y => absurd y (Nat.not_lt_zero a'))
    · intro l3 l4 ν hT e
      refine mm_iload d_M_findRungs_10 rfl ?_
      refine mm_ciN 8 d_M_findRungs_11 rfl ?_
      refine mm_icmp_gtN d_M_findRungs_13 (by first | omega | exact ite01_lt | exact bt8_lt31 _ _ | exact godB_lt31 _ _ _ | exact pop_lt31 _ | assumption | exact b31 (hW.gp (by omega)) | exact b31 (hW.ne (by omega)) | exact b31 (hW.op (by omega)) | exact and31 (hW.gp (by omega)) | exact and31 (hW.ne (by omega)) | exact and31 (hW.op (by omega)) | exact and31 (by assumption) | exact and31r (hW.ne (by omega)) | exact and31r (hW.gp (by omega)) | exact and31r (by decide)) (by first | omega | exact ite01_lt | exact bt8_lt31 _ _ | exact godB_lt31 _ _ _ | exact pop_lt31 _ | assumption | exact b31 (hW.gp (by omega)) | exact b31 (hW.ne (by omega)) | exact b31 (hW.op (by omega)) | exact and31 (hW.gp (by omega)) | exact and31 (hW.ne (by omega)) | exact and31 (hW.op (by omega)) | exact and31 (by assumption) | exact and31r (hW.ne (by omega)) | exact and31r (hW.gp (by omega)) | exact and31r (by decide)) (fun c_13 => ?_) (fun c_13 => False.elim (by omega))
      exact go ν _ _ _ ⟨hT.1, hT.2.1, fun a h' y1 y2 y3 => by by_cases y : h' = i; (subst y; exact e a (by omega)); exact hT.2.2 a h' y1 (by omega) y3⟩
    · intro a ha IH l3 l4 ν hT e
      have hH := hT.2.1
      have hM := hH.1
      refine mm_iload d_M_findRungs_10 rfl ?_
      refine mm_ciN 8 d_M_findRungs_11 rfl ?_
      refine mm_icmp_gtN d_M_findRungs_13 (by first | omega | exact ite01_lt | exact bt8_lt31 _ _ | exact godB_lt31 _ _ _ | exact pop_lt31 _ | assumption | exact b31 (hW.gp (by omega)) | exact b31 (hW.ne (by omega)) | exact b31 (hW.op (by omega)) | exact and31 (hW.gp (by omega)) | exact and31 (hW.ne (by omega)) | exact and31 (hW.op (by omega)) | exact and31 (by assumption) | exact and31r (hW.ne (by omega)) | exact and31r (hW.gp (by omega)) | exact and31r (by decide)) (by first | omega | exact ite01_lt | exact bt8_lt31 _ _ | exact godB_lt31 _ _ _ | exact pop_lt31 _ | assumption | exact b31 (hW.gp (by omega)) | exact b31 (hW.ne (by omega)) | exact b31 (hW.op (by omega)) | exact and31 (hW.gp (by omega)) | exact and31 (hW.ne (by omega)) | exact and31 (hW.op (by omega)) | exact and31 (by assumption) | exact and31r (hW.ne (by omega)) | exact and31r (hW.gp (by omega)) | exact and31r (by decide)) (fun c_13 => False.elim (by omega)) (fun c_13 => ?_)
      refine mm_ciN 0 d_M_findRungs_16 rfl ?_
      refine mm_ist3 d_M_findRungs_17 ?_
      refine mm_ciN 0 d_M_findRungs_18 rfl ?_
      refine mm_ist4 d_M_findRungs_19 ?_
      refine mm_up (P := fun w => mm_T X 2 0 0 k_M_findRungs 21 [some (.ref 71), some (.int (nI i)), some (.int (nI a)), some (.int (nI (fo (rb D (Lg D) i a) 0 w).1)), some (.int (nI w))] [] ν (fun v μ' => v = none ∧ q μ')) 8 ?_ ?_
      · rw [← Lg_rec hi]
        refine mm_iload d_M_findRungs_21 rfl ?_
        refine mm_ciN 8 d_M_findRungs_23 rfl ?_
        refine mm_icmp_geN d_M_findRungs_25 (by first | omega | exact ite01_lt | exact bt8_lt31 _ _ | exact godB_lt31 _ _ _ | exact pop_lt31 _ | assumption | exact b31 (hW.gp (by omega)) | exact b31 (hW.ne (by omega)) | exact b31 (hW.op (by omega)) | exact and31 (hW.gp (by omega)) | exact and31 (hW.ne (by omega)) | exact and31 (hW.op (by omega)) | exact and31 (by assumption) | exact and31r (hW.ne (by omega)) | exact and31r (hW.gp (by omega)) | exact and31r (by decide)) (by first | omega | exact ite01_lt | exact bt8_lt31 _ _ | exact godB_lt31 _ _ _ | exact pop_lt31 _ | assumption | exact b31 (hW.gp (by omega)) | exact b31 (hW.ne (by omega)) | exact b31 (hW.op (by omega)) | exact and31 (hW.gp (by omega)) | exact and31 (hW.ne (by omega)) | exact and31 (hW.op (by omega)) | exact and31 (by assumption) | exact and31r (hW.ne (by omega)) | exact and31r (hW.gp (by omega)) | exact and31r (by decide)) (fun c_25 => ?_) (fun c_25 => False.elim (by omega))
        refine mm_aload d_M_findRungs_47 rfl ?_
        refine mm_getP d_M_findRungs_48 rfl (sk_o_71 hM) (sk_p_71_46 hM) ?_
        refine mm_ciN 256 d_M_findRungs_51 rfl ?_
        refine mm_iload d_M_findRungs_54 rfl ?_
        refine mm_imulN d_M_findRungs_55 ?_
        refine mm_iload d_M_findRungs_56 rfl ?_
        refine mm_iaddN d_M_findRungs_57 ?_
        refine mm_iload d_M_findRungs_58 rfl ?_
        refine mm_iastX d_M_findRungs_59 (sk_a_90 hM) (by omega) (by decide) ?_
        refine mm_inc2N d_M_findRungs_60 ?_
        refine mm_goto d_M_findRungs_63 ?_
        refine IH _ _ _ ⟨hT.1.sI rfl, hH.sI (by decide) (by decide), fun a2 h' y1 y2 y3 => ?_⟩ (fun a' y => ?_)
        · rw [mm_I_sI, if_neg (by omega)]; exact hT.2.2 a2 h' y1 y2 y3
        · rw [mm_I_sI]
          by_cases z : a' = a
          · rw [if_pos ⟨rfl, by rw [z]⟩, z]
          · rw [if_neg (by omega)]; exact e a' (by omega)
      · intro w hw IH2
        rw [fo_1] at IH2
        have b1 : (fo (rb D (Lg D) i a) 0 w).1 ≤ 8 := by
          rcases fo_o (f := rb D (Lg D) i a) (b := 0) w with ⟨-, y⟩ | ⟨s, s1, -, y, -⟩
          · rw [y]; exact Nat.zero_le _
          · rw [y]; have h1 := fo_all (f := rb D (Lg D) i a) (b := 0) 8 s (by omega); rw [← Lg_rec hi] at h1; have := Lg_le (D := D) a i; omega
        have b2 : rb D (Lg D) i a w ≤ 8 := by have h1 := fo_all (f := rb D (Lg D) i a) (b := 0) 8 w hw; rw [← Lg_rec hi] at h1; have := Lg_le (D := D) a i; omega
        refine mm_iload d_M_findRungs_21 rfl ?_
        refine mm_ciN 8 d_M_findRungs_23 rfl ?_
        refine mm_icmp_geN d_M_findRungs_25 (by first | omega | exact ite01_lt | exact bt8_lt31 _ _ | exact godB_lt31 _ _ _ | exact pop_lt31 _ | assumption | exact b31 (hW.gp (by omega)) | exact b31 (hW.ne (by omega)) | exact b31 (hW.op (by omega)) | exact and31 (hW.gp (by omega)) | exact and31 (hW.ne (by omega)) | exact and31 (hW.op (by omega)) | exact and31 (by assumption) | exact and31r (hW.ne (by omega)) | exact and31r (hW.gp (by omega)) | exact and31r (by decide)) (by first | omega | exact ite01_lt | exact bt8_lt31 _ _ | exact godB_lt31 _ _ _ | exact pop_lt31 _ | assumption | exact b31 (hW.gp (by omega)) | exact b31 (hW.ne (by omega)) | exact b31 (hW.op (by omega)) | exact and31 (hW.gp (by omega)) | exact and31 (hW.ne (by omega)) | exact and31 (hW.op (by omega)) | exact and31 (by assumption) | exact and31r (hW.ne (by omega)) | exact and31r (hW.gp (by omega)) | exact and31r (by decide)) (fun c_25 => False.elim (by omega)) (fun c_25 => ?_)
        refine mm_iload d_M_findRungs_28 rfl ?_
        refine mm_aload d_M_findRungs_29 rfl ?_
        refine mm_iload d_M_findRungs_30 rfl ?_
        refine mm_iload d_M_findRungs_31 rfl ?_
        refine mm_iload d_M_findRungs_32 rfl ?_
        refine mm_v3i d_M_findRungs_34 (sk_o_71 hM) (sp_M_rungBy hH hi (by omega) hw (fun y => hT.2.2 w _ (by omega) (or_gt i hi w hw y) (or_set hi hw)) ?_)
        refine mm_s2i d_M_findRungs_37 (sp_M_greaterN (by first | omega | exact ite01_lt | exact bt8_lt31 _ _ | exact godB_lt31 _ _ _ | exact pop_lt31 _ | assumption | exact b31 (hW.gp (by omega)) | exact b31 (hW.ne (by omega)) | exact b31 (hW.op (by omega)) | exact and31 (hW.gp (by omega)) | exact and31 (hW.ne (by omega)) | exact and31 (hW.op (by omega)) | exact and31 (by assumption) | exact and31r (hW.ne (by omega)) | exact and31r (hW.gp (by omega)) | exact and31r (by decide)) (by first | omega | exact ite01_lt | exact bt8_lt31 _ _ | exact godB_lt31 _ _ _ | exact pop_lt31 _ | assumption | exact b31 (hW.gp (by omega)) | exact b31 (hW.ne (by omega)) | exact b31 (hW.op (by omega)) | exact and31 (hW.gp (by omega)) | exact and31 (hW.ne (by omega)) | exact and31 (hW.op (by omega)) | exact and31 (by assumption) | exact and31r (hW.ne (by omega)) | exact and31r (hW.gp (by omega)) | exact and31r (by decide)) ?_)
        refine mm_ist3 d_M_findRungs_40 ?_
        refine mm_inc4N d_M_findRungs_41 ?_
        refine mm_goto d_M_findRungs_44 ?_
        exact IH2
  have outer : ∀ (i : Nat) (ν : mm_M) (l2 l3 l4 : Option Value), i < 256 → TG D k μ (i + 1) ν → mm_T X 2 0 0 k_M_findRungs 4 [some (.ref 71), some (.int (nI i)), l2, l3, l4] [] ν (fun v μ' => v = none ∧ q μ') := by
    intro i
    induction i with
    | zero =>
      intro ν l2 l3 l4 hi hT
      refine mm_iload d_M_findRungs_4 rfl ?_
      refine mm_if_ltN d_M_findRungs_5 (by first | omega | exact ite01_lt | exact bt8_lt31 _ _ | exact godB_lt31 _ _ _ | exact pop_lt31 _ | assumption | exact b31 (hW.gp (by omega)) | exact b31 (hW.ne (by omega)) | exact b31 (hW.op (by omega)) | exact and31 (hW.gp (by omega)) | exact and31 (hW.ne (by omega)) | exact and31 (hW.op (by omega)) | exact and31 (by assumption) | exact and31r (hW.ne (by omega)) | exact and31r (hW.gp (by omega)) | exact and31r (by decide)) ?_
      refine row 0 ν _ _ _ hi hT (fun ν' l2 l3 l4 hT' => ?_)
      refine mm_inc1 d_M_findRungs_66 ?_
      refine mm_goto d_M_findRungs_69 ?_
      refine mm_iload d_M_findRungs_4 rfl ?_
      refine mm_if_lt d_M_findRungs_5 (fun _ => ?_) (fun y => absurd (by decide) y)
      exact mm_rv d_M_findRungs_72 (h ν' hT')
    | succ i ih =>
      intro ν l2 l3 l4 hi hT
      refine mm_iload d_M_findRungs_4 rfl ?_
      refine mm_if_ltN d_M_findRungs_5 (by first | omega | exact ite01_lt | exact bt8_lt31 _ _ | exact godB_lt31 _ _ _ | exact pop_lt31 _ | assumption | exact b31 (hW.gp (by omega)) | exact b31 (hW.ne (by omega)) | exact b31 (hW.op (by omega)) | exact and31 (hW.gp (by omega)) | exact and31 (hW.ne (by omega)) | exact and31 (hW.op (by omega)) | exact and31 (by assumption) | exact and31r (hW.ne (by omega)) | exact and31r (hW.gp (by omega)) | exact and31r (by decide)) ?_
      refine row (i + 1) ν _ _ _ hi hT (fun ν' l2 l3 l4 hT' => ?_)
      refine mm_inc1D d_M_findRungs_66 (by omega) ?_
      refine mm_goto d_M_findRungs_69 ?_
      exact ih ν' _ _ _ (by omega) hT'
  refine mm_ciN 255 d_M_findRungs_0 rfl ?_
  refine mm_ist1 d_M_findRungs_3 ?_
  exact outer 255 μ _ _ _ (by decide) ⟨Fr.rf, hH, fun a h' y1 y2 y3 => absurd y3 (by omega)⟩
