/-! pairs: heir, pair -/
def ASt (D : mm_D) (e : Nat) (g : Nat → Nat) (μ : mm_M) (wm : Nat) (ν : mm_M) : Prop := Fr scC μ ν ∧ AsG D e g ν ∧ ∃ w : Nat, w ≤ wm ∧ mm_I ν 57 5 = nI w ∧ WkS w ν
def vR (D : mm_D) (z : Int32) (ou : Nat → Nat) : Nat := (rR D z ou).1 - 1
theorem vR_le {D : mm_D} (hW : WfD D) (z : Int32) (ou : Nat → Nat) : vR D z ou < 900 := by
  have h1 := rR_le hW z ou
  have h2 := rR_pos (D := D) z ou
  unfold vR
  omega
theorem bI_v {D : mm_D} (z : Int32) (ou : Nat → Nat) : bI (rR D z ou).1 = nI (vR D z ou) := if_neg (by have := rR_pos (D := D) z ou; omega)
theorem sp_As_mostV {X : mm_X} {μ ν : mm_M} {q : Int32 → mm_M → Prop} {D : mm_D} {e wm cr : Nat} {z : Int32} {ou : Nat → Nat} (hA : ASt D e (gN D z) μ wm ν) (hou : ∀ c, c < dn D → bt8 cr c = 1 - ou c) (hcr : cr < 256) (hw2 : wm + 1 < 2 ^ 30) (h : ∀ ν', ASt D e (gN D z) μ (wm + 1) ν' → q (nI (vR D z ou)) ν') : mm_Ci X 10 0 0 k_As_most [.ref 57, .int (nI cr)] ν q := by
  obtain ⟨f, hA, w, w1, w2, w3⟩ := hA
  have hW := hA.2.2.2.2.1
  refine sp_As_most hA (fun x => Nat.lt_trans (gN_lt hW z x) (by decide)) hou hcr w2 (by omega) w3 (fun ν' f2 hA2 e5 hS2 _ _ => ?_)
  rw [show (fo (FF D (gN D z) ou (dn D) 0) 0 (4 ^ dn D)).1 = (rR D z ou).1 from rfl, bI_v]
  exact h ν' ⟨f.trans (f2.sub scK_C), hA2, w + 1, by omega, e5, hS2⟩
theorem sp_M_feastV {X : mm_X} {μ : mm_M} {q : Int32 → mm_M → Prop} {k out : Nat} {z : Int32} {D : mm_D} {ou : Nat → Nat} (hH : Hd μ k D) (hou : ∀ c, c < dn D → bt8 out c = ou c) (hout : out < 256) (h : ∀ ν, Fr scM μ ν → Hd ν k D → q (nI (vR D z ou)) ν) : mm_Ci X 4 0 0 k_M_feastOf [.ref 71, .int (nI out), .int z] μ q := by
  refine sp_M_feastOf hH hou hout (fun ν f hH2 _ => ?_)
  rw [show (fo (FF D (gN D z) ou (dn D) 0) 0 (4 ^ dn D)).1 = (rR D z ou).1 from rfl, bI_v]
  exact h ν f hH2
/-- the best so far: who, how much -/
def xA : Option (Nat × Nat) → Int32
  | none => -1
  | some p => nI p.1
def xB : Option (Nat × Nat) → Int32
  | none => nI 0
  | some p => nI p.2
def xC (x : Int32) : Option (Nat × Nat) → Int32
  | none => x
  | some p => nI p.2
def stL (st : Option (Nat × Nat)) (x v : Nat) : Option (Nat × Nat) := match st with
  | none => some (x, v)
  | some p => if v < p.2 then some (x, v) else some p
def stM (st : Option (Nat × Nat)) (x v : Nat) : Option (Nat × Nat) := match st with
  | none => some (x, v)
  | some p => if p.2 < v then some (x, v) else some p
def ou1 (h c : Nat) : Nat := if c = h then 1 else 0
def ou2 (a b c : Nat) : Nat := if c = a ∨ c = b then 0 else 1
def heS (D : mm_D) : Nat → Option (Nat × Nat)
  | 0 => none
  | c + 1 => stL (heS D c) c (vR D (nI 0) (ou1 c))
theorem st_ok {M : Nat} {st : Option (Nat × Nat)} {x v : Nat} (h : ∀ p, st = some p → p.1 < M ∧ p.2 < 900) (hx : x < M) (hv : v < 900) : (∀ p, stL st x v = some p → p.1 < M ∧ p.2 < 900) ∧ ∀ p, stM st x v = some p → p.1 < M ∧ p.2 < 900 := by
  constructor
  · intro p hp
    unfold stL at hp
    cases st with
    | none => cases hp; exact ⟨hx, hv⟩
    | some q =>
      simp only at hp
      split at hp
      · cases hp; exact ⟨hx, hv⟩
      · exact h p hp
  · intro p hp
    unfold stM at hp
    cases st with
    | none => cases hp; exact ⟨hx, hv⟩
    | some q =>
      simp only at hp
      split at hp
      · cases hp; exact ⟨hx, hv⟩
      · exact h p hp
theorem heS_ok {D : mm_D} (hW : WfD D) : ∀ c, c ≤ 6 → ∀ p, heS D c = some p → p.1 < 6 ∧ p.2 < 900
  | 0, _, p, h => by cases h
  | c + 1, h6, p, h => (st_ok (heS_ok hW c (by omega)) (show c < 6 by omega) (vR_le hW _ _)).1 p h
theorem heS_s {D : mm_D} {c : Nat} (h : 0 < c) : ∃ p, heS D c = some p := by
  cases c with
  | zero => omega
  | succ c =>
    show ∃ p, stL (heS D c) c _ = some p
    unfold stL
    cases heS D c with
    | none => exact ⟨_, rfl⟩
    | some p =>
      simp only
      split
      · exact ⟨_, rfl⟩
      · exact ⟨_, rfl⟩
theorem crw_heir : ∀ n, n ≤ 6 → ∀ h, h < n → ∀ c, c < n → bt8 ((2 ^ n - 1) &&& (2 ^ h ^^^ 4294967295)) c = 1 - ou1 h c := by decide +kernel
theorem out_heir : ∀ h, h < 6 → ∀ c, c < 6 → bt8 (2 ^ h) c = ou1 h c := by decide +kernel
theorem p2_lt {h : Nat} (hh : h < 6) : 2 ^ h < 64 := Nat.pow_lt_pow_right (n := 6) (a := 2) (by decide) hh
theorem pair_heir {X : mm_X} {k : Nat} {μ : mm_M} (hk : k ≤ 511) (hJ : JJ k μ) (y1 y2 : Int32) : PairI X (JJ (k + 1)) k_G_heir k_M_heir [.int y1, .int y2] μ := by
  obtain ⟨c, h02, h0, m0, hv⟩ := hJ.coast y1
  have hM := hJ.1
  have hw := hJ.2.2.2.up
  rcases hv with hx | ⟨i, D, hi, rfl, hW, hCD, hDM⟩
  · exact pairQ (-1) hJ (d := 2) (d' := 4) (by decide) (by decide) (n_G_heir hM h0 h02 hx ⟨rfl, Fr.rf, hw⟩) (fun μ1 hf => n_M_heir (hf.2.2.2 hM) (by rw [(hf.2.2.1 76 rfl).1]; exact m0) h02 hx (fun μ' hk => ⟨rfl, hk.fr (hf.2.2.2 hM)⟩))
  have hn6 := hW.1
  have hw6 := hW.2.1
  obtain ⟨w, w1, w2, w3⟩ := hJ.2.2.2
  have hi2 : i < 2 := by omega
  by_cases hn0 : dn D = 0
  · refine pairQ (-1) hJ (d := 12) (d' := 12) (by decide) (by decide) ?_ (fun μ1 hf => ?_)
    · show mm_T X 12 0 0 k_G_heir 0 [some (.ref 0), some (.int (nI i)), some (.int y2), none, none, none, none, none] [] μ _
      refine mm_aload d_G_heir_0 rfl ?_
      refine mm_getP d_G_heir_1 rfl (sk_o_0 hM) (sk_p_0_0 hM) ?_
      refine mm_iload d_G_heir_4 rfl ?_
      refine mm_v1r d_G_heir_5 (sk_o_1 hM) (sp_To_coastAtI hM h0 h02 hi ?_)
      refine mm_ast3 d_G_heir_8 ?_
      refine mm_aload d_G_heir_9 rfl ?_
      refine mm_ifnull d_G_heir_10 ?_
      refine mm_aload d_G_heir_13 rfl ?_
      refine mm_getIN d_G_heir_14 rfl hCD.1.1 hCD.n ?_
      refine mm_if_neN d_G_heir_17 (by first | omega | exact ite01_lt | exact bt8_lt31 _ _ | exact godB_lt31 _ _ _ | exact pop_lt31 _ | assumption | exact b31 (hW.gp (by omega)) | exact b31 (hW.ne (by omega)) | exact b31 (hW.op (by omega)) | exact and31 (hW.gp (by omega)) | exact and31 (hW.ne (by omega)) | exact and31 (hW.op (by omega)) | exact and31 (by assumption) | exact and31r (hW.ne (by omega)) | exact and31r (hW.gp (by omega)) | exact and31r (by decide)) (fun c_17 => False.elim (by omega)) (fun c_17 => ?_)
      refine mm_ci d_G_heir_20 ?_
      exact mm_ri d_G_heir_21 ⟨rfl, Fr.rf, hw⟩
    · show mm_T X 12 0 0 k_M_heir 0 [some (.ref 71), some (.int (nI i)), some (.int y2), none, none, none, none] [] μ1 _
      replace hM := hf.2.2.2 hM
      replace m0 : mm_I μ1 76 0 = nI c := by rw [(hf.2.2.1 76 rfl).1]; exact m0
      replace hDM := hDM.frC hf
      refine mm_aload d_M_heir_0 rfl ?_
      refine mm_ciN 0 d_M_heir_1 rfl ?_
      refine mm_putI d_M_heir_2 rfl (sk_o_71 hM) (Or.inl rfl) ?_
      refine mm_aload d_M_heir_5 rfl ?_
      refine mm_iload d_M_heir_6 rfl ?_
      refine mm_v1i d_M_heir_7 (sk_o_71 hM) (sp_M_handN hM (by first | exact m0 | (rw [mm_sI_off (by decide)]; exact m0)) h02 hi (by first | exact hDM | exact hDM.eq (mm_sI_off (by decide))) hW (fun μ2 g1 hH hZ => ?_))
      replace hM := hH.1
      refine mm_if_neN d_M_heir_10 (by first | omega | exact ite01_lt | exact bt8_lt31 _ _ | exact godB_lt31 _ _ _ | exact pop_lt31 _ | assumption | exact b31 (hW.gp (by omega)) | exact b31 (hW.ne (by omega)) | exact b31 (hW.op (by omega)) | exact and31 (hW.gp (by omega)) | exact and31 (hW.ne (by omega)) | exact and31 (hW.op (by omega)) | exact and31 (by assumption) | exact and31r (hW.ne (by omega)) | exact and31r (hW.gp (by omega)) | exact and31r (by decide)) (fun c_10 => ?_) (fun c_10 => False.elim (by omega))
      refine mm_ci d_M_heir_15 ?_
      refine mm_ist3 d_M_heir_16 ?_
      refine mm_ciN 1000000 d_M_heir_17 rfl ?_
      refine mm_ist4 d_M_heir_20 ?_
      refine mm_ciN 0 d_M_heir_22 rfl ?_
      refine mm_ist5 d_M_heir_23 ?_
      refine mm_iload d_M_heir_25 rfl ?_
      refine mm_aload d_M_heir_27 rfl ?_
      refine mm_getIN d_M_heir_28 rfl (sk_o_71 hM) hH.n ?_
      refine mm_icmp_geN d_M_heir_31 (by first | omega | exact ite01_lt | exact bt8_lt31 _ _ | exact godB_lt31 _ _ _ | exact pop_lt31 _ | assumption | exact b31 (hW.gp (by omega)) | exact b31 (hW.ne (by omega)) | exact b31 (hW.op (by omega)) | exact and31 (hW.gp (by omega)) | exact and31 (hW.ne (by omega)) | exact and31 (hW.op (by omega)) | exact and31 (by assumption) | exact and31r (hW.ne (by omega)) | exact and31r (hW.gp (by omega)) | exact and31r (by decide)) (by first | omega | exact ite01_lt | exact bt8_lt31 _ _ | exact godB_lt31 _ _ _ | exact pop_lt31 _ | assumption | exact b31 (hW.gp (by omega)) | exact b31 (hW.ne (by omega)) | exact b31 (hW.op (by omega)) | exact and31 (hW.gp (by omega)) | exact and31 (hW.ne (by omega)) | exact and31 (hW.op (by omega)) | exact and31 (by assumption) | exact and31r (hW.ne (by omega)) | exact and31r (hW.gp (by omega)) | exact and31r (by decide)) (fun c_31 => ?_) (fun c_31 => False.elim (by omega))
      refine mm_iload d_M_heir_74 rfl ?_
      refine mm_ci d_M_heir_75 ?_
      refine mm_icmp_eqS d_M_heir_76 ?_
      refine mm_iload d_M_heir_83 rfl ?_
      refine mm_goto d_M_heir_84 ?_
      exact mm_ri d_M_heir_89 ⟨rfl, (Fr.rf.sI rfl).trans g1⟩
  · obtain ⟨p, hp⟩ := heS_s (D := D) (c := dn D) (by omega)
    obtain ⟨p1, p2⟩ := heS_ok hW (dn D) hn6 p hp
    refine pairQ (if y2 = 0 then nI p.1 else nI p.2) hJ (d := 12) (d' := 12) (by decide) (by decide) ?_ (fun μ1 hf => ?_)
    · show mm_T X 12 0 0 k_G_heir 0 [some (.ref 0), some (.int (nI i)), some (.int y2), none, none, none, none, none] [] μ _
      refine mm_aload d_G_heir_0 rfl ?_
      refine mm_getP d_G_heir_1 rfl (sk_o_0 hM) (sk_p_0_0 hM) ?_
      refine mm_iload d_G_heir_4 rfl ?_
      refine mm_v1r d_G_heir_5 (sk_o_1 hM) (sp_To_coastAtI hM h0 h02 hi ?_)
      refine mm_ast3 d_G_heir_8 ?_
      refine mm_aload d_G_heir_9 rfl ?_
      refine mm_ifnull d_G_heir_10 ?_
      refine mm_aload d_G_heir_13 rfl ?_
      refine mm_getIN d_G_heir_14 rfl hCD.1.1 hCD.n ?_
      refine mm_if_neN d_G_heir_17 (by first | omega | exact ite01_lt | exact bt8_lt31 _ _ | exact godB_lt31 _ _ _ | exact pop_lt31 _ | assumption | exact b31 (hW.gp (by omega)) | exact b31 (hW.ne (by omega)) | exact b31 (hW.op (by omega)) | exact and31 (hW.gp (by omega)) | exact and31 (hW.ne (by omega)) | exact and31 (hW.op (by omega)) | exact and31 (by assumption) | exact and31r (hW.ne (by omega)) | exact and31r (hW.gp (by omega)) | exact and31r (by decide)) (fun c_17 => ?_) (fun c_17 => False.elim (by omega))
      refine mm_aload d_G_heir_22 rfl ?_
      refine mm_getP d_G_heir_23 rfl (sk_o_0 hM) (sk_p_0_4 hM) ?_
      refine mm_aload d_G_heir_26 rfl ?_
      refine mm_ciN 0 d_G_heir_27 rfl ?_
      refine mm_v2v d_G_heir_28 (sk_o_57 hM) (sp_As_begin hM hi2 hCD hW (fun ν f e57 hA => ?_))
      refine mm_ci d_G_heir_31 ?_
      refine mm_ist4 d_G_heir_32 ?_
      refine mm_ciN 0 d_G_heir_34 rfl ?_
      refine mm_ist5 d_G_heir_35 ?_
      refine mm_ciN 0 d_G_heir_37 rfl ?_
      refine mm_ist6 d_G_heir_38 ?_
      have hA0 : ASt D i (gN D (nI 0)) μ (w + 0) ν := ⟨f.sub scB_C, hA, w, Nat.le_refl _, by rw [e57]; exact w2, by intro j hj; rw [(f.2.2.1 62 rfl).1]; exact w3 j hj⟩
      have hal := all_lt hW
      refine mm_up (P := fun c => ∀ (l7 : Option Value) (ν : mm_M), ASt D i (gN D (nI 0)) μ (w + c) ν → mm_T X 12 0 0 k_G_heir 40 [some (.ref 0), some (.int (nI i)), some (.int y2), some (.ref (4 + 7 * i)), some (.int (xA (heS D c))), some (.int (xB (heS D c))), some (.int (nI c)), l7] [] ν _) (dn D) ?_ ?_ none ν hA0
      · intro l7 ν hA
        have hM := hA.2.1.1
        have hCD := hA.2.1.2.2.2.1
        obtain ⟨-, -, w', w1', w2', w3'⟩ := id hA
        rw [hp]
        refine mm_iload d_G_heir_40 rfl ?_
        refine mm_aload d_G_heir_42 rfl ?_
        refine mm_getIN d_G_heir_43 rfl hCD.1.1 hCD.n ?_
        refine mm_icmp_geN d_G_heir_46 (by first | omega | exact ite01_lt | exact bt8_lt31 _ _ | exact godB_lt31 _ _ _ | exact pop_lt31 _ | assumption | exact b31 (hW.gp (by omega)) | exact b31 (hW.ne (by omega)) | exact b31 (hW.op (by omega)) | exact and31 (hW.gp (by omega)) | exact and31 (hW.ne (by omega)) | exact and31 (hW.op (by omega)) | exact and31 (by assumption) | exact and31r (hW.ne (by omega)) | exact and31r (hW.gp (by omega)) | exact and31r (by decide)) (by first | omega | exact ite01_lt | exact bt8_lt31 _ _ | exact godB_lt31 _ _ _ | exact pop_lt31 _ | assumption | exact b31 (hW.gp (by omega)) | exact b31 (hW.ne (by omega)) | exact b31 (hW.op (by omega)) | exact and31 (hW.gp (by omega)) | exact and31 (hW.ne (by omega)) | exact and31 (hW.op (by omega)) | exact and31 (by assumption) | exact and31r (hW.ne (by omega)) | exact and31r (hW.gp (by omega)) | exact and31r (by decide)) (fun c_46 => ?_) (fun c_46 => False.elim (by omega))
        refine mm_iload d_G_heir_96 rfl ?_
        refine mm_if_eq d_G_heir_97 (fun c_97 => ?_) (fun c_97 => ?_)
        · refine mm_iload d_G_heir_105 rfl ?_
          exact mm_ri d_G_heir_107 ⟨by first | exact (if_pos c_97).symm | exact (if_neg c_97).symm, hA.1, Wk.of (by omega) w2' w3'⟩
        · refine mm_iload d_G_heir_100 rfl ?_
          refine mm_goto d_G_heir_102 ?_
          exact mm_ri d_G_heir_107 ⟨by first | exact (if_pos c_97).symm | exact (if_neg c_97).symm, hA.1, Wk.of (by omega) w2' w3'⟩
      · intro c hc IH l7 ν hA
        have hM := hA.2.1.1
        have hCD := hA.2.1.2.2.2.1
        have hs : heS D (c + 1) = stL (heS D c) c (vR D (nI 0) (ou1 c)) := rfl
        have hv := vR_le hW (nI 0) (ou1 c)
        have hok := heS_ok hW c (by omega)
        rw [hs] at IH
        obtain ⟨v, hve⟩ : ∃ v, vR D (nI 0) (ou1 c) = v := ⟨_, rfl⟩
        rw [hve] at hv hs IH
        cases hst : heS D c with
        | none =>
          rw [hst] at IH
          rw [show xA none = -1 from rfl]
          refine mm_iload d_G_heir_40 rfl ?_
          refine mm_aload d_G_heir_42 rfl ?_
          refine mm_getIN d_G_heir_43 rfl hCD.1.1 hCD.n ?_
          refine mm_icmp_geN d_G_heir_46 (by first | omega | exact ite01_lt | exact bt8_lt31 _ _ | exact godB_lt31 _ _ _ | exact pop_lt31 _ | assumption | exact b31 (hW.gp (by omega)) | exact b31 (hW.ne (by omega)) | exact b31 (hW.op (by omega)) | exact and31 (hW.gp (by omega)) | exact and31 (hW.ne (by omega)) | exact and31 (hW.op (by omega)) | exact and31 (by assumption) | exact and31r (hW.ne (by omega)) | exact and31r (hW.gp (by omega)) | exact and31r (by decide)) (by first | omega | exact ite01_lt | exact bt8_lt31 _ _ | exact godB_lt31 _ _ _ | exact pop_lt31 _ | assumption | exact b31 (hW.gp (by omega)) | exact b31 (hW.ne (by omega)) | exact b31 (hW.op (by omega)) | exact and31 (hW.gp (by omega)) | exact and31 (hW.ne (by omega)) | exact and31 (hW.op (by omega)) | exact and31 (by assumption) | exact and31r (hW.ne (by omega)) | exact and31r (hW.gp (by omega)) | exact and31r (by decide)) (fun c_46 => False.elim (by omega)) (fun c_46 => ?_)
          refine mm_aload d_G_heir_49 rfl ?_
          refine mm_getP d_G_heir_50 rfl (sk_o_0 hM) (sk_p_0_4 hM) ?_
          refine mm_aload d_G_heir_53 rfl ?_
          refine mm_v0i d_G_heir_54 hCD.1.1 (sp_Co_allChildrenN hCD hW ?_)
          refine mm_ciN 1 d_G_heir_57 rfl ?_
          refine mm_iload d_G_heir_58 rfl ?_
          refine mm_ishl1N d_G_heir_60 (by omega) ?_
          refine mm_ci d_G_heir_61 ?_
          refine mm_inotN d_G_heir_62 ?_
          refine mm_iandN d_G_heir_63 ?_
          refine mm_v1i d_G_heir_64 (sk_o_57 hM) (sp_As_mostV (ou := ou1 c) hA (crw_heir (dn D) hn6 c hc) (and_lt256 hal) (by omega) (fun ν2 hA2 => ?_))
          rw [hve]
          refine mm_ist7 d_G_heir_67 ?_
          refine mm_iload d_G_heir_69 rfl ?_
          refine mm_ci d_G_heir_71 ?_
          refine mm_icmp_eqS d_G_heir_72 ?_
          refine mm_iload d_G_heir_82 rfl ?_
          refine mm_ist4 d_G_heir_84 ?_
          refine mm_iload d_G_heir_86 rfl ?_
          refine mm_ist5 d_G_heir_88 ?_
          refine mm_inc6N d_G_heir_90 ?_
          refine mm_goto d_G_heir_93 ?_
          exact IH _ ν2 hA2
        | some p =>
          obtain ⟨o1, o2⟩ := hok p hst
          rw [hst] at IH
          rw [show xA (some p) = nI p.1 from rfl, show xB (some p) = nI p.2 from rfl]
          have e1 : stL (some p) c v = if v < p.2 then some (c, v) else some p := rfl
          rw [e1] at IH
          refine mm_iload d_G_heir_40 rfl ?_
          refine mm_aload d_G_heir_42 rfl ?_
          refine mm_getIN d_G_heir_43 rfl hCD.1.1 hCD.n ?_
          refine mm_icmp_geN d_G_heir_46 (by first | omega | exact ite01_lt | exact bt8_lt31 _ _ | exact godB_lt31 _ _ _ | exact pop_lt31 _ | assumption | exact b31 (hW.gp (by omega)) | exact b31 (hW.ne (by omega)) | exact b31 (hW.op (by omega)) | exact and31 (hW.gp (by omega)) | exact and31 (hW.ne (by omega)) | exact and31 (hW.op (by omega)) | exact and31 (by assumption) | exact and31r (hW.ne (by omega)) | exact and31r (hW.gp (by omega)) | exact and31r (by decide)) (by first | omega | exact ite01_lt | exact bt8_lt31 _ _ | exact godB_lt31 _ _ _ | exact pop_lt31 _ | assumption | exact b31 (hW.gp (by omega)) | exact b31 (hW.ne (by omega)) | exact b31 (hW.op (by omega)) | exact and31 (hW.gp (by omega)) | exact and31 (hW.ne (by omega)) | exact and31 (hW.op (by omega)) | exact and31 (by assumption) | exact and31r (hW.ne (by omega)) | exact and31r (hW.gp (by omega)) | exact and31r (by decide)) (fun c_46 => False.elim (by omega)) (fun c_46 => ?_)
          refine mm_aload d_G_heir_49 rfl ?_
          refine mm_getP d_G_heir_50 rfl (sk_o_0 hM) (sk_p_0_4 hM) ?_
          refine mm_aload d_G_heir_53 rfl ?_
          refine mm_v0i d_G_heir_54 hCD.1.1 (sp_Co_allChildrenN hCD hW ?_)
          refine mm_ciN 1 d_G_heir_57 rfl ?_
          refine mm_iload d_G_heir_58 rfl ?_
          refine mm_ishl1N d_G_heir_60 (by omega) ?_
          refine mm_ci d_G_heir_61 ?_
          refine mm_inotN d_G_heir_62 ?_
          refine mm_iandN d_G_heir_63 ?_
          refine mm_v1i d_G_heir_64 (sk_o_57 hM) (sp_As_mostV (ou := ou1 c) hA (crw_heir (dn D) hn6 c hc) (and_lt256 hal) (by omega) (fun ν2 hA2 => ?_))
          rw [hve]
          refine mm_ist7 d_G_heir_67 ?_
          refine mm_iload d_G_heir_69 rfl ?_
          refine mm_ci d_G_heir_71 ?_
          refine mm_icmp_eqM1 d_G_heir_72 (by first | omega | exact ite01_lt | exact bt8_lt31 _ _ | exact godB_lt31 _ _ _ | exact pop_lt31 _ | assumption | exact b31 (hW.gp (by omega)) | exact b31 (hW.ne (by omega)) | exact b31 (hW.op (by omega)) | exact and31 (hW.gp (by omega)) | exact and31 (hW.ne (by omega)) | exact and31 (hW.op (by omega)) | exact and31 (by assumption) | exact and31r (hW.ne (by omega)) | exact and31r (hW.gp (by omega)) | exact and31r (by decide)) ?_
          refine mm_iload d_G_heir_75 rfl ?_
          refine mm_iload d_G_heir_77 rfl ?_
          refine mm_icmp_geN d_G_heir_79 (by first | omega | exact ite01_lt | exact bt8_lt31 _ _ | exact godB_lt31 _ _ _ | exact pop_lt31 _ | assumption | exact b31 (hW.gp (by omega)) | exact b31 (hW.ne (by omega)) | exact b31 (hW.op (by omega)) | exact and31 (hW.gp (by omega)) | exact and31 (hW.ne (by omega)) | exact and31 (hW.op (by omega)) | exact and31 (by assumption) | exact and31r (hW.ne (by omega)) | exact and31r (hW.gp (by omega)) | exact and31r (by decide)) (by first | omega | exact ite01_lt | exact bt8_lt31 _ _ | exact godB_lt31 _ _ _ | exact pop_lt31 _ | assumption | exact b31 (hW.gp (by omega)) | exact b31 (hW.ne (by omega)) | exact b31 (hW.op (by omega)) | exact and31 (hW.gp (by omega)) | exact and31 (hW.ne (by omega)) | exact and31 (hW.op (by omega)) | exact and31 (by assumption) | exact and31r (hW.ne (by omega)) | exact and31r (hW.gp (by omega)) | exact and31r (by decide)) (fun c_79 => ?_) (fun c_79 => ?_)
          · refine mm_inc6N d_G_heir_90 ?_
            refine mm_goto d_G_heir_93 ?_
            first | (rw [if_pos (by omega)] at IH; exact IH _ ν2 hA2) | (rw [if_neg (by omega)] at IH; exact IH _ ν2 hA2)
          · refine mm_iload d_G_heir_82 rfl ?_
            refine mm_ist4 d_G_heir_84 ?_
            refine mm_iload d_G_heir_86 rfl ?_
            refine mm_ist5 d_G_heir_88 ?_
            refine mm_inc6N d_G_heir_90 ?_
            refine mm_goto d_G_heir_93 ?_
            first | (rw [if_pos (by omega)] at IH; exact IH _ ν2 hA2) | (rw [if_neg (by omega)] at IH; exact IH _ ν2 hA2)
    · show mm_T X 12 0 0 k_M_heir 0 [some (.ref 71), some (.int (nI i)), some (.int y2), none, none, none, none] [] μ1 _
      replace hM := hf.2.2.2 hM
      replace m0 : mm_I μ1 76 0 = nI c := by rw [(hf.2.2.1 76 rfl).1]; exact m0
      replace hDM := hDM.frC hf
      refine mm_aload d_M_heir_0 rfl ?_
      refine mm_ciN 0 d_M_heir_1 rfl ?_
      refine mm_putI d_M_heir_2 rfl (sk_o_71 hM) (Or.inl rfl) ?_
      refine mm_aload d_M_heir_5 rfl ?_
      refine mm_iload d_M_heir_6 rfl ?_
      refine mm_v1i d_M_heir_7 (sk_o_71 hM) (sp_M_handN hM (by first | exact m0 | (rw [mm_sI_off (by decide)]; exact m0)) h02 hi (by first | exact hDM | exact hDM.eq (mm_sI_off (by decide))) hW (fun μ2 g1 hH hZ => ?_))
      replace hM := hH.1
      refine mm_if_neN d_M_heir_10 (by first | omega | exact ite01_lt | exact bt8_lt31 _ _ | exact godB_lt31 _ _ _ | exact pop_lt31 _ | assumption | exact b31 (hW.gp (by omega)) | exact b31 (hW.ne (by omega)) | exact b31 (hW.op (by omega)) | exact and31 (hW.gp (by omega)) | exact and31 (hW.ne (by omega)) | exact and31 (hW.op (by omega)) | exact and31 (by assumption) | exact and31r (hW.ne (by omega)) | exact and31r (hW.gp (by omega)) | exact and31r (by decide)) (fun c_10 => ?_) (fun c_10 => False.elim (by omega))
      refine mm_ci d_M_heir_15 ?_
      refine mm_ist3 d_M_heir_16 ?_
      refine mm_ciN 1000000 d_M_heir_17 rfl ?_
      refine mm_ist4 d_M_heir_20 ?_
      refine mm_ciN 0 d_M_heir_22 rfl ?_
      refine mm_ist5 d_M_heir_23 ?_
      have gf := (Fr.rf (S := scM) (μ := μ1).sI (j := 0) (x := nI 0) (a := 71) rfl).trans g1
      refine mm_up (P := fun c => ∀ (l6 : Option Value) (ν : mm_M), Fr scM μ1 ν → Hd ν i D → mm_T X 12 0 0 k_M_heir 25 [some (.ref 71), some (.int (nI i)), some (.int y2), some (.int (xA (heS D c))), some (.int (xC (nI 1000000) (heS D c))), some (.int (nI c)), l6] [] ν _) (dn D) ?_ ?_ none μ2 gf hH
      · intro l6 ν gf hH
        have hM := hH.1
        rw [hp, show xA (some p) = nI p.1 from rfl]
        refine mm_iload d_M_heir_25 rfl ?_
        refine mm_aload d_M_heir_27 rfl ?_
        refine mm_getIN d_M_heir_28 rfl (sk_o_71 hM) hH.n ?_
        refine mm_icmp_geN d_M_heir_31 (by first | omega | exact ite01_lt | exact bt8_lt31 _ _ | exact godB_lt31 _ _ _ | exact pop_lt31 _ | assumption | exact b31 (hW.gp (by omega)) | exact b31 (hW.ne (by omega)) | exact b31 (hW.op (by omega)) | exact and31 (hW.gp (by omega)) | exact and31 (hW.ne (by omega)) | exact and31 (hW.op (by omega)) | exact and31 (by assumption) | exact and31r (hW.ne (by omega)) | exact and31r (hW.gp (by omega)) | exact and31r (by decide)) (by first | omega | exact ite01_lt | exact bt8_lt31 _ _ | exact godB_lt31 _ _ _ | exact pop_lt31 _ | assumption | exact b31 (hW.gp (by omega)) | exact b31 (hW.ne (by omega)) | exact b31 (hW.op (by omega)) | exact and31 (hW.gp (by omega)) | exact and31 (hW.ne (by omega)) | exact and31 (hW.op (by omega)) | exact and31 (by assumption) | exact and31r (hW.ne (by omega)) | exact and31r (hW.gp (by omega)) | exact and31r (by decide)) (fun c_31 => ?_) (fun c_31 => False.elim (by omega))
        refine mm_iload d_M_heir_74 rfl ?_
        refine mm_ci d_M_heir_75 ?_
        refine mm_icmp_eqM1 d_M_heir_76 (by first | omega | exact ite01_lt | exact bt8_lt31 _ _ | exact godB_lt31 _ _ _ | exact pop_lt31 _ | assumption | exact b31 (hW.gp (by omega)) | exact b31 (hW.ne (by omega)) | exact b31 (hW.op (by omega)) | exact and31 (hW.gp (by omega)) | exact and31 (hW.ne (by omega)) | exact and31 (hW.op (by omega)) | exact and31 (by assumption) | exact and31r (hW.ne (by omega)) | exact and31r (hW.gp (by omega)) | exact and31r (by decide)) ?_
        refine mm_iload d_M_heir_79 rfl ?_
        refine mm_if_ne d_M_heir_80 (fun c_80 => ?_) (fun c_80 => ?_)
        · refine mm_iload d_M_heir_87 rfl ?_
          exact mm_ri d_M_heir_89 ⟨by first | exact (if_pos (Decidable.not_not.mp c_80)).symm | exact (if_neg c_80).symm, gf⟩
        · refine mm_iload d_M_heir_83 rfl ?_
          refine mm_goto d_M_heir_84 ?_
          exact mm_ri d_M_heir_89 ⟨by first | exact (if_pos (Decidable.not_not.mp c_80)).symm | exact (if_neg c_80).symm, gf⟩
      · intro c hc IH l6 ν gf hH
        have hM := hH.1
        have hs : heS D (c + 1) = stL (heS D c) c (vR D (nI 0) (ou1 c)) := rfl
        have hv := vR_le hW (nI 0) (ou1 c)
        have hok := heS_ok hW c (by omega)
        have p64 := p2_lt (h := c) (by omega)
        rw [hs] at IH
        obtain ⟨v, hve⟩ : ∃ v, vR D (nI 0) (ou1 c) = v := ⟨_, rfl⟩
        rw [hve] at hv hs IH
        cases hst : heS D c with
        | none =>
          rw [hst] at IH
          rw [show xC (nI 1000000) none = nI 1000000 from rfl]
          refine mm_iload d_M_heir_25 rfl ?_
          refine mm_aload d_M_heir_27 rfl ?_
          refine mm_getIN d_M_heir_28 rfl (sk_o_71 hM) hH.n ?_
          refine mm_icmp_geN d_M_heir_31 (by first | omega | exact ite01_lt | exact bt8_lt31 _ _ | exact godB_lt31 _ _ _ | exact pop_lt31 _ | assumption | exact b31 (hW.gp (by omega)) | exact b31 (hW.ne (by omega)) | exact b31 (hW.op (by omega)) | exact and31 (hW.gp (by omega)) | exact and31 (hW.ne (by omega)) | exact and31 (hW.op (by omega)) | exact and31 (by assumption) | exact and31r (hW.ne (by omega)) | exact and31r (hW.gp (by omega)) | exact and31r (by decide)) (by first | omega | exact ite01_lt | exact bt8_lt31 _ _ | exact godB_lt31 _ _ _ | exact pop_lt31 _ | assumption | exact b31 (hW.gp (by omega)) | exact b31 (hW.ne (by omega)) | exact b31 (hW.op (by omega)) | exact and31 (hW.gp (by omega)) | exact and31 (hW.ne (by omega)) | exact and31 (hW.op (by omega)) | exact and31 (by assumption) | exact and31r (hW.ne (by omega)) | exact and31r (hW.gp (by omega)) | exact and31r (by decide)) (fun c_31 => False.elim (by omega)) (fun c_31 => ?_)
          refine mm_aload d_M_heir_34 rfl ?_
          refine mm_ciN 1 d_M_heir_35 rfl ?_
          refine mm_iload d_M_heir_36 rfl ?_
          refine mm_ishl1N d_M_heir_38 (by omega) ?_
          refine mm_ciN 0 d_M_heir_39 rfl ?_
          refine mm_v2i d_M_heir_40 (sk_o_71 hM) (sp_M_feastV (ou := ou1 c) hH (fun x hx => out_heir c (by omega) x (by omega)) (by omega) (fun ν2 f2 hH2 => ?_))
          rw [hve]
          refine mm_ist6 d_M_heir_43 ?_
          refine mm_iload d_M_heir_45 rfl ?_
          refine mm_iload d_M_heir_47 rfl ?_
          refine mm_icmp_geN d_M_heir_49 (by first | omega | exact ite01_lt | exact bt8_lt31 _ _ | exact godB_lt31 _ _ _ | exact pop_lt31 _ | assumption | exact b31 (hW.gp (by omega)) | exact b31 (hW.ne (by omega)) | exact b31 (hW.op (by omega)) | exact and31 (hW.gp (by omega)) | exact and31 (hW.ne (by omega)) | exact and31 (hW.op (by omega)) | exact and31 (by assumption) | exact and31r (hW.ne (by omega)) | exact and31r (hW.gp (by omega)) | exact and31r (by decide)) (by first | omega | exact ite01_lt | exact bt8_lt31 _ _ | exact godB_lt31 _ _ _ | exact pop_lt31 _ | assumption | exact b31 (hW.gp (by omega)) | exact b31 (hW.ne (by omega)) | exact b31 (hW.op (by omega)) | exact and31 (hW.gp (by omega)) | exact and31 (hW.ne (by omega)) | exact and31 (hW.op (by omega)) | exact and31 (by assumption) | exact and31r (hW.ne (by omega)) | exact and31r (hW.gp (by omega)) | exact and31r (by decide)) (fun c_49 => False.elim (by omega)) (fun c_49 => ?_)
          refine mm_iload d_M_heir_52 rfl ?_
          refine mm_goto d_M_heir_54 ?_
          refine mm_ist3 d_M_heir_58 ?_
          refine mm_iload d_M_heir_59 rfl ?_
          refine mm_iload d_M_heir_61 rfl ?_
          refine mm_s2i d_M_heir_63 (sp_M_lesserN (by omega) (by omega) ?_)
          rw [Nat.min_eq_right (by omega)]
          refine mm_ist4 d_M_heir_66 ?_
          refine mm_inc5N d_M_heir_68 ?_
          refine mm_goto d_M_heir_71 ?_
          exact IH _ ν2 (gf.trans f2) hH2
        | some p =>
          obtain ⟨o1, o2⟩ := hok p hst
          rw [hst] at IH
          rw [show xA (some p) = nI p.1 from rfl, show xC (nI 1000000) (some p) = nI p.2 from rfl]
          have e1 : stL (some p) c v = if v < p.2 then some (c, v) else some p := rfl
          rw [e1] at IH
          refine mm_iload d_M_heir_25 rfl ?_
          refine mm_aload d_M_heir_27 rfl ?_
          refine mm_getIN d_M_heir_28 rfl (sk_o_71 hM) hH.n ?_
          refine mm_icmp_geN d_M_heir_31 (by first | omega | exact ite01_lt | exact bt8_lt31 _ _ | exact godB_lt31 _ _ _ | exact pop_lt31 _ | assumption | exact b31 (hW.gp (by omega)) | exact b31 (hW.ne (by omega)) | exact b31 (hW.op (by omega)) | exact and31 (hW.gp (by omega)) | exact and31 (hW.ne (by omega)) | exact and31 (hW.op (by omega)) | exact and31 (by assumption) | exact and31r (hW.ne (by omega)) | exact and31r (hW.gp (by omega)) | exact and31r (by decide)) (by first | omega | exact ite01_lt | exact bt8_lt31 _ _ | exact godB_lt31 _ _ _ | exact pop_lt31 _ | assumption | exact b31 (hW.gp (by omega)) | exact b31 (hW.ne (by omega)) | exact b31 (hW.op (by omega)) | exact and31 (hW.gp (by omega)) | exact and31 (hW.ne (by omega)) | exact and31 (hW.op (by omega)) | exact and31 (by assumption) | exact and31r (hW.ne (by omega)) | exact and31r (hW.gp (by omega)) | exact and31r (by decide)) (fun c_31 => False.elim (by omega)) (fun c_31 => ?_)
          refine mm_aload d_M_heir_34 rfl ?_
          refine mm_ciN 1 d_M_heir_35 rfl ?_
          refine mm_iload d_M_heir_36 rfl ?_
          refine mm_ishl1N d_M_heir_38 (by omega) ?_
          refine mm_ciN 0 d_M_heir_39 rfl ?_
          refine mm_v2i d_M_heir_40 (sk_o_71 hM) (sp_M_feastV (ou := ou1 c) hH (fun x hx => out_heir c (by omega) x (by omega)) (by omega) (fun ν2 f2 hH2 => ?_))
          rw [hve]
          refine mm_ist6 d_M_heir_43 ?_
          refine mm_iload d_M_heir_45 rfl ?_
          refine mm_iload d_M_heir_47 rfl ?_
          refine mm_icmp_geN d_M_heir_49 (by first | omega | exact ite01_lt | exact bt8_lt31 _ _ | exact godB_lt31 _ _ _ | exact pop_lt31 _ | assumption | exact b31 (hW.gp (by omega)) | exact b31 (hW.ne (by omega)) | exact b31 (hW.op (by omega)) | exact and31 (hW.gp (by omega)) | exact and31 (hW.ne (by omega)) | exact and31 (hW.op (by omega)) | exact and31 (by assumption) | exact and31r (hW.ne (by omega)) | exact and31r (hW.gp (by omega)) | exact and31r (by decide)) (by first | omega | exact ite01_lt | exact bt8_lt31 _ _ | exact godB_lt31 _ _ _ | exact pop_lt31 _ | assumption | exact b31 (hW.gp (by omega)) | exact b31 (hW.ne (by omega)) | exact b31 (hW.op (by omega)) | exact and31 (hW.gp (by omega)) | exact and31 (hW.ne (by omega)) | exact and31 (hW.op (by omega)) | exact and31 (by assumption) | exact and31r (hW.ne (by omega)) | exact and31r (hW.gp (by omega)) | exact and31r (by decide)) (fun c_49 => ?_) (fun c_49 => ?_)
          · refine mm_iload d_M_heir_57 rfl ?_
            refine mm_ist3 d_M_heir_58 ?_
            refine mm_iload d_M_heir_59 rfl ?_
            refine mm_iload d_M_heir_61 rfl ?_
            refine mm_s2i d_M_heir_63 (sp_M_lesserN (by omega) (by omega) ?_)
            refine mm_ist4 d_M_heir_66 ?_
            refine mm_inc5N d_M_heir_68 ?_
            refine mm_goto d_M_heir_71 ?_
            first | (rw [if_pos (by omega)] at IH; rw [Nat.min_eq_right (by omega)]; exact IH _ ν2 (gf.trans f2) hH2) | (rw [if_neg (by omega)] at IH; rw [Nat.min_eq_left (by omega)]; exact IH _ ν2 (gf.trans f2) hH2)
          · refine mm_iload d_M_heir_52 rfl ?_
            refine mm_goto d_M_heir_54 ?_
            refine mm_ist3 d_M_heir_58 ?_
            refine mm_iload d_M_heir_59 rfl ?_
            refine mm_iload d_M_heir_61 rfl ?_
            refine mm_s2i d_M_heir_63 (sp_M_lesserN (by omega) (by omega) ?_)
            refine mm_ist4 d_M_heir_66 ?_
            refine mm_inc5N d_M_heir_68 ?_
            refine mm_goto d_M_heir_71 ?_
            first | (rw [if_pos (by omega)] at IH; rw [Nat.min_eq_right (by omega)]; exact IH _ ν2 (gf.trans f2) hH2) | (rw [if_neg (by omega)] at IH; rw [Nat.min_eq_left (by omega)]; exact IH _ ν2 (gf.trans f2) hH2)
