theorem CoS_p0 {μ : mm_M} {a : Nat} (h : CoS μ a) : mm_P μ a 0 = some (a + 1) := (h.2.1).1
theorem CoS_a0 {μ : mm_M} {a : Nat} (h : CoS μ a) : mm_ar μ (a + 1) 0 8 := (h.2.1).2
theorem CoS_p1 {μ : mm_M} {a : Nat} (h : CoS μ a) : mm_P μ a 1 = some (a + 2) := (h.2.2.1).1
theorem CoS_a1 {μ : mm_M} {a : Nat} (h : CoS μ a) : mm_ar μ (a + 2) 0 8 := (h.2.2.1).2
theorem CoS_p2 {μ : mm_M} {a : Nat} (h : CoS μ a) : mm_P μ a 2 = some (a + 3) := (h.2.2.2.1).1
theorem CoS_a2 {μ : mm_M} {a : Nat} (h : CoS μ a) : mm_ar μ (a + 3) 0 8 := (h.2.2.2.1).2
theorem CoS_p3 {μ : mm_M} {a : Nat} (h : CoS μ a) : mm_P μ a 3 = some (a + 4) := (h.2.2.2.2.1).1
theorem CoS_a3 {μ : mm_M} {a : Nat} (h : CoS μ a) : mm_ar μ (a + 4) 0 6 := (h.2.2.2.2.1).2
theorem CoS_p4 {μ : mm_M} {a : Nat} (h : CoS μ a) : mm_P μ a 4 = some (a + 5) := (h.2.2.2.2.2.1).1
theorem CoS_a4 {μ : mm_M} {a : Nat} (h : CoS μ a) : mm_ar μ (a + 5) 0 6 := (h.2.2.2.2.2.1).2
theorem CoS_p5 {μ : mm_M} {a : Nat} (h : CoS μ a) : mm_P μ a 5 = some (a + 6) := (h.2.2.2.2.2.2).1
theorem CoS_a5 {μ : mm_M} {a : Nat} (h : CoS μ a) : mm_ar μ (a + 6) 0 6 := (h.2.2.2.2.2.2).2
theorem inF_nI {c n : Nat} (hc : c < 2 ^ 31) (hn : n < 2 ^ 31) : inF (nI c) 0 (nI n) = if c < n then 1 else 0 := by
  unfold inF
  rw [if_neg (nI_pos hc)]
  by_cases h : c < n
  · rw [if_neg (nI_ge h hn), if_pos h]
  · rw [if_pos (nI_le (by omega) hc), if_neg h]
theorem sp_Co_worksWith {X : mm_X} {μ : mm_M} {q : Int32 → mm_M → Prop} {a s : Nat} {D : mm_D} (hCD : CoD μ a D) (hW : WfD D) (h : q (nI (readyN D s)) μ) : mm_Ci X 0 0 0 k_Co_worksWith [.ref a, .int (nI s)] μ q := by
  show mm_T X 0 0 0 k_Co_worksWith 0 [some (.ref a), some (.int (nI s)), none, none] [] μ _
  obtain ⟨hC, -, hn, -, hD⟩ := hCD
  have hw6 := hW.2.1
  refine mm_ci d_Co_worksWith_0 ?_
  refine mm_ist2 d_Co_worksWith_1 ?_
  refine mm_ci d_Co_worksWith_2 ?_
  refine mm_ist3 d_Co_worksWith_3 ?_
  refine mm_up (P := fun i => mm_T X 0 0 0 k_Co_worksWith 4 [some (.ref a), some (.int (nI s)), some (.int (nI (readyK D s i))), some (.int (nI i))] [] μ (fun v μ' => ∃ r, v = some (.int r) ∧ q r μ')) (dw D) ?_ (fun i hi ih => ?_)
  · refine mm_iload d_Co_worksWith_4 rfl ?_
    refine mm_aload d_Co_worksWith_5 rfl ?_
    refine mm_getI d_Co_worksWith_6 rfl hC.1 ?_
    rw [hn]
    refine mm_icmp_ge d_Co_worksWith_9 (fun c_9 => ?_) (fun c_9 => absurd (Int32.le_refl _) c_9)
    refine mm_iload d_Co_worksWith_37 rfl ?_
    exact mm_ri d_Co_worksWith_38 h
  · have hlt : dne D i &&& (s ^^^ 4294967295) < 2 ^ 31 := Nat.lt_of_lt_of_le (and_lt256 (hW.2.2.2.1 i (by omega)).2.2) (by decide)
    refine mm_iload d_Co_worksWith_4 rfl ?_
    refine mm_aload d_Co_worksWith_5 rfl ?_
    refine mm_getI d_Co_worksWith_6 rfl hC.1 ?_
    rw [hn]
    refine mm_icmp_ge d_Co_worksWith_9 (fun c_9 => absurd c_9 (nI_ge hi (by omega))) (fun c_9 => ?_)
    refine mm_aload d_Co_worksWith_12 rfl ?_
    refine mm_getP d_Co_worksWith_13 rfl hC.1 (CoS_p5 hC) ?_
    refine mm_iload d_Co_worksWith_16 rfl ?_
    refine mm_iald d_Co_worksWith_17 (CoS_a5 hC) (vp_in_nI (by omega) (by decide)) ?_
    rw [nI_clamp (by omega), (hD i (by omega)).2.2]
    refine mm_iload d_Co_worksWith_18 rfl ?_
    refine mm_ci d_Co_worksWith_19 ?_
    refine mm_ixor d_Co_worksWith_20 ?_
    refine mm_iand d_Co_worksWith_21 ?_
    rw [nb_m1, nb_xor, nb_and]
    refine mm_if_ne d_Co_worksWith_22 (fun c_22 => ?_) (fun c_22 => ?_)
    · refine mm_inc3 d_Co_worksWith_31 ?_
      refine mm_goto d_Co_worksWith_34 ?_
      rw [nI_1]
      first
        | (have e : ¬ dne D i &&& (s ^^^ 4294967295) = 0 := fun z => c_22 ((nI_inj0 hlt).mpr z)
           have z := ih
           simp only [readyK, if_neg e, Nat.or_zero] at z
           exact z)
        | (have e := (nI_inj0 hlt).mp (Decidable.not_not.mp c_22)
           have z := ih
           simp only [readyK, if_pos e] at z
           rw [nb_1s i (by omega), nb_or]
           exact z)
    · refine mm_iload d_Co_worksWith_25 rfl ?_
      refine mm_ci d_Co_worksWith_26 ?_
      refine mm_iload d_Co_worksWith_27 rfl ?_
      refine mm_ishl d_Co_worksWith_28 ?_
      refine mm_ior d_Co_worksWith_29 ?_
      refine mm_ist2 d_Co_worksWith_30 ?_
      refine mm_inc3 d_Co_worksWith_31 ?_
      refine mm_goto d_Co_worksWith_34 ?_
      rw [nI_1]
      first
        | (have e : ¬ dne D i &&& (s ^^^ 4294967295) = 0 := fun z => c_22 ((nI_inj0 hlt).mpr z)
           have z := ih
           simp only [readyK, if_neg e, Nat.or_zero] at z
           exact z)
        | (have e := (nI_inj0 hlt).mp (Decidable.not_not.mp c_22)
           have z := ih
           simp only [readyK, if_pos e] at z
           rw [nb_1s i (by omega), nb_or]
           exact z)
theorem sp_Co_worthOf {X : mm_X} {μ : mm_M} {q : Int32 → mm_M → Prop} {a s : Nat} {D : mm_D} (hCD : CoD μ a D) (hW : WfD D) (hs : s < 256) (h : q (nI (worthN D s)) μ) : mm_Ci X 1 0 0 k_Co_worthOf [.ref a, .int (nI s)] μ q := by
  show mm_T X 1 0 0 k_Co_worthOf 0 [some (.ref a), some (.int (nI s)), none, none] [] μ _
  obtain ⟨hC, -, hn, -, hD⟩ := hCD
  have hw6 := hW.2.1
  refine mm_ci d_Co_worthOf_0 ?_
  refine mm_ist2 d_Co_worthOf_1 ?_
  refine mm_ci d_Co_worthOf_2 ?_
  refine mm_ist3 d_Co_worthOf_3 ?_
  refine mm_up (P := fun i => mm_T X 1 0 0 k_Co_worthOf 4 [some (.ref a), some (.int (nI s)), some (.int (nI (worthK D s i))), some (.int (nI i))] [] μ (fun v μ' => ∃ r, v = some (.int r) ∧ q r μ')) (dw D) ?_ (fun i hi ih => ?_)
  · refine mm_iload d_Co_worthOf_4 rfl ?_
    refine mm_aload d_Co_worthOf_5 rfl ?_
    refine mm_getI d_Co_worthOf_6 rfl hC.1 ?_
    rw [hn]
    refine mm_icmp_ge d_Co_worthOf_9 (fun c_9 => ?_) (fun c_9 => absurd (Int32.le_refl _) c_9)
    refine mm_iload d_Co_worthOf_35 rfl ?_
    exact mm_ri d_Co_worthOf_36 h
  · refine mm_iload d_Co_worthOf_4 rfl ?_
    refine mm_aload d_Co_worthOf_5 rfl ?_
    refine mm_getI d_Co_worthOf_6 rfl hC.1 ?_
    rw [hn]
    refine mm_icmp_ge d_Co_worthOf_9 (fun c_9 => absurd c_9 (nI_ge hi (by omega))) (fun c_9 => ?_)
    refine mm_iload d_Co_worthOf_12 rfl ?_
    refine mm_iload d_Co_worthOf_13 rfl ?_
    refine mm_s2i d_Co_worthOf_14 (sp_has hs (by omega) ?_)
    refine mm_if_eq d_Co_worthOf_17 (fun c_17 => ?_) (fun c_17 => ?_)
    · refine mm_inc3 d_Co_worthOf_29 ?_
      refine mm_goto d_Co_worthOf_32 ?_
      rw [nI_1]
      first
        | (have z := ih
           simp only [worthK, if_pos (nI_bt0.mp c_17), Nat.add_zero] at z
           exact z)
        | (have z := ih
           simp only [worthK, if_neg (fun e => c_17 (nI_bt0.mpr e))] at z
           rw [nI_add]
           exact z)
    · refine mm_iload d_Co_worthOf_20 rfl ?_
      refine mm_aload d_Co_worthOf_21 rfl ?_
      refine mm_getP d_Co_worthOf_22 rfl hC.1 (CoS_p4 hC) ?_
      refine mm_iload d_Co_worthOf_25 rfl ?_
      refine mm_iald d_Co_worthOf_26 (CoS_a4 hC) (vp_in_nI (by omega) (by decide)) ?_
      rw [nI_clamp (by omega), (hD i (by omega)).2.1]
      refine mm_iadd d_Co_worthOf_27 ?_
      refine mm_ist2 d_Co_worthOf_28 ?_
      refine mm_inc3 d_Co_worthOf_29 ?_
      refine mm_goto d_Co_worthOf_32 ?_
      rw [nI_1]
      first
        | (have z := ih
           simp only [worthK, if_pos (nI_bt0.mp c_17), Nat.add_zero] at z
           exact z)
        | (have z := ih
           simp only [worthK, if_neg (fun e => c_17 (nI_bt0.mpr e))] at z
           rw [nI_add]
           exact z)
def godB (D : mm_D) (c w : Nat) : Nat := if c < dn D then bt8 (dgp D c) w else 0
theorem godB_01 (D : mm_D) (c w : Nat) : godB D c w = 0 ∨ godB D c w = 1 := by
  unfold godB
  split
  · exact bt8_01 _ _
  · exact Or.inl rfl
theorem sp_Co_isGodparent {X : mm_X} {μ : mm_M} {q : Int32 → mm_M → Prop} {a c w : Nat} {D : mm_D} (hCD : CoD μ a D) (hW : WfD D) (hc : c < 6) (hw : w < 8) (h : q (nI (godB D c w)) μ) : mm_Ci X 1 0 0 k_Co_isGodparent [.ref a, .int (nI c), .int (nI w)] μ q := by
  show mm_T X 1 0 0 k_Co_isGodparent 0 [some (.ref a), some (.int (nI c)), some (.int (nI w))] [] μ _
  obtain ⟨hC, hn, -, -, hD⟩ := hCD
  have hn6 := hW.1
  have hg := (hW.2.2.2.1 c hc).1
  unfold godB at h
  refine mm_aload d_Co_isGodparent_0 rfl ?_
  refine mm_iload d_Co_isGodparent_1 rfl ?_
  refine mm_v1i d_Co_isGodparent_2 hC.1 (sp_Co_hasChild hC ?_)
  rw [hn, inF_nI (by omega) (by omega)]
  refine mm_if_eq d_Co_isGodparent_5 (fun c_5 => ?_) (fun c_5 => ?_)
  · refine mm_ci d_Co_isGodparent_32 ?_
    first
      | (have e : ¬ c < dn D := fun z => by rw [if_pos z] at c_5; exact absurd c_5 (by decide)
         rw [if_neg e] at h
         exact mm_rz d_Co_isGodparent_33 h)
      | (have e : c < dn D := Decidable.byContradiction fun z => by rw [if_neg z] at c_5; exact c_5 rfl
         rw [if_pos e] at h
         first
           | (rw [nI_bt0.mp c_25] at h; exact mm_rz d_Co_isGodparent_33 h)
           | (rw [(bt8_01 (dgp D c) w).resolve_left (fun e => c_25 (nI_bt0.mpr e))] at h; exact mm_rz d_Co_isGodparent_33 h))
  · refine mm_iload d_Co_isGodparent_8 rfl ?_
    refine mm_s1i d_Co_isGodparent_9 (sp_G_isWeather ?_)
    rw [show (8 : Int32) = nI 8 from rfl, inF_nI (by omega) (by decide), if_pos hw]
    refine mm_if_eq d_Co_isGodparent_12 (fun c_12 => absurd c_12 (by decide)) (fun c_12 => ?_)
    refine mm_aload d_Co_isGodparent_15 rfl ?_
    refine mm_getP d_Co_isGodparent_16 rfl hC.1 (CoS_p3 hC) ?_
    refine mm_iload d_Co_isGodparent_19 rfl ?_
    refine mm_iald d_Co_isGodparent_20 (CoS_a3 hC) (vp_in_nI (by omega) (by decide)) ?_
    rw [nI_clamp (by omega), (hD c hc).1]
    refine mm_iload d_Co_isGodparent_21 rfl ?_
    refine mm_s2i d_Co_isGodparent_22 (sp_has hg hw ?_)
    refine mm_if_eq d_Co_isGodparent_25 (fun c_25 => ?_) (fun c_25 => ?_)
    · refine mm_ci d_Co_isGodparent_32 ?_
      first
        | (have e : ¬ c < dn D := fun z => by rw [if_pos z] at c_5; exact absurd c_5 (by decide)
           rw [if_neg e] at h
           exact mm_rz d_Co_isGodparent_33 h)
        | (have e : c < dn D := Decidable.byContradiction fun z => by rw [if_neg z] at c_5; exact c_5 rfl
           rw [if_pos e] at h
           first
             | (rw [nI_bt0.mp c_25] at h; exact mm_rz d_Co_isGodparent_33 h)
             | (rw [(bt8_01 (dgp D c) w).resolve_left (fun e => c_25 (nI_bt0.mpr e))] at h; exact mm_rz d_Co_isGodparent_33 h))
    · refine mm_ci d_Co_isGodparent_28 ?_
      refine mm_goto d_Co_isGodparent_29 ?_
      first
        | (have e : ¬ c < dn D := fun z => by rw [if_pos z] at c_5; exact absurd c_5 (by decide)
           rw [if_neg e] at h
           exact mm_rz d_Co_isGodparent_33 h)
        | (have e : c < dn D := Decidable.byContradiction fun z => by rw [if_neg z] at c_5; exact c_5 rfl
           rw [if_pos e] at h
           first
             | (rw [nI_bt0.mp c_25] at h; exact mm_rz d_Co_isGodparent_33 h)
             | (rw [(bt8_01 (dgp D c) w).resolve_left (fun e => c_25 (nI_bt0.mpr e))] at h; exact mm_rz d_Co_isGodparent_33 h))
theorem sp_Co_hereOnceComes {X : mm_X} {μ : mm_M} {q : Int32 → mm_M → Prop} {a s w : Nat} {D : mm_D} (hCD : CoD μ a D) (hw : w < 8) (h : q (nI (comesN D s w)) μ) : mm_Ci X 1 0 0 k_Co_hereOnceComes [.ref a, .int (nI s), .int (nI w)] μ q := by
  show mm_T X 1 0 0 k_Co_hereOnceComes 0 [some (.ref a), some (.int (nI s)), some (.int (nI w))] [] μ _
  obtain ⟨hC, -, -, hD, -⟩ := hCD
  refine mm_iload d_Co_hereOnceComes_0 rfl ?_
  refine mm_s1i d_Co_hereOnceComes_1 (sp_G_isWeather ?_)
  rw [show (8 : Int32) = nI 8 from rfl, inF_nI (by omega) (by decide), if_pos hw]
  refine mm_if_eq d_Co_hereOnceComes_4 (fun c_4 => absurd c_4 (by decide)) (fun c_4 => ?_)
  refine mm_iload d_Co_hereOnceComes_7 rfl ?_
  refine mm_aload d_Co_hereOnceComes_8 rfl ?_
  refine mm_getP d_Co_hereOnceComes_9 rfl hC.1 (CoS_p2 hC) ?_
  refine mm_iload d_Co_hereOnceComes_12 rfl ?_
  refine mm_iald d_Co_hereOnceComes_13 (CoS_a2 hC) (vp_in_nI (by omega) (by decide)) ?_
  rw [nI_clamp (by omega), (hD w hw).2.2]
  refine mm_ci d_Co_hereOnceComes_14 ?_
  refine mm_ixor d_Co_hereOnceComes_15 ?_
  refine mm_iand d_Co_hereOnceComes_16 ?_
  refine mm_ci d_Co_hereOnceComes_17 ?_
  refine mm_iload d_Co_hereOnceComes_18 rfl ?_
  refine mm_ishl d_Co_hereOnceComes_19 ?_
  refine mm_ior d_Co_hereOnceComes_20 ?_
  refine mm_goto d_Co_hereOnceComes_21 ?_
  exact mm_ri d_Co_hereOnceComes_25 (by rw [nb_m1, nb_xor, nb_and, nb_1s w (by omega), nb_or]; exact h)
/-- all weathers that the children of s have, of the first k -/
def unionK (D : mm_D) (s : Nat) : Nat → Nat
  | 0 => 0
  | k + 1 => unionK D s k ||| (if bt8 s k = 0 then 0 else dgp D k)
def unionN (D : mm_D) (s : Nat) : Nat := unionK D s (dn D)
theorem unionK_lt {D : mm_D} (hW : WfD D) (s : Nat) : ∀ k, k ≤ 6 → unionK D s k < 256 := by
  intro k
  induction k with
  | zero => intro _; exact (by decide : 0 < 256)
  | succ k ih =>
    intro hk
    refine or_lt256 (ih (by omega)) ?_
    split
    · decide
    · exact (hW.2.2.2.1 k (by omega)).1
theorem sp_Cr_weathersOf {X : mm_X} {μ : mm_M} {q : Int32 → mm_M → Prop} {a s : Nat} {D : mm_D} (hCD : CoD μ a D) (hW : WfD D) (hs : s < 256) (h : q (nI (unionN D s)) μ) : mm_Ci X 1 0 0 k_Cr_weathersOf [.ref a, .int (nI s)] μ q := by
  show mm_T X 1 0 0 k_Cr_weathersOf 0 [some (.ref a), some (.int (nI s)), none, none] [] μ _
  obtain ⟨hC, hn, -, -, hD⟩ := hCD
  have hn6 := hW.1
  have ho := hC.1
  have hp := CoS_p3 hC
  refine mm_ci d_Cr_weathersOf_0 ?_
  refine mm_ist2 d_Cr_weathersOf_1 ?_
  refine mm_ci d_Cr_weathersOf_2 ?_
  refine mm_ist3 d_Cr_weathersOf_3 ?_
  refine mm_up (P := fun i => mm_T X 1 0 0 k_Cr_weathersOf 4 [some (.ref a), some (.int (nI s)), some (.int (nI (unionK D s i))), some (.int (nI i))] [] μ (fun v μ' => ∃ r, v = some (.int r) ∧ q r μ')) (dn D) ?_ (fun i hi ih => ?_)
  · refine mm_iload d_Cr_weathersOf_4 rfl ?_
    refine mm_aload d_Cr_weathersOf_5 rfl ?_
    refine mm_getI d_Cr_weathersOf_6 rfl (by assumption) ?_
    rw [hn]
    refine mm_icmp_ge d_Cr_weathersOf_9 (fun c_9 => ?_) (fun c_9 => absurd (Int32.le_refl _) c_9)
    refine mm_iload d_Cr_weathersOf_35 rfl ?_
    exact mm_ri d_Cr_weathersOf_36 h
  · refine mm_iload d_Cr_weathersOf_4 rfl ?_
    refine mm_aload d_Cr_weathersOf_5 rfl ?_
    refine mm_getI d_Cr_weathersOf_6 rfl (by assumption) ?_
    rw [hn]
    refine mm_icmp_ge d_Cr_weathersOf_9 (fun c_9 => absurd c_9 (nI_ge hi (by omega))) (fun c_9 => ?_)
    refine mm_iload d_Cr_weathersOf_12 rfl ?_
    refine mm_iload d_Cr_weathersOf_13 rfl ?_
    refine mm_s2i d_Cr_weathersOf_14 (sp_has hs (by omega) ?_)
    refine mm_if_eq d_Cr_weathersOf_17 (fun c_17 => ?_) (fun c_17 => ?_)
    · refine mm_inc3 d_Cr_weathersOf_29 ?_
      refine mm_goto d_Cr_weathersOf_32 ?_
      rw [nI_1]
      first
        | (have z := ih
           simp only [unionK, if_pos (nI_bt0.mp c_17), Nat.or_zero] at z
           exact z)
        | (have z := ih
           simp only [unionK, if_neg (fun e => c_17 (nI_bt0.mpr e))] at z
           rw [nb_or]
           exact z)
    · refine mm_iload d_Cr_weathersOf_20 rfl ?_
      refine mm_aload d_Cr_weathersOf_21 rfl ?_
      refine mm_getP d_Cr_weathersOf_22 rfl (by assumption) (by assumption) ?_
      refine mm_iload d_Cr_weathersOf_25 rfl ?_
      refine mm_iald d_Cr_weathersOf_26 (CoS_a3 hC) (vp_in_nI (by omega) (by decide)) ?_
      rw [nI_clamp (by omega), (hD i (by omega)).1]
      refine mm_ior d_Cr_weathersOf_27 ?_
      refine mm_ist2 d_Cr_weathersOf_28 ?_
      refine mm_inc3 d_Cr_weathersOf_29 ?_
      refine mm_goto d_Cr_weathersOf_32 ?_
      rw [nI_1]
      first
        | (have z := ih
           simp only [unionK, if_pos (nI_bt0.mp c_17), Nat.or_zero] at z
           exact z)
        | (have z := ih
           simp only [unionK, if_neg (fun e => c_17 (nI_bt0.mpr e))] at z
           rw [nb_or]
           exact z)
