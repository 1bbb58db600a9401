/-! asking: the class's walk, its state -/
def gN (D : mm_D) (z : Int32) (x : Nat) : Nat := if z = 0 then worthN D (readyN D x) else pop (readyN D x)
theorem gN_lt {D : mm_D} (hW : WfD D) (z : Int32) (x : Nat) : gN D z x < 900 := by
  unfold gN
  split
  · have := worthN_le hW (readyN D x); omega
  · have := pop_le (readyN D x); omega
/-- the class's Asking over a coast, its gains -/
def AsG (D : mm_D) (e : Nat) (g : Nat → Nat) (ν : mm_M) : Prop := SK ν ∧ e < 2 ∧ mm_P ν 57 6 = some (4 + 7 * e) ∧ CoD ν (4 + 7 * e) D ∧ WfD D ∧ ∀ x, x < 256 → mm_I ν 61 x = nI (g x)
def scK (a : Nat) : Bool := a == 57 || a == 59 || a == 60 || a == 62
theorem scK_C : ∀ a, scK a = true → scC a = true := fun a z => by unfold scK at z; unfold scC; simp at z ⊢; omega
def Kw (μ ν : mm_M) : Prop := Fr scK μ ν ∧ mm_P ν = mm_P μ ∧ ∀ j, j ≠ 8 → mm_I ν 57 j = mm_I μ 57 j
theorem Kw.rf {μ : mm_M} : Kw μ μ := ⟨Fr.rf, rfl, fun _ _ => rfl⟩
theorem Kw.trans {μ ν ξ : mm_M} (h : Kw μ ν) (g : Kw ν ξ) : Kw μ ξ := ⟨h.1.trans g.1, g.2.1.trans h.2.1, fun j hj => (g.2.2 j hj).trans (h.2.2 j hj)⟩
theorem Kw.s {μ ν : mm_M} {a j : Nat} {x : Int32} (h : Kw μ ν) (ha : a = 59 ∨ a = 60 ∨ a = 62) : Kw μ (mm_sI ν a j x) := ⟨h.1.sI (by rcases ha with rfl | rfl | rfl <;> rfl), h.2.1, fun i hi => by rw [mm_sI_off (by omega)]; exact h.2.2 i hi⟩
theorem Kw.s8 {μ ν : mm_M} {x : Int32} (h : Kw μ ν) : Kw μ (mm_sI ν 57 8 x) := ⟨h.1.sI rfl, h.2.1, fun i hi => by rw [mm_I_sI, if_neg (fun z => hi z.2)]; exact h.2.2 i hi⟩
theorem Kw.cp {μ ν : mm_M} (h : Kw μ ν) : Kw μ (mm_cp ν 60 59 0 0 6) := ⟨h.1.cp rfl, h.2.1, fun i hi => by rw [mm_cp_off (by decide)]; exact h.2.2 i hi⟩
theorem AsG.kw {D : mm_D} {e : Nat} {g : Nat → Nat} {μ ν : mm_M} (h : AsG D e g μ) (k : Kw μ ν) : AsG D e g ν := ⟨k.1.2.2.2 h.1, h.2.1, by rw [k.2.1]; exact h.2.2.1, h.2.2.2.1.frC (k.1.sub scK_C) h.2.1, h.2.2.2.2.1, by rw [(k.1.2.2.1 61 rfl).1]; exact h.2.2.2.2.2⟩
def scB (a : Nat) : Bool := a == 57 || a == 61
theorem scB_C : ∀ a, scB a = true → scC a = true := fun a z => by unfold scB at z; unfold scC; simp at z ⊢; omega
theorem sp_As_begin {X : mm_X} {μ : mm_M} {q : mm_M → Prop} {D : mm_D} {e : Nat} {z : Int32} (hM : SK μ) (he : e < 2) (hC0 : CoD μ (4 + 7 * e) D) (hW : WfD D) (h : ∀ ν, Fr scB μ ν → mm_I ν 57 = mm_I μ 57 → AsG D e (gN D z) ν → q ν) : mm_Cv X 2 0 0 k_As_begin [.ref 57, .ref (4 + 7 * e), .int z] μ q := by
  show mm_T X 2 0 0 k_As_begin 0 [some (.ref 57), some (.ref (4 + 7 * e)), some (.int z), none, none] [] μ _
  refine mm_aload d_As_begin_0 rfl ?_
  refine mm_aload d_As_begin_1 rfl ?_
  refine mm_putP d_As_begin_2 rfl (by decide) (sk_o_57 hM) (Or.inl rfl) ?_
  refine mm_ciN 0 d_As_begin_5 rfl ?_
  refine mm_ist3 d_As_begin_6 ?_
  have h00 : Fr scB μ (mm_sP μ 57 6 (some (4 + 7 * e))) ∧ mm_P (mm_sP μ 57 6 (some (4 + 7 * e))) 57 6 = some (4 + 7 * e) ∧ mm_I (mm_sP μ 57 6 (some (4 + 7 * e))) 57 = mm_I μ 57 ∧ ∀ x, x < 0 → mm_I (mm_sP μ 57 6 (some (4 + 7 * e))) 61 x = nI (gN D z x) := ⟨Fr.rf.sP rfl (by decide), by rw [mm_P_sP, if_pos ⟨rfl, rfl⟩], rfl, fun x hx => absurd hx (Nat.not_lt_zero x)⟩
  have init : ∀ l4 : Option Value, mm_T X 2 0 0 k_As_begin 7 [some (.ref 57), some (.ref (4 + 7 * e)), some (.int z), some (.int (nI 0)), l4] [] (mm_sP μ 57 6 (some (4 + 7 * e))) (fun v μ' => v = none ∧ q μ') := by
    refine mm_up (P := fun i => ∀ l4 : Option Value, ∀ ν, (Fr scB μ ν ∧ mm_P ν 57 6 = some (4 + 7 * e) ∧ mm_I ν 57 = mm_I μ 57 ∧ ∀ x, x < i → mm_I ν 61 x = nI (gN D z x)) → mm_T X 2 0 0 k_As_begin 7 [some (.ref 57), some (.ref (4 + 7 * e)), some (.int z), some (.int (nI i)), l4] [] ν (fun v μ' => v = none ∧ q μ')) 256 ?_ ?_ |> fun H l4 => H l4 (mm_sP μ 57 6 (some (4 + 7 * e))) h00
    · intro l4 ν hI
      obtain ⟨hf, hP, e57, eg⟩ := hI
      have hM := hf.2.2.2 hM
      refine mm_iload d_As_begin_7 rfl ?_
      refine mm_ciN 255 d_As_begin_8 rfl ?_
      refine mm_icmp_gtN d_As_begin_11 (by first | omega | exact ite01_lt | exact bt8_lt31 _ _ | exact godB_lt31 _ _ _ | exact pop_lt31 _ | assumption | exact b31 (hW.gp (by omega)) | exact b31 (hW.ne (by omega)) | exact b31 (hW.op (by omega)) | exact and31 (hW.gp (by omega)) | exact and31 (hW.ne (by omega)) | exact and31 (hW.op (by omega)) | exact and31 (by assumption) | exact and31r (hW.ne (by omega)) | exact and31r (hW.gp (by omega)) | exact and31r (by decide)) (by first | omega | exact ite01_lt | exact bt8_lt31 _ _ | exact godB_lt31 _ _ _ | exact pop_lt31 _ | assumption | exact b31 (hW.gp (by omega)) | exact b31 (hW.ne (by omega)) | exact b31 (hW.op (by omega)) | exact and31 (hW.gp (by omega)) | exact and31 (hW.ne (by omega)) | exact and31 (hW.op (by omega)) | exact and31 (by assumption) | exact and31r (hW.ne (by omega)) | exact and31r (hW.gp (by omega)) | exact and31r (by decide)) (fun c_11 => ?_) (fun c_11 => False.elim (by omega))
      exact mm_rv d_As_begin_57 (h ν hf e57 ⟨hM, he, hP, hC0.frC (hf.sub scB_C) he, hW, eg⟩)
    · intro i hi ih l4 ν hI
      obtain ⟨hf, hP, e57, eg⟩ := hI
      have hM := hf.2.2.2 hM
      have hCD := hC0.frC (hf.sub scB_C) he
      have hr : readyN D i < 256 := by have := readyN_lt hW i; omega
      refine mm_iload d_As_begin_7 rfl ?_
      refine mm_ciN 255 d_As_begin_8 rfl ?_
      refine mm_icmp_gtN d_As_begin_11 (by first | omega | exact ite01_lt | exact bt8_lt31 _ _ | exact godB_lt31 _ _ _ | exact pop_lt31 _ | assumption | exact b31 (hW.gp (by omega)) | exact b31 (hW.ne (by omega)) | exact b31 (hW.op (by omega)) | exact and31 (hW.gp (by omega)) | exact and31 (hW.ne (by omega)) | exact and31 (hW.op (by omega)) | exact and31 (by assumption) | exact and31r (hW.ne (by omega)) | exact and31r (hW.gp (by omega)) | exact and31r (by decide)) (by first | omega | exact ite01_lt | exact bt8_lt31 _ _ | exact godB_lt31 _ _ _ | exact pop_lt31 _ | assumption | exact b31 (hW.gp (by omega)) | exact b31 (hW.ne (by omega)) | exact b31 (hW.op (by omega)) | exact and31 (hW.gp (by omega)) | exact and31 (hW.ne (by omega)) | exact and31 (hW.op (by omega)) | exact and31 (by assumption) | exact and31r (hW.ne (by omega)) | exact and31r (hW.gp (by omega)) | exact and31r (by decide)) (fun c_11 => False.elim (by omega)) (fun c_11 => ?_)
      refine mm_aload d_As_begin_14 rfl ?_
      refine mm_getP d_As_begin_15 rfl (sk_o_57 hM) hP ?_
      refine mm_iload d_As_begin_18 rfl ?_
      refine mm_v1i d_As_begin_19 hCD.1.1 (sp_Co_worksWith hCD hW ?_)
      refine mm_ist4 d_As_begin_22 ?_
      refine mm_aload d_As_begin_24 rfl ?_
      refine mm_getP d_As_begin_25 rfl (sk_o_57 hM) (sk_p_57_3 hM) ?_
      refine mm_iload d_As_begin_28 rfl ?_
      refine mm_iload d_As_begin_29 rfl ?_
      refine mm_if_eq d_As_begin_30 (fun c_30 => ?_) (fun c_30 => ?_)
      · refine mm_aload d_As_begin_41 rfl ?_
        refine mm_getP d_As_begin_42 rfl (sk_o_57 hM) hP ?_
        refine mm_iload d_As_begin_45 rfl ?_
        refine mm_v1i d_As_begin_47 hCD.1.1 (sp_Co_worthOf hCD hW (by first | omega | assumption | exact hW.gp (by omega) | exact hW.ne (by omega) | exact hW.op (by omega) | exact and_lt256 (hW.gp (by omega)) | exact and_lt256 (hW.ne (by omega)) | exact and_lt256 (hW.op (by omega)) | exact and_lt256 (by assumption)) ?_)
        refine mm_iastX d_As_begin_50 (sk_a_61 hM) (by omega) (by decide) ?_
        refine mm_inc3N d_As_begin_51 ?_
        refine mm_goto d_As_begin_54 ?_
        refine ih _ _ ⟨hf.sI rfl, hP, by rw [mm_sI_off (by decide)]; exact e57, fun x hx => ?_⟩
        rw [mm_I_sI]
        by_cases y : x = i
        · rw [if_pos ⟨rfl, y⟩, y]; unfold gN; first | rw [if_pos c_30] | rw [if_neg c_30]
        · rw [if_neg (fun w => y w.2)]; exact eg x (by omega)
      · refine mm_iload d_As_begin_33 rfl ?_
        refine mm_s1i d_As_begin_35 (sp_Int_bitCount (by first | omega | assumption | exact hW.gp (by omega) | exact hW.ne (by omega) | exact hW.op (by omega) | exact and_lt256 (hW.gp (by omega)) | exact and_lt256 (hW.ne (by omega)) | exact and_lt256 (hW.op (by omega)) | exact and_lt256 (by assumption)) ?_)
        refine mm_goto d_As_begin_38 ?_
        refine mm_iastX d_As_begin_50 (sk_a_61 hM) (by omega) (by decide) ?_
        refine mm_inc3N d_As_begin_51 ?_
        refine mm_goto d_As_begin_54 ?_
        refine ih _ _ ⟨hf.sI rfl, hP, by rw [mm_sI_off (by decide)]; exact e57, fun x hx => ?_⟩
        rw [mm_I_sI]
        by_cases y : x = i
        · rw [if_pos ⟨rfl, y⟩, y]; unfold gN; first | rw [if_pos c_30] | rw [if_neg c_30]
        · rw [if_neg (fun w => y w.2)]; exact eg x (by omega)
  exact init _
theorem mm_I_cp6 {μ : mm_M} {q j : Nat} : mm_I (mm_cp μ 60 59 0 0 6) q j = if q = 59 ∧ j < 6 then mm_I μ 60 j else mm_I μ q j := mm_I_cp
theorem sp_As_arrive {X : mm_X} {ν : mm_M} {q : mm_M → Prop} {D : mm_D} {e h b : Nat} {g : Nat → Nat} (hA : AsG D e g ν) (hh : h < 256) (hb : mm_I ν 57 8 = bI b) (hg : g h < 1000) (hb2 : b ≤ 1000) (h1 : b < g h + 1 → q (mm_cp (mm_sI ν 57 8 (bI (g h + 1))) 60 59 0 0 6)) (h0 : ¬ b < g h + 1 → q ν) : mm_Cv X 1 0 0 k_As_arrive [.ref 57, .int (nI h)] ν q := by
  show mm_T X 1 0 0 k_As_arrive 0 [some (.ref 57), some (.int (nI h))] [] ν _
  have hM := hA.1
  have eg := hA.2.2.2.2.2 h hh
  rw [← bI_s] at eg
  by_cases c : b < g h + 1
  · refine mm_aload d_As_arrive_0 rfl ?_
    refine mm_getP d_As_arrive_1 rfl (sk_o_57 hM) (sk_p_57_3 hM) ?_
    refine mm_iload d_As_arrive_4 rfl ?_
    refine mm_ialdV d_As_arrive_5 (sk_a_61 hM) (by omega) (by decide) eg ?_
    refine mm_aload d_As_arrive_6 rfl ?_
    refine mm_getIV d_As_arrive_7 rfl (sk_o_57 hM) hb ?_
    refine mm_icmp_le d_As_arrive_10 (fun c_10 => False.elim (absurd ((bI_le (by omega) (by omega)).mp c_10) (by omega))) (fun c_10 => ?_)
    refine mm_aload d_As_arrive_13 rfl ?_
    refine mm_aload d_As_arrive_14 rfl ?_
    refine mm_getP d_As_arrive_15 rfl (sk_o_57 hM) (sk_p_57_3 hM) ?_
    refine mm_iload d_As_arrive_18 rfl ?_
    refine mm_ialdV d_As_arrive_19 (sk_a_61 hM) (by omega) (by decide) eg ?_
    refine mm_putI d_As_arrive_20 rfl (sk_o_57 hM) (Or.inl rfl) ?_
    refine mm_aload d_As_arrive_23 rfl ?_
    refine mm_getP d_As_arrive_24 rfl (sk_o_57 hM) (sk_p_57_2 hM) ?_
    refine mm_ciN 0 d_As_arrive_27 rfl ?_
    refine mm_aload d_As_arrive_28 rfl ?_
    refine mm_getP d_As_arrive_29 rfl (sk_o_57 hM) (sk_p_57_1 hM) ?_
    refine mm_ciN 0 d_As_arrive_32 rfl ?_
    refine mm_ciN 6 d_As_arrive_33 rfl ?_
    refine mm_acopyN d_As_arrive_35 (by decide) (sk_a_60 hM) (sk_a_59 hM) (by decide) (by decide) (by decide) (fun i _ => rfl) ?_
    exact mm_rv d_As_arrive_38 (h1 c)
  · refine mm_aload d_As_arrive_0 rfl ?_
    refine mm_getP d_As_arrive_1 rfl (sk_o_57 hM) (sk_p_57_3 hM) ?_
    refine mm_iload d_As_arrive_4 rfl ?_
    refine mm_ialdV d_As_arrive_5 (sk_a_61 hM) (by omega) (by decide) eg ?_
    refine mm_aload d_As_arrive_6 rfl ?_
    refine mm_getIV d_As_arrive_7 rfl (sk_o_57 hM) hb ?_
    refine mm_icmp_le d_As_arrive_10 (fun c_10 => ?_) (fun c_10 => False.elim (c_10 ((bI_le (by omega) (by omega)).mpr (by omega))))
    exact mm_rv d_As_arrive_38 (h0 c)
