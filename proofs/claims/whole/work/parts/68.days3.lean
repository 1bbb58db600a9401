/-! a year as it goes on: days; deeds on both sides -/
def dyX (D : mm_D) (σ : mm_S) (ξ : mm_Xi) (k : Nat) : Nat → mm_Xi
  | 0 => ξ
  | i + 1 => if (bt8 (dgp D (i / 8)) (i % 8) ≠ 0 ∧ bt8 (sC (dyK D σ i) (i / 8)) (i % 8) = 0) ∧ dpa D (i % 8) < sL (dyK D σ i) i + 1 then xiO (dyX D σ ξ k i) k (i / 8) (i % 8) else dyX D σ ξ k i
theorem xiO_o {ξ : mm_Xi} {k c w : Nat} (hk : k < 2 ^ 31) (ho : ∀ e, xO ξ = some e → e < 2 ^ 31) : ∀ e, xO (xiO ξ k c w) = some e → e < 2 ^ 31 := by
  intro e he
  unfold xiO at he
  cases hx : xO ξ with
  | none => rw [hx] at he; cases he; exact hk
  | some z => rw [hx] at he; exact ho e he
theorem dyX_o {D : mm_D} {σ : mm_S} {ξ : mm_Xi} {k : Nat} (hk : k < 2 ^ 31) (ho : ∀ e, xO ξ = some e → e < 2 ^ 31) : ∀ i e, xO (dyX D σ ξ k i) = some e → e < 2 ^ 31
  | 0, e, h => ho e h
  | i + 1, e, h => by
    unfold dyX at h
    split at h
    · exact xiO_o hk (dyX_o hk ho i) e h
    · exact dyX_o hk ho i e h
theorem d8 {c w : Nat} (h : w < 8) : (8 * c + w) / 8 = c ∧ (8 * c + w) % 8 = w := by omega
theorem dy_f {D : mm_D} {σ : mm_S} {ξ : mm_Xi} {k c w : Nat} (hw : w < 8) (h : ¬ (bt8 (dgp D c) w ≠ 0 ∧ bt8 (sC (dyK D σ (8 * c + w)) c) w = 0)) : dyK D σ (8 * c + w + 1) = dyK D σ (8 * c + w) ∧ dyX D σ ξ k (8 * c + w + 1) = dyX D σ ξ k (8 * c + w) := by
  constructor
  · show dyS D _ _ = _
    unfold dyS
    rw [(d8 hw).1, (d8 hw).2, if_neg h]
  · show (if _ then _ else _) = _
    rw [(d8 hw).1, (d8 hw).2, if_neg (fun z => h z.1)]
theorem dy_0 {D : mm_D} {σ : mm_S} {ξ : mm_Xi} {k c w : Nat} (hw : w < 8) (h : bt8 (dgp D c) w ≠ 0 ∧ bt8 (sC (dyK D σ (8 * c + w)) c) w = 0) (hd : ¬ dpa D w < sL (dyK D σ (8 * c + w)) (8 * c + w) + 1) : dyK D σ (8 * c + w + 1) = (fun τ : mm_S => (sH τ, sD τ, sA τ, sB τ, sY τ, sC τ, upN (sL τ) (8 * c + w) (sL τ (8 * c + w) + 1), sK τ)) (dyK D σ (8 * c + w)) ∧ dyX D σ ξ k (8 * c + w + 1) = dyX D σ ξ k (8 * c + w) := by
  constructor
  · show dyS D _ _ = _
    unfold dyS
    rw [(d8 hw).1, (d8 hw).2, if_pos h, if_neg hd]
  · show (if _ then _ else _) = _
    rw [(d8 hw).1, (d8 hw).2, if_neg (fun z => hd z.2)]
theorem dy_1 {D : mm_D} {σ : mm_S} {ξ : mm_Xi} {k c w : Nat} (hw : w < 8) (h : bt8 (dgp D c) w ≠ 0 ∧ bt8 (sC (dyK D σ (8 * c + w)) c) w = 0) (hd : dpa D w < sL (dyK D σ (8 * c + w)) (8 * c + w) + 1) : dyK D σ (8 * c + w + 1) = (fun τ : mm_S => (sH τ, sD τ, sA τ, sB τ + 1, sY τ, upN (sC τ) c (sC τ c ||| 2 ^ w), upN (sL τ) (8 * c + w) (sL τ (8 * c + w) + 1), sK τ)) (dyK D σ (8 * c + w)) ∧ dyX D σ ξ k (8 * c + w + 1) = xiO (dyX D σ ξ k (8 * c + w)) k c w := by
  constructor
  · show dyS D _ _ = _
    unfold dyS
    rw [(d8 hw).1, (d8 hw).2, if_pos h, if_pos hd]
  · show (if _ then _ else _) = _
    rw [(d8 hw).1, (d8 hw).2, if_pos ⟨h, hd⟩]
theorem sp_Da_passDay {X : mm_X} {μ : mm_M} {q : mm_M → Prop} {i k : Nat} {D : mm_D} {σ : mm_S} {ξ : mm_Xi} (hS : DaS μ i D σ ξ) (hT : WfS σ ∧ WfL D σ) (hW : WfD D) (hk : k < 2 ^ 31) (ho : ∀ e, xO ξ = some e → e < 2 ^ 31) (h : ∀ μ', DaS μ' i D (dyE (dyK D σ (8 * dn D))) (dyX D σ ξ k (8 * dn D)) → Fr scD μ μ' → q μ') : mm_Cv X 2 0 0 k_Da_passDay [.ref 53, .int (nI k)] μ q := by
  show mm_T X 2 0 0 k_Da_passDay 0 [some (.ref 53), some (.int (nI k)), none, none] [] μ _
  obtain ⟨hM, hi2, hCD, hP, hF⟩ := hS
  have hn6 := hW.1
  refine mm_aload d_Da_passDay_0 rfl ?_
  refine mm_ciN 0 d_Da_passDay_1 rfl ?_
  refine mm_putI d_Da_passDay_2 rfl (sk_o_53 hM) (Or.inl rfl) ?_
  have F1 := DaF.wH (I' := mm_I (mm_sI μ 53 10 (nI 0))) hF (fun b j => mm_I_sI)
  refine mm_aload d_Da_passDay_5 rfl ?_
  refine mm_ciN 0 d_Da_passDay_6 rfl ?_
  refine mm_putI d_Da_passDay_7 rfl (sk_o_53 hM) (Or.inl rfl) ?_
  have F2 := DaF.wA (I' := mm_I (mm_sI (mm_sI μ 53 10 (nI 0)) 53 11 (nI 0))) F1 (fun b j => mm_I_sI)
  refine mm_aload d_Da_passDay_10 rfl ?_
  refine mm_dup d_Da_passDay_11 rfl ?_
  refine mm_getIN d_Da_passDay_12 rfl (sk_o_53 hM) F2.Y ?_
  refine mm_ciN 1 d_Da_passDay_15 rfl ?_
  refine mm_iaddN d_Da_passDay_16 ?_
  refine mm_putI d_Da_passDay_17 rfl (sk_o_53 hM) (Or.inl rfl) ?_
  refine mm_ciN 0 d_Da_passDay_20 rfl ?_
  refine mm_ist2 d_Da_passDay_21 ?_
  have F3 := DaF.wY (I' := mm_I (mm_sI (mm_sI (mm_sI μ 53 10 (nI 0)) 53 11 (nI 0)) 53 9 (nI (sY σ + 1)))) F2 (fun b j => mm_I_sI)
  have f3 : Fr scD μ (mm_sI (mm_sI (mm_sI μ 53 10 (nI 0)) 53 11 (nI 0)) 53 9 (nI (sY σ + 1))) := ((Fr.rf.sI rfl).sI rfl).sI rfl
  refine mm_up (P := fun c => ∀ ν, (DaS ν i D (dyE (dyK D σ (8 * c))) (dyX D σ ξ k (8 * c)) ∧ Fr scD μ ν) → ∀ l3 : Option Value, mm_T X _ 0 0 k_Da_passDay 22 [some (.ref 53), some (.int (nI k)), some (.int (nI c)), l3] [] ν _) (dn D) ?_ ?_ _ ⟨⟨f3.2.2.2 hM, hi2, hCD.frD f3 hi2, hP, F3⟩, f3⟩ none
  · intro ν hI l3
    obtain ⟨hS, hf⟩ := hI
    have hM := hS.1
    have hCD := hS.2.2.1
    refine mm_iload d_Da_passDay_22 rfl ?_
    refine mm_aload d_Da_passDay_23 rfl ?_
    refine mm_getP d_Da_passDay_24 rfl (sk_o_53 hM) hS.2.2.2.1 ?_
    refine mm_getIN d_Da_passDay_27 rfl hCD.1.1 hCD.n ?_
    refine mm_icmp_geN d_Da_passDay_30 (by first | omega | exact ite01_lt | exact bt8_lt31 _ _ | exact godB_lt31 _ _ _ | exact pop_lt31 _ | assumption | exact b31 (hW.gp (by omega)) | exact b31 (hW.ne (by omega)) | exact b31 (hW.op (by omega)) | exact and31 (hW.gp (by omega)) | exact and31 (hW.ne (by omega)) | exact and31 (hW.op (by omega)) | exact and31 (by assumption) | exact and31r (hW.ne (by omega)) | exact and31r (hW.gp (by omega)) | exact and31r (by decide)) (by first | omega | exact ite01_lt | exact bt8_lt31 _ _ | exact godB_lt31 _ _ _ | exact pop_lt31 _ | assumption | exact b31 (hW.gp (by omega)) | exact b31 (hW.ne (by omega)) | exact b31 (hW.op (by omega)) | exact and31 (hW.gp (by omega)) | exact and31 (hW.ne (by omega)) | exact and31 (hW.op (by omega)) | exact and31 (by assumption) | exact and31r (hW.ne (by omega)) | exact and31r (hW.gp (by omega)) | exact and31r (by decide)) (fun c_30 => ?_) (fun c_30 => False.elim (by omega))
    exact mm_rv d_Da_passDay_85 (h ν hS hf)
  · intro c hc ih ν hI l3
    obtain ⟨hS, hf⟩ := hI
    have hM := hS.1
    have hCD := hS.2.2.1
    refine mm_iload d_Da_passDay_22 rfl ?_
    refine mm_aload d_Da_passDay_23 rfl ?_
    refine mm_getP d_Da_passDay_24 rfl (sk_o_53 hM) hS.2.2.2.1 ?_
    refine mm_getIN d_Da_passDay_27 rfl hCD.1.1 hCD.n ?_
    refine mm_icmp_geN d_Da_passDay_30 (by first | omega | exact ite01_lt | exact bt8_lt31 _ _ | exact godB_lt31 _ _ _ | exact pop_lt31 _ | assumption | exact b31 (hW.gp (by omega)) | exact b31 (hW.ne (by omega)) | exact b31 (hW.op (by omega)) | exact and31 (hW.gp (by omega)) | exact and31 (hW.ne (by omega)) | exact and31 (hW.op (by omega)) | exact and31 (by assumption) | exact and31r (hW.ne (by omega)) | exact and31r (hW.gp (by omega)) | exact and31r (by decide)) (by first | omega | exact ite01_lt | exact bt8_lt31 _ _ | exact godB_lt31 _ _ _ | exact pop_lt31 _ | assumption | exact b31 (hW.gp (by omega)) | exact b31 (hW.ne (by omega)) | exact b31 (hW.op (by omega)) | exact and31 (hW.gp (by omega)) | exact and31 (hW.ne (by omega)) | exact and31 (hW.op (by omega)) | exact and31 (by assumption) | exact and31r (hW.ne (by omega)) | exact and31r (hW.gp (by omega)) | exact and31r (by decide)) (fun c_30 => False.elim (by omega)) (fun c_30 => ?_)
    refine mm_ciN 0 d_Da_passDay_33 rfl ?_
    refine mm_ist3 d_Da_passDay_34 ?_
    refine mm_up (P := fun w => ∀ ν, (DaS ν i D (dyE (dyK D σ (8 * c + w))) (dyX D σ ξ k (8 * c + w)) ∧ Fr scD μ ν) → mm_T X _ 0 0 k_Da_passDay 35 [some (.ref 53), some (.int (nI k)), some (.int (nI c)), some (.int (nI w))] [] ν _) 8 ?_ ?_ ν ⟨hS, hf⟩
    · intro ν hI
      refine mm_iload d_Da_passDay_35 rfl ?_
      refine mm_ciN 8 d_Da_passDay_36 rfl ?_
      refine mm_icmp_geN d_Da_passDay_38 (by first | omega | exact ite01_lt | exact bt8_lt31 _ _ | exact godB_lt31 _ _ _ | exact pop_lt31 _ | assumption | exact b31 (hW.gp (by omega)) | exact b31 (hW.ne (by omega)) | exact b31 (hW.op (by omega)) | exact and31 (hW.gp (by omega)) | exact and31 (hW.ne (by omega)) | exact and31 (hW.op (by omega)) | exact and31 (by assumption) | exact and31r (hW.ne (by omega)) | exact and31r (hW.gp (by omega)) | exact and31r (by decide)) (by first | omega | exact ite01_lt | exact bt8_lt31 _ _ | exact godB_lt31 _ _ _ | exact pop_lt31 _ | assumption | exact b31 (hW.gp (by omega)) | exact b31 (hW.ne (by omega)) | exact b31 (hW.op (by omega)) | exact and31 (hW.gp (by omega)) | exact and31 (hW.ne (by omega)) | exact and31 (hW.op (by omega)) | exact and31 (by assumption) | exact and31r (hW.ne (by omega)) | exact and31r (hW.gp (by omega)) | exact and31r (by decide)) (fun c_38 => ?_) (fun c_38 => False.elim (by omega))
      refine mm_inc2N d_Da_passDay_79 ?_
      refine mm_goto d_Da_passDay_82 ?_
      rw [show 8 * (c + 1) = 8 * c + 8 by omega] at ih
      exact ih ν hI _
    · intro w hw ih2 ν hI
      obtain ⟨hS, hf⟩ := hI
      have hM := hS.1
      have hCD := hS.2.2.1
      have hF := hS.2.2.2.2
      have hTK := WfT_dyK hW hT (8 * c + w) (by omega)
      have hsc := hTK.1.2.2.2.1 c (by omega)
      have hgb := godB_in (w := w) hc
      rw [show 8 * c + (w + 1) = 8 * c + w + 1 by omega] at ih2
      refine mm_iload d_Da_passDay_35 rfl ?_
      refine mm_ciN 8 d_Da_passDay_36 rfl ?_
      refine mm_icmp_geN d_Da_passDay_38 (by first | omega | exact ite01_lt | exact bt8_lt31 _ _ | exact godB_lt31 _ _ _ | exact pop_lt31 _ | assumption | exact b31 (hW.gp (by omega)) | exact b31 (hW.ne (by omega)) | exact b31 (hW.op (by omega)) | exact and31 (hW.gp (by omega)) | exact and31 (hW.ne (by omega)) | exact and31 (hW.op (by omega)) | exact and31 (by assumption) | exact and31r (hW.ne (by omega)) | exact and31r (hW.gp (by omega)) | exact and31r (by decide)) (by first | omega | exact ite01_lt | exact bt8_lt31 _ _ | exact godB_lt31 _ _ _ | exact pop_lt31 _ | assumption | exact b31 (hW.gp (by omega)) | exact b31 (hW.ne (by omega)) | exact b31 (hW.op (by omega)) | exact and31 (hW.gp (by omega)) | exact and31 (hW.ne (by omega)) | exact and31 (hW.op (by omega)) | exact and31 (by assumption) | exact and31r (hW.ne (by omega)) | exact and31r (hW.gp (by omega)) | exact and31r (by decide)) (fun c_38 => False.elim (by omega)) (fun c_38 => ?_)
      refine mm_aload d_Da_passDay_41 rfl ?_
      refine mm_getP d_Da_passDay_42 rfl (sk_o_53 hM) hS.2.2.2.1 ?_
      refine mm_iload d_Da_passDay_45 rfl ?_
      refine mm_iload d_Da_passDay_46 rfl ?_
      refine mm_v2i d_Da_passDay_47 hCD.1.1 (sp_Co_isGodparent hCD hW (by omega) (by omega) ?_)
      rw [hgb]
      refine mm_if_eqN d_Da_passDay_50 (by first | omega | exact ite01_lt | exact bt8_lt31 _ _ | exact godB_lt31 _ _ _ | exact pop_lt31 _ | assumption | exact b31 (hW.gp (by omega)) | exact b31 (hW.ne (by omega)) | exact b31 (hW.op (by omega)) | exact and31 (hW.gp (by omega)) | exact and31 (hW.ne (by omega)) | exact and31 (hW.op (by omega)) | exact and31 (by assumption) | exact and31r (hW.ne (by omega)) | exact and31r (hW.gp (by omega)) | exact and31r (by decide)) (fun c_50 => ?_) (fun c_50 => ?_)
      · first
          | (have z := dy_f (D := D) (σ := σ) (c := c) (ξ := ξ) (k := k) hw (fun e => e.1 c_50)
             rw [z.1, z.2] at ih2
             refine mm_inc3N d_Da_passDay_73 ?_
             refine mm_goto d_Da_passDay_76 ?_
             exact ih2 ν ⟨hS, hf⟩)
          | (have z := dy_f (D := D) (σ := σ) (c := c) (ξ := ξ) (k := k) hw (fun e => c_63 e.2)
             rw [z.1, z.2] at ih2
             refine mm_inc3N d_Da_passDay_73 ?_
             refine mm_goto d_Da_passDay_76 ?_
             exact ih2 ν ⟨hS, hf⟩)
      · refine mm_aload d_Da_passDay_53 rfl ?_
        refine mm_getP d_Da_passDay_54 rfl (sk_o_53 hM) (sk_p_53_5 hM) ?_
        refine mm_iload d_Da_passDay_57 rfl ?_
        refine mm_ialdN d_Da_passDay_58 (sk_a_54 hM) (by omega) (by decide) (show _ = nI (sC (dyK D σ (8 * c + w)) c) from hF.C (by omega)) ?_
        refine mm_iload d_Da_passDay_59 rfl ?_
        refine mm_s2i d_Da_passDay_60 (sp_has (by first | omega | assumption | exact hW.gp (by omega) | exact hW.ne (by omega) | exact hW.op (by omega) | exact and_lt256 (hW.gp (by omega)) | exact and_lt256 (hW.ne (by omega)) | exact and_lt256 (hW.op (by omega)) | exact and_lt256 (by assumption)) (by omega) ?_)
        refine mm_if_neN d_Da_passDay_63 (by first | omega | exact ite01_lt | exact bt8_lt31 _ _ | exact godB_lt31 _ _ _ | exact pop_lt31 _ | assumption | exact b31 (hW.gp (by omega)) | exact b31 (hW.ne (by omega)) | exact b31 (hW.op (by omega)) | exact and31 (hW.gp (by omega)) | exact and31 (hW.ne (by omega)) | exact and31 (hW.op (by omega)) | exact and31 (by assumption) | exact and31r (hW.ne (by omega)) | exact and31r (hW.gp (by omega)) | exact and31r (by decide)) (fun c_63 => ?_) (fun c_63 => ?_)
        · first
            | (have z := dy_f (D := D) (σ := σ) (c := c) (ξ := ξ) (k := k) hw (fun e => e.1 c_50)
               rw [z.1, z.2] at ih2
               refine mm_inc3N d_Da_passDay_73 ?_
               refine mm_goto d_Da_passDay_76 ?_
               exact ih2 ν ⟨hS, hf⟩)
            | (have z := dy_f (D := D) (σ := σ) (c := c) (ξ := ξ) (k := k) hw (fun e => c_63 e.2)
               rw [z.1, z.2] at ih2
               refine mm_inc3N d_Da_passDay_73 ?_
               refine mm_goto d_Da_passDay_76 ?_
               exact ih2 ν ⟨hS, hf⟩)
        · refine mm_aload d_Da_passDay_66 rfl ?_
          refine mm_iload d_Da_passDay_67 rfl ?_
          refine mm_iload d_Da_passDay_68 rfl ?_
          refine mm_iload d_Da_passDay_69 rfl ?_
          refine mm_v3v d_Da_passDay_70 (sk_o_53 hM) (sp_Da_forget hS hTK.1.dyE hW (by omega) hw hk (dyX_o hk ho _) (fun hd μ' hS' hf' => ?_) (fun hd μ' hS' hf' => ?_))
          · have z := dy_1 (ξ := ξ) (k := k) hw ⟨c_50, c_63⟩ hd
            rw [z.1, z.2] at ih2
            refine mm_inc3N d_Da_passDay_73 ?_
            refine mm_goto d_Da_passDay_76 ?_
            exact ih2 μ' ⟨hS', hf.trans hf'⟩
          · have z := dy_0 (ξ := ξ) (k := k) hw ⟨c_50, c_63⟩ hd
            rw [z.1, z.2] at ih2
            refine mm_inc3N d_Da_passDay_73 ?_
            refine mm_goto d_Da_passDay_76 ?_
            exact ih2 μ' ⟨hS', hf.trans hf'⟩
def dl (D : mm_D) (σ : mm_S) (kd x y : Nat) : Option mm_S :=
  if kd = 0 then (if x < dn D ∧ bt8 (dgp D x) y ≠ 0 ∧ bt8 (sA σ) x = 0 ∧ bt8 (sC σ x) y = 0 then some (askS D σ x y) else none)
  else if kd = 1 then (if x < dn D ∧ bt8 (dgp D x) y ≠ 0 then some (thaS σ x y) else none)
  else if kd = 2 then some (comS D σ x)
  else if kd = 3 then (if x < dw D ∧ bt8 (sD σ) x = 0 ∧ dne D x &&& (sH σ ^^^ 4294967295) = 0 then some (doS σ x) else none)
  else some (dyE (dyK D σ (8 * dn D)))
def dlX (D : mm_D) (σ : mm_S) (ξ : mm_Xi) (kd k : Nat) : mm_Xi :=
  if kd = 1 then (xO ξ, xW ξ, xM ξ, xT ξ + 1, xS ξ) else if kd = 4 then dyX D σ ξ k (8 * dn D) else ξ
def OkD (kd : Nat) (U V : Int32) (x y : Nat) : Prop := (kd ≤ 1 ∧ U = nI x ∧ V = nI y ∧ x < 6 ∧ y < 8) ∨ (kd = 2 ∧ U = nI x ∧ x < 8) ∨ (kd = 3 ∧ U = nI x ∧ x < 6) ∨ kd = 4
theorem sp_Da_deal {X : mm_X} {μ : mm_M} {q : Int32 → mm_M → Prop} {i k kd x y : Nat} {U V : Int32} {D : mm_D} {σ : mm_S} {ξ : mm_Xi} (hO : OkD kd U V x y) (hS : DaS μ i D σ ξ) (hT : WfS σ ∧ WfL D σ) (hW : WfD D) (hk : k < 2 ^ 31) (ho : ∀ e, xO ξ = some e → e < 2 ^ 31) (h1 : ∀ σ', dl D σ kd x y = some σ' → ∀ μ', DaS μ' i D σ' (dlX D σ ξ kd k) → Fr scD μ μ' → q (nI 1) μ') (h0 : dl D σ kd x y = none → q (nI 0) μ) : mm_Ci X 3 0 0 k_Da_deal [.ref 53, .int (nI kd), .int U, .int V, .int (nI k)] μ q := by
  show mm_T X 3 0 0 k_Da_deal 0 [some (.ref 53), some (.int (nI kd)), some (.int U), some (.int V), some (.int (nI k))] [] μ _
  have hM := hS.1
  have hCD := hS.2.2.1
  rcases hO with ⟨hkd, rfl, rfl, hx, hy⟩ | ⟨rfl, rfl, hx⟩ | ⟨rfl, rfl, hx⟩ | rfl
  · have h2 : kd = 0 ∨ kd = 1 := by omega
    rcases h2 with rfl | rfl
    · refine mm_iload d_Da_deal_0 rfl ?_
      refine mm_switchIn (n := 0) d_Da_deal_1 0 (by decide) (by decide) rfl ?_
      refine mm_aload d_Da_deal_32 rfl ?_
      refine mm_iload d_Da_deal_33 rfl ?_
      refine mm_iload d_Da_deal_34 rfl ?_
      refine mm_v2i d_Da_deal_35 (sk_o_53 hM) (sp_Da_ask hS hT.1 hW hx hy (fun hc μ' hS' hf => ?_) (fun hc => ?_))
      · exact mm_rz d_Da_deal_38 (h1 _ (if_pos hc) μ' hS' hf)
      · exact mm_rz d_Da_deal_38 (h0 (if_neg hc))
    · refine mm_iload d_Da_deal_0 rfl ?_
      refine mm_switchIn (n := 0) d_Da_deal_1 1 (by decide) (by decide) rfl ?_
      refine mm_aload d_Da_deal_39 rfl ?_
      refine mm_iload d_Da_deal_40 rfl ?_
      refine mm_iload d_Da_deal_41 rfl ?_
      refine mm_v2i d_Da_deal_42 (sk_o_53 hM) (sp_Da_thank hS hT.1 hW hx hy (fun hc μ' hS' hf => ?_) (fun hc => ?_))
      · exact mm_rz d_Da_deal_45 (h1 _ (if_pos hc) μ' hS' hf)
      · exact mm_rz d_Da_deal_45 (h0 (if_neg hc))
  · have hF := hS.2.2.2.2
    refine mm_iload d_Da_deal_0 rfl ?_
    refine mm_switchIn (n := 0) d_Da_deal_1 2 (by decide) (by decide) rfl ?_
    refine mm_aload d_Da_deal_46 rfl ?_
    refine mm_aload d_Da_deal_47 rfl ?_
    refine mm_getP d_Da_deal_48 rfl (sk_o_53 hM) hS.2.2.2.1 ?_
    refine mm_aload d_Da_deal_51 rfl ?_
    refine mm_getIN d_Da_deal_52 rfl (sk_o_53 hM) hF.H ?_
    refine mm_iload d_Da_deal_55 rfl ?_
    refine mm_v2i d_Da_deal_56 hCD.1.1 (sp_Co_hereOnceComes hCD (by omega) ?_)
    refine mm_putI d_Da_deal_59 rfl (sk_o_53 hM) (Or.inl rfl) ?_
    have F1 := DaF.wH (I' := mm_I (mm_sI μ 53 10 (nI (comesN D (sH σ) x)))) hF (fun b j => mm_I_sI)
    have f1 : Fr scD μ (mm_sI μ 53 10 (nI (comesN D (sH σ) x))) := Fr.rf.sI rfl
    refine mm_ciN 1 d_Da_deal_62 rfl ?_
    exact mm_rz d_Da_deal_63 (h1 _ rfl _ ⟨f1.2.2.2 hM, hS.2.1, hCD.frD f1 hS.2.1, hS.2.2.2.1, F1⟩ f1)
  · refine mm_iload d_Da_deal_0 rfl ?_
    refine mm_switchIn (n := 0) d_Da_deal_1 3 (by decide) (by decide) rfl ?_
    refine mm_aload d_Da_deal_64 rfl ?_
    refine mm_iload d_Da_deal_65 rfl ?_
    refine mm_v1i d_Da_deal_66 (sk_o_53 hM) (sp_Da_work hS hT.1 hW hx (fun hc μ' hS' hf => ?_) (fun hc => ?_))
    · exact mm_rz d_Da_deal_69 (h1 _ (if_pos hc) μ' hS' hf)
    · exact mm_rz d_Da_deal_69 (h0 (if_neg hc))
  · refine mm_iload d_Da_deal_0 rfl ?_
    refine mm_switchOut (n := 0) d_Da_deal_1 (Or.inr (by decide)) ?_
    refine mm_aload d_Da_deal_70 rfl ?_
    refine mm_iload d_Da_deal_71 rfl ?_
    refine mm_v1v d_Da_deal_73 (sk_o_53 hM) (sp_Da_passDay hS hT hW hk ho (fun μ' hS' hf => ?_))
    refine mm_ciN 1 d_Da_deal_76 rfl ?_
    exact mm_rz d_Da_deal_77 (h1 _ rfl _ hS' hf)
theorem dl_wf {D : mm_D} (hW : WfD D) {σ σ' : mm_S} {kd x y : Nat} {U V : Int32} (hO : OkD kd U V x y) (hT : WfS σ ∧ WfL D σ) (h : dl D σ kd x y = some σ') : WfS σ' ∧ WfL D σ' := by
  have hn6 := hW.1
  unfold dl at h
  rcases hO with ⟨hkd, -, -, hx, hy⟩ | ⟨rfl, -, hx⟩ | ⟨rfl, -, hx⟩ | rfl
  · have h2 : kd = 0 ∨ kd = 1 := by omega
    rcases h2 with rfl | rfl
    · rw [if_pos rfl] at h
      split at h
      · cases h; exact ⟨hT.1.ask hx hy, hT.2.ask⟩
      · cases h
    · rw [if_neg (by decide), if_pos rfl] at h
      split at h
      · cases h; exact ⟨hT.1.tha hx, hT.2.tha hy⟩
      · cases h
  · cases h; exact ⟨hT.1.com hx, hT.2⟩
  · rw [if_neg (by decide), if_neg (by decide), if_neg (by decide), if_pos rfl] at h
    split at h
    · cases h; exact ⟨hT.1.do hx, hT.2⟩
    · cases h
  · cases h
    have := WfT_dyK hW hT (8 * dn D) (by omega)
    exact ⟨this.1.dyE, this.2⟩
