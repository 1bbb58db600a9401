/-! pairs: levy, lone, village -/
/-- the union of what the works of s need, of the first k, where no two need the same -/
def apK (D : mm_D) (s : Nat) : Nat → Option Nat
  | 0 => some 0
  | k + 1 => match apK D s k with
    | none => none
    | some u => if bt8 s k = 0 then some u else if u &&& dne D k = 0 then some (u ||| dne D k) else none
theorem apK_none {D : mm_D} {s : Nat} {i : Nat} (h : apK D s i = none) : ∀ d, apK D s (i + d) = none
  | 0 => h
  | d + 1 => by
    show apK D s ((i + d) + 1) = none
    unfold apK
    rw [apK_none h d]
theorem apK_none' {D : mm_D} {s : Nat} {i n : Nat} (h : apK D s i = none) (hn : i ≤ n) : apK D s n = none := by
  have := apK_none h (n - i)
  rwa [show i + (n - i) = n by omega] at this
theorem apK_s0 {D : mm_D} {s i u : Nat} (h : apK D s i = some u) (h0 : bt8 s i = 0) : apK D s (i + 1) = some u := by
  unfold apK
  rw [h]
  exact if_pos h0
theorem apK_s1 {D : mm_D} {s i u : Nat} (h : apK D s i = some u) (h0 : bt8 s i ≠ 0) (h1 : u &&& dne D i = 0) : apK D s (i + 1) = some (u ||| dne D i) := by
  unfold apK
  rw [h]
  exact (if_neg h0).trans (if_pos h1)
theorem apK_s2 {D : mm_D} {s i u : Nat} (h : apK D s i = some u) (h0 : bt8 s i ≠ 0) (h1 : u &&& dne D i ≠ 0) : apK D s (i + 1) = none := by
  unfold apK
  rw [h]
  exact (if_neg h0).trans (if_neg h1)
def apN (D : mm_D) (s : Nat) : Bool := (apK D s (dw D)).isSome
def apI (D : mm_D) (s : Nat) : Nat := if apN D s = true then 1 else 0
theorem sp_Co_needApart {X : mm_X} {μ : mm_M} {q : Int32 → mm_M → Prop} {a s : Nat} {D : mm_D} (hCD : CoD μ a D) (hW : WfD D) (hs : s < 256) (h : q (nI (apI D s)) μ) : mm_Ci X 1 0 0 k_Co_needApart [.ref a, .int (nI s)] μ q := by
  show mm_T X 1 0 0 k_Co_needApart 0 [some (.ref a), some (.int (nI s)), none, none] [] μ _
  have hw6 := hW.2.1
  refine mm_ciN 0 d_Co_needApart_0 rfl ?_
  refine mm_ist2 d_Co_needApart_1 ?_
  refine mm_ciN 0 d_Co_needApart_2 rfl ?_
  refine mm_ist3 d_Co_needApart_3 ?_
  refine mm_up (P := fun i => ∀ u, apK D s i = some u → mm_T X _ 0 0 k_Co_needApart 4 [some (.ref a), some (.int (nI s)), some (.int (nI u)), some (.int (nI i))] [] μ _) (dw D) ?_ (fun i hi ih => ?_) 0 rfl
  · intro u hu
    have e : apI D s = 1 := by unfold apI apN; rw [hu]; rfl
    rw [e] at h
    refine mm_iload d_Co_needApart_4 rfl ?_
    refine mm_aload d_Co_needApart_5 rfl ?_
    refine mm_getIN d_Co_needApart_6 rfl hCD.1.1 hCD.w ?_
    refine mm_icmp_geN d_Co_needApart_9 (by first | omega | exact bt8_lt31 _ _ | exact godB_lt31 _ _ _ | exact pop_lt31 _ | assumption | exact b31 (hW.gp (by omega)) | exact b31 (hW.ne (by omega)) | exact b31 (hW.op (by omega)) | exact and31 (hW.gp (by omega)) | exact and31 (hW.ne (by omega)) | exact and31 (hW.op (by omega)) | exact and31 (by assumption) | exact and31r (hW.ne (by omega)) | exact and31r (hW.gp (by omega)) | exact and31r (by decide)) (by first | omega | exact bt8_lt31 _ _ | exact godB_lt31 _ _ _ | exact pop_lt31 _ | assumption | exact b31 (hW.gp (by omega)) | exact b31 (hW.ne (by omega)) | exact b31 (hW.op (by omega)) | exact and31 (hW.gp (by omega)) | exact and31 (hW.ne (by omega)) | exact and31 (hW.op (by omega)) | exact and31 (by assumption) | exact and31r (hW.ne (by omega)) | exact and31r (hW.gp (by omega)) | exact and31r (by decide)) (fun c_9 => ?_) (fun c_9 => False.elim (by omega))
    refine mm_ciN 1 d_Co_needApart_48 rfl ?_
    exact mm_rz d_Co_needApart_49 h
  · intro u hu
    refine mm_iload d_Co_needApart_4 rfl ?_
    refine mm_aload d_Co_needApart_5 rfl ?_
    refine mm_getIN d_Co_needApart_6 rfl hCD.1.1 hCD.w ?_
    refine mm_icmp_geN d_Co_needApart_9 (by first | omega | exact bt8_lt31 _ _ | exact godB_lt31 _ _ _ | exact pop_lt31 _ | assumption | exact b31 (hW.gp (by omega)) | exact b31 (hW.ne (by omega)) | exact b31 (hW.op (by omega)) | exact and31 (hW.gp (by omega)) | exact and31 (hW.ne (by omega)) | exact and31 (hW.op (by omega)) | exact and31 (by assumption) | exact and31r (hW.ne (by omega)) | exact and31r (hW.gp (by omega)) | exact and31r (by decide)) (by first | omega | exact bt8_lt31 _ _ | exact godB_lt31 _ _ _ | exact pop_lt31 _ | assumption | exact b31 (hW.gp (by omega)) | exact b31 (hW.ne (by omega)) | exact b31 (hW.op (by omega)) | exact and31 (hW.gp (by omega)) | exact and31 (hW.ne (by omega)) | exact and31 (hW.op (by omega)) | exact and31 (by assumption) | exact and31r (hW.ne (by omega)) | exact and31r (hW.gp (by omega)) | exact and31r (by decide)) (fun c_9 => False.elim (by omega)) (fun c_9 => ?_)
    refine mm_iload d_Co_needApart_12 rfl ?_
    refine mm_iload d_Co_needApart_13 rfl ?_
    refine mm_s2i d_Co_needApart_14 (sp_has (by first | omega | assumption | exact hW.gp (by omega) | exact hW.ne (by omega) | exact hW.op (by omega) | exact and_lt256 (hW.gp (by omega)) | exact and_lt256 (hW.ne (by omega)) | exact and_lt256 (hW.op (by omega)) | exact and_lt256 (by assumption)) (by omega) ?_)
    refine mm_if_eqN d_Co_needApart_17 (by first | omega | exact bt8_lt31 _ _ | exact godB_lt31 _ _ _ | exact pop_lt31 _ | assumption | exact b31 (hW.gp (by omega)) | exact b31 (hW.ne (by omega)) | exact b31 (hW.op (by omega)) | exact and31 (hW.gp (by omega)) | exact and31 (hW.ne (by omega)) | exact and31 (hW.op (by omega)) | exact and31 (by assumption) | exact and31r (hW.ne (by omega)) | exact and31r (hW.gp (by omega)) | exact and31r (by decide)) (fun c_17 => ?_) (fun c_17 => ?_)
    · refine mm_inc3N d_Co_needApart_42 ?_
      refine mm_goto d_Co_needApart_45 ?_
      first
        | exact ih u (apK_s0 hu c_17)
        | exact ih _ (apK_s1 hu c_17 c_28)
    · refine mm_iload d_Co_needApart_20 rfl ?_
      refine mm_aload d_Co_needApart_21 rfl ?_
      refine mm_getP d_Co_needApart_22 rfl hCD.1.1 (CoS_p5 hCD.1) ?_
      refine mm_iload d_Co_needApart_25 rfl ?_
      refine mm_ialdN d_Co_needApart_26 (CoS_a5 hCD.1) (by omega) (by decide) (hCD.f5 (by omega)) ?_
      refine mm_iandN d_Co_needApart_27 ?_
      refine mm_if_eqN d_Co_needApart_28 (by first | omega | exact bt8_lt31 _ _ | exact godB_lt31 _ _ _ | exact pop_lt31 _ | assumption | exact b31 (hW.gp (by omega)) | exact b31 (hW.ne (by omega)) | exact b31 (hW.op (by omega)) | exact and31 (hW.gp (by omega)) | exact and31 (hW.ne (by omega)) | exact and31 (hW.op (by omega)) | exact and31 (by assumption) | exact and31r (hW.ne (by omega)) | exact and31r (hW.gp (by omega)) | exact and31r (by decide)) (fun c_28 => ?_) (fun c_28 => ?_)
      · refine mm_iload d_Co_needApart_33 rfl ?_
        refine mm_aload d_Co_needApart_34 rfl ?_
        refine mm_getP d_Co_needApart_35 rfl hCD.1.1 (CoS_p5 hCD.1) ?_
        refine mm_iload d_Co_needApart_38 rfl ?_
        refine mm_ialdN d_Co_needApart_39 (CoS_a5 hCD.1) (by omega) (by decide) (hCD.f5 (by omega)) ?_
        refine mm_iorN d_Co_needApart_40 ?_
        refine mm_ist2 d_Co_needApart_41 ?_
        refine mm_inc3N d_Co_needApart_42 ?_
        refine mm_goto d_Co_needApart_45 ?_
        first
          | exact ih u (apK_s0 hu c_17)
          | exact ih _ (apK_s1 hu c_17 c_28)
      · refine mm_ciN 0 d_Co_needApart_31 rfl ?_
        exact mm_rz d_Co_needApart_32 (by rw [show apI D s = 0 by unfold apI apN; rw [apK_none' (apK_s2 hu c_17 c_28) (by omega)]; rfl] at h; exact h)
def omax : Option Nat → Nat → Nat
  | none, w => w
  | some b, w => max b w
def levyK (D : mm_D) (n : Nat) : Nat → Option Nat
  | 0 => none
  | s + 1 => if pop s = n ∧ apI D s ≠ 0 then some (omax (levyK D n s) (worthN D s)) else levyK D n s
theorem levyK_le {D : mm_D} (hW : WfD D) {n : Nat} : ∀ {k b}, levyK D n k = some b → b ≤ 120
  | 0, b, h => by cases h
  | k + 1, b, h => by
    unfold levyK at h
    split at h
    · have h1 := worthN_le hW k
      cases h
      cases e : levyK D n k with
      | none => exact h1
      | some c =>
        have h2 := levyK_le hW e
        show max c _ ≤ 120
        omega
    · exact levyK_le hW h
theorem apI_01 (D : mm_D) (s : Nat) : apI D s = 0 ∨ apI D s = 1 := by unfold apI; split <;> simp
theorem sp_Co_dearestApart {X : mm_X} {μ : mm_M} {q : Int32 → mm_M → Prop} {a n : Nat} {D : mm_D} (hCD : CoD μ a D) (hW : WfD D) (hn : n ≤ 6) (h : q (oI (levyK D n (2 ^ dw D))) μ) : mm_Ci X 2 0 0 k_Co_dearestApart [.ref a, .int (nI n)] μ q := by
  show mm_T X 2 0 0 k_Co_dearestApart 0 [some (.ref a), some (.int (nI n)), none, none] [] μ _
  have hw6 := hW.2.1
  have ha := allw_lt hW
  have ha1 := one_le_two_pow (dw D)
  refine mm_ci d_Co_dearestApart_0 ?_
  refine mm_ist2 d_Co_dearestApart_1 ?_
  refine mm_ciN 0 d_Co_dearestApart_2 rfl ?_
  refine mm_ist3 d_Co_dearestApart_3 ?_
  refine mm_up (P := fun i => mm_T X _ 0 0 k_Co_dearestApart 4 [some (.ref a), some (.int (nI n)), some (.int (oI (levyK D n i))), some (.int (nI i))] [] μ _) (2 ^ dw D) ?_ (fun i hi ih => ?_)
  · refine mm_iload d_Co_dearestApart_4 rfl ?_
    refine mm_aload d_Co_dearestApart_5 rfl ?_
    refine mm_v0i d_Co_dearestApart_6 hCD.1.1 (sp_Co_allWorksN hCD hW ?_)
    refine mm_icmp_gtN d_Co_dearestApart_9 (by first | omega | exact bt8_lt31 _ _ | exact godB_lt31 _ _ _ | exact pop_lt31 _ | assumption | exact b31 (hW.gp (by omega)) | exact b31 (hW.ne (by omega)) | exact b31 (hW.op (by omega)) | exact and31 (hW.gp (by omega)) | exact and31 (hW.ne (by omega)) | exact and31 (hW.op (by omega)) | exact and31 (by assumption) | exact and31r (hW.ne (by omega)) | exact and31r (hW.gp (by omega)) | exact and31r (by decide)) (by first | omega | exact bt8_lt31 _ _ | exact godB_lt31 _ _ _ | exact pop_lt31 _ | assumption | exact b31 (hW.gp (by omega)) | exact b31 (hW.ne (by omega)) | exact b31 (hW.op (by omega)) | exact and31 (hW.gp (by omega)) | exact and31 (hW.ne (by omega)) | exact and31 (hW.op (by omega)) | exact and31 (by assumption) | exact and31r (hW.ne (by omega)) | exact and31r (hW.gp (by omega)) | exact and31r (by decide)) (fun c_9 => ?_) (fun c_9 => False.elim (by omega))
    refine mm_iload d_Co_dearestApart_44 rfl ?_
    exact mm_ri d_Co_dearestApart_45 h
  · have hap := apI_01 D i
    have hwo := worthN_le hW i
    rcases hb : levyK D n i with _ | b
    · refine mm_iload d_Co_dearestApart_4 rfl ?_
      refine mm_aload d_Co_dearestApart_5 rfl ?_
      refine mm_v0i d_Co_dearestApart_6 hCD.1.1 (sp_Co_allWorksN hCD hW ?_)
      refine mm_icmp_gtN d_Co_dearestApart_9 (by first | omega | exact bt8_lt31 _ _ | exact godB_lt31 _ _ _ | exact pop_lt31 _ | assumption | exact b31 (hW.gp (by omega)) | exact b31 (hW.ne (by omega)) | exact b31 (hW.op (by omega)) | exact and31 (hW.gp (by omega)) | exact and31 (hW.ne (by omega)) | exact and31 (hW.op (by omega)) | exact and31 (by assumption) | exact and31r (hW.ne (by omega)) | exact and31r (hW.gp (by omega)) | exact and31r (by decide)) (by first | omega | exact bt8_lt31 _ _ | exact godB_lt31 _ _ _ | exact pop_lt31 _ | assumption | exact b31 (hW.gp (by omega)) | exact b31 (hW.ne (by omega)) | exact b31 (hW.op (by omega)) | exact and31 (hW.gp (by omega)) | exact and31 (hW.ne (by omega)) | exact and31 (hW.op (by omega)) | exact and31 (by assumption) | exact and31r (hW.ne (by omega)) | exact and31r (hW.gp (by omega)) | exact and31r (by decide)) (fun c_9 => False.elim (by omega)) (fun c_9 => ?_)
      refine mm_iload d_Co_dearestApart_12 rfl ?_
      refine mm_s1i d_Co_dearestApart_13 (sp_Int_bitCount (by first | omega | assumption | exact hW.gp (by omega) | exact hW.ne (by omega) | exact hW.op (by omega) | exact and_lt256 (hW.gp (by omega)) | exact and_lt256 (hW.ne (by omega)) | exact and_lt256 (hW.op (by omega)) | exact and_lt256 (by assumption)) ?_)
      refine mm_iload d_Co_dearestApart_16 rfl ?_
      refine mm_icmp_neN d_Co_dearestApart_17 (by first | omega | exact bt8_lt31 _ _ | exact godB_lt31 _ _ _ | exact pop_lt31 _ | assumption | exact b31 (hW.gp (by omega)) | exact b31 (hW.ne (by omega)) | exact b31 (hW.op (by omega)) | exact and31 (hW.gp (by omega)) | exact and31 (hW.ne (by omega)) | exact and31 (hW.op (by omega)) | exact and31 (by assumption) | exact and31r (hW.ne (by omega)) | exact and31r (hW.gp (by omega)) | exact and31r (by decide)) (by first | omega | exact bt8_lt31 _ _ | exact godB_lt31 _ _ _ | exact pop_lt31 _ | assumption | exact b31 (hW.gp (by omega)) | exact b31 (hW.ne (by omega)) | exact b31 (hW.op (by omega)) | exact and31 (hW.gp (by omega)) | exact and31 (hW.ne (by omega)) | exact and31 (hW.op (by omega)) | exact and31 (by assumption) | exact and31r (hW.ne (by omega)) | exact and31r (hW.gp (by omega)) | exact and31r (by decide)) (fun c_17 => ?_) (fun c_17 => ?_)
      · refine mm_inc3N d_Co_dearestApart_38 ?_
        refine mm_goto d_Co_dearestApart_41 ?_
        first
          | (rw [show levyK D n (i + 1) = some (worthN D i) by unfold levyK; rw [hb, if_pos (by omega)]; rfl] at ih; exact ih)
          | (rw [show levyK D n (i + 1) = none by unfold levyK; rw [hb, if_neg (by omega)]] at ih; exact ih)
      · refine mm_aload d_Co_dearestApart_20 rfl ?_
        refine mm_iload d_Co_dearestApart_21 rfl ?_
        refine mm_v1i d_Co_dearestApart_22 hCD.1.1 (sp_Co_needApart hCD hW (by omega) ?_)
        refine mm_if_eqN d_Co_dearestApart_25 (by first | omega | exact bt8_lt31 _ _ | exact godB_lt31 _ _ _ | exact pop_lt31 _ | assumption | exact b31 (hW.gp (by omega)) | exact b31 (hW.ne (by omega)) | exact b31 (hW.op (by omega)) | exact and31 (hW.gp (by omega)) | exact and31 (hW.ne (by omega)) | exact and31 (hW.op (by omega)) | exact and31 (by assumption) | exact and31r (hW.ne (by omega)) | exact and31r (hW.gp (by omega)) | exact and31r (by decide)) (fun c_25 => ?_) (fun c_25 => ?_)
        · refine mm_inc3N d_Co_dearestApart_38 ?_
          refine mm_goto d_Co_dearestApart_41 ?_
          first
            | (rw [show levyK D n (i + 1) = some (worthN D i) by unfold levyK; rw [hb, if_pos (by omega)]; rfl] at ih; exact ih)
            | (rw [show levyK D n (i + 1) = none by unfold levyK; rw [hb, if_neg (by omega)]] at ih; exact ih)
        · refine mm_iload d_Co_dearestApart_28 rfl ?_
          refine mm_aload d_Co_dearestApart_29 rfl ?_
          refine mm_iload d_Co_dearestApart_30 rfl ?_
          refine mm_v1i d_Co_dearestApart_31 hCD.1.1 (sp_Co_worthOf hCD hW (by first | omega | assumption | exact hW.gp (by omega) | exact hW.ne (by omega) | exact hW.op (by omega) | exact and_lt256 (hW.gp (by omega)) | exact and_lt256 (hW.ne (by omega)) | exact and_lt256 (hW.op (by omega)) | exact and_lt256 (by assumption)) ?_)
          refine mm_mmax d_Co_dearestApart_34 ?_
          rw [show (if oI none < nI (worthN D i) then nI (worthN D i) else oI none) = nI (worthN D i) from if_pos (m1_lt (by omega))]
          refine mm_ist2 d_Co_dearestApart_37 ?_
          refine mm_inc3N d_Co_dearestApart_38 ?_
          refine mm_goto d_Co_dearestApart_41 ?_
          first
            | (rw [show levyK D n (i + 1) = some (worthN D i) by unfold levyK; rw [hb, if_pos (by omega)]; rfl] at ih; exact ih)
            | (rw [show levyK D n (i + 1) = none by unfold levyK; rw [hb, if_neg (by omega)]] at ih; exact ih)
    · have hb2 := levyK_le hW hb
      refine mm_iload d_Co_dearestApart_4 rfl ?_
      refine mm_aload d_Co_dearestApart_5 rfl ?_
      refine mm_v0i d_Co_dearestApart_6 hCD.1.1 (sp_Co_allWorksN hCD hW ?_)
      refine mm_icmp_gtN d_Co_dearestApart_9 (by first | omega | exact bt8_lt31 _ _ | exact godB_lt31 _ _ _ | exact pop_lt31 _ | assumption | exact b31 (hW.gp (by omega)) | exact b31 (hW.ne (by omega)) | exact b31 (hW.op (by omega)) | exact and31 (hW.gp (by omega)) | exact and31 (hW.ne (by omega)) | exact and31 (hW.op (by omega)) | exact and31 (by assumption) | exact and31r (hW.ne (by omega)) | exact and31r (hW.gp (by omega)) | exact and31r (by decide)) (by first | omega | exact bt8_lt31 _ _ | exact godB_lt31 _ _ _ | exact pop_lt31 _ | assumption | exact b31 (hW.gp (by omega)) | exact b31 (hW.ne (by omega)) | exact b31 (hW.op (by omega)) | exact and31 (hW.gp (by omega)) | exact and31 (hW.ne (by omega)) | exact and31 (hW.op (by omega)) | exact and31 (by assumption) | exact and31r (hW.ne (by omega)) | exact and31r (hW.gp (by omega)) | exact and31r (by decide)) (fun c_9 => False.elim (by omega)) (fun c_9 => ?_)
      refine mm_iload d_Co_dearestApart_12 rfl ?_
      refine mm_s1i d_Co_dearestApart_13 (sp_Int_bitCount (by first | omega | assumption | exact hW.gp (by omega) | exact hW.ne (by omega) | exact hW.op (by omega) | exact and_lt256 (hW.gp (by omega)) | exact and_lt256 (hW.ne (by omega)) | exact and_lt256 (hW.op (by omega)) | exact and_lt256 (by assumption)) ?_)
      refine mm_iload d_Co_dearestApart_16 rfl ?_
      refine mm_icmp_neN d_Co_dearestApart_17 (by first | omega | exact bt8_lt31 _ _ | exact godB_lt31 _ _ _ | exact pop_lt31 _ | assumption | exact b31 (hW.gp (by omega)) | exact b31 (hW.ne (by omega)) | exact b31 (hW.op (by omega)) | exact and31 (hW.gp (by omega)) | exact and31 (hW.ne (by omega)) | exact and31 (hW.op (by omega)) | exact and31 (by assumption) | exact and31r (hW.ne (by omega)) | exact and31r (hW.gp (by omega)) | exact and31r (by decide)) (by first | omega | exact bt8_lt31 _ _ | exact godB_lt31 _ _ _ | exact pop_lt31 _ | assumption | exact b31 (hW.gp (by omega)) | exact b31 (hW.ne (by omega)) | exact b31 (hW.op (by omega)) | exact and31 (hW.gp (by omega)) | exact and31 (hW.ne (by omega)) | exact and31 (hW.op (by omega)) | exact and31 (by assumption) | exact and31r (hW.ne (by omega)) | exact and31r (hW.gp (by omega)) | exact and31r (by decide)) (fun c_17 => ?_) (fun c_17 => ?_)
      · refine mm_inc3N d_Co_dearestApart_38 ?_
        refine mm_goto d_Co_dearestApart_41 ?_
        first
          | (rw [show levyK D n (i + 1) = some (max b (worthN D i)) by unfold levyK; rw [hb, if_pos (by omega)]; rfl] at ih; exact ih)
          | (rw [show levyK D n (i + 1) = some b by unfold levyK; rw [hb, if_neg (by omega)]] at ih; exact ih)
      · refine mm_aload d_Co_dearestApart_20 rfl ?_
        refine mm_iload d_Co_dearestApart_21 rfl ?_
        refine mm_v1i d_Co_dearestApart_22 hCD.1.1 (sp_Co_needApart hCD hW (by omega) ?_)
        refine mm_if_eqN d_Co_dearestApart_25 (by first | omega | exact bt8_lt31 _ _ | exact godB_lt31 _ _ _ | exact pop_lt31 _ | assumption | exact b31 (hW.gp (by omega)) | exact b31 (hW.ne (by omega)) | exact b31 (hW.op (by omega)) | exact and31 (hW.gp (by omega)) | exact and31 (hW.ne (by omega)) | exact and31 (hW.op (by omega)) | exact and31 (by assumption) | exact and31r (hW.ne (by omega)) | exact and31r (hW.gp (by omega)) | exact and31r (by decide)) (fun c_25 => ?_) (fun c_25 => ?_)
        · refine mm_inc3N d_Co_dearestApart_38 ?_
          refine mm_goto d_Co_dearestApart_41 ?_
          first
            | (rw [show levyK D n (i + 1) = some (max b (worthN D i)) by unfold levyK; rw [hb, if_pos (by omega)]; rfl] at ih; exact ih)
            | (rw [show levyK D n (i + 1) = some b by unfold levyK; rw [hb, if_neg (by omega)]] at ih; exact ih)
        · refine mm_iload d_Co_dearestApart_28 rfl ?_
          refine mm_aload d_Co_dearestApart_29 rfl ?_
          refine mm_iload d_Co_dearestApart_30 rfl ?_
          refine mm_v1i d_Co_dearestApart_31 hCD.1.1 (sp_Co_worthOf hCD hW (by first | omega | assumption | exact hW.gp (by omega) | exact hW.ne (by omega) | exact hW.op (by omega) | exact and_lt256 (hW.gp (by omega)) | exact and_lt256 (hW.ne (by omega)) | exact and_lt256 (hW.op (by omega)) | exact and_lt256 (by assumption)) ?_)
          refine mm_mmaxN (a := b) d_Co_dearestApart_34 (by omega) (by omega) (Nat.le_of_ble_eq_true rfl) (Nat.le_of_ble_eq_true rfl) ?_
          refine mm_ist2 d_Co_dearestApart_37 ?_
          refine mm_inc3N d_Co_dearestApart_38 ?_
          refine mm_goto d_Co_dearestApart_41 ?_
          first
            | (rw [show levyK D n (i + 1) = some (max b (worthN D i)) by unfold levyK; rw [hb, if_pos (by omega)]; rfl] at ih; exact ih)
            | (rw [show levyK D n (i + 1) = some b by unfold levyK; rw [hb, if_neg (by omega)]] at ih; exact ih)
theorem pair_levy {X : mm_X} {k : Nat} {μ : mm_M} (hJ : JJ k μ) (y1 y2 : Int32) : PairI X (JJ (k + 1)) k_G_levy k_M_levy [.int y1, .int y2] μ := by
  obtain ⟨c, h02, h0, m0, hv⟩ := hJ.coast y1
  have hM := hJ.1
  have hw := hJ.2.2.2.up
  rcases hv with hx | ⟨i, D, hi, rfl, hW, hCD, hDM⟩
  · exact pairQ (-1) hJ (d := 2) (d' := 4) (by decide) (by decide) (n_G_levy hM h0 h02 hx ⟨rfl, Fr.rf, hw⟩) (fun μ1 hf => n_M_levy (hf.2.2.2 hM) (by rw [(hf.2.2.1 76 rfl).1]; exact m0) h02 hx (fun μ' hk => ⟨rfl, hk.fr (hf.2.2.2 hM)⟩))
  have hn6 := hW.1
  have hw6 := hW.2.1
  have hal := allw_lt hW
  have hal1 := one_le_two_pow (dw D)
  rcases rng_or y2 (a := 0) (b := 6) (by decide) (by decide) with ⟨hz, hz2⟩ | ⟨n, -, hn, rfl⟩
  · refine pairQ (-1) hJ (d := 12) (d' := 12) (by decide) (by decide) ?_ (fun μ1 hf => ?_)
    · show mm_T X 12 0 0 k_G_levy 0 [some (.ref 0), some (.int (nI i)), some (.int y2), none] [] μ _
      refine mm_aload d_G_levy_0 rfl ?_
      refine mm_getP d_G_levy_1 rfl (sk_o_0 hM) (sk_p_0_0 hM) ?_
      refine mm_iload d_G_levy_4 rfl ?_
      refine mm_v1r d_G_levy_5 (sk_o_1 hM) (sp_To_coastAtI hM h0 h02 hi ?_)
      refine mm_ast3 d_G_levy_8 ?_
      refine mm_aload d_G_levy_9 rfl ?_
      refine mm_ifnull d_G_levy_10 ?_
      refine mm_iload d_G_levy_13 rfl ?_
      refine mm_if_lt d_G_levy_14 (fun c_14 => ?_) (fun c_14 => ?_)
      · refine mm_ci d_G_levy_23 ?_
        exact mm_ri d_G_levy_24 ⟨rfl, Fr.rf, hw⟩
      · refine mm_iload d_G_levy_17 rfl ?_
        refine mm_ciN 6 d_G_levy_18 rfl ?_
        refine mm_icmp_le d_G_levy_20 (fun c_20 => False.elim (rng_dead hz2 c_14 c_20)) (fun c_20 => ?_)
        refine mm_ci d_G_levy_23 ?_
        exact mm_ri d_G_levy_24 ⟨rfl, Fr.rf, hw⟩
    · show mm_T X 12 0 0 k_M_levy 0 [some (.ref 71), some (.int (nI i)), some (.int y2), none, none, none, none, none, none] [] μ1 _
      replace hM := hf.2.2.2 hM
      replace m0 : mm_I μ1 76 0 = nI c := by rw [(hf.2.2.1 76 rfl).1]; exact m0
      replace hDM := hDM.frC hf
      refine mm_aload d_M_levy_0 rfl ?_
      refine mm_ciN 0 d_M_levy_1 rfl ?_
      refine mm_putI d_M_levy_2 rfl (sk_o_71 hM) (Or.inl rfl) ?_
      refine mm_iload d_M_levy_5 rfl ?_
      refine mm_ciN 0 d_M_levy_6 rfl ?_
      refine mm_ciN 6 d_M_levy_7 rfl ?_
      refine mm_s3i d_M_levy_9 (sp_M_inB hz ?_)
      refine mm_if_eqN d_M_levy_12 (by first | omega | exact bt8_lt31 _ _ | exact godB_lt31 _ _ _ | exact pop_lt31 _ | assumption | exact b31 (hW.gp (by omega)) | exact b31 (hW.ne (by omega)) | exact b31 (hW.op (by omega)) | exact and31 (hW.gp (by omega)) | exact and31 (hW.ne (by omega)) | exact and31 (hW.op (by omega)) | exact and31 (by assumption) | exact and31r (hW.ne (by omega)) | exact and31r (hW.gp (by omega)) | exact and31r (by decide)) (fun c_12 => ?_) (fun c_12 => False.elim (by omega))
      refine mm_ci d_M_levy_23 ?_
      exact mm_ri d_M_levy_24 ⟨rfl, Fr.rf.sI rfl⟩
  · refine pairQ (oI (levyK D n (2 ^ dw D))) hJ (d := 12) (d' := 12) (by decide) (by decide) ?_ (fun μ1 hf => ?_)
    · show mm_T X 12 0 0 k_G_levy 0 [some (.ref 0), some (.int (nI i)), some (.int (nI n)), none] [] μ _
      refine mm_aload d_G_levy_0 rfl ?_
      refine mm_getP d_G_levy_1 rfl (sk_o_0 hM) (sk_p_0_0 hM) ?_
      refine mm_iload d_G_levy_4 rfl ?_
      refine mm_v1r d_G_levy_5 (sk_o_1 hM) (sp_To_coastAtI hM h0 h02 hi ?_)
      refine mm_ast3 d_G_levy_8 ?_
      refine mm_aload d_G_levy_9 rfl ?_
      refine mm_ifnull d_G_levy_10 ?_
      refine mm_iload d_G_levy_13 rfl ?_
      refine mm_if_ltN d_G_levy_14 (by first | omega | exact bt8_lt31 _ _ | exact godB_lt31 _ _ _ | exact pop_lt31 _ | assumption | exact b31 (hW.gp (by omega)) | exact b31 (hW.ne (by omega)) | exact b31 (hW.op (by omega)) | exact and31 (hW.gp (by omega)) | exact and31 (hW.ne (by omega)) | exact and31 (hW.op (by omega)) | exact and31 (by assumption) | exact and31r (hW.ne (by omega)) | exact and31r (hW.gp (by omega)) | exact and31r (by decide)) ?_
      refine mm_iload d_G_levy_17 rfl ?_
      refine mm_ciN 6 d_G_levy_18 rfl ?_
      refine mm_icmp_leN d_G_levy_20 (by first | omega | exact bt8_lt31 _ _ | exact godB_lt31 _ _ _ | exact pop_lt31 _ | assumption | exact b31 (hW.gp (by omega)) | exact b31 (hW.ne (by omega)) | exact b31 (hW.op (by omega)) | exact and31 (hW.gp (by omega)) | exact and31 (hW.ne (by omega)) | exact and31 (hW.op (by omega)) | exact and31 (by assumption) | exact and31r (hW.ne (by omega)) | exact and31r (hW.gp (by omega)) | exact and31r (by decide)) (by first | omega | exact bt8_lt31 _ _ | exact godB_lt31 _ _ _ | exact pop_lt31 _ | assumption | exact b31 (hW.gp (by omega)) | exact b31 (hW.ne (by omega)) | exact b31 (hW.op (by omega)) | exact and31 (hW.gp (by omega)) | exact and31 (hW.ne (by omega)) | exact and31 (hW.op (by omega)) | exact and31 (by assumption) | exact and31r (hW.ne (by omega)) | exact and31r (hW.gp (by omega)) | exact and31r (by decide)) (fun c_20 => ?_) (fun c_20 => False.elim (by omega))
      refine mm_aload d_G_levy_25 rfl ?_
      refine mm_iload d_G_levy_26 rfl ?_
      refine mm_v1i d_G_levy_27 hCD.1.1 (sp_Co_dearestApart hCD hW hn ?_)
      exact mm_ri d_G_levy_30 ⟨rfl, Fr.rf, hw⟩
    · show mm_T X 12 0 0 k_M_levy 0 [some (.ref 71), some (.int (nI i)), some (.int (nI n)), none, none, none, none, none, none] [] μ1 _
      replace hM := hf.2.2.2 hM
      replace m0 : mm_I μ1 76 0 = nI c := by rw [(hf.2.2.1 76 rfl).1]; exact m0
      replace hDM := hDM.frC hf
      refine mm_aload d_M_levy_0 rfl ?_
      refine mm_ciN 0 d_M_levy_1 rfl ?_
      refine mm_putI d_M_levy_2 rfl (sk_o_71 hM) (Or.inl rfl) ?_
      refine mm_iload d_M_levy_5 rfl ?_
      refine mm_ciN 0 d_M_levy_6 rfl ?_
      refine mm_ciN 6 d_M_levy_7 rfl ?_
      refine mm_s3i d_M_levy_9 (sp_M_inT (by omega) (by omega) (by omega) ?_)
      refine mm_if_eqN d_M_levy_12 (by first | omega | exact bt8_lt31 _ _ | exact godB_lt31 _ _ _ | exact pop_lt31 _ | assumption | exact b31 (hW.gp (by omega)) | exact b31 (hW.ne (by omega)) | exact b31 (hW.op (by omega)) | exact and31 (hW.gp (by omega)) | exact and31 (hW.ne (by omega)) | exact and31 (hW.op (by omega)) | exact and31 (by assumption) | exact and31r (hW.ne (by omega)) | exact and31r (hW.gp (by omega)) | exact and31r (by decide)) (fun c_12 => False.elim (by omega)) (fun c_12 => ?_)
      refine mm_aload d_M_levy_15 rfl ?_
      refine mm_iload d_M_levy_16 rfl ?_
      refine mm_v1i d_M_levy_17 (sk_o_71 hM) (sp_M_handN hM (by first | exact m0 | (rw [mm_sI_off (by decide)]; exact m0)) h02 hi (by first | exact hDM | exact hDM.eq (mm_sI_off (by decide))) hW (fun μ2 g1 hH hZ => ?_))
      replace hM := hH.1
      refine mm_if_neN d_M_levy_20 (by first | omega | exact bt8_lt31 _ _ | exact godB_lt31 _ _ _ | exact pop_lt31 _ | assumption | exact b31 (hW.gp (by omega)) | exact b31 (hW.ne (by omega)) | exact b31 (hW.op (by omega)) | exact and31 (hW.gp (by omega)) | exact and31 (hW.ne (by omega)) | exact and31 (hW.op (by omega)) | exact and31 (by assumption) | exact and31r (hW.ne (by omega)) | exact and31r (hW.gp (by omega)) | exact and31r (by decide)) (fun c_20 => ?_) (fun c_20 => False.elim (by omega))
      refine mm_ci d_M_levy_25 ?_
      refine mm_ist3 d_M_levy_26 ?_
      refine mm_ciN 0 d_M_levy_27 rfl ?_
      refine mm_ist4 d_M_levy_28 ?_
      have gf := (Fr.rf (S := scM) (μ := μ1).sI (j := 0) (x := nI 0) (a := 71) rfl).trans g1
      generalize nI i = l1
      refine mm_up (P := fun s => ∀ l5 l6 l7 l8 : Option Value, mm_T X _ 0 0 k_M_levy 30 [some (.ref 71), some (.int l1), some (.int (nI n)), some (.int (oI (levyK D n s))), some (.int (nI s)), l5, l6, l7, l8] [] μ2 _) (2 ^ dw D) ?_ (fun s hs ih => ?_) none none none none
      · intro l5 l6 l7 l8
        refine mm_iload d_M_levy_30 rfl ?_
        refine mm_ciN 1 d_M_levy_32 rfl ?_
        refine mm_aload d_M_levy_33 rfl ?_
        refine mm_getIN d_M_levy_34 rfl (sk_o_71 hM) hH.w ?_
        refine mm_ishl1N d_M_levy_37 (by omega) ?_
        refine mm_icmp_geN d_M_levy_38 (by first | omega | exact bt8_lt31 _ _ | exact godB_lt31 _ _ _ | exact pop_lt31 _ | assumption | exact b31 (hW.gp (by omega)) | exact b31 (hW.ne (by omega)) | exact b31 (hW.op (by omega)) | exact and31 (hW.gp (by omega)) | exact and31 (hW.ne (by omega)) | exact and31 (hW.op (by omega)) | exact and31 (by assumption) | exact and31r (hW.ne (by omega)) | exact and31r (hW.gp (by omega)) | exact and31r (by decide)) (by first | omega | exact bt8_lt31 _ _ | exact godB_lt31 _ _ _ | exact pop_lt31 _ | assumption | exact b31 (hW.gp (by omega)) | exact b31 (hW.ne (by omega)) | exact b31 (hW.op (by omega)) | exact and31 (hW.gp (by omega)) | exact and31 (hW.ne (by omega)) | exact and31 (hW.op (by omega)) | exact and31 (by assumption) | exact and31r (hW.ne (by omega)) | exact and31r (hW.gp (by omega)) | exact and31r (by decide)) (fun c_38 => ?_) (fun c_38 => False.elim (by omega))
        refine mm_iload d_M_levy_156 rfl ?_
        exact mm_ri d_M_levy_157 ⟨rfl, gf⟩
      · intro l5 l6 l7 l8
        have hap := apI_01 D s
        have hwo := worthN_le hW s
        have fin : ∀ (b : Nat) (u l7 l8 : Int32), b = (if pop s = n ∧ apI D s ≠ 0 then 1 else 0) → ∀ o8 : Option Value, mm_T X 12 0 0 k_M_levy 130 [some (.ref 71), some (.int l1), some (.int (nI n)), some (.int (oI (levyK D n s))), some (.int (nI s)), some (.int u), some (.int (nI b)), some (.int l7), o8] [] μ2 (fun v μ' => ∃ r, v = some (.int r) ∧ (r = oI (levyK D n (2 ^ dw D)) ∧ Fr scM μ1 μ')) := by
          intro b u l7 l8 hb o8
          by_cases hc : pop s = n ∧ apI D s ≠ 0
          · rw [if_pos hc] at hb
            subst hb
            rcases hq : levyK D n s with _ | m
            · refine mm_iload d_M_levy_130 rfl ?_
              refine mm_if_eqN d_M_levy_132 (by first | omega | exact bt8_lt31 _ _ | exact godB_lt31 _ _ _ | exact pop_lt31 _ | assumption | exact b31 (hW.gp (by omega)) | exact b31 (hW.ne (by omega)) | exact b31 (hW.op (by omega)) | exact and31 (hW.gp (by omega)) | exact and31 (hW.ne (by omega)) | exact and31 (hW.op (by omega)) | exact and31 (by assumption) | exact and31r (hW.ne (by omega)) | exact and31r (hW.gp (by omega)) | exact and31r (by decide)) (fun c_132 => False.elim (by omega)) (fun c_132 => ?_)
              refine mm_iload d_M_levy_135 rfl ?_
              refine mm_aload d_M_levy_136 rfl ?_
              refine mm_iload d_M_levy_137 rfl ?_
              refine mm_v1i d_M_levy_139 (sk_o_71 hM) (sp_M_worthOf hH (by first | omega | assumption | exact hW.gp (by omega) | exact hW.ne (by omega) | exact hW.op (by omega) | exact and_lt256 (hW.gp (by omega)) | exact and_lt256 (hW.ne (by omega)) | exact and_lt256 (hW.op (by omega)) | exact and_lt256 (by assumption)) ?_)
              refine mm_s2i d_M_levy_142 (sp_M_greater ?_)
              rw [show (if oI none ≤ nI (worthN D s) then nI (worthN D s) else oI none) = nI (worthN D s) from if_pos (Int32.le_of_lt (m1_lt (by omega)))]
              refine mm_goto d_M_levy_145 ?_
              refine mm_ist3 d_M_levy_149 ?_
              refine mm_inc4N d_M_levy_150 ?_
              refine mm_goto d_M_levy_153 ?_
              rw [show levyK D n (s + 1) = some (worthN D s) by unfold levyK; rw [hq, if_pos hc]; rfl] at ih
              exact ih _ _ _ _
            · have hb2 := levyK_le hW hq
              refine mm_iload d_M_levy_130 rfl ?_
              refine mm_if_eqN d_M_levy_132 (by first | omega | exact bt8_lt31 _ _ | exact godB_lt31 _ _ _ | exact pop_lt31 _ | assumption | exact b31 (hW.gp (by omega)) | exact b31 (hW.ne (by omega)) | exact b31 (hW.op (by omega)) | exact and31 (hW.gp (by omega)) | exact and31 (hW.ne (by omega)) | exact and31 (hW.op (by omega)) | exact and31 (by assumption) | exact and31r (hW.ne (by omega)) | exact and31r (hW.gp (by omega)) | exact and31r (by decide)) (fun c_132 => False.elim (by omega)) (fun c_132 => ?_)
              refine mm_iload d_M_levy_135 rfl ?_
              refine mm_aload d_M_levy_136 rfl ?_
              refine mm_iload d_M_levy_137 rfl ?_
              refine mm_v1i d_M_levy_139 (sk_o_71 hM) (sp_M_worthOf hH (by first | omega | assumption | exact hW.gp (by omega) | exact hW.ne (by omega) | exact hW.op (by omega) | exact and_lt256 (hW.gp (by omega)) | exact and_lt256 (hW.ne (by omega)) | exact and_lt256 (hW.op (by omega)) | exact and_lt256 (by assumption)) ?_)
              refine mm_s2i d_M_levy_142 (sp_M_greaterN (a := m) (by omega) (by omega) ?_)
              refine mm_goto d_M_levy_145 ?_
              refine mm_ist3 d_M_levy_149 ?_
              refine mm_inc4N d_M_levy_150 ?_
              refine mm_goto d_M_levy_153 ?_
              rw [show levyK D n (s + 1) = some (max m (worthN D s)) by unfold levyK; rw [hq, if_pos hc]; rfl] at ih
              exact ih _ _ _ _
          · rw [if_neg hc] at hb
            subst hb
            refine mm_iload d_M_levy_130 rfl ?_
            refine mm_if_eqN d_M_levy_132 (by first | omega | exact bt8_lt31 _ _ | exact godB_lt31 _ _ _ | exact pop_lt31 _ | assumption | exact b31 (hW.gp (by omega)) | exact b31 (hW.ne (by omega)) | exact b31 (hW.op (by omega)) | exact and31 (hW.gp (by omega)) | exact and31 (hW.ne (by omega)) | exact and31 (hW.op (by omega)) | exact and31 (by assumption) | exact and31r (hW.ne (by omega)) | exact and31r (hW.gp (by omega)) | exact and31r (by decide)) (fun c_132 => ?_) (fun c_132 => False.elim (by omega))
            refine mm_iload d_M_levy_148 rfl ?_
            refine mm_ist3 d_M_levy_149 ?_
            refine mm_inc4N d_M_levy_150 ?_
            refine mm_goto d_M_levy_153 ?_
            rw [show levyK D n (s + 1) = levyK D n s by show (if _ then _ else _) = _; rw [if_neg hc]] at ih
            exact ih _ _ _ _
        have ex0 : ∀ (j : Nat) (u : Int32) (o8 : Option Value), j ≤ 6 → ¬ (pop s = n ∧ apI D s ≠ 0) → mm_T X 12 0 0 k_M_levy 63 [some (.ref 71), some (.int l1), some (.int (nI n)), some (.int (oI (levyK D n s))), some (.int (nI s)), some (.int u), some (.int (nI 0)), some (.int (nI j)), o8] [] μ2 (fun v μ' => ∃ r, v = some (.int r) ∧ (r = oI (levyK D n (2 ^ dw D)) ∧ Fr scM μ1 μ')) := by
          intro j u o8 hj hc
          refine mm_iload d_M_levy_63 rfl ?_
          refine mm_aload d_M_levy_65 rfl ?_
          refine mm_getIN d_M_levy_66 rfl (sk_o_71 hM) hH.w ?_
          refine mm_icmp_geN d_M_levy_69 (by first | omega | exact bt8_lt31 _ _ | exact godB_lt31 _ _ _ | exact pop_lt31 _ | assumption | exact b31 (hW.gp (by omega)) | exact b31 (hW.ne (by omega)) | exact b31 (hW.op (by omega)) | exact and31 (hW.gp (by omega)) | exact and31 (hW.ne (by omega)) | exact and31 (hW.op (by omega)) | exact and31 (by assumption) | exact and31r (hW.ne (by omega)) | exact and31r (hW.gp (by omega)) | exact and31r (by decide)) (by first | omega | exact bt8_lt31 _ _ | exact godB_lt31 _ _ _ | exact pop_lt31 _ | assumption | exact b31 (hW.gp (by omega)) | exact b31 (hW.ne (by omega)) | exact b31 (hW.op (by omega)) | exact and31 (hW.gp (by omega)) | exact and31 (hW.ne (by omega)) | exact and31 (hW.op (by omega)) | exact and31 (by assumption) | exact and31r (hW.ne (by omega)) | exact and31r (hW.gp (by omega)) | exact and31r (by decide)) (fun c_69 => ?_) (fun c_69 => ?_)
          · exact fin 0 u _ 0 (by rw [if_neg hc]) o8
          · refine mm_iload d_M_levy_72 rfl ?_
            refine mm_if_eqN d_M_levy_74 (by first | omega | exact bt8_lt31 _ _ | exact godB_lt31 _ _ _ | exact pop_lt31 _ | assumption | exact b31 (hW.gp (by omega)) | exact b31 (hW.ne (by omega)) | exact b31 (hW.op (by omega)) | exact and31 (hW.gp (by omega)) | exact and31 (hW.ne (by omega)) | exact and31 (hW.op (by omega)) | exact and31 (by assumption) | exact and31r (hW.ne (by omega)) | exact and31r (hW.gp (by omega)) | exact and31r (by decide)) (fun c_74 => ?_) (fun c_74 => False.elim (by omega))
            exact fin 0 u _ 0 (by rw [if_neg hc]) o8
        have inn : pop s = n → ∀ o8 : Option Value, mm_T X 12 0 0 k_M_levy 63 [some (.ref 71), some (.int l1), some (.int (nI n)), some (.int (oI (levyK D n s))), some (.int (nI s)), some (.int (nI 0)), some (.int (nI 1)), some (.int (nI 0)), o8] [] μ2 (fun v μ' => ∃ r, v = some (.int r) ∧ (r = oI (levyK D n (2 ^ dw D)) ∧ Fr scM μ1 μ')) := by
          intro hpn o8
          refine mm_up (P := fun i => ∀ u o8, apK D s i = some u → mm_T X _ 0 0 k_M_levy 63 [some (.ref 71), some (.int l1), some (.int (nI n)), some (.int (oI (levyK D n s))), some (.int (nI s)), some (.int (nI u)), some (.int (nI 1)), some (.int (nI i)), o8] [] μ2 _) (dw D) ?_ (fun i hi ih2 => ?_) 0 o8 rfl
          · intro u o8 hu
            refine mm_iload d_M_levy_63 rfl ?_
            refine mm_aload d_M_levy_65 rfl ?_
            refine mm_getIN d_M_levy_66 rfl (sk_o_71 hM) hH.w ?_
            refine mm_icmp_geN d_M_levy_69 (by first | omega | exact bt8_lt31 _ _ | exact godB_lt31 _ _ _ | exact pop_lt31 _ | assumption | exact b31 (hW.gp (by omega)) | exact b31 (hW.ne (by omega)) | exact b31 (hW.op (by omega)) | exact and31 (hW.gp (by omega)) | exact and31 (hW.ne (by omega)) | exact and31 (hW.op (by omega)) | exact and31 (by assumption) | exact and31r (hW.ne (by omega)) | exact and31r (hW.gp (by omega)) | exact and31r (by decide)) (by first | omega | exact bt8_lt31 _ _ | exact godB_lt31 _ _ _ | exact pop_lt31 _ | assumption | exact b31 (hW.gp (by omega)) | exact b31 (hW.ne (by omega)) | exact b31 (hW.op (by omega)) | exact and31 (hW.gp (by omega)) | exact and31 (hW.ne (by omega)) | exact and31 (hW.op (by omega)) | exact and31 (by assumption) | exact and31r (hW.ne (by omega)) | exact and31r (hW.gp (by omega)) | exact and31r (by decide)) (fun c_69 => ?_) (fun c_69 => False.elim (by omega))
            exact fin 1 _ _ 0 (by rw [if_pos ⟨hpn, by unfold apI apN; rw [hu]; simp⟩]) o8
          · intro u o8 hu
            refine mm_iload d_M_levy_63 rfl ?_
            refine mm_aload d_M_levy_65 rfl ?_
            refine mm_getIN d_M_levy_66 rfl (sk_o_71 hM) hH.w ?_
            refine mm_icmp_geN d_M_levy_69 (by first | omega | exact bt8_lt31 _ _ | exact godB_lt31 _ _ _ | exact pop_lt31 _ | assumption | exact b31 (hW.gp (by omega)) | exact b31 (hW.ne (by omega)) | exact b31 (hW.op (by omega)) | exact and31 (hW.gp (by omega)) | exact and31 (hW.ne (by omega)) | exact and31 (hW.op (by omega)) | exact and31 (by assumption) | exact and31r (hW.ne (by omega)) | exact and31r (hW.gp (by omega)) | exact and31r (by decide)) (by first | omega | exact bt8_lt31 _ _ | exact godB_lt31 _ _ _ | exact pop_lt31 _ | assumption | exact b31 (hW.gp (by omega)) | exact b31 (hW.ne (by omega)) | exact b31 (hW.op (by omega)) | exact and31 (hW.gp (by omega)) | exact and31 (hW.ne (by omega)) | exact and31 (hW.op (by omega)) | exact and31 (by assumption) | exact and31r (hW.ne (by omega)) | exact and31r (hW.gp (by omega)) | exact and31r (by decide)) (fun c_69 => False.elim (by omega)) (fun c_69 => ?_)
            refine mm_iload d_M_levy_72 rfl ?_
            refine mm_if_eqN d_M_levy_74 (by first | omega | exact bt8_lt31 _ _ | exact godB_lt31 _ _ _ | exact pop_lt31 _ | assumption | exact b31 (hW.gp (by omega)) | exact b31 (hW.ne (by omega)) | exact b31 (hW.op (by omega)) | exact and31 (hW.gp (by omega)) | exact and31 (hW.ne (by omega)) | exact and31 (hW.op (by omega)) | exact and31 (by assumption) | exact and31r (hW.ne (by omega)) | exact and31r (hW.gp (by omega)) | exact and31r (by decide)) (fun c_74 => False.elim (by omega)) (fun c_74 => ?_)
            refine mm_iload d_M_levy_77 rfl ?_
            refine mm_iload d_M_levy_79 rfl ?_
            refine mm_s2i d_M_levy_81 (sp_M_has (by first | omega | assumption | exact hW.gp (by omega) | exact hW.ne (by omega) | exact hW.op (by omega) | exact and_lt256 (hW.gp (by omega)) | exact and_lt256 (hW.ne (by omega)) | exact and_lt256 (hW.op (by omega)) | exact and_lt256 (by assumption)) (by omega) ?_)
            refine mm_if_eqN d_M_levy_84 (by first | omega | exact bt8_lt31 _ _ | exact godB_lt31 _ _ _ | exact pop_lt31 _ | assumption | exact b31 (hW.gp (by omega)) | exact b31 (hW.ne (by omega)) | exact b31 (hW.op (by omega)) | exact and31 (hW.gp (by omega)) | exact and31 (hW.ne (by omega)) | exact and31 (hW.op (by omega)) | exact and31 (by assumption) | exact and31r (hW.ne (by omega)) | exact and31r (hW.gp (by omega)) | exact and31r (by decide)) (fun c_84 => ?_) (fun c_84 => ?_)
            · refine mm_ciN 0 d_M_levy_99 rfl ?_
              refine mm_ist8 d_M_levy_100 ?_
              refine mm_iload d_M_levy_102 rfl ?_
              refine mm_iload d_M_levy_104 rfl ?_
              refine mm_iandN d_M_levy_106 ?_
              refine mm_if_neN d_M_levy_107 (by first | omega | exact bt8_lt31 _ _ | exact godB_lt31 _ _ _ | exact pop_lt31 _ | assumption | exact b31 (hW.gp (by omega)) | exact b31 (hW.ne (by omega)) | exact b31 (hW.op (by omega)) | exact and31 (hW.gp (by omega)) | exact and31 (hW.ne (by omega)) | exact and31 (hW.op (by omega)) | exact and31 (by assumption) | exact and31r (hW.ne (by omega)) | exact and31r (hW.gp (by omega)) | exact and31r (by decide)) (fun c_107 => ?_) (fun c_107 => ?_)
              · refine mm_ciN 0 d_M_levy_114 rfl ?_
                refine mm_ist6 d_M_levy_115 ?_
                refine mm_iload d_M_levy_117 rfl ?_
                refine mm_iload d_M_levy_119 rfl ?_
                refine mm_iorN d_M_levy_121 ?_
                refine mm_ist5 d_M_levy_122 ?_
                refine mm_inc7N d_M_levy_124 ?_
                refine mm_goto d_M_levy_127 ?_
                first
                  | exact ih2 _ _ (apK_s1 hu c_84 c_107)
                  | exact ex0 _ _ _ (by omega) (fun z => z.2 (by unfold apI apN; rw [apK_none' (apK_s2 hu c_84 c_107) (by omega)]; rfl))
                  | (rw [Nat.or_zero]; exact ih2 _ _ (apK_s0 hu c_84))
                  | exact absurd (Nat.and_zero u) c_107
              · refine mm_ciN 1 d_M_levy_110 rfl ?_
                refine mm_goto d_M_levy_111 ?_
                refine mm_ist6 d_M_levy_115 ?_
                refine mm_iload d_M_levy_117 rfl ?_
                refine mm_iload d_M_levy_119 rfl ?_
                refine mm_iorN d_M_levy_121 ?_
                refine mm_ist5 d_M_levy_122 ?_
                refine mm_inc7N d_M_levy_124 ?_
                refine mm_goto d_M_levy_127 ?_
                first
                  | exact ih2 _ _ (apK_s1 hu c_84 c_107)
                  | exact ex0 _ _ _ (by omega) (fun z => z.2 (by unfold apI apN; rw [apK_none' (apK_s2 hu c_84 c_107) (by omega)]; rfl))
                  | (rw [Nat.or_zero]; exact ih2 _ _ (apK_s0 hu c_84))
                  | exact absurd (Nat.and_zero u) c_107
            · refine mm_aload d_M_levy_87 rfl ?_
              refine mm_ciN 38 d_M_levy_88 rfl ?_
              refine mm_iload d_M_levy_90 rfl ?_
              refine mm_iaddN d_M_levy_92 ?_
              refine mm_v1i d_M_levy_93 (sk_o_71 hM) (sp_M_ofN hH (by omega) (hH.f5 (by omega)) ?_)
              refine mm_goto d_M_levy_96 ?_
              refine mm_ist8 d_M_levy_100 ?_
              refine mm_iload d_M_levy_102 rfl ?_
              refine mm_iload d_M_levy_104 rfl ?_
              refine mm_iandN d_M_levy_106 ?_
              refine mm_if_neN d_M_levy_107 (by first | omega | exact bt8_lt31 _ _ | exact godB_lt31 _ _ _ | exact pop_lt31 _ | assumption | exact b31 (hW.gp (by omega)) | exact b31 (hW.ne (by omega)) | exact b31 (hW.op (by omega)) | exact and31 (hW.gp (by omega)) | exact and31 (hW.ne (by omega)) | exact and31 (hW.op (by omega)) | exact and31 (by assumption) | exact and31r (hW.ne (by omega)) | exact and31r (hW.gp (by omega)) | exact and31r (by decide)) (fun c_107 => ?_) (fun c_107 => ?_)
              · refine mm_ciN 0 d_M_levy_114 rfl ?_
                refine mm_ist6 d_M_levy_115 ?_
                refine mm_iload d_M_levy_117 rfl ?_
                refine mm_iload d_M_levy_119 rfl ?_
                refine mm_iorN d_M_levy_121 ?_
                refine mm_ist5 d_M_levy_122 ?_
                refine mm_inc7N d_M_levy_124 ?_
                refine mm_goto d_M_levy_127 ?_
                first
                  | exact ih2 _ _ (apK_s1 hu c_84 c_107)
                  | exact ex0 _ _ _ (by omega) (fun z => z.2 (by unfold apI apN; rw [apK_none' (apK_s2 hu c_84 c_107) (by omega)]; rfl))
                  | (rw [Nat.or_zero]; exact ih2 _ _ (apK_s0 hu c_84))
                  | exact absurd (Nat.and_zero u) c_107
              · refine mm_ciN 1 d_M_levy_110 rfl ?_
                refine mm_goto d_M_levy_111 ?_
                refine mm_ist6 d_M_levy_115 ?_
                refine mm_iload d_M_levy_117 rfl ?_
                refine mm_iload d_M_levy_119 rfl ?_
                refine mm_iorN d_M_levy_121 ?_
                refine mm_ist5 d_M_levy_122 ?_
                refine mm_inc7N d_M_levy_124 ?_
                refine mm_goto d_M_levy_127 ?_
                first
                  | exact ih2 _ _ (apK_s1 hu c_84 c_107)
                  | exact ex0 _ _ _ (by omega) (fun z => z.2 (by unfold apI apN; rw [apK_none' (apK_s2 hu c_84 c_107) (by omega)]; rfl))
                  | (rw [Nat.or_zero]; exact ih2 _ _ (apK_s0 hu c_84))
                  | exact absurd (Nat.and_zero u) c_107
        refine mm_iload d_M_levy_30 rfl ?_
        refine mm_ciN 1 d_M_levy_32 rfl ?_
        refine mm_aload d_M_levy_33 rfl ?_
        refine mm_getIN d_M_levy_34 rfl (sk_o_71 hM) hH.w ?_
        refine mm_ishl1N d_M_levy_37 (by omega) ?_
        refine mm_icmp_geN d_M_levy_38 (by first | omega | exact bt8_lt31 _ _ | exact godB_lt31 _ _ _ | exact pop_lt31 _ | assumption | exact b31 (hW.gp (by omega)) | exact b31 (hW.ne (by omega)) | exact b31 (hW.op (by omega)) | exact and31 (hW.gp (by omega)) | exact and31 (hW.ne (by omega)) | exact and31 (hW.op (by omega)) | exact and31 (by assumption) | exact and31r (hW.ne (by omega)) | exact and31r (hW.gp (by omega)) | exact and31r (by decide)) (by first | omega | exact bt8_lt31 _ _ | exact godB_lt31 _ _ _ | exact pop_lt31 _ | assumption | exact b31 (hW.gp (by omega)) | exact b31 (hW.ne (by omega)) | exact b31 (hW.op (by omega)) | exact and31 (hW.gp (by omega)) | exact and31 (hW.ne (by omega)) | exact and31 (hW.op (by omega)) | exact and31 (by assumption) | exact and31r (hW.ne (by omega)) | exact and31r (hW.gp (by omega)) | exact and31r (by decide)) (fun c_38 => False.elim (by omega)) (fun c_38 => ?_)
        refine mm_ciN 0 d_M_levy_41 rfl ?_
        refine mm_ist5 d_M_levy_42 ?_
        refine mm_iload d_M_levy_44 rfl ?_
        refine mm_s1i d_M_levy_46 (sp_M_ones (by first | omega | assumption | exact hW.gp (by omega) | exact hW.ne (by omega) | exact hW.op (by omega) | exact and_lt256 (hW.gp (by omega)) | exact and_lt256 (hW.ne (by omega)) | exact and_lt256 (hW.op (by omega)) | exact and_lt256 (by assumption)) ?_)
        refine mm_iload d_M_levy_49 rfl ?_
        refine mm_icmp_neN d_M_levy_50 (by first | omega | exact bt8_lt31 _ _ | exact godB_lt31 _ _ _ | exact pop_lt31 _ | assumption | exact b31 (hW.gp (by omega)) | exact b31 (hW.ne (by omega)) | exact b31 (hW.op (by omega)) | exact and31 (hW.gp (by omega)) | exact and31 (hW.ne (by omega)) | exact and31 (hW.op (by omega)) | exact and31 (by assumption) | exact and31r (hW.ne (by omega)) | exact and31r (hW.gp (by omega)) | exact and31r (by decide)) (by first | omega | exact bt8_lt31 _ _ | exact godB_lt31 _ _ _ | exact pop_lt31 _ | assumption | exact b31 (hW.gp (by omega)) | exact b31 (hW.ne (by omega)) | exact b31 (hW.op (by omega)) | exact and31 (hW.gp (by omega)) | exact and31 (hW.ne (by omega)) | exact and31 (hW.op (by omega)) | exact and31 (by assumption) | exact and31r (hW.ne (by omega)) | exact and31r (hW.gp (by omega)) | exact and31r (by decide)) (fun c_50 => ?_) (fun c_50 => ?_)
        · refine mm_ciN 0 d_M_levy_57 rfl ?_
          refine mm_ist6 d_M_levy_58 ?_
          refine mm_ciN 0 d_M_levy_60 rfl ?_
          refine mm_ist7 d_M_levy_61 ?_
          first
            | exact ex0 0 _ _ (by decide) (fun z => c_50 z.1)
            | exact inn c_50 _
        · refine mm_ciN 1 d_M_levy_53 rfl ?_
          refine mm_goto d_M_levy_54 ?_
          refine mm_ist6 d_M_levy_58 ?_
          refine mm_ciN 0 d_M_levy_60 rfl ?_
          refine mm_ist7 d_M_levy_61 ?_
          first
            | exact ex0 0 _ _ (by decide) (fun z => c_50 z.1)
            | exact inn c_50 _
/-- the dearest work of the first k -/
def gtB (f : Nat → Nat) (w : Nat) : Option Nat → Bool
  | none => true
  | some b => decide (f b < f w)
def dearK (D : mm_D) : Nat → Option Nat
  | 0 => none
  | k + 1 => if gtB (dwo D) k (dearK D k) = true then some k else dearK D k
theorem dearK_lt {D : mm_D} : ∀ {k b}, dearK D k = some b → b < k
  | 0, b, h => by cases h
  | k + 1, b, h => by
    unfold dearK at h
    split at h
    · cases h; omega
    · have := dearK_lt h; omega
theorem sp_Co_dearest {X : mm_X} {μ : mm_M} {q : Int32 → mm_M → Prop} {a : Nat} {D : mm_D} (hCD : CoD μ a D) (hW : WfD D) (h : q (oI (dearK D (dw D))) μ) : mm_Ci X 0 0 0 k_Co_dearest [.ref a] μ q := by
  show mm_T X 0 0 0 k_Co_dearest 0 [some (.ref a), none, none] [] μ _
  have hw6 := hW.2.1
  refine mm_ci d_Co_dearest_0 ?_
  refine mm_ist1 d_Co_dearest_1 ?_
  refine mm_ciN 0 d_Co_dearest_2 rfl ?_
  refine mm_ist2 d_Co_dearest_3 ?_
  refine mm_up (P := fun i => mm_T X _ 0 0 k_Co_dearest 4 [some (.ref a), some (.int (oI (dearK D i))), some (.int (nI i))] [] μ _) (dw D) ?_ (fun i hi ih => ?_)
  · refine mm_iload d_Co_dearest_4 rfl ?_
    refine mm_aload d_Co_dearest_5 rfl ?_
    refine mm_getIN d_Co_dearest_6 rfl hCD.1.1 hCD.w ?_
    refine mm_icmp_geN d_Co_dearest_9 (by first | omega | exact bt8_lt31 _ _ | exact godB_lt31 _ _ _ | exact pop_lt31 _ | assumption | exact b31 (hW.gp (by omega)) | exact b31 (hW.ne (by omega)) | exact b31 (hW.op (by omega)) | exact and31 (hW.gp (by omega)) | exact and31 (hW.ne (by omega)) | exact and31 (hW.op (by omega)) | exact and31 (by assumption) | exact and31r (hW.ne (by omega)) | exact and31r (hW.gp (by omega)) | exact and31r (by decide)) (by first | omega | exact bt8_lt31 _ _ | exact godB_lt31 _ _ _ | exact pop_lt31 _ | assumption | exact b31 (hW.gp (by omega)) | exact b31 (hW.ne (by omega)) | exact b31 (hW.op (by omega)) | exact and31 (hW.gp (by omega)) | exact and31 (hW.ne (by omega)) | exact and31 (hW.op (by omega)) | exact and31 (by assumption) | exact and31r (hW.ne (by omega)) | exact and31r (hW.gp (by omega)) | exact and31r (by decide)) (fun c_9 => ?_) (fun c_9 => False.elim (by omega))
    refine mm_iload d_Co_dearest_40 rfl ?_
    exact mm_ri d_Co_dearest_41 h
  · have hwo := hW.wo (j := i) (by omega)
    rcases hb : dearK D i with _ | b
    · refine mm_iload d_Co_dearest_4 rfl ?_
      refine mm_aload d_Co_dearest_5 rfl ?_
      refine mm_getIN d_Co_dearest_6 rfl hCD.1.1 hCD.w ?_
      refine mm_icmp_geN d_Co_dearest_9 (by first | omega | exact bt8_lt31 _ _ | exact godB_lt31 _ _ _ | exact pop_lt31 _ | assumption | exact b31 (hW.gp (by omega)) | exact b31 (hW.ne (by omega)) | exact b31 (hW.op (by omega)) | exact and31 (hW.gp (by omega)) | exact and31 (hW.ne (by omega)) | exact and31 (hW.op (by omega)) | exact and31 (by assumption) | exact and31r (hW.ne (by omega)) | exact and31r (hW.gp (by omega)) | exact and31r (by decide)) (by first | omega | exact bt8_lt31 _ _ | exact godB_lt31 _ _ _ | exact pop_lt31 _ | assumption | exact b31 (hW.gp (by omega)) | exact b31 (hW.ne (by omega)) | exact b31 (hW.op (by omega)) | exact and31 (hW.gp (by omega)) | exact and31 (hW.ne (by omega)) | exact and31 (hW.op (by omega)) | exact and31 (by assumption) | exact and31r (hW.ne (by omega)) | exact and31r (hW.gp (by omega)) | exact and31r (by decide)) (fun c_9 => False.elim (by omega)) (fun c_9 => ?_)
      refine mm_iload d_Co_dearest_12 rfl ?_
      refine mm_ci d_Co_dearest_13 ?_
      refine mm_icmp_eqS d_Co_dearest_14 ?_
      refine mm_iload d_Co_dearest_32 rfl ?_
      refine mm_ist1 d_Co_dearest_33 ?_
      refine mm_inc2N d_Co_dearest_34 ?_
      refine mm_goto d_Co_dearest_37 ?_
      rw [show dearK D (i + 1) = some i by unfold dearK; rw [hb]; rfl] at ih
      exact ih
    · have hb2 := dearK_lt hb
      have hwo2 := hW.wo (j := b) (by omega)
      refine mm_iload d_Co_dearest_4 rfl ?_
      refine mm_aload d_Co_dearest_5 rfl ?_
      refine mm_getIN d_Co_dearest_6 rfl hCD.1.1 hCD.w ?_
      refine mm_icmp_geN d_Co_dearest_9 (by first | omega | exact bt8_lt31 _ _ | exact godB_lt31 _ _ _ | exact pop_lt31 _ | assumption | exact b31 (hW.gp (by omega)) | exact b31 (hW.ne (by omega)) | exact b31 (hW.op (by omega)) | exact and31 (hW.gp (by omega)) | exact and31 (hW.ne (by omega)) | exact and31 (hW.op (by omega)) | exact and31 (by assumption) | exact and31r (hW.ne (by omega)) | exact and31r (hW.gp (by omega)) | exact and31r (by decide)) (by first | omega | exact bt8_lt31 _ _ | exact godB_lt31 _ _ _ | exact pop_lt31 _ | assumption | exact b31 (hW.gp (by omega)) | exact b31 (hW.ne (by omega)) | exact b31 (hW.op (by omega)) | exact and31 (hW.gp (by omega)) | exact and31 (hW.ne (by omega)) | exact and31 (hW.op (by omega)) | exact and31 (by assumption) | exact and31r (hW.ne (by omega)) | exact and31r (hW.gp (by omega)) | exact and31r (by decide)) (fun c_9 => False.elim (by omega)) (fun c_9 => ?_)
      refine mm_iload d_Co_dearest_12 rfl ?_
      refine mm_ci d_Co_dearest_13 ?_
      refine mm_icmp_eqM1 d_Co_dearest_14 (by first | omega | exact bt8_lt31 _ _ | exact godB_lt31 _ _ _ | exact pop_lt31 _ | assumption | exact b31 (hW.gp (by omega)) | exact b31 (hW.ne (by omega)) | exact b31 (hW.op (by omega)) | exact and31 (hW.gp (by omega)) | exact and31 (hW.ne (by omega)) | exact and31 (hW.op (by omega)) | exact and31 (by assumption) | exact and31r (hW.ne (by omega)) | exact and31r (hW.gp (by omega)) | exact and31r (by decide)) ?_
      refine mm_aload d_Co_dearest_17 rfl ?_
      refine mm_getP d_Co_dearest_18 rfl hCD.1.1 (CoS_p4 hCD.1) ?_
      refine mm_iload d_Co_dearest_21 rfl ?_
      refine mm_ialdN d_Co_dearest_22 (CoS_a4 hCD.1) (by omega) (by decide) (hCD.f4 (by omega)) ?_
      refine mm_aload d_Co_dearest_23 rfl ?_
      refine mm_getP d_Co_dearest_24 rfl hCD.1.1 (CoS_p4 hCD.1) ?_
      refine mm_iload d_Co_dearest_27 rfl ?_
      refine mm_ialdN d_Co_dearest_28 (CoS_a4 hCD.1) (by omega) (by decide) (hCD.f4 (by omega)) ?_
      refine mm_icmp_leN d_Co_dearest_29 (by first | omega | exact bt8_lt31 _ _ | exact godB_lt31 _ _ _ | exact pop_lt31 _ | assumption | exact b31 (hW.gp (by omega)) | exact b31 (hW.ne (by omega)) | exact b31 (hW.op (by omega)) | exact and31 (hW.gp (by omega)) | exact and31 (hW.ne (by omega)) | exact and31 (hW.op (by omega)) | exact and31 (by assumption) | exact and31r (hW.ne (by omega)) | exact and31r (hW.gp (by omega)) | exact and31r (by decide)) (by first | omega | exact bt8_lt31 _ _ | exact godB_lt31 _ _ _ | exact pop_lt31 _ | assumption | exact b31 (hW.gp (by omega)) | exact b31 (hW.ne (by omega)) | exact b31 (hW.op (by omega)) | exact and31 (hW.gp (by omega)) | exact and31 (hW.ne (by omega)) | exact and31 (hW.op (by omega)) | exact and31 (by assumption) | exact and31r (hW.ne (by omega)) | exact and31r (hW.gp (by omega)) | exact and31r (by decide)) (fun c_29 => ?_) (fun c_29 => ?_)
      · refine mm_inc2N d_Co_dearest_34 ?_
        refine mm_goto d_Co_dearest_37 ?_
        first
          | (rw [show dearK D (i + 1) = some i by unfold dearK; rw [hb]; simp [gtB] <;> omega] at ih; exact ih)
          | (rw [show dearK D (i + 1) = some b by unfold dearK; rw [hb]; simp [gtB] <;> omega] at ih; exact ih)
      · refine mm_iload d_Co_dearest_32 rfl ?_
        refine mm_ist1 d_Co_dearest_33 ?_
        refine mm_inc2N d_Co_dearest_34 ?_
        refine mm_goto d_Co_dearest_37 ?_
        first
          | (rw [show dearK D (i + 1) = some i by unfold dearK; rw [hb]; simp [gtB] <;> omega] at ih; exact ih)
          | (rw [show dearK D (i + 1) = some b by unfold dearK; rw [hb]; simp [gtB] <;> omega] at ih; exact ih)
theorem sp_M_dearest {X : mm_X} {μ : mm_M} {q : Int32 → mm_M → Prop} {k : Nat} {D : mm_D} (hH : Hd μ k D) (h : q (oI (dearK D (dw D))) μ) : mm_Ci X 1 0 0 k_M_dearest [.ref 71] μ q := by
  show mm_T X 1 0 0 k_M_dearest 0 [some (.ref 71), none, none] [] μ _
  have hM := hH.1
  have hW := hH.wf
  have hw6 := hW.2.1
  refine mm_ci d_M_dearest_0 ?_
  refine mm_ist1 d_M_dearest_1 ?_
  refine mm_ciN 0 d_M_dearest_2 rfl ?_
  refine mm_ist2 d_M_dearest_3 ?_
  refine mm_up (P := fun i => mm_T X _ 0 0 k_M_dearest 4 [some (.ref 71), some (.int (oI (dearK D i))), some (.int (nI i))] [] μ _) (dw D) ?_ (fun i hi ih => ?_)
  · refine mm_iload d_M_dearest_4 rfl ?_
    refine mm_aload d_M_dearest_5 rfl ?_
    refine mm_getIN d_M_dearest_6 rfl (sk_o_71 hM) hH.w ?_
    refine mm_icmp_geN d_M_dearest_9 (by first | omega | exact bt8_lt31 _ _ | exact godB_lt31 _ _ _ | exact pop_lt31 _ | assumption | exact b31 (hW.gp (by omega)) | exact b31 (hW.ne (by omega)) | exact b31 (hW.op (by omega)) | exact and31 (hW.gp (by omega)) | exact and31 (hW.ne (by omega)) | exact and31 (hW.op (by omega)) | exact and31 (by assumption) | exact and31r (hW.ne (by omega)) | exact and31r (hW.gp (by omega)) | exact and31r (by decide)) (by first | omega | exact bt8_lt31 _ _ | exact godB_lt31 _ _ _ | exact pop_lt31 _ | assumption | exact b31 (hW.gp (by omega)) | exact b31 (hW.ne (by omega)) | exact b31 (hW.op (by omega)) | exact and31 (hW.gp (by omega)) | exact and31 (hW.ne (by omega)) | exact and31 (hW.op (by omega)) | exact and31 (by assumption) | exact and31r (hW.ne (by omega)) | exact and31r (hW.gp (by omega)) | exact and31r (by decide)) (fun c_9 => ?_) (fun c_9 => False.elim (by omega))
    refine mm_iload d_M_dearest_48 rfl ?_
    exact mm_ri d_M_dearest_49 h
  · have hwo := hW.wo (j := i) (by omega)
    rcases hb : dearK D i with _ | b
    · refine mm_iload d_M_dearest_4 rfl ?_
      refine mm_aload d_M_dearest_5 rfl ?_
      refine mm_getIN d_M_dearest_6 rfl (sk_o_71 hM) hH.w ?_
      refine mm_icmp_geN d_M_dearest_9 (by first | omega | exact bt8_lt31 _ _ | exact godB_lt31 _ _ _ | exact pop_lt31 _ | assumption | exact b31 (hW.gp (by omega)) | exact b31 (hW.ne (by omega)) | exact b31 (hW.op (by omega)) | exact and31 (hW.gp (by omega)) | exact and31 (hW.ne (by omega)) | exact and31 (hW.op (by omega)) | exact and31 (by assumption) | exact and31r (hW.ne (by omega)) | exact and31r (hW.gp (by omega)) | exact and31r (by decide)) (by first | omega | exact bt8_lt31 _ _ | exact godB_lt31 _ _ _ | exact pop_lt31 _ | assumption | exact b31 (hW.gp (by omega)) | exact b31 (hW.ne (by omega)) | exact b31 (hW.op (by omega)) | exact and31 (hW.gp (by omega)) | exact and31 (hW.ne (by omega)) | exact and31 (hW.op (by omega)) | exact and31 (by assumption) | exact and31r (hW.ne (by omega)) | exact and31r (hW.gp (by omega)) | exact and31r (by decide)) (fun c_9 => False.elim (by omega)) (fun c_9 => ?_)
      refine mm_iload d_M_dearest_12 rfl ?_
      refine mm_ci d_M_dearest_13 ?_
      refine mm_icmp_eqS d_M_dearest_14 ?_
      refine mm_iload d_M_dearest_36 rfl ?_
      refine mm_goto d_M_dearest_37 ?_
      refine mm_ist1 d_M_dearest_41 ?_
      refine mm_inc2N d_M_dearest_42 ?_
      refine mm_goto d_M_dearest_45 ?_
      rw [show dearK D (i + 1) = some i by unfold dearK; rw [hb]; rfl] at ih
      exact ih
    · have hb2 := dearK_lt hb
      have hwo2 := hW.wo (j := b) (by omega)
      refine mm_iload d_M_dearest_4 rfl ?_
      refine mm_aload d_M_dearest_5 rfl ?_
      refine mm_getIN d_M_dearest_6 rfl (sk_o_71 hM) hH.w ?_
      refine mm_icmp_geN d_M_dearest_9 (by first | omega | exact bt8_lt31 _ _ | exact godB_lt31 _ _ _ | exact pop_lt31 _ | assumption | exact b31 (hW.gp (by omega)) | exact b31 (hW.ne (by omega)) | exact b31 (hW.op (by omega)) | exact and31 (hW.gp (by omega)) | exact and31 (hW.ne (by omega)) | exact and31 (hW.op (by omega)) | exact and31 (by assumption) | exact and31r (hW.ne (by omega)) | exact and31r (hW.gp (by omega)) | exact and31r (by decide)) (by first | omega | exact bt8_lt31 _ _ | exact godB_lt31 _ _ _ | exact pop_lt31 _ | assumption | exact b31 (hW.gp (by omega)) | exact b31 (hW.ne (by omega)) | exact b31 (hW.op (by omega)) | exact and31 (hW.gp (by omega)) | exact and31 (hW.ne (by omega)) | exact and31 (hW.op (by omega)) | exact and31 (by assumption) | exact and31r (hW.ne (by omega)) | exact and31r (hW.gp (by omega)) | exact and31r (by decide)) (fun c_9 => False.elim (by omega)) (fun c_9 => ?_)
      refine mm_iload d_M_dearest_12 rfl ?_
      refine mm_ci d_M_dearest_13 ?_
      refine mm_icmp_eqM1 d_M_dearest_14 (by first | omega | exact bt8_lt31 _ _ | exact godB_lt31 _ _ _ | exact pop_lt31 _ | assumption | exact b31 (hW.gp (by omega)) | exact b31 (hW.ne (by omega)) | exact b31 (hW.op (by omega)) | exact and31 (hW.gp (by omega)) | exact and31 (hW.ne (by omega)) | exact and31 (hW.op (by omega)) | exact and31 (by assumption) | exact and31r (hW.ne (by omega)) | exact and31r (hW.gp (by omega)) | exact and31r (by decide)) ?_
      refine mm_aload d_M_dearest_17 rfl ?_
      refine mm_ciN 32 d_M_dearest_18 rfl ?_
      refine mm_iload d_M_dearest_20 rfl ?_
      refine mm_iaddN d_M_dearest_21 ?_
      refine mm_v1i d_M_dearest_22 (sk_o_71 hM) (sp_M_ofN hH (by omega) (hH.f4 (by omega)) ?_)
      refine mm_aload d_M_dearest_25 rfl ?_
      refine mm_ciN 32 d_M_dearest_26 rfl ?_
      refine mm_iload d_M_dearest_28 rfl ?_
      refine mm_iaddN d_M_dearest_29 ?_
      refine mm_v1i d_M_dearest_30 (sk_o_71 hM) (sp_M_ofN hH (by omega) (hH.f4 (by omega)) ?_)
      refine mm_icmp_leN d_M_dearest_33 (by first | omega | exact bt8_lt31 _ _ | exact godB_lt31 _ _ _ | exact pop_lt31 _ | assumption | exact b31 (hW.gp (by omega)) | exact b31 (hW.ne (by omega)) | exact b31 (hW.op (by omega)) | exact and31 (hW.gp (by omega)) | exact and31 (hW.ne (by omega)) | exact and31 (hW.op (by omega)) | exact and31 (by assumption) | exact and31r (hW.ne (by omega)) | exact and31r (hW.gp (by omega)) | exact and31r (by decide)) (by first | omega | exact bt8_lt31 _ _ | exact godB_lt31 _ _ _ | exact pop_lt31 _ | assumption | exact b31 (hW.gp (by omega)) | exact b31 (hW.ne (by omega)) | exact b31 (hW.op (by omega)) | exact and31 (hW.gp (by omega)) | exact and31 (hW.ne (by omega)) | exact and31 (hW.op (by omega)) | exact and31 (by assumption) | exact and31r (hW.ne (by omega)) | exact and31r (hW.gp (by omega)) | exact and31r (by decide)) (fun c_33 => ?_) (fun c_33 => ?_)
      · refine mm_iload d_M_dearest_40 rfl ?_
        refine mm_ist1 d_M_dearest_41 ?_
        refine mm_inc2N d_M_dearest_42 ?_
        refine mm_goto d_M_dearest_45 ?_
        first
          | (rw [show dearK D (i + 1) = some i by unfold dearK; rw [hb]; simp [gtB] <;> omega] at ih; exact ih)
          | (rw [show dearK D (i + 1) = some b by unfold dearK; rw [hb]; simp [gtB] <;> omega] at ih; exact ih)
      · refine mm_iload d_M_dearest_36 rfl ?_
        refine mm_goto d_M_dearest_37 ?_
        refine mm_ist1 d_M_dearest_41 ?_
        refine mm_inc2N d_M_dearest_42 ?_
        refine mm_goto d_M_dearest_45 ?_
        first
          | (rw [show dearK D (i + 1) = some i by unfold dearK; rw [hb]; simp [gtB] <;> omega] at ih; exact ih)
          | (rw [show dearK D (i + 1) = some b by unfold dearK; rw [hb]; simp [gtB] <;> omega] at ih; exact ih)
def loneK (D : mm_D) : Nat → Nat
  | 0 => 0
  | k + 1 => loneK D k ||| (if dgp D k &&& unionN D ((2 ^ dn D - 1) &&& (2 ^ k ^^^ 4294967295)) = 0 then 2 ^ k else 0)
theorem sp_Cr_loners {X : mm_X} {μ : mm_M} {q : Int32 → mm_M → Prop} {a : Nat} {D : mm_D} (hCD : CoD μ a D) (hW : WfD D) (h : q (nI (loneK D (dn D))) μ) : mm_Ci X 2 0 0 k_Cr_loners [.ref a] μ q := by
  show mm_T X 2 0 0 k_Cr_loners 0 [some (.ref a), none, none, none] [] μ _
  have hn6 := hW.1
  have hal := all_lt hW
  refine mm_ciN 0 d_Cr_loners_0 rfl ?_
  refine mm_ist1 d_Cr_loners_1 ?_
  refine mm_ciN 0 d_Cr_loners_2 rfl ?_
  refine mm_ist2 d_Cr_loners_3 ?_
  refine mm_up (P := fun i => ∀ l3 : Option Value, mm_T X _ 0 0 k_Cr_loners 4 [some (.ref a), some (.int (nI (loneK D i))), some (.int (nI i)), l3] [] μ _) (dn D) ?_ (fun i hi ih => ?_) none
  · intro l3
    refine mm_iload d_Cr_loners_4 rfl ?_
    refine mm_aload d_Cr_loners_5 rfl ?_
    refine mm_getIN d_Cr_loners_6 rfl hCD.1.1 hCD.n ?_
    refine mm_icmp_geN d_Cr_loners_9 (by first | omega | exact bt8_lt31 _ _ | exact godB_lt31 _ _ _ | exact pop_lt31 _ | assumption | exact b31 (hW.gp (by omega)) | exact b31 (hW.ne (by omega)) | exact b31 (hW.op (by omega)) | exact and31 (hW.gp (by omega)) | exact and31 (hW.ne (by omega)) | exact and31 (hW.op (by omega)) | exact and31 (by assumption) | exact and31r (hW.ne (by omega)) | exact and31r (hW.gp (by omega)) | exact and31r (by decide)) (by first | omega | exact bt8_lt31 _ _ | exact godB_lt31 _ _ _ | exact pop_lt31 _ | assumption | exact b31 (hW.gp (by omega)) | exact b31 (hW.ne (by omega)) | exact b31 (hW.op (by omega)) | exact and31 (hW.gp (by omega)) | exact and31 (hW.ne (by omega)) | exact and31 (hW.op (by omega)) | exact and31 (by assumption) | exact and31r (hW.ne (by omega)) | exact and31r (hW.gp (by omega)) | exact and31r (by decide)) (fun c_9 => ?_) (fun c_9 => False.elim (by omega))
    refine mm_iload d_Cr_loners_50 rfl ?_
    exact mm_ri d_Cr_loners_51 h
  · intro l3
    replace ih := ih (some (.int (nI (unionN D ((2 ^ dn D - 1) &&& (2 ^ i ^^^ 4294967295))))))
    refine mm_iload d_Cr_loners_4 rfl ?_
    refine mm_aload d_Cr_loners_5 rfl ?_
    refine mm_getIN d_Cr_loners_6 rfl hCD.1.1 hCD.n ?_
    refine mm_icmp_geN d_Cr_loners_9 (by first | omega | exact bt8_lt31 _ _ | exact godB_lt31 _ _ _ | exact pop_lt31 _ | assumption | exact b31 (hW.gp (by omega)) | exact b31 (hW.ne (by omega)) | exact b31 (hW.op (by omega)) | exact and31 (hW.gp (by omega)) | exact and31 (hW.ne (by omega)) | exact and31 (hW.op (by omega)) | exact and31 (by assumption) | exact and31r (hW.ne (by omega)) | exact and31r (hW.gp (by omega)) | exact and31r (by decide)) (by first | omega | exact bt8_lt31 _ _ | exact godB_lt31 _ _ _ | exact pop_lt31 _ | assumption | exact b31 (hW.gp (by omega)) | exact b31 (hW.ne (by omega)) | exact b31 (hW.op (by omega)) | exact and31 (hW.gp (by omega)) | exact and31 (hW.ne (by omega)) | exact and31 (hW.op (by omega)) | exact and31 (by assumption) | exact and31r (hW.ne (by omega)) | exact and31r (hW.gp (by omega)) | exact and31r (by decide)) (fun c_9 => False.elim (by omega)) (fun c_9 => ?_)
    refine mm_aload d_Cr_loners_12 rfl ?_
    refine mm_aload d_Cr_loners_13 rfl ?_
    refine mm_v0i d_Cr_loners_14 hCD.1.1 (sp_Co_allChildrenN hCD hW ?_)
    refine mm_ciN 1 d_Cr_loners_17 rfl ?_
    refine mm_iload d_Cr_loners_18 rfl ?_
    refine mm_ishl1N d_Cr_loners_19 (by omega) ?_
    refine mm_ci d_Cr_loners_20 ?_
    refine mm_inotN d_Cr_loners_21 ?_
    refine mm_iandN d_Cr_loners_22 ?_
    refine mm_s2i d_Cr_loners_23 (sp_Cr_weathersOf hCD hW (by first | omega | assumption | exact hW.gp (by omega) | exact hW.ne (by omega) | exact hW.op (by omega) | exact and_lt256 (hW.gp (by omega)) | exact and_lt256 (hW.ne (by omega)) | exact and_lt256 (hW.op (by omega)) | exact and_lt256 (by assumption)) ?_)
    refine mm_ist3 d_Cr_loners_26 ?_
    refine mm_aload d_Cr_loners_27 rfl ?_
    refine mm_getP d_Cr_loners_28 rfl hCD.1.1 (CoS_p3 hCD.1) ?_
    refine mm_iload d_Cr_loners_31 rfl ?_
    refine mm_ialdN d_Cr_loners_32 (CoS_a3 hCD.1) (by omega) (by decide) (hCD.f3 (by omega)) ?_
    refine mm_iload d_Cr_loners_33 rfl ?_
    refine mm_iandN d_Cr_loners_34 ?_
    refine mm_if_neN d_Cr_loners_35 (by first | omega | exact bt8_lt31 _ _ | exact godB_lt31 _ _ _ | exact pop_lt31 _ | assumption | exact b31 (hW.gp (by omega)) | exact b31 (hW.ne (by omega)) | exact b31 (hW.op (by omega)) | exact and31 (hW.gp (by omega)) | exact and31 (hW.ne (by omega)) | exact and31 (hW.op (by omega)) | exact and31 (by assumption) | exact and31r (hW.ne (by omega)) | exact and31r (hW.gp (by omega)) | exact and31r (by decide)) (fun c_35 => ?_) (fun c_35 => ?_)
    · refine mm_inc2N d_Cr_loners_44 ?_
      refine mm_goto d_Cr_loners_47 ?_
      first
        | exact ih
        | (have z := ih; simp only [loneK, if_pos c_35] at z; exact z)
        | (have z := ih; simp only [loneK, if_pos c_35, Nat.or_zero, Nat.add_zero] at z; exact z)
        | (have z := ih; simp only [loneK, if_pos c_35, Nat.mul_one] at z; exact z)
        | (have z := ih; simp only [loneK, if_neg c_35] at z; exact z)
        | (have z := ih; simp only [loneK, if_neg c_35, Nat.or_zero, Nat.add_zero] at z; exact z)
        | (have z := ih; simp only [loneK, if_neg c_35, Nat.mul_one] at z; exact z)
        | (have z := ih; simp only [loneK, if_neg (Nat.not_lt.mpr c_35)] at z; exact z)
        | (have z := ih; simp only [loneK, if_neg (Nat.not_lt.mpr c_35), Nat.or_zero, Nat.add_zero] at z; exact z)
        | (have z := ih; simp only [loneK, if_neg (Nat.not_lt.mpr c_35), Nat.mul_one] at z; exact z)
        | (have z := ih; simp only [loneK, if_neg (Nat.not_le.mpr c_35)] at z; exact z)
        | (have z := ih; simp only [loneK, if_neg (Nat.not_le.mpr c_35), Nat.or_zero, Nat.add_zero] at z; exact z)
        | (have z := ih; simp only [loneK, if_neg (Nat.not_le.mpr c_35), Nat.mul_one] at z; exact z)
    · refine mm_iload d_Cr_loners_38 rfl ?_
      refine mm_ciN 1 d_Cr_loners_39 rfl ?_
      refine mm_iload d_Cr_loners_40 rfl ?_
      refine mm_ishl1N d_Cr_loners_41 (by omega) ?_
      refine mm_iorN d_Cr_loners_42 ?_
      refine mm_ist1 d_Cr_loners_43 ?_
      refine mm_inc2N d_Cr_loners_44 ?_
      refine mm_goto d_Cr_loners_47 ?_
      first
        | exact ih
        | (have z := ih; simp only [loneK, if_pos c_35] at z; exact z)
        | (have z := ih; simp only [loneK, if_pos c_35, Nat.or_zero, Nat.add_zero] at z; exact z)
        | (have z := ih; simp only [loneK, if_pos c_35, Nat.mul_one] at z; exact z)
        | (have z := ih; simp only [loneK, if_neg c_35] at z; exact z)
        | (have z := ih; simp only [loneK, if_neg c_35, Nat.or_zero, Nat.add_zero] at z; exact z)
        | (have z := ih; simp only [loneK, if_neg c_35, Nat.mul_one] at z; exact z)
        | (have z := ih; simp only [loneK, if_neg (Nat.not_lt.mpr c_35)] at z; exact z)
        | (have z := ih; simp only [loneK, if_neg (Nat.not_lt.mpr c_35), Nat.or_zero, Nat.add_zero] at z; exact z)
        | (have z := ih; simp only [loneK, if_neg (Nat.not_lt.mpr c_35), Nat.mul_one] at z; exact z)
        | (have z := ih; simp only [loneK, if_neg (Nat.not_le.mpr c_35)] at z; exact z)
        | (have z := ih; simp only [loneK, if_neg (Nat.not_le.mpr c_35), Nat.or_zero, Nat.add_zero] at z; exact z)
        | (have z := ih; simp only [loneK, if_neg (Nat.not_le.mpr c_35), Nat.mul_one] at z; exact z)
theorem pair_lone {X : mm_X} {k : Nat} {μ : mm_M} (hJ : JJ k μ) (y1 y2 : Int32) : PairI X (JJ (k + 1)) k_G_lone k_M_lone [.int y1, .int y2] μ := by
  obtain ⟨c, h02, h0, m0, hv⟩ := hJ.coast y1
  have hM := hJ.1
  have hw := hJ.2.2.2.up
  rcases hv with hx | ⟨i, D, hi, rfl, hW, hCD, hDM⟩
  · exact pairQ (-2) hJ (d := 2) (d' := 4) (by decide) (by decide) (n_G_lone hM h0 h02 hx ⟨rfl, Fr.rf, hw⟩) (fun μ1 hf => n_M_lone (hf.2.2.2 hM) (by rw [(hf.2.2.1 76 rfl).1]; exact m0) h02 hx (fun μ' hk => ⟨rfl, hk.fr (hf.2.2.2 hM)⟩))
  have hn6 := hW.1
  have hw6 := hW.2.1
  have hal := all_lt hW
  have hal2 := one_le_two_pow (dn D)
  refine pairQ (if y2 = 0 then nI (loneK D (dn D)) else oI (dearK D (dw D))) hJ (d := 12) (d' := 12) (by decide) (by decide) ?_ (fun μ1 hf => ?_)
  · show mm_T X 12 0 0 k_G_lone 0 [some (.ref 0), some (.int (nI i)), some (.int y2), none] [] μ _
    refine mm_aload d_G_lone_0 rfl ?_
    refine mm_getP d_G_lone_1 rfl (sk_o_0 hM) (sk_p_0_0 hM) ?_
    refine mm_iload d_G_lone_4 rfl ?_
    refine mm_v1r d_G_lone_5 (sk_o_1 hM) (sp_To_coastAtI hM h0 h02 hi ?_)
    refine mm_ast3 d_G_lone_8 ?_
    refine mm_aload d_G_lone_9 rfl ?_
    refine mm_ifnonnull d_G_lone_10 ?_
    refine mm_iload d_G_lone_16 rfl ?_
    refine mm_if_eq d_G_lone_17 (fun c_17 => ?_) (fun c_17 => ?_)
    · refine mm_aload d_G_lone_27 rfl ?_
      refine mm_s1i d_G_lone_28 (sp_Cr_loners hCD hW ?_)
      exact mm_ri d_G_lone_31 ⟨by first | exact (if_pos c_17).symm | exact (if_neg c_17).symm, Fr.rf, hw⟩
    · refine mm_aload d_G_lone_20 rfl ?_
      refine mm_v0i d_G_lone_21 hCD.1.1 (sp_Co_dearest hCD hW ?_)
      refine mm_goto d_G_lone_24 ?_
      exact mm_ri d_G_lone_31 ⟨by first | exact (if_pos c_17).symm | exact (if_neg c_17).symm, Fr.rf, hw⟩
  · show mm_T X 12 0 0 k_M_lone 0 [some (.ref 71), some (.int (nI i)), some (.int y2), none, none, none] [] μ1 _
    replace hM := hf.2.2.2 hM
    replace m0 : mm_I μ1 76 0 = nI c := by rw [(hf.2.2.1 76 rfl).1]; exact m0
    replace hDM := hDM.frC hf
    refine mm_aload d_M_lone_0 rfl ?_
    refine mm_ciN 0 d_M_lone_1 rfl ?_
    refine mm_putI d_M_lone_2 rfl (sk_o_71 hM) (Or.inl rfl) ?_
    refine mm_aload d_M_lone_5 rfl ?_
    refine mm_iload d_M_lone_6 rfl ?_
    refine mm_v1i d_M_lone_7 (sk_o_71 hM) (sp_M_handN hM (by first | exact m0 | (rw [mm_sI_off (by decide)]; exact m0)) h02 hi (by first | exact hDM | exact hDM.eq (mm_sI_off (by decide))) hW (fun μ2 g1 hH hZ => ?_))
    replace hM := hH.1
    refine mm_if_neN d_M_lone_10 (by first | omega | exact bt8_lt31 _ _ | exact godB_lt31 _ _ _ | exact pop_lt31 _ | assumption | exact b31 (hW.gp (by omega)) | exact b31 (hW.ne (by omega)) | exact b31 (hW.op (by omega)) | exact and31 (hW.gp (by omega)) | exact and31 (hW.ne (by omega)) | exact and31 (hW.op (by omega)) | exact and31 (by assumption) | exact and31r (hW.ne (by omega)) | exact and31r (hW.gp (by omega)) | exact and31r (by decide)) (fun c_10 => ?_) (fun c_10 => False.elim (by omega))
    refine mm_ciN 0 d_M_lone_16 rfl ?_
    refine mm_ist3 d_M_lone_17 ?_
    refine mm_ciN 1 d_M_lone_18 rfl ?_
    refine mm_aload d_M_lone_19 rfl ?_
    refine mm_getIN d_M_lone_20 rfl (sk_o_71 hM) hH.n ?_
    refine mm_ishl1N d_M_lone_23 (by omega) ?_
    refine mm_ciN 1 d_M_lone_24 rfl ?_
    refine mm_isubN d_M_lone_25 (by omega) ?_
    refine mm_ist4 d_M_lone_26 ?_
    refine mm_ciN 0 d_M_lone_28 rfl ?_
    refine mm_ist5 d_M_lone_29 ?_
    have gf := (Fr.rf (S := scM) (μ := μ1).sI (j := 0) (x := nI 0) (a := 71) rfl).trans g1
    generalize nI i = l1
    refine mm_up (P := fun i => mm_T X _ 0 0 k_M_lone 31 [some (.ref 71), some (.int l1), some (.int y2), some (.int (nI (loneK D i))), some (.int (nI (2 ^ dn D - 1))), some (.int (nI i))] [] μ2 _) (dn D) ?_ (fun i hi ih => ?_)
    · refine mm_iload d_M_lone_31 rfl ?_
      refine mm_aload d_M_lone_33 rfl ?_
      refine mm_getIN d_M_lone_34 rfl (sk_o_71 hM) hH.n ?_
      refine mm_icmp_geN d_M_lone_37 (by first | omega | exact bt8_lt31 _ _ | exact godB_lt31 _ _ _ | exact pop_lt31 _ | assumption | exact b31 (hW.gp (by omega)) | exact b31 (hW.ne (by omega)) | exact b31 (hW.op (by omega)) | exact and31 (hW.gp (by omega)) | exact and31 (hW.ne (by omega)) | exact and31 (hW.op (by omega)) | exact and31 (by assumption) | exact and31r (hW.ne (by omega)) | exact and31r (hW.gp (by omega)) | exact and31r (by decide)) (by first | omega | exact bt8_lt31 _ _ | exact godB_lt31 _ _ _ | exact pop_lt31 _ | assumption | exact b31 (hW.gp (by omega)) | exact b31 (hW.ne (by omega)) | exact b31 (hW.op (by omega)) | exact and31 (hW.gp (by omega)) | exact and31 (hW.ne (by omega)) | exact and31 (hW.op (by omega)) | exact and31 (by assumption) | exact and31r (hW.ne (by omega)) | exact and31r (hW.gp (by omega)) | exact and31r (by decide)) (fun c_37 => ?_) (fun c_37 => False.elim (by omega))
      refine mm_iload d_M_lone_80 rfl ?_
      refine mm_if_eq d_M_lone_81 (fun c_81 => ?_) (fun c_81 => ?_)
      · refine mm_iload d_M_lone_91 rfl ?_
        exact mm_ri d_M_lone_92 ⟨by first | exact (if_pos c_81).symm | exact (if_neg c_81).symm, gf⟩
      · refine mm_aload d_M_lone_84 rfl ?_
        refine mm_v0i d_M_lone_85 (sk_o_71 hM) (sp_M_dearest hH ?_)
        refine mm_goto d_M_lone_88 ?_
        exact mm_ri d_M_lone_92 ⟨by first | exact (if_pos c_81).symm | exact (if_neg c_81).symm, gf⟩
    · refine mm_iload d_M_lone_31 rfl ?_
      refine mm_aload d_M_lone_33 rfl ?_
      refine mm_getIN d_M_lone_34 rfl (sk_o_71 hM) hH.n ?_
      refine mm_icmp_geN d_M_lone_37 (by first | omega | exact bt8_lt31 _ _ | exact godB_lt31 _ _ _ | exact pop_lt31 _ | assumption | exact b31 (hW.gp (by omega)) | exact b31 (hW.ne (by omega)) | exact b31 (hW.op (by omega)) | exact and31 (hW.gp (by omega)) | exact and31 (hW.ne (by omega)) | exact and31 (hW.op (by omega)) | exact and31 (by assumption) | exact and31r (hW.ne (by omega)) | exact and31r (hW.gp (by omega)) | exact and31r (by decide)) (by first | omega | exact bt8_lt31 _ _ | exact godB_lt31 _ _ _ | exact pop_lt31 _ | assumption | exact b31 (hW.gp (by omega)) | exact b31 (hW.ne (by omega)) | exact b31 (hW.op (by omega)) | exact and31 (hW.gp (by omega)) | exact and31 (hW.ne (by omega)) | exact and31 (hW.op (by omega)) | exact and31 (by assumption) | exact and31r (hW.ne (by omega)) | exact and31r (hW.gp (by omega)) | exact and31r (by decide)) (fun c_37 => False.elim (by omega)) (fun c_37 => ?_)
      refine mm_iload d_M_lone_40 rfl ?_
      refine mm_aload d_M_lone_41 rfl ?_
      refine mm_iload d_M_lone_42 rfl ?_
      refine mm_v1i d_M_lone_44 (sk_o_71 hM) (sp_M_gods hH (by omega) ?_)
      refine mm_aload d_M_lone_47 rfl ?_
      refine mm_iload d_M_lone_48 rfl ?_
      refine mm_ciN 1 d_M_lone_50 rfl ?_
      refine mm_iload d_M_lone_51 rfl ?_
      refine mm_ishl1N d_M_lone_53 (by omega) ?_
      refine mm_ci d_M_lone_54 ?_
      refine mm_inotN d_M_lone_55 ?_
      refine mm_iandN d_M_lone_56 ?_
      refine mm_v1i d_M_lone_57 (sk_o_71 hM) (sp_M_allGods hH (by first | omega | assumption | exact hW.gp (by omega) | exact hW.ne (by omega) | exact hW.op (by omega) | exact and_lt256 (hW.gp (by omega)) | exact and_lt256 (hW.ne (by omega)) | exact and_lt256 (hW.op (by omega)) | exact and_lt256 (by assumption)) ?_)
      refine mm_iandN d_M_lone_60 ?_
      refine mm_if_neN d_M_lone_61 (by first | omega | exact bt8_lt31 _ _ | exact godB_lt31 _ _ _ | exact pop_lt31 _ | assumption | exact b31 (hW.gp (by omega)) | exact b31 (hW.ne (by omega)) | exact b31 (hW.op (by omega)) | exact and31 (hW.gp (by omega)) | exact and31 (hW.ne (by omega)) | exact and31 (hW.op (by omega)) | exact and31 (by assumption) | exact and31r (hW.ne (by omega)) | exact and31r (hW.gp (by omega)) | exact and31r (by decide)) (fun c_61 => ?_) (fun c_61 => ?_)
      · refine mm_ciN 0 d_M_lone_71 rfl ?_
        refine mm_iorN d_M_lone_72 ?_
        refine mm_ist3 d_M_lone_73 ?_
        refine mm_inc5N d_M_lone_74 ?_
        refine mm_goto d_M_lone_77 ?_
        first
          | exact ih
          | (have z := ih; simp only [loneK, if_pos c_61] at z; exact z)
          | (have z := ih; simp only [loneK, if_pos c_61, Nat.or_zero, Nat.add_zero] at z; exact z)
          | (have z := ih; simp only [loneK, if_pos c_61, Nat.mul_one] at z; exact z)
          | (have z := ih; simp only [loneK, if_neg c_61] at z; exact z)
          | (have z := ih; simp only [loneK, if_neg c_61, Nat.or_zero, Nat.add_zero] at z; exact z)
          | (have z := ih; simp only [loneK, if_neg c_61, Nat.mul_one] at z; exact z)
          | (have z := ih; simp only [loneK, if_neg (Nat.not_lt.mpr c_61)] at z; exact z)
          | (have z := ih; simp only [loneK, if_neg (Nat.not_lt.mpr c_61), Nat.or_zero, Nat.add_zero] at z; exact z)
          | (have z := ih; simp only [loneK, if_neg (Nat.not_lt.mpr c_61), Nat.mul_one] at z; exact z)
          | (have z := ih; simp only [loneK, if_neg (Nat.not_le.mpr c_61)] at z; exact z)
          | (have z := ih; simp only [loneK, if_neg (Nat.not_le.mpr c_61), Nat.or_zero, Nat.add_zero] at z; exact z)
          | (have z := ih; simp only [loneK, if_neg (Nat.not_le.mpr c_61), Nat.mul_one] at z; exact z)
      · refine mm_ciN 1 d_M_lone_64 rfl ?_
        refine mm_iload d_M_lone_65 rfl ?_
        refine mm_ishl1N d_M_lone_67 (by omega) ?_
        refine mm_goto d_M_lone_68 ?_
        refine mm_iorN d_M_lone_72 ?_
        refine mm_ist3 d_M_lone_73 ?_
        refine mm_inc5N d_M_lone_74 ?_
        refine mm_goto d_M_lone_77 ?_
        first
          | exact ih
          | (have z := ih; simp only [loneK, if_pos c_61] at z; exact z)
          | (have z := ih; simp only [loneK, if_pos c_61, Nat.or_zero, Nat.add_zero] at z; exact z)
          | (have z := ih; simp only [loneK, if_pos c_61, Nat.mul_one] at z; exact z)
          | (have z := ih; simp only [loneK, if_neg c_61] at z; exact z)
          | (have z := ih; simp only [loneK, if_neg c_61, Nat.or_zero, Nat.add_zero] at z; exact z)
          | (have z := ih; simp only [loneK, if_neg c_61, Nat.mul_one] at z; exact z)
          | (have z := ih; simp only [loneK, if_neg (Nat.not_lt.mpr c_61)] at z; exact z)
          | (have z := ih; simp only [loneK, if_neg (Nat.not_lt.mpr c_61), Nat.or_zero, Nat.add_zero] at z; exact z)
          | (have z := ih; simp only [loneK, if_neg (Nat.not_lt.mpr c_61), Nat.mul_one] at z; exact z)
          | (have z := ih; simp only [loneK, if_neg (Nat.not_le.mpr c_61)] at z; exact z)
          | (have z := ih; simp only [loneK, if_neg (Nat.not_le.mpr c_61), Nat.or_zero, Nat.add_zero] at z; exact z)
          | (have z := ih; simp only [loneK, if_neg (Nat.not_le.mpr c_61), Nat.mul_one] at z; exact z)
