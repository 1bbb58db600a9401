/-! texts: which line a word begins -/
def wlL : List (List Nat) := [[99, 104, 105, 108, 100], [119, 101, 97, 116, 104, 101, 114], [111, 112, 112, 111, 115, 101], [110, 101, 101, 100, 115], [112, 97, 116, 105, 101, 110, 99, 101], [119, 111, 114, 107], [97, 115, 107], [116, 104, 97, 110, 107], [99, 111, 109, 101], [100, 111], [100, 97, 121], [104, 101, 97, 114, 100], [100, 101, 97, 102]]
def wl (k : Nat) : List Nat := wlL.getD k []
def wcL : List Nat := [426953501796, 33606991467799922, 122528713372517, 474147546227, 8097881601010983781, 2003792491, 6386539, 499967422059, 1668246885, 25711, 6578553, 448377483876, 1684365670]
def wc (k : Nat) : Nat := wcL.getD k 0
def wordB (u : Nat → Nat) (q n : Nat) (l : List Nat) : Bool := decide (n = l.length) && (List.range l.length).all (fun i => u (q + i) == l.getD i 0)
theorem wordB_i {u : Nat → Nat} {q n : Nat} {l : List Nat} : wordB u q n l = true ↔ wordIs u q n l := by
  unfold wordB wordIs
  simp
theorem wl_len : ∀ k, k < 13 → (wl k).length = mm_sl.getD k 0 ∧ (wl k).length ≤ 8 ∧ (wl k).length ≠ 0 := by decide
theorem wl_byt : ∀ k, k < 13 → ∀ i, i < (wl k).length → (mm_sb.getD k []).getD i 0 = nI ((wl k).getD i 0) ∧ (wl k).getD i 0 < 128 := by decide
theorem wl_let : ∀ k, k < 13 → ∀ x ∈ wl k, 97 ≤ x ∧ x < 123 := by decide
theorem wl_pk : ∀ k, k < 13 → pkL (wl k) 0 = wc k ∧ wc k ≠ 0 ∧ wc k < 9223372036854775808 := by decide
theorem tK_lt {u : Nat → Nat} {L p : Nat} : tK u L p < 5 := by
  unfold tK
  split
  · decide
  · split
    · decide
    · split
      · split <;> decide
      · split <;> decide
/-- the token from p on is the word k -/
def tkW (u : Nat → Nat) (L p k : Nat) : Bool := wordB u (tP u L p) (tN u L p - tP u L p) (wl k)
theorem sp_Re_isWord {X : mm_X} {μ : mm_M} {q : Int32 → mm_M → Prop} {u : Nat → Nat} {L p k : Nat} (hR : Rd u L μ) (hT : Tk1 u L p μ) (hp : p ≤ L) (hk : k < 13) (h : q (nI (if tkW u L p k then 1 else 0)) μ) : mm_Ci X 4 0 0 k_Re_isWord [.ref 36, .ref (1000000 + k)] μ q := by
  show mm_T X 4 0 0 k_Re_isWord 0 [some (.ref 36), some (.ref (1000000 + k)), none] [] μ _
  have hM := hR.1
  have hP := hR.2.1
  have hL6 := hR.2.2.2.1
  obtain ⟨t1, -, t3, -⟩ := hT
  have g1 := tN_le (u := u) hp
  have g2 := tN_ge (u := u) (L := L) (p := p)
  obtain ⟨l1, l2, -⟩ := wl_len k hk
  by_cases hl : tN u L p - tP u L p = (wl k).length
  · have loop : ∀ (m i : Nat), (wl k).length - i = m → i ≤ (wl k).length → (∀ j, j < i → u (tP u L p + j) = (wl k).getD j 0) → mm_T X 4 0 0 k_Re_isWord 20 [some (.ref 36), some (.ref (1000000 + k)), some (.int (nI i))] [] μ (fun v μ' => ∃ r, v = some (.int r) ∧ q r μ') := by
      intro m
      induction m with
      | zero =>
        intro i hm hi hj
        have e : tkW u L p k = true := wordB_i.mpr ⟨hl, fun j hj' => hj j (by omega)⟩
        rw [e, if_pos rfl] at h
        refine mm_iload d_Re_isWord_20 rfl ?_
        refine mm_aload d_Re_isWord_21 rfl ?_
        refine mm_str0 e_Re_isWord_22 hk (sp_Str_length hk ?_)
        rw [← l1]
        refine mm_icmp_geN d_Re_isWord_25 (by omega) (by omega) (fun _ => ?_) (fun c => False.elim (by omega))
        refine mm_ciN 1 d_Re_isWord_55 rfl ?_
        exact mm_rz d_Re_isWord_56 h
      | succ m ih =>
        intro i hm hi hj
        refine mm_iload d_Re_isWord_20 rfl ?_
        refine mm_aload d_Re_isWord_21 rfl ?_
        refine mm_str0 e_Re_isWord_22 hk (sp_Str_length hk ?_)
        rw [← l1]
        refine mm_icmp_geN d_Re_isWord_25 (by omega) (by omega) (fun c => False.elim (by omega)) (fun _ => ?_)
        obtain ⟨y1, y2⟩ := wl_byt k hk i (by omega)
        refine mm_aload d_Re_isWord_28 rfl ?_
        refine mm_getP d_Re_isWord_29 rfl (sk_o_36 hM) hP ?_
        refine mm_aload d_Re_isWord_32 rfl ?_
        refine mm_getIN d_Re_isWord_33 rfl (sk_o_36 hM) t3 ?_
        refine mm_iload d_Re_isWord_36 rfl ?_
        refine mm_iaddN d_Re_isWord_37 ?_
        refine mm_baldX d_Re_isWord_38 (sk_a_2 hM) (by omega) (by decide) ?_
        refine mm_aload d_Re_isWord_39 rfl ?_
        refine mm_iload d_Re_isWord_40 rfl ?_
        refine mm_str1 e_Re_isWord_41 hk (sp_Str_charAt hk (by omega) ?_)
        rw [y1]
        refine mm_icmp_eq d_Re_isWord_44 (fun c => ?_) (fun c => ?_)
        · refine mm_inc2N d_Re_isWord_49 ?_
          refine mm_goto d_Re_isWord_52 ?_
          refine ih (i + 1) (by omega) (by omega) (fun j hj' => ?_)
          by_cases z : j < i
          · exact hj j z
          · obtain rfl : j = i := by omega
            rcases hR.b (tP u L p + j) with ⟨b1, b2⟩ | ⟨b1, b2⟩
            · rw [b2] at c
              exact (nI_eqq (by omega) (by omega)).mp c
            · rw [c] at b2
              exact absurd b2 (nI_pos (by omega))
        · have e : ¬ tkW u L p k = true := fun z => c (by
            have w := (wordB_i.mp z).2 i (by omega)
            rcases hR.b (tP u L p + i) with ⟨b1, b2⟩ | ⟨b1, b2⟩
            · rw [b2, w]
            · omega)
          rw [if_neg e] at h
          refine mm_ciN 0 d_Re_isWord_47 rfl ?_
          exact mm_rz d_Re_isWord_48 h
    refine mm_aload d_Re_isWord_0 rfl ?_
    refine mm_getIN d_Re_isWord_1 rfl (sk_o_36 hM) t1 ?_
    refine mm_aload d_Re_isWord_4 rfl ?_
    refine mm_getIN d_Re_isWord_5 rfl (sk_o_36 hM) t3 ?_
    refine mm_isubN d_Re_isWord_8 g2 ?_
    refine mm_aload d_Re_isWord_9 rfl ?_
    refine mm_str0 e_Re_isWord_10 hk (sp_Str_length hk ?_)
    rw [← l1]
    refine mm_icmp_eqN d_Re_isWord_13 (by omega) (by omega) (fun _ => ?_) (fun c => absurd hl c)
    refine mm_ciN 0 d_Re_isWord_18 rfl ?_
    refine mm_ist2 d_Re_isWord_19 ?_
    exact loop (wl k).length 0 rfl (Nat.zero_le _) (fun j hj => absurd hj (Nat.not_lt_zero j))
  · have e : ¬ tkW u L p k = true := fun z => hl (wordB_i.mp z).1
    rw [if_neg e] at h
    refine mm_aload d_Re_isWord_0 rfl ?_
    refine mm_getIN d_Re_isWord_1 rfl (sk_o_36 hM) t1 ?_
    refine mm_aload d_Re_isWord_4 rfl ?_
    refine mm_getIN d_Re_isWord_5 rfl (sk_o_36 hM) t3 ?_
    refine mm_isubN d_Re_isWord_8 g2 ?_
    refine mm_aload d_Re_isWord_9 rfl ?_
    refine mm_str0 e_Re_isWord_10 hk (sp_Str_length hk ?_)
    rw [← l1]
    refine mm_icmp_eqN d_Re_isWord_13 (by omega) (by omega) (fun c => absurd c hl) (fun _ => ?_)
    refine mm_ciN 0 d_Re_isWord_16 rfl ?_
    exact mm_rz d_Re_isWord_17 h
def ln0 (u : Nat → Nat) (L p : Nat) : Nat := if tkW u L p 0 then 0 else if tkW u L p 1 then 1 else if tkW u L p 2 then 2 else if tkW u L p 3 then 3 else if tkW u L p 4 then 4 else if tkW u L p 5 then 5 else 13
def ln1 (u : Nat → Nat) (L p : Nat) : Nat := if tkW u L p 6 then 6 else if tkW u L p 7 then 7 else if tkW u L p 8 then 8 else if tkW u L p 9 then 9 else if tkW u L p 10 then 10 else 13
def ln2 (u : Nat → Nat) (L p : Nat) : Nat := if tkW u L p 11 then 11 else if tkW u L p 12 then 12 else 13
def lnF (s : Nat) (u : Nat → Nat) (L p : Nat) : Nat := if tK u L p = 2 then (if s = 0 then ln0 u L p else if s = 1 then ln1 u L p else ln2 u L p) else 13
def lnI (x : Nat) : Int32 := if x = 13 then -1 else nI x
theorem sp_Re_coastLine {X : mm_X} {μ : mm_M} {q : Int32 → mm_M → Prop} {u : Nat → Nat} {L p : Nat} (hR : Rd u L μ) (hT : Tk1 u L p μ) (hp : p ≤ L) (h : q (lnI (ln0 u L p)) μ) : mm_Ci X 5 0 0 k_Re_coastLine [.ref 36] μ q := by
  show mm_T X 5 0 0 k_Re_coastLine 0 [some (.ref 36)] [] μ _
  have hM := hR.1
  unfold ln0 at h
  refine mm_aload d_Re_coastLine_0 rfl ?_
  refine mm_ldcS 0 (by decide) d_Re_coastLine_1 ?_
  refine mm_v1i d_Re_coastLine_3 (sk_o_36 hM) (sp_Re_isWord hR hT hp (by decide) ?_)
  refine mm_if_eqN d_Re_coastLine_6 (by first | omega | exact ite01_lt | exact bt8_lt31 _ _ | exact godB_lt31 _ _ _ | exact pop_lt31 _ | assumption | exact b31 (hW.gp (by omega)) | exact b31 (hW.ne (by omega)) | exact b31 (hW.op (by omega)) | exact and31 (hW.gp (by omega)) | exact and31 (hW.ne (by omega)) | exact and31 (hW.op (by omega)) | exact and31 (by assumption) | exact and31r (hW.ne (by omega)) | exact and31r (hW.gp (by omega)) | exact and31r (by decide)) (fun c_6 => ?_) (fun c_6 => ?_)
  · refine mm_aload d_Re_coastLine_11 rfl ?_
    refine mm_ldcS 1 (by decide) d_Re_coastLine_12 ?_
    refine mm_v1i d_Re_coastLine_14 (sk_o_36 hM) (sp_Re_isWord hR hT hp (by decide) ?_)
    refine mm_if_eqN d_Re_coastLine_17 (by first | omega | exact ite01_lt | exact bt8_lt31 _ _ | exact godB_lt31 _ _ _ | exact pop_lt31 _ | assumption | exact b31 (hW.gp (by omega)) | exact b31 (hW.ne (by omega)) | exact b31 (hW.op (by omega)) | exact and31 (hW.gp (by omega)) | exact and31 (hW.ne (by omega)) | exact and31 (hW.op (by omega)) | exact and31 (by assumption) | exact and31r (hW.ne (by omega)) | exact and31r (hW.gp (by omega)) | exact and31r (by decide)) (fun c_17 => ?_) (fun c_17 => ?_)
    · refine mm_aload d_Re_coastLine_22 rfl ?_
      refine mm_ldcS 2 (by decide) d_Re_coastLine_23 ?_
      refine mm_v1i d_Re_coastLine_25 (sk_o_36 hM) (sp_Re_isWord hR hT hp (by decide) ?_)
      refine mm_if_eqN d_Re_coastLine_28 (by first | omega | exact ite01_lt | exact bt8_lt31 _ _ | exact godB_lt31 _ _ _ | exact pop_lt31 _ | assumption | exact b31 (hW.gp (by omega)) | exact b31 (hW.ne (by omega)) | exact b31 (hW.op (by omega)) | exact and31 (hW.gp (by omega)) | exact and31 (hW.ne (by omega)) | exact and31 (hW.op (by omega)) | exact and31 (by assumption) | exact and31r (hW.ne (by omega)) | exact and31r (hW.gp (by omega)) | exact and31r (by decide)) (fun c_28 => ?_) (fun c_28 => ?_)
      · refine mm_aload d_Re_coastLine_33 rfl ?_
        refine mm_ldcS 3 (by decide) d_Re_coastLine_34 ?_
        refine mm_v1i d_Re_coastLine_36 (sk_o_36 hM) (sp_Re_isWord hR hT hp (by decide) ?_)
        refine mm_if_eqN d_Re_coastLine_39 (by first | omega | exact ite01_lt | exact bt8_lt31 _ _ | exact godB_lt31 _ _ _ | exact pop_lt31 _ | assumption | exact b31 (hW.gp (by omega)) | exact b31 (hW.ne (by omega)) | exact b31 (hW.op (by omega)) | exact and31 (hW.gp (by omega)) | exact and31 (hW.ne (by omega)) | exact and31 (hW.op (by omega)) | exact and31 (by assumption) | exact and31r (hW.ne (by omega)) | exact and31r (hW.gp (by omega)) | exact and31r (by decide)) (fun c_39 => ?_) (fun c_39 => ?_)
        · refine mm_aload d_Re_coastLine_44 rfl ?_
          refine mm_ldcS 4 (by decide) d_Re_coastLine_45 ?_
          refine mm_v1i d_Re_coastLine_47 (sk_o_36 hM) (sp_Re_isWord hR hT hp (by decide) ?_)
          refine mm_if_eqN d_Re_coastLine_50 (by first | omega | exact ite01_lt | exact bt8_lt31 _ _ | exact godB_lt31 _ _ _ | exact pop_lt31 _ | assumption | exact b31 (hW.gp (by omega)) | exact b31 (hW.ne (by omega)) | exact b31 (hW.op (by omega)) | exact and31 (hW.gp (by omega)) | exact and31 (hW.ne (by omega)) | exact and31 (hW.op (by omega)) | exact and31 (by assumption) | exact and31r (hW.ne (by omega)) | exact and31r (hW.gp (by omega)) | exact and31r (by decide)) (fun c_50 => ?_) (fun c_50 => ?_)
          · refine mm_aload d_Re_coastLine_55 rfl ?_
            refine mm_ldcS 5 (by decide) d_Re_coastLine_56 ?_
            refine mm_v1i d_Re_coastLine_58 (sk_o_36 hM) (sp_Re_isWord hR hT hp (by decide) ?_)
            refine mm_if_eqN d_Re_coastLine_61 (by first | omega | exact ite01_lt | exact bt8_lt31 _ _ | exact godB_lt31 _ _ _ | exact pop_lt31 _ | assumption | exact b31 (hW.gp (by omega)) | exact b31 (hW.ne (by omega)) | exact b31 (hW.op (by omega)) | exact and31 (hW.gp (by omega)) | exact and31 (hW.ne (by omega)) | exact and31 (hW.op (by omega)) | exact and31 (by assumption) | exact and31r (hW.ne (by omega)) | exact and31r (hW.gp (by omega)) | exact and31r (by decide)) (fun c_61 => ?_) (fun c_61 => ?_)
            · refine mm_ci d_Re_coastLine_68 ?_
              exact mm_ri d_Re_coastLine_69 (by (repeat (first | rw [if_pos (ite01_ne (by assumption))] at h | rw [if_neg (ite01_eq (by assumption))] at h)); exact h)
            · refine mm_ciN 5 d_Re_coastLine_64 rfl ?_
              refine mm_goto d_Re_coastLine_65 ?_
              exact mm_ri d_Re_coastLine_69 (by (repeat (first | rw [if_pos (ite01_ne (by assumption))] at h | rw [if_neg (ite01_eq (by assumption))] at h)); exact h)
          · refine mm_ciN 4 d_Re_coastLine_53 rfl ?_
            exact mm_ri d_Re_coastLine_54 (by (repeat (first | rw [if_pos (ite01_ne (by assumption))] at h | rw [if_neg (ite01_eq (by assumption))] at h)); exact h)
        · refine mm_ciN 3 d_Re_coastLine_42 rfl ?_
          exact mm_ri d_Re_coastLine_43 (by (repeat (first | rw [if_pos (ite01_ne (by assumption))] at h | rw [if_neg (ite01_eq (by assumption))] at h)); exact h)
      · refine mm_ciN 2 d_Re_coastLine_31 rfl ?_
        exact mm_ri d_Re_coastLine_32 (by (repeat (first | rw [if_pos (ite01_ne (by assumption))] at h | rw [if_neg (ite01_eq (by assumption))] at h)); exact h)
    · refine mm_ciN 1 d_Re_coastLine_20 rfl ?_
      exact mm_ri d_Re_coastLine_21 (by (repeat (first | rw [if_pos (ite01_ne (by assumption))] at h | rw [if_neg (ite01_eq (by assumption))] at h)); exact h)
  · refine mm_ciN 0 d_Re_coastLine_9 rfl ?_
    exact mm_ri d_Re_coastLine_10 (by (repeat (first | rw [if_pos (ite01_ne (by assumption))] at h | rw [if_neg (ite01_eq (by assumption))] at h)); exact h)
theorem sp_Re_deedLine {X : mm_X} {μ : mm_M} {q : Int32 → mm_M → Prop} {u : Nat → Nat} {L p : Nat} (hR : Rd u L μ) (hT : Tk1 u L p μ) (hp : p ≤ L) (h : q (lnI (ln1 u L p)) μ) : mm_Ci X 5 0 0 k_Re_deedLine [.ref 36] μ q := by
  show mm_T X 5 0 0 k_Re_deedLine 0 [some (.ref 36)] [] μ _
  have hM := hR.1
  unfold ln1 at h
  refine mm_aload d_Re_deedLine_0 rfl ?_
  refine mm_ldcS 6 (by decide) d_Re_deedLine_1 ?_
  refine mm_v1i d_Re_deedLine_3 (sk_o_36 hM) (sp_Re_isWord hR hT hp (by decide) ?_)
  refine mm_if_eqN d_Re_deedLine_6 (by first | omega | exact ite01_lt | exact bt8_lt31 _ _ | exact godB_lt31 _ _ _ | exact pop_lt31 _ | assumption | exact b31 (hW.gp (by omega)) | exact b31 (hW.ne (by omega)) | exact b31 (hW.op (by omega)) | exact and31 (hW.gp (by omega)) | exact and31 (hW.ne (by omega)) | exact and31 (hW.op (by omega)) | exact and31 (by assumption) | exact and31r (hW.ne (by omega)) | exact and31r (hW.gp (by omega)) | exact and31r (by decide)) (fun c_6 => ?_) (fun c_6 => ?_)
  · refine mm_aload d_Re_deedLine_12 rfl ?_
    refine mm_ldcS 7 (by decide) d_Re_deedLine_13 ?_
    refine mm_v1i d_Re_deedLine_15 (sk_o_36 hM) (sp_Re_isWord hR hT hp (by decide) ?_)
    refine mm_if_eqN d_Re_deedLine_18 (by first | omega | exact ite01_lt | exact bt8_lt31 _ _ | exact godB_lt31 _ _ _ | exact pop_lt31 _ | assumption | exact b31 (hW.gp (by omega)) | exact b31 (hW.ne (by omega)) | exact b31 (hW.op (by omega)) | exact and31 (hW.gp (by omega)) | exact and31 (hW.ne (by omega)) | exact and31 (hW.op (by omega)) | exact and31 (by assumption) | exact and31r (hW.ne (by omega)) | exact and31r (hW.gp (by omega)) | exact and31r (by decide)) (fun c_18 => ?_) (fun c_18 => ?_)
    · refine mm_aload d_Re_deedLine_24 rfl ?_
      refine mm_ldcS 8 (by decide) d_Re_deedLine_25 ?_
      refine mm_v1i d_Re_deedLine_27 (sk_o_36 hM) (sp_Re_isWord hR hT hp (by decide) ?_)
      refine mm_if_eqN d_Re_deedLine_30 (by first | omega | exact ite01_lt | exact bt8_lt31 _ _ | exact godB_lt31 _ _ _ | exact pop_lt31 _ | assumption | exact b31 (hW.gp (by omega)) | exact b31 (hW.ne (by omega)) | exact b31 (hW.op (by omega)) | exact and31 (hW.gp (by omega)) | exact and31 (hW.ne (by omega)) | exact and31 (hW.op (by omega)) | exact and31 (by assumption) | exact and31r (hW.ne (by omega)) | exact and31r (hW.gp (by omega)) | exact and31r (by decide)) (fun c_30 => ?_) (fun c_30 => ?_)
      · refine mm_aload d_Re_deedLine_36 rfl ?_
        refine mm_ldcS 9 (by decide) d_Re_deedLine_37 ?_
        refine mm_v1i d_Re_deedLine_39 (sk_o_36 hM) (sp_Re_isWord hR hT hp (by decide) ?_)
        refine mm_if_eqN d_Re_deedLine_42 (by first | omega | exact ite01_lt | exact bt8_lt31 _ _ | exact godB_lt31 _ _ _ | exact pop_lt31 _ | assumption | exact b31 (hW.gp (by omega)) | exact b31 (hW.ne (by omega)) | exact b31 (hW.op (by omega)) | exact and31 (hW.gp (by omega)) | exact and31 (hW.ne (by omega)) | exact and31 (hW.op (by omega)) | exact and31 (by assumption) | exact and31r (hW.ne (by omega)) | exact and31r (hW.gp (by omega)) | exact and31r (by decide)) (fun c_42 => ?_) (fun c_42 => ?_)
        · refine mm_aload d_Re_deedLine_48 rfl ?_
          refine mm_ldcS 10 (by decide) d_Re_deedLine_49 ?_
          refine mm_v1i d_Re_deedLine_51 (sk_o_36 hM) (sp_Re_isWord hR hT hp (by decide) ?_)
          refine mm_if_eqN d_Re_deedLine_54 (by first | omega | exact ite01_lt | exact bt8_lt31 _ _ | exact godB_lt31 _ _ _ | exact pop_lt31 _ | assumption | exact b31 (hW.gp (by omega)) | exact b31 (hW.ne (by omega)) | exact b31 (hW.op (by omega)) | exact and31 (hW.gp (by omega)) | exact and31 (hW.ne (by omega)) | exact and31 (hW.op (by omega)) | exact and31 (by assumption) | exact and31r (hW.ne (by omega)) | exact and31r (hW.gp (by omega)) | exact and31r (by decide)) (fun c_54 => ?_) (fun c_54 => ?_)
          · refine mm_ci d_Re_deedLine_62 ?_
            exact mm_ri d_Re_deedLine_63 (by (repeat (first | rw [if_pos (ite01_ne (by assumption))] at h | rw [if_neg (ite01_eq (by assumption))] at h)); exact h)
          · refine mm_ciN 10 d_Re_deedLine_57 rfl ?_
            refine mm_goto d_Re_deedLine_59 ?_
            exact mm_ri d_Re_deedLine_63 (by (repeat (first | rw [if_pos (ite01_ne (by assumption))] at h | rw [if_neg (ite01_eq (by assumption))] at h)); exact h)
        · refine mm_ciN 9 d_Re_deedLine_45 rfl ?_
          exact mm_ri d_Re_deedLine_47 (by (repeat (first | rw [if_pos (ite01_ne (by assumption))] at h | rw [if_neg (ite01_eq (by assumption))] at h)); exact h)
      · refine mm_ciN 8 d_Re_deedLine_33 rfl ?_
        exact mm_ri d_Re_deedLine_35 (by (repeat (first | rw [if_pos (ite01_ne (by assumption))] at h | rw [if_neg (ite01_eq (by assumption))] at h)); exact h)
    · refine mm_ciN 7 d_Re_deedLine_21 rfl ?_
      exact mm_ri d_Re_deedLine_23 (by (repeat (first | rw [if_pos (ite01_ne (by assumption))] at h | rw [if_neg (ite01_eq (by assumption))] at h)); exact h)
  · refine mm_ciN 6 d_Re_deedLine_9 rfl ?_
    exact mm_ri d_Re_deedLine_11 (by (repeat (first | rw [if_pos (ite01_ne (by assumption))] at h | rw [if_neg (ite01_eq (by assumption))] at h)); exact h)
theorem sp_Re_factLine {X : mm_X} {μ : mm_M} {q : Int32 → mm_M → Prop} {u : Nat → Nat} {L p : Nat} (hR : Rd u L μ) (hT : Tk1 u L p μ) (hp : p ≤ L) (h : q (lnI (ln2 u L p)) μ) : mm_Ci X 5 0 0 k_Re_factLine [.ref 36] μ q := by
  show mm_T X 5 0 0 k_Re_factLine 0 [some (.ref 36)] [] μ _
  have hM := hR.1
  unfold ln2 at h
  refine mm_aload d_Re_factLine_0 rfl ?_
  refine mm_ldcS 11 (by decide) d_Re_factLine_1 ?_
  refine mm_v1i d_Re_factLine_3 (sk_o_36 hM) (sp_Re_isWord hR hT hp (by decide) ?_)
  refine mm_if_eqN d_Re_factLine_6 (by first | omega | exact ite01_lt | exact bt8_lt31 _ _ | exact godB_lt31 _ _ _ | exact pop_lt31 _ | assumption | exact b31 (hW.gp (by omega)) | exact b31 (hW.ne (by omega)) | exact b31 (hW.op (by omega)) | exact and31 (hW.gp (by omega)) | exact and31 (hW.ne (by omega)) | exact and31 (hW.op (by omega)) | exact and31 (by assumption) | exact and31r (hW.ne (by omega)) | exact and31r (hW.gp (by omega)) | exact and31r (by decide)) (fun c_6 => ?_) (fun c_6 => ?_)
  · refine mm_aload d_Re_factLine_12 rfl ?_
    refine mm_ldcS 12 (by decide) d_Re_factLine_13 ?_
    refine mm_v1i d_Re_factLine_15 (sk_o_36 hM) (sp_Re_isWord hR hT hp (by decide) ?_)
    refine mm_if_eqN d_Re_factLine_18 (by first | omega | exact ite01_lt | exact bt8_lt31 _ _ | exact godB_lt31 _ _ _ | exact pop_lt31 _ | assumption | exact b31 (hW.gp (by omega)) | exact b31 (hW.ne (by omega)) | exact b31 (hW.op (by omega)) | exact and31 (hW.gp (by omega)) | exact and31 (hW.ne (by omega)) | exact and31 (hW.op (by omega)) | exact and31 (by assumption) | exact and31r (hW.ne (by omega)) | exact and31r (hW.gp (by omega)) | exact and31r (by decide)) (fun c_18 => ?_) (fun c_18 => ?_)
    · refine mm_ci d_Re_factLine_26 ?_
      exact mm_ri d_Re_factLine_27 (by (repeat (first | rw [if_pos (ite01_ne (by assumption))] at h | rw [if_neg (ite01_eq (by assumption))] at h)); exact h)
    · refine mm_ciN 12 d_Re_factLine_21 rfl ?_
      refine mm_goto d_Re_factLine_23 ?_
      exact mm_ri d_Re_factLine_27 (by (repeat (first | rw [if_pos (ite01_ne (by assumption))] at h | rw [if_neg (ite01_eq (by assumption))] at h)); exact h)
  · refine mm_ciN 11 d_Re_factLine_9 rfl ?_
    exact mm_ri d_Re_factLine_11 (by (repeat (first | rw [if_pos (ite01_ne (by assumption))] at h | rw [if_neg (ite01_eq (by assumption))] at h)); exact h)
theorem sp_Re_lineOfWord {X : mm_X} {μ : mm_M} {q : Int32 → mm_M → Prop} {u : Nat → Nat} {L p s : Nat} (hR : Rd u L μ) (hT : Tk1 u L p μ) (hp : p ≤ L) (hs : mm_I μ 36 9 = nI s) (hs3 : s < 3) (h : q (lnI (lnF s u L p)) μ) : mm_Ci X 6 0 0 k_Re_lineOfWord [.ref 36] μ q := by
  show mm_T X 6 0 0 k_Re_lineOfWord 0 [some (.ref 36)] [] μ _
  have hM := hR.1
  have hk5 := tK_lt (u := u) (L := L) (p := p)
  unfold lnF at h
  refine mm_aload d_Re_lineOfWord_0 rfl ?_
  refine mm_getIN d_Re_lineOfWord_1 rfl (sk_o_36 hM) hT.2.1 ?_
  refine mm_ciN 2 d_Re_lineOfWord_4 rfl ?_
  refine mm_icmp_eqN d_Re_lineOfWord_5 (by first | omega | exact ite01_lt | exact bt8_lt31 _ _ | exact godB_lt31 _ _ _ | exact pop_lt31 _ | assumption | exact b31 (hW.gp (by omega)) | exact b31 (hW.ne (by omega)) | exact b31 (hW.op (by omega)) | exact and31 (hW.gp (by omega)) | exact and31 (hW.ne (by omega)) | exact and31 (hW.op (by omega)) | exact and31 (by assumption) | exact and31r (hW.ne (by omega)) | exact and31r (hW.gp (by omega)) | exact and31r (by decide)) (by first | omega | exact ite01_lt | exact bt8_lt31 _ _ | exact godB_lt31 _ _ _ | exact pop_lt31 _ | assumption | exact b31 (hW.gp (by omega)) | exact b31 (hW.ne (by omega)) | exact b31 (hW.op (by omega)) | exact and31 (hW.gp (by omega)) | exact and31 (hW.ne (by omega)) | exact and31 (hW.op (by omega)) | exact and31 (by assumption) | exact and31r (hW.ne (by omega)) | exact and31r (hW.gp (by omega)) | exact and31r (by decide)) (fun c_5 => ?_) (fun c_5 => ?_)
  · refine mm_aload d_Re_lineOfWord_10 rfl ?_
    refine mm_getIN d_Re_lineOfWord_11 rfl (sk_o_36 hM) hs ?_
    refine mm_if_neN d_Re_lineOfWord_14 (by first | omega | exact ite01_lt | exact bt8_lt31 _ _ | exact godB_lt31 _ _ _ | exact pop_lt31 _ | assumption | exact b31 (hW.gp (by omega)) | exact b31 (hW.ne (by omega)) | exact b31 (hW.op (by omega)) | exact and31 (hW.gp (by omega)) | exact and31 (hW.ne (by omega)) | exact and31 (hW.op (by omega)) | exact and31 (by assumption) | exact and31r (hW.ne (by omega)) | exact and31r (hW.gp (by omega)) | exact and31r (by decide)) (fun c_14 => ?_) (fun c_14 => ?_)
    · refine mm_aload d_Re_lineOfWord_22 rfl ?_
      refine mm_getIN d_Re_lineOfWord_23 rfl (sk_o_36 hM) hs ?_
      refine mm_ciN 1 d_Re_lineOfWord_26 rfl ?_
      refine mm_icmp_neN d_Re_lineOfWord_27 (by first | omega | exact ite01_lt | exact bt8_lt31 _ _ | exact godB_lt31 _ _ _ | exact pop_lt31 _ | assumption | exact b31 (hW.gp (by omega)) | exact b31 (hW.ne (by omega)) | exact b31 (hW.op (by omega)) | exact and31 (hW.gp (by omega)) | exact and31 (hW.ne (by omega)) | exact and31 (hW.op (by omega)) | exact and31 (by assumption) | exact and31r (hW.ne (by omega)) | exact and31r (hW.gp (by omega)) | exact and31r (by decide)) (by first | omega | exact ite01_lt | exact bt8_lt31 _ _ | exact godB_lt31 _ _ _ | exact pop_lt31 _ | assumption | exact b31 (hW.gp (by omega)) | exact b31 (hW.ne (by omega)) | exact b31 (hW.op (by omega)) | exact and31 (hW.gp (by omega)) | exact and31 (hW.ne (by omega)) | exact and31 (hW.op (by omega)) | exact and31 (by assumption) | exact and31r (hW.ne (by omega)) | exact and31r (hW.gp (by omega)) | exact and31r (by decide)) (fun c_27 => ?_) (fun c_27 => ?_)
      · refine mm_aload d_Re_lineOfWord_37 rfl ?_
        refine mm_v0i d_Re_lineOfWord_38 (sk_o_36 hM) (sp_Re_factLine hR hT hp ?_)
        exact mm_ri d_Re_lineOfWord_41 (by first | (rw [if_neg c_5] at h; exact h) | (rw [if_pos c_5, if_pos c_14] at h; exact h) | (rw [if_pos c_5, if_neg c_14, if_pos c_27] at h; exact h) | (rw [if_pos c_5, if_neg c_14, if_neg c_27] at h; exact h))
      · refine mm_aload d_Re_lineOfWord_30 rfl ?_
        refine mm_v0i d_Re_lineOfWord_31 (sk_o_36 hM) (sp_Re_deedLine hR hT hp ?_)
        refine mm_goto d_Re_lineOfWord_34 ?_
        exact mm_ri d_Re_lineOfWord_41 (by first | (rw [if_neg c_5] at h; exact h) | (rw [if_pos c_5, if_pos c_14] at h; exact h) | (rw [if_pos c_5, if_neg c_14, if_pos c_27] at h; exact h) | (rw [if_pos c_5, if_neg c_14, if_neg c_27] at h; exact h))
    · refine mm_aload d_Re_lineOfWord_17 rfl ?_
      refine mm_v0i d_Re_lineOfWord_18 (sk_o_36 hM) (sp_Re_coastLine hR hT hp ?_)
      exact mm_ri d_Re_lineOfWord_21 (by first | (rw [if_neg c_5] at h; exact h) | (rw [if_pos c_5, if_pos c_14] at h; exact h) | (rw [if_pos c_5, if_neg c_14, if_pos c_27] at h; exact h) | (rw [if_pos c_5, if_neg c_14, if_neg c_27] at h; exact h))
  · refine mm_ci d_Re_lineOfWord_8 ?_
    exact mm_ri d_Re_lineOfWord_9 (by first | (rw [if_neg c_5] at h; exact h) | (rw [if_pos c_5, if_pos c_14] at h; exact h) | (rw [if_pos c_5, if_neg c_14, if_pos c_27] at h; exact h) | (rw [if_pos c_5, if_neg c_14, if_neg c_27] at h; exact h))
/-- the word that the model holds against the constants -/
def wF (u : Nat → Nat) (L p : Nat) : Nat := if tK u L p = 2 then tW u L p else 0
theorem scn_in {c : Nat → Bool} {u : Nat → Nat} {L : Nat} : ∀ n p j, p ≤ j → j < scn c u L n p → c (u j) = true
  | 0, p, j, h1, h2 => by
    unfold scn at h2
    omega
  | n + 1, p, j, h1, h2 => by
    unfold scn at h2
    by_cases z : p < L ∧ c (u p) = true
    · rw [if_pos z] at h2
      by_cases w : j = p
      · rw [w]; exact z.2
      · exact scn_in n (p + 1) j (by omega) h2
    · rw [if_neg z] at h2
      omega
theorem tk_let {u : Nat → Nat} {L p : Nat} (hk : tK u L p = 2) : ∀ i, i < tN u L p - tP u L p → 97 ≤ u (tP u L p + i) ∧ u (tP u L p + i) < 123 := by
  intro i hi
  have h1 : ¬ L ≤ tP u L p := fun z => by unfold tK at hk; rw [if_pos z] at hk; cases hk
  have h2 : isL (u (tP u L p)) = true := Decidable.byContradiction fun z => by
    unfold tK at hk
    rw [if_neg h1, if_neg z] at hk
    split at hk
    · split at hk <;> cases hk
    · split at hk <;> cases hk
  have eN : tN u L p = scan isL u L (tP u L p) := by unfold tN; rw [if_neg h1, if_pos h2]
  rw [eN] at hi
  have := isL_i.mp (scn_in (c := isL) (u := u) (L := L) (L - tP u L p) (tP u L p) (tP u L p + i) (by omega) (by unfold scan at hi; omega))
  omega
theorem wF_lt {u : Nat → Nat} {L p : Nat} : wF u L p < 2 ^ 63 := by
  unfold wF
  by_cases hk : tK u L p = 2
  · rw [if_pos hk]
    unfold tW
    by_cases h8 : tN u L p - tP u L p ≤ 8
    · rw [if_pos h8]; exact pkW_lt (fun i hi => (tk_let hk i hi).2) h8
    · rw [if_neg h8]; decide
  · rw [if_neg hk]; decide
theorem wF_wc {u : Nat → Nat} {L p k : Nat} (hk : k < 13) : wF u L p = wc k ↔ (tK u L p = 2 ∧ tkW u L p k = true) := by
  obtain ⟨w1, w2, -⟩ := wl_pk k hk
  obtain ⟨l1, l2, -⟩ := wl_len k hk
  unfold wF
  by_cases h2 : tK u L p = 2
  · rw [if_pos h2]
    unfold tW tkW
    by_cases h8 : tN u L p - tP u L p ≤ 8
    · rw [if_pos h8, wordB_i, ← w1]
      have := pkW_all (u := u) (q := tP u L p) (wl k) (wl_let k hk) (tN u L p - tP u L p) h8 (tk_let h2)
      rw [List.reverse_reverse] at this
      exact ⟨fun z => ⟨h2, this.mp z⟩, fun z => this.mpr z.2⟩
    · rw [if_neg h8, wordB_i]
      exact ⟨fun z => absurd z.symm w2, fun z => by have := z.2.1; omega⟩
  · rw [if_neg h2]
    exact ⟨fun z => absurd z.symm w2, fun z => absurd z.1 h2⟩
