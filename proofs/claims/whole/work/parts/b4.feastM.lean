/-! asking: most; the model's rows -/
theorem sp_As_most {X : mm_X} {ν : mm_M} {q : Int32 → mm_M → Prop} {D : mm_D} {e w cr : Nat} {g ou : Nat → Nat} (hA : AsG D e g ν) (hg : ∀ x, g x < 1000) (hou : ∀ c, c < dn D → bt8 cr c = 1 - ou c) (hcr : cr < 256) (hw : mm_I ν 57 5 = nI w) (hw2 : w + 1 < 2 ^ 30) (hS : WkS w ν) (h : ∀ ν', Fr scK ν ν' → AsG D e g ν' → mm_I ν' 57 5 = nI (w + 1) → WkS (w + 1) ν' → (∀ j, j < dn D → mm_I ν' 59 j = brW D (mm_I ν 59) 0 (fo (FF D g ou (dn D) 0) 0 (4 ^ dn D)).2 j) → (∀ x, x < 256 → (Sn (w + 1) ν' (dn D) x ↔ ∃ s, s < 4 ^ dn D ∧ hbF D ou (dn D) 0 s = some x)) → q (bI (fo (FF D g ou (dn D) 0) 0 (4 ^ dn D)).1) ν') : mm_Ci X 10 0 0 k_As_most [.ref 57, .int (nI cr)] ν q := by
  show mm_T X 10 0 0 k_As_most 0 [some (.ref 57), some (.int (nI cr))] [] ν _
  have hM := hA.1
  have hn6 := hA.2.2.2.2.1.1
  have f1 : Fr scK ν (mm_sI (mm_sI (mm_sI ν 57 7 (nI cr)) 57 8 (-1)) 57 5 (nI (w + 1))) := ((Fr.rf.sI rfl).sI rfl).sI rfl
  have e62 : mm_I (mm_sI (mm_sI (mm_sI ν 57 7 (nI cr)) 57 8 (-1)) 57 5 (nI (w + 1))) 62 = mm_I ν 62 := by rw [mm_sI_off (by decide), mm_sI_off (by decide), mm_sI_off (by decide)]
  have e59 : mm_I (mm_sI (mm_sI (mm_sI ν 57 7 (nI cr)) 57 8 (-1)) 57 5 (nI (w + 1))) 59 = mm_I ν 59 := by rw [mm_sI_off (by decide), mm_sI_off (by decide), mm_sI_off (by decide)]
  have hA1 : AsG D e g (mm_sI (mm_sI (mm_sI ν 57 7 (nI cr)) 57 8 (-1)) 57 5 (nI (w + 1))) := ⟨hM, hA.2.1, hA.2.2.1, hA.2.2.2.1.frC (f1.sub scK_C) hA.2.1, hA.2.2.2.2.1, by rw [(f1.2.2.1 61 rfl).1]; exact hA.2.2.2.2.2⟩
  have hno : ∀ c' h', c' ≤ dn D → h' < 256 → ¬ Sn (w + 1) (mm_sI (mm_sI (mm_sI ν 57 7 (nI cr)) 57 8 (-1)) 57 5 (nI (w + 1))) c' h' := by
    intro c' h' a1 a2 a3
    obtain ⟨z, z1, z2⟩ := hS (256 * c' + h') (by omega)
    unfold Sn at a3
    rw [e62, z2, nI_eqq (by omega) (by omega)] at a3
    omega
  have hwi : WI D g ou (w + 1) (dn D) 0 0 0 (mm_sI (mm_sI (mm_sI ν 57 7 (nI cr)) 57 8 (-1)) 57 5 (nI (w + 1))) := by
    refine ⟨?_, fun j hj => absurd hj (Nat.not_lt_zero j), fun c' h' a1 a2 a3 a4 => absurd a4 (hno c' h' a2 a3), fun j hj => ?_⟩
    · rw [mm_I_sI, if_neg (by decide), mm_I_sI, if_pos ⟨rfl, rfl⟩]; rfl
    · obtain ⟨z, z1, z2⟩ := hS j hj
      exact ⟨z, by omega, by rw [e62]; exact z2⟩
  refine mm_aload d_As_most_0 rfl ?_
  refine mm_iload d_As_most_1 rfl ?_
  refine mm_putI d_As_most_2 rfl (sk_o_57 hM) (Or.inl rfl) ?_
  refine mm_aload d_As_most_5 rfl ?_
  refine mm_ci d_As_most_6 ?_
  refine mm_putI d_As_most_7 rfl (sk_o_57 hM) (Or.inl rfl) ?_
  refine mm_aload d_As_most_10 rfl ?_
  refine mm_dup d_As_most_11 rfl ?_
  refine mm_getIN d_As_most_12 rfl (sk_o_57 hM) (show _ = nI w by rw [mm_I_sI, if_neg (by decide), mm_I_sI, if_neg (by decide)]; exact hw) ?_
  refine mm_ciN 1 d_As_most_15 rfl ?_
  refine mm_iaddN d_As_most_16 ?_
  refine mm_putI d_As_most_17 rfl (sk_o_57 hM) (Or.inl rfl) ?_
  refine mm_aload d_As_most_20 rfl ?_
  refine mm_ciN 0 d_As_most_21 rfl ?_
  refine mm_ciN 0 d_As_most_22 rfl ?_
  refine mm_v2v d_As_most_23 (sk_o_57 hM) (sp_As_walk hg hou hcr hw2 (dn D) 0 0 0 0 _ _ (by omega) (by decide) (by decide) hA1 (by rw [mm_I_sI, if_pos ⟨rfl, rfl⟩]) (by rw [mm_I_sI, if_neg (by decide), mm_I_sI, if_neg (by decide), mm_I_sI, if_pos ⟨rfl, rfl⟩]) hwi (fun ν' hp => ?_)) (hdd := by omega)
  obtain ⟨b1, b2, b3, b4, b5, b6, b7, b8, b9, b10⟩ := hp
  have hA2 := hA1.kw b1
  have hM := hA2.1
  refine mm_aload d_As_most_26 rfl ?_
  refine mm_getIV d_As_most_27 rfl (sk_o_57 hM) b2 ?_
  refine mm_ri d_As_most_30 (h ν' (f1.trans b1.1) hA2 ((b1.2.2 5 (by decide)).trans (by rw [mm_I_sI, if_pos ⟨rfl, rfl⟩])) b6 (fun j hj => ?_) (fun x hx => ⟨fun z => ?_, fun z => ?_⟩))
  · have := b3 j hj
    rw [e59, Nat.zero_mul] at this
    exact this
  · rcases b9 x hx z with y | y
    · exact absurd y (hno _ x (Nat.le_refl _) hx)
    · exact y
  · obtain ⟨s, s1, s2⟩ := z
    exact b10 s s1 x s2
theorem four_p (n : Nat) : 2 ^ (2 * n) = 4 ^ n := by rw [Nat.pow_mul]
theorem and3 (x : Nat) : x &&& 3 = x % 4 := Nat.and_two_pow_sub_one_eq_mod x 2
theorem sp_M_fours {X : mm_X} {μ : mm_M} {q : Int32 → mm_M → Prop} {n : Nat} (hn : n ≤ 6) (h : q (nI (4 ^ n)) μ) : mm_Ci X 0 0 0 k_M_fours [.int (nI n)] μ q := by
  show mm_T X 0 0 0 k_M_fours 0 [some (.int (nI n))] [] μ _
  refine mm_ciN 1 d_M_fours_0 rfl ?_
  refine mm_ciN 2 d_M_fours_1 rfl ?_
  refine mm_iload d_M_fours_2 rfl ?_
  refine mm_imulN d_M_fours_3 ?_
  refine mm_ishl1N d_M_fours_4 (by omega) ?_
  exact mm_ri d_M_fours_5 (by rw [four_p]; exact h)
theorem sp_M_whom {X : mm_X} {μ : mm_M} {q : Int32 → mm_M → Prop} {k S c : Nat} {D : mm_D} (hH : Hd μ k D) (hc : c < dn D) (hS : S < 2 ^ 31) (h : q (nI (whN D S c)) μ) : mm_Ci X 2 0 0 k_M_whom [.ref 71, .int (nI S), .int (nI c)] μ q := by
  show mm_T X 2 0 0 k_M_whom 0 [some (.ref 71), some (.int (nI S)), some (.int (nI c)), none] [] μ _
  have hM := hH.1
  have hW := hH.wf
  have hn6 := hW.1
  have hk := kthN_ok (dgp D c) (hW.gp (by omega)) (hW.2.2.2.2.1 c hc)
  have hd : S / 4 ^ (dn D - 1 - c) % 4 < 4 := Nat.mod_lt _ (by decide)
  unfold whN at h
  refine mm_iload d_M_whom_0 rfl ?_
  refine mm_ciN 2 d_M_whom_1 rfl ?_
  refine mm_aload d_M_whom_2 rfl ?_
  refine mm_getIN d_M_whom_3 rfl (sk_o_71 hM) hH.n ?_
  refine mm_ciN 1 d_M_whom_6 rfl ?_
  refine mm_isubN d_M_whom_7 (by omega) ?_
  refine mm_iload d_M_whom_8 rfl ?_
  refine mm_isubN d_M_whom_9 (by omega) ?_
  refine mm_imulN d_M_whom_10 ?_
  refine mm_ishrN d_M_whom_11 (by first | omega | exact ite01_lt | exact bt8_lt31 _ _ | exact godB_lt31 _ _ _ | exact pop_lt31 _ | assumption | exact b31 (hW.gp (by omega)) | exact b31 (hW.ne (by omega)) | exact b31 (hW.op (by omega)) | exact and31 (hW.gp (by omega)) | exact and31 (hW.ne (by omega)) | exact and31 (hW.op (by omega)) | exact and31 (by assumption) | exact and31r (hW.ne (by omega)) | exact and31r (hW.gp (by omega)) | exact and31r (by decide)) (by omega) ?_
  refine mm_ciN 3 d_M_whom_12 rfl ?_
  refine mm_iandN d_M_whom_13 ?_
  rw [and3, four_p]
  generalize S / 4 ^ (dn D - 1 - c) % 4 = d at h hd ⊢
  refine mm_ist3 d_M_whom_14 ?_
  refine mm_iload d_M_whom_15 rfl ?_
  refine mm_ciN 3 d_M_whom_16 rfl ?_
  refine mm_icmp_neN d_M_whom_17 (by first | omega | exact ite01_lt | exact bt8_lt31 _ _ | exact godB_lt31 _ _ _ | exact pop_lt31 _ | assumption | exact b31 (hW.gp (by omega)) | exact b31 (hW.ne (by omega)) | exact b31 (hW.op (by omega)) | exact and31 (hW.gp (by omega)) | exact and31 (hW.ne (by omega)) | exact and31 (hW.op (by omega)) | exact and31 (by assumption) | exact and31r (hW.ne (by omega)) | exact and31r (hW.gp (by omega)) | exact and31r (by decide)) (by first | omega | exact ite01_lt | exact bt8_lt31 _ _ | exact godB_lt31 _ _ _ | exact pop_lt31 _ | assumption | exact b31 (hW.gp (by omega)) | exact b31 (hW.ne (by omega)) | exact b31 (hW.op (by omega)) | exact and31 (hW.gp (by omega)) | exact and31 (hW.ne (by omega)) | exact and31 (hW.op (by omega)) | exact and31 (by assumption) | exact and31r (hW.ne (by omega)) | exact and31r (hW.gp (by omega)) | exact and31r (by decide)) (fun c_17 => ?_) (fun c_17 => ?_)
  · refine mm_aload d_M_whom_25 rfl ?_
    refine mm_aload d_M_whom_26 rfl ?_
    refine mm_iload d_M_whom_27 rfl ?_
    refine mm_v1i d_M_whom_28 (sk_o_71 hM) (sp_M_gods hH (by omega) ?_)
    refine mm_iload d_M_whom_31 rfl ?_
    refine mm_v2i d_M_whom_32 (sk_o_71 hM) (sp_M_kth hM (hW.gp (by omega)) (hk d (by omega)).1 (hk d (by omega)).2.1 (hk d (by omega)).2.2 ?_)
    exact mm_ri d_M_whom_35 (by first | (rw [if_pos c_17] at h; exact h) | (rw [if_neg c_17] at h; exact h))
  · refine mm_ciN 8 d_M_whom_20 rfl ?_
    refine mm_goto d_M_whom_22 ?_
    exact mm_ri d_M_whom_35 (by first | (rw [if_pos c_17] at h; exact h) | (rw [if_neg c_17] at h; exact h))
def oQ : Option Nat → Int32
  | none => -1
  | some x => nI x
theorem oQ_n : oQ none = -1 := rfl
theorem oQ_s (x : Nat) : oQ (some x) = nI x := rfl
theorem sp_M_hereBy {X : mm_X} {μ : mm_M} {q : Int32 → mm_M → Prop} {k S out : Nat} {D : mm_D} {ou : Nat → Nat} (hH : Hd μ k D) (hS : S < 2 ^ 31) (hou : ∀ c, c < dn D → bt8 out c = ou c) (hout : out < 256) (h : q (oQ (hbF D ou (dn D) 0 S)) μ) : mm_Ci X 3 0 0 k_M_hereBy [.ref 71, .int (nI S), .int (nI out)] μ q := by
  show mm_T X 3 0 0 k_M_hereBy 0 [some (.ref 71), some (.int (nI S)), some (.int (nI out)), none, none, none] [] μ _
  have hM := hH.1
  have hW := hH.wf
  have hn6 := hW.1
  generalize hR : hbF D ou (dn D) 0 S = R at h
  refine mm_ciN 0 d_M_hereBy_0 rfl ?_
  refine mm_ist3 d_M_hereBy_1 ?_
  refine mm_ciN 0 d_M_hereBy_2 rfl ?_
  refine mm_ist4 d_M_hereBy_3 ?_
  refine mm_up (P := fun c => ∀ (h : Nat) (l5 : Option Value), h < 256 → hbF D ou (dn D - c) h S = R → mm_T X 3 0 0 k_M_hereBy 5 [some (.ref 71), some (.int (nI S)), some (.int (nI out)), some (.int (nI h)), some (.int (nI c)), l5] [] μ (fun v μ' => ∃ r, v = some (.int r) ∧ q r μ')) (dn D) ?_ ?_ 0 none (by decide) hR
  · intro hh l5 h2 e
    rw [Nat.sub_self] at e
    subst e
    refine mm_iload d_M_hereBy_5 rfl ?_
    refine mm_aload d_M_hereBy_7 rfl ?_
    refine mm_getIN d_M_hereBy_8 rfl (sk_o_71 hM) hH.n ?_
    refine mm_icmp_geN d_M_hereBy_11 (by first | omega | exact ite01_lt | exact bt8_lt31 _ _ | exact godB_lt31 _ _ _ | exact pop_lt31 _ | assumption | exact b31 (hW.gp (by omega)) | exact b31 (hW.ne (by omega)) | exact b31 (hW.op (by omega)) | exact and31 (hW.gp (by omega)) | exact and31 (hW.ne (by omega)) | exact and31 (hW.op (by omega)) | exact and31 (by assumption) | exact and31r (hW.ne (by omega)) | exact and31r (hW.gp (by omega)) | exact and31r (by decide)) (by first | omega | exact ite01_lt | exact bt8_lt31 _ _ | exact godB_lt31 _ _ _ | exact pop_lt31 _ | assumption | exact b31 (hW.gp (by omega)) | exact b31 (hW.ne (by omega)) | exact b31 (hW.op (by omega)) | exact and31 (hW.gp (by omega)) | exact and31 (hW.ne (by omega)) | exact and31 (hW.op (by omega)) | exact and31 (by assumption) | exact and31r (hW.ne (by omega)) | exact and31r (hW.gp (by omega)) | exact and31r (by decide)) (fun c_11 => ?_) (fun c_11 => False.elim (by omega))
    refine mm_iload d_M_hereBy_55 rfl ?_
    exact mm_ri d_M_hereBy_56 h
  · intro c hc IH hh l5 h2 e
    have ec : dn D - c = (dn D - (c + 1)) + 1 := by omega
    have ec2 : dn D - (dn D - (c + 1) + 1) = c := by omega
    have ec3 : dn D - 1 - c = dn D - (c + 1) := by omega
    have ho := hou c hc
    rw [ec] at e
    unfold hbF at e
    rw [ec2] at e
    by_cases d3 : S / 4 ^ (dn D - (c + 1)) % 4 = 3
    · rw [if_pos d3] at e
      have w8 : whN D S c = 8 := by unfold whN; rw [ec3, if_pos d3]
      refine mm_iload d_M_hereBy_5 rfl ?_
      refine mm_aload d_M_hereBy_7 rfl ?_
      refine mm_getIN d_M_hereBy_8 rfl (sk_o_71 hM) hH.n ?_
      refine mm_icmp_geN d_M_hereBy_11 (by first | omega | exact ite01_lt | exact bt8_lt31 _ _ | exact godB_lt31 _ _ _ | exact pop_lt31 _ | assumption | exact b31 (hW.gp (by omega)) | exact b31 (hW.ne (by omega)) | exact b31 (hW.op (by omega)) | exact and31 (hW.gp (by omega)) | exact and31 (hW.ne (by omega)) | exact and31 (hW.op (by omega)) | exact and31 (by assumption) | exact and31r (hW.ne (by omega)) | exact and31r (hW.gp (by omega)) | exact and31r (by decide)) (by first | omega | exact ite01_lt | exact bt8_lt31 _ _ | exact godB_lt31 _ _ _ | exact pop_lt31 _ | assumption | exact b31 (hW.gp (by omega)) | exact b31 (hW.ne (by omega)) | exact b31 (hW.op (by omega)) | exact and31 (hW.gp (by omega)) | exact and31 (hW.ne (by omega)) | exact and31 (hW.op (by omega)) | exact and31 (by assumption) | exact and31r (hW.ne (by omega)) | exact and31r (hW.gp (by omega)) | exact and31r (by decide)) (fun c_11 => False.elim (by omega)) (fun c_11 => ?_)
      refine mm_aload d_M_hereBy_14 rfl ?_
      refine mm_iload d_M_hereBy_15 rfl ?_
      refine mm_iload d_M_hereBy_16 rfl ?_
      refine mm_v2i d_M_hereBy_18 (sk_o_71 hM) (sp_M_whom hH hc hS ?_)
      rw [w8]
      refine mm_ist5 d_M_hereBy_21 ?_
      refine mm_iload d_M_hereBy_23 rfl ?_
      refine mm_ciN 8 d_M_hereBy_25 rfl ?_
      refine mm_icmp_eqN d_M_hereBy_27 (by first | omega | exact ite01_lt | exact bt8_lt31 _ _ | exact godB_lt31 _ _ _ | exact pop_lt31 _ | assumption | exact b31 (hW.gp (by omega)) | exact b31 (hW.ne (by omega)) | exact b31 (hW.op (by omega)) | exact and31 (hW.gp (by omega)) | exact and31 (hW.ne (by omega)) | exact and31 (hW.op (by omega)) | exact and31 (by assumption) | exact and31r (hW.ne (by omega)) | exact and31r (hW.gp (by omega)) | exact and31r (by decide)) (by first | omega | exact ite01_lt | exact bt8_lt31 _ _ | exact godB_lt31 _ _ _ | exact pop_lt31 _ | assumption | exact b31 (hW.gp (by omega)) | exact b31 (hW.ne (by omega)) | exact b31 (hW.op (by omega)) | exact and31 (hW.gp (by omega)) | exact and31 (hW.ne (by omega)) | exact and31 (hW.op (by omega)) | exact and31 (by assumption) | exact and31r (hW.ne (by omega)) | exact and31r (hW.gp (by omega)) | exact and31r (by decide)) (fun c_27 => ?_) (fun c_27 => False.elim (by omega))
      refine mm_inc4N d_M_hereBy_49 ?_
      refine mm_goto d_M_hereBy_52 ?_
      exact IH hh _ h2 e
    · rw [if_neg d3] at e
      have w8 : whN D S c = kthN (dgp D c) (S / 4 ^ (dn D - (c + 1)) % 4) := by unfold whN; rw [ec3, if_neg d3]
      have hk := (kthN_ok (dgp D c) (hW.gp (by omega)) (hW.2.2.2.2.1 c hc) (S / 4 ^ (dn D - (c + 1)) % 4) (by have := Nat.mod_lt (S / 4 ^ (dn D - (c + 1))) (show 0 < 4 by decide); omega)).1
      generalize kthN (dgp D c) (S / 4 ^ (dn D - (c + 1)) % 4) = w at e w8 hk
      refine mm_iload d_M_hereBy_5 rfl ?_
      refine mm_aload d_M_hereBy_7 rfl ?_
      refine mm_getIN d_M_hereBy_8 rfl (sk_o_71 hM) hH.n ?_
      refine mm_icmp_geN d_M_hereBy_11 (by first | omega | exact ite01_lt | exact bt8_lt31 _ _ | exact godB_lt31 _ _ _ | exact pop_lt31 _ | assumption | exact b31 (hW.gp (by omega)) | exact b31 (hW.ne (by omega)) | exact b31 (hW.op (by omega)) | exact and31 (hW.gp (by omega)) | exact and31 (hW.ne (by omega)) | exact and31 (hW.op (by omega)) | exact and31 (by assumption) | exact and31r (hW.ne (by omega)) | exact and31r (hW.gp (by omega)) | exact and31r (by decide)) (by first | omega | exact ite01_lt | exact bt8_lt31 _ _ | exact godB_lt31 _ _ _ | exact pop_lt31 _ | assumption | exact b31 (hW.gp (by omega)) | exact b31 (hW.ne (by omega)) | exact b31 (hW.op (by omega)) | exact and31 (hW.gp (by omega)) | exact and31 (hW.ne (by omega)) | exact and31 (hW.op (by omega)) | exact and31 (by assumption) | exact and31r (hW.ne (by omega)) | exact and31r (hW.gp (by omega)) | exact and31r (by decide)) (fun c_11 => False.elim (by omega)) (fun c_11 => ?_)
      refine mm_aload d_M_hereBy_14 rfl ?_
      refine mm_iload d_M_hereBy_15 rfl ?_
      refine mm_iload d_M_hereBy_16 rfl ?_
      refine mm_v2i d_M_hereBy_18 (sk_o_71 hM) (sp_M_whom hH hc hS ?_)
      rw [w8]
      refine mm_ist5 d_M_hereBy_21 ?_
      refine mm_iload d_M_hereBy_23 rfl ?_
      refine mm_ciN 8 d_M_hereBy_25 rfl ?_
      refine mm_icmp_eqN d_M_hereBy_27 (by first | omega | exact ite01_lt | exact bt8_lt31 _ _ | exact godB_lt31 _ _ _ | exact pop_lt31 _ | assumption | exact b31 (hW.gp (by omega)) | exact b31 (hW.ne (by omega)) | exact b31 (hW.op (by omega)) | exact and31 (hW.gp (by omega)) | exact and31 (hW.ne (by omega)) | exact and31 (hW.op (by omega)) | exact and31 (by assumption) | exact and31r (hW.ne (by omega)) | exact and31r (hW.gp (by omega)) | exact and31r (by decide)) (by first | omega | exact ite01_lt | exact bt8_lt31 _ _ | exact godB_lt31 _ _ _ | exact pop_lt31 _ | assumption | exact b31 (hW.gp (by omega)) | exact b31 (hW.ne (by omega)) | exact b31 (hW.op (by omega)) | exact and31 (hW.gp (by omega)) | exact and31 (hW.ne (by omega)) | exact and31 (hW.op (by omega)) | exact and31 (by assumption) | exact and31r (hW.ne (by omega)) | exact and31r (hW.gp (by omega)) | exact and31r (by decide)) (fun c_27 => False.elim (by omega)) (fun c_27 => ?_)
      refine mm_iload d_M_hereBy_30 rfl ?_
      refine mm_iload d_M_hereBy_31 rfl ?_
      refine mm_s2i d_M_hereBy_33 (sp_M_has (by first | omega | assumption | exact hW.gp (by omega) | exact hW.ne (by omega) | exact hW.op (by omega) | exact and_lt256 (hW.gp (by omega)) | exact and_lt256 (hW.ne (by omega)) | exact and_lt256 (hW.op (by omega)) | exact and_lt256 (by assumption)) (by omega) ?_)
      refine mm_if_eqN d_M_hereBy_36 (by first | omega | exact ite01_lt | exact bt8_lt31 _ _ | exact godB_lt31 _ _ _ | exact pop_lt31 _ | assumption | exact b31 (hW.gp (by omega)) | exact b31 (hW.ne (by omega)) | exact b31 (hW.op (by omega)) | exact and31 (hW.gp (by omega)) | exact and31 (hW.ne (by omega)) | exact and31 (hW.op (by omega)) | exact and31 (by assumption) | exact and31r (hW.ne (by omega)) | exact and31r (hW.gp (by omega)) | exact and31r (by decide)) (fun c_36 => ?_) (fun c_36 => ?_)
      · refine mm_aload d_M_hereBy_41 rfl ?_
        refine mm_iload d_M_hereBy_42 rfl ?_
        refine mm_iload d_M_hereBy_43 rfl ?_
        refine mm_v2i d_M_hereBy_45 (sk_o_71 hM) (sp_M_comes hH (by omega) ?_)
        refine mm_ist3 d_M_hereBy_48 ?_
        refine mm_inc4N d_M_hereBy_49 ?_
        refine mm_goto d_M_hereBy_52 ?_
        exact IH _ _ (comesN_lt h2 hk) (by rw [if_pos (by omega)] at e; exact e)
      · refine mm_ci d_M_hereBy_39 ?_
        exact mm_ri d_M_hereBy_40 (by rw [if_neg (by omega)] at e; subst e; exact h)
theorem sp_M_greaterB {X : mm_X} {μ : mm_M} {q : Int32 → mm_M → Prop} {a b : Nat} (ha : a < 2 ^ 30) (hb : b < 2 ^ 30) (h : q (bI (max a b)) μ) : mm_Ci X 0 0 0 k_M_greater [.int (bI a), .int (bI b)] μ q := sp_M_greater (by
  by_cases c : a ≤ b
  · rw [if_pos ((bI_le ha hb).mpr c)]; rwa [Nat.max_eq_right c] at h
  · rw [if_neg (fun z => c ((bI_le ha hb).mp z))]; rwa [Nat.max_eq_left (by omega)] at h)
def oB (x : Int32) : Option Nat → Int32
  | none => x
  | some s => nI s
theorem sp_M_feastOf {X : mm_X} {μ : mm_M} {q : Int32 → mm_M → Prop} {k out : Nat} {z : Int32} {D : mm_D} {ou : Nat → Nat} (hH : Hd μ k D) (hou : ∀ c, c < dn D → bt8 out c = ou c) (hout : out < 256) (h : ∀ ν, Fr scM μ ν → Hd ν k D → mm_I ν 71 35 = oB (mm_I μ 71 35) (fo (FF D (gN D z) ou (dn D) 0) 0 (4 ^ dn D)).2 → q (bI (fo (FF D (gN D z) ou (dn D) 0) 0 (4 ^ dn D)).1) ν) : mm_Ci X 4 0 0 k_M_feastOf [.ref 71, .int (nI out), .int z] μ q := by
  show mm_T X 4 0 0 k_M_feastOf 0 [some (.ref 71), some (.int (nI out)), some (.int z), none, none, none, none] [] μ _
  have hW := hH.wf
  have hn6 := hW.1
  have h46 : 4 ^ dn D ≤ 4096 := Nat.pow_le_pow_right (n := 4) (by decide) hn6
  have hfl : ∀ i, FF D (gN D z) ou (dn D) 0 i ≤ 900 := FF_le (fun x => gN_lt hW z x)
  have hbl : ∀ i, (fo (FF D (gN D z) ou (dn D) 0) 0 i).1 ≤ 900 := fun i => fo_le (Nat.zero_le _) hfl i
  refine mm_ci d_M_feastOf_0 ?_
  refine mm_ist3 d_M_feastOf_1 ?_
  refine mm_ciN 0 d_M_feastOf_2 rfl ?_
  refine mm_ist4 d_M_feastOf_3 ?_
  refine mm_up (P := fun i => ∀ (l5 l6 : Option Value) (ν : mm_M), Fr scM μ ν → Hd ν k D → mm_I ν 71 35 = oB (mm_I μ 71 35) (fo (FF D (gN D z) ou (dn D) 0) 0 i).2 → mm_T X 4 0 0 k_M_feastOf 5 [some (.ref 71), some (.int (nI out)), some (.int z), some (.int (bI (fo (FF D (gN D z) ou (dn D) 0) 0 i).1)), some (.int (nI i)), l5, l6] [] ν (fun v μ' => ∃ r, v = some (.int r) ∧ q r μ')) (4 ^ dn D) ?_ ?_ none none μ Fr.rf hH rfl
  · intro l5 l6 ν hf hH e
    have hM := hH.1
    refine mm_iload d_M_feastOf_5 rfl ?_
    refine mm_aload d_M_feastOf_7 rfl ?_
    refine mm_getIN d_M_feastOf_8 rfl (sk_o_71 hM) hH.n ?_
    refine mm_s1i d_M_feastOf_11 (sp_M_fours hn6 ?_)
    refine mm_icmp_geN d_M_feastOf_14 (by first | omega | exact ite01_lt | exact bt8_lt31 _ _ | exact godB_lt31 _ _ _ | exact pop_lt31 _ | assumption | exact b31 (hW.gp (by omega)) | exact b31 (hW.ne (by omega)) | exact b31 (hW.op (by omega)) | exact and31 (hW.gp (by omega)) | exact and31 (hW.ne (by omega)) | exact and31 (hW.op (by omega)) | exact and31 (by assumption) | exact and31r (hW.ne (by omega)) | exact and31r (hW.gp (by omega)) | exact and31r (by decide)) (by first | omega | exact ite01_lt | exact bt8_lt31 _ _ | exact godB_lt31 _ _ _ | exact pop_lt31 _ | assumption | exact b31 (hW.gp (by omega)) | exact b31 (hW.ne (by omega)) | exact b31 (hW.op (by omega)) | exact and31 (hW.gp (by omega)) | exact and31 (hW.ne (by omega)) | exact and31 (hW.op (by omega)) | exact and31 (by assumption) | exact and31r (hW.ne (by omega)) | exact and31r (hW.gp (by omega)) | exact and31r (by decide)) (fun c_14 => ?_) (fun c_14 => False.elim (by omega))
    refine mm_iload d_M_feastOf_96 rfl ?_
    exact mm_ri d_M_feastOf_97 (h ν hf hH e)
  · intro i hi IH l5 l6 ν hf hH e
    have hM := hH.1
    have hb := hbl i
    have hF := hfl i
    have fs : fo (FF D (gN D z) ou (dn D) 0) 0 (i + 1) = if (fo (FF D (gN D z) ou (dn D) 0) 0 i).1 < FF D (gN D z) ou (dn D) 0 i then (FF D (gN D z) ou (dn D) 0 i, some i) else fo (FF D (gN D z) ou (dn D) 0) 0 i := rfl
    have tail : ∀ (l5 : Option Value), mm_T X 4 0 0 k_M_feastOf 64 [some (.ref 71), some (.int (nI out)), some (.int z), some (.int (bI (fo (FF D (gN D z) ou (dn D) 0) 0 i).1)), some (.int (nI i)), l5, some (.int (bI (FF D (gN D z) ou (dn D) 0 i)))] [] ν (fun v μ' => ∃ r, v = some (.int r) ∧ q r μ') := by
      intro l5
      by_cases c : (fo (FF D (gN D z) ou (dn D) 0) 0 i).1 < FF D (gN D z) ou (dn D) 0 i
      · rw [if_pos c] at fs
        rw [fs] at IH
        refine mm_aload d_M_feastOf_64 rfl ?_
        refine mm_iload d_M_feastOf_65 rfl ?_
        refine mm_iload d_M_feastOf_67 rfl ?_
        refine mm_icmp_le d_M_feastOf_68 (fun c_68 => False.elim (absurd ((bI_le (by omega) (by omega)).mp c_68) (by omega))) (fun c_68 => ?_)
        refine mm_iload d_M_feastOf_71 rfl ?_
        refine mm_goto d_M_feastOf_73 ?_
        refine mm_putI d_M_feastOf_80 rfl (sk_o_71 hM) (Or.inl rfl) ?_
        refine mm_iload d_M_feastOf_83 rfl ?_
        refine mm_iload d_M_feastOf_84 rfl ?_
        refine mm_s2i d_M_feastOf_86 (sp_M_greaterB (by omega) (by omega) ?_)
        rw [Nat.max_eq_right (by omega)]
        refine mm_ist3 d_M_feastOf_89 ?_
        refine mm_inc4N d_M_feastOf_90 ?_
        refine mm_goto d_M_feastOf_93 ?_
        exact IH _ _ _ (hf.sI rfl) (hH.s71 (by decide)) (by rw [mm_I_sI, if_pos ⟨rfl, rfl⟩]; rfl)
      · rw [if_neg c] at fs
        rw [fs] at IH
        refine mm_aload d_M_feastOf_64 rfl ?_
        refine mm_iload d_M_feastOf_65 rfl ?_
        refine mm_iload d_M_feastOf_67 rfl ?_
        refine mm_icmp_le d_M_feastOf_68 (fun c_68 => ?_) (fun c_68 => False.elim (c_68 ((bI_le (by omega) (by omega)).mpr (by omega))))
        refine mm_aload d_M_feastOf_76 rfl ?_
        refine mm_getI d_M_feastOf_77 rfl (sk_o_71 hM) ?_
        refine mm_putI d_M_feastOf_80 rfl (sk_o_71 hM) (Or.inl rfl) ?_
        refine mm_iload d_M_feastOf_83 rfl ?_
        refine mm_iload d_M_feastOf_84 rfl ?_
        refine mm_s2i d_M_feastOf_86 (sp_M_greaterB (by omega) (by omega) ?_)
        rw [Nat.max_eq_left (by omega)]
        refine mm_ist3 d_M_feastOf_89 ?_
        refine mm_inc4N d_M_feastOf_90 ?_
        refine mm_goto d_M_feastOf_93 ?_
        exact IH _ _ _ (hf.sI rfl) (hH.s71 (by decide)) (by rw [mm_I_sI, if_pos ⟨rfl, rfl⟩]; exact e)
    cases hb : hbF D ou (dn D) 0 i with
    | none =>
      have e0 : FF D (gN D z) ou (dn D) 0 i = 0 := by unfold FF; rw [hb]; rfl
      rw [e0, bI_0] at tail
      refine mm_iload d_M_feastOf_5 rfl ?_
      refine mm_aload d_M_feastOf_7 rfl ?_
      refine mm_getIN d_M_feastOf_8 rfl (sk_o_71 hM) hH.n ?_
      refine mm_s1i d_M_feastOf_11 (sp_M_fours hn6 ?_)
      refine mm_icmp_geN d_M_feastOf_14 (by first | omega | exact ite01_lt | exact bt8_lt31 _ _ | exact godB_lt31 _ _ _ | exact pop_lt31 _ | assumption | exact b31 (hW.gp (by omega)) | exact b31 (hW.ne (by omega)) | exact b31 (hW.op (by omega)) | exact and31 (hW.gp (by omega)) | exact and31 (hW.ne (by omega)) | exact and31 (hW.op (by omega)) | exact and31 (by assumption) | exact and31r (hW.ne (by omega)) | exact and31r (hW.gp (by omega)) | exact and31r (by decide)) (by first | omega | exact ite01_lt | exact bt8_lt31 _ _ | exact godB_lt31 _ _ _ | exact pop_lt31 _ | assumption | exact b31 (hW.gp (by omega)) | exact b31 (hW.ne (by omega)) | exact b31 (hW.op (by omega)) | exact and31 (hW.gp (by omega)) | exact and31 (hW.ne (by omega)) | exact and31 (hW.op (by omega)) | exact and31 (by assumption) | exact and31r (hW.ne (by omega)) | exact and31r (hW.gp (by omega)) | exact and31r (by decide)) (fun c_14 => False.elim (by omega)) (fun c_14 => ?_)
      refine mm_aload d_M_feastOf_17 rfl ?_
      refine mm_iload d_M_feastOf_18 rfl ?_
      refine mm_iload d_M_feastOf_20 rfl ?_
      refine mm_v2i d_M_feastOf_21 (sk_o_71 hM) (sp_M_hereBy hH (by omega) hou hout ?_)
      rw [hb, oQ_n]
      refine mm_ist5 d_M_feastOf_24 ?_
      refine mm_iload d_M_feastOf_26 rfl ?_
      refine mm_ci d_M_feastOf_28 ?_
      refine mm_icmp_neS d_M_feastOf_29 ?_
      refine mm_ci d_M_feastOf_32 ?_
      refine mm_goto d_M_feastOf_33 ?_
      refine mm_ist6 d_M_feastOf_62 ?_
      exact tail _
    | some x =>
      have e0 : FF D (gN D z) ou (dn D) 0 i = gN D z x + 1 := by unfold FF; rw [hb]; rfl
      have hx := hbF_lt hW _ _ _ _ (Nat.le_refl _) (by decide) hb
      have hr : readyN D x < 256 := by have := readyN_lt hW x; omega
      rw [e0, bI_s] at tail
      unfold gN at tail
      refine mm_iload d_M_feastOf_5 rfl ?_
      refine mm_aload d_M_feastOf_7 rfl ?_
      refine mm_getIN d_M_feastOf_8 rfl (sk_o_71 hM) hH.n ?_
      refine mm_s1i d_M_feastOf_11 (sp_M_fours hn6 ?_)
      refine mm_icmp_geN d_M_feastOf_14 (by first | omega | exact ite01_lt | exact bt8_lt31 _ _ | exact godB_lt31 _ _ _ | exact pop_lt31 _ | assumption | exact b31 (hW.gp (by omega)) | exact b31 (hW.ne (by omega)) | exact b31 (hW.op (by omega)) | exact and31 (hW.gp (by omega)) | exact and31 (hW.ne (by omega)) | exact and31 (hW.op (by omega)) | exact and31 (by assumption) | exact and31r (hW.ne (by omega)) | exact and31r (hW.gp (by omega)) | exact and31r (by decide)) (by first | omega | exact ite01_lt | exact bt8_lt31 _ _ | exact godB_lt31 _ _ _ | exact pop_lt31 _ | assumption | exact b31 (hW.gp (by omega)) | exact b31 (hW.ne (by omega)) | exact b31 (hW.op (by omega)) | exact and31 (hW.gp (by omega)) | exact and31 (hW.ne (by omega)) | exact and31 (hW.op (by omega)) | exact and31 (by assumption) | exact and31r (hW.ne (by omega)) | exact and31r (hW.gp (by omega)) | exact and31r (by decide)) (fun c_14 => False.elim (by omega)) (fun c_14 => ?_)
      refine mm_aload d_M_feastOf_17 rfl ?_
      refine mm_iload d_M_feastOf_18 rfl ?_
      refine mm_iload d_M_feastOf_20 rfl ?_
      refine mm_v2i d_M_feastOf_21 (sk_o_71 hM) (sp_M_hereBy hH (by omega) hou hout ?_)
      rw [hb, oQ_s]
      refine mm_ist5 d_M_feastOf_24 ?_
      refine mm_iload d_M_feastOf_26 rfl ?_
      refine mm_ci d_M_feastOf_28 ?_
      refine mm_icmp_neM1 d_M_feastOf_29 (by first | omega | exact ite01_lt | exact bt8_lt31 _ _ | exact godB_lt31 _ _ _ | exact pop_lt31 _ | assumption | exact b31 (hW.gp (by omega)) | exact b31 (hW.ne (by omega)) | exact b31 (hW.op (by omega)) | exact and31 (hW.gp (by omega)) | exact and31 (hW.ne (by omega)) | exact and31 (hW.op (by omega)) | exact and31 (by assumption) | exact and31r (hW.ne (by omega)) | exact and31r (hW.gp (by omega)) | exact and31r (by decide)) ?_
      refine mm_iload d_M_feastOf_36 rfl ?_
      refine mm_if_eq d_M_feastOf_37 (fun c_37 => ?_) (fun c_37 => ?_)
      · refine mm_aload d_M_feastOf_52 rfl ?_
        refine mm_aload d_M_feastOf_53 rfl ?_
        refine mm_iload d_M_feastOf_54 rfl ?_
        refine mm_v1i d_M_feastOf_56 (sk_o_71 hM) (sp_M_readyBy hH ?_)
        refine mm_v1i d_M_feastOf_59 (sk_o_71 hM) (sp_M_worthOf hH (by first | omega | assumption | exact hW.gp (by omega) | exact hW.ne (by omega) | exact hW.op (by omega) | exact and_lt256 (hW.gp (by omega)) | exact and_lt256 (hW.ne (by omega)) | exact and_lt256 (hW.op (by omega)) | exact and_lt256 (by assumption)) ?_)
        refine mm_ist6 d_M_feastOf_62 ?_
        first | (rw [if_pos c_37] at tail; exact tail _) | (rw [if_neg c_37] at tail; exact tail _)
      · refine mm_aload d_M_feastOf_40 rfl ?_
        refine mm_iload d_M_feastOf_41 rfl ?_
        refine mm_v1i d_M_feastOf_43 (sk_o_71 hM) (sp_M_readyBy hH ?_)
        refine mm_s1i d_M_feastOf_46 (sp_M_ones (by first | omega | assumption | exact hW.gp (by omega) | exact hW.ne (by omega) | exact hW.op (by omega) | exact and_lt256 (hW.gp (by omega)) | exact and_lt256 (hW.ne (by omega)) | exact and_lt256 (hW.op (by omega)) | exact and_lt256 (by assumption)) ?_)
        refine mm_goto d_M_feastOf_49 ?_
        refine mm_ist6 d_M_feastOf_62 ?_
        first | (rw [if_pos c_37] at tail; exact tail _) | (rw [if_neg c_37] at tail; exact tail _)
