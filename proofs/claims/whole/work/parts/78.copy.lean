/-! copies: image, again -/
theorem mm_aald0 {X : mm_X} {d nc ns : Nat} {K : mm_K} {pc n : Nat} {ls : List (Option Value)} {st : List Value} {μ : mm_M} {Q : Option Value → mm_M → Prop} {a t k : Nat} {i : Int32} (hd : mm_d K pc .aaload 1 n) (ha : mm_ar μ a (4 + t) k) (hi : vp_in i k) (hr : mm_P μ a i.toNatClampNeg = none) (h : mm_T X d nc ns K n ls (.null :: st) μ Q) : mm_T X d nc ns K pc ls (.int i :: .ref a :: st) μ Q := by
  intro p l e R s m args below meth c G A H locs cells slots mc ms lsA hC hW hR h1 h2 hS hH hL
  have k := h p l e R s m args below meth c G A H locs cells slots mc ms lsA hC hW hR h1 h2 hS hH hL
  obtain ⟨h3, rfl⟩ := hd
  show W p l e R s m args below meth c H locs cells slots _ (F0 m pc lsA (.int i :: .ref (G.2.2.2 a) :: _))
  rw [mm_bad hW hH ha.1]
  have ht : t < 4 := by have := ha.2.2; omega
  have e1 : mm_ac G μ a (4 + t) = .inr (.inr (.inr (.inr (fun i => (mm_P μ a i).map G.2.2.2)))) := by
    rw [Nat.add_comm]; rfl
  obtain ⟨C, hC9⟩ : ∃ C, mm_ty (4 + t) = .object C := by
    match t, ht with
    | 0, _ => exact ⟨_, rfl⟩
    | 1, _ => exact ⟨_, rfl⟩
    | 2, _ => exact ⟨_, rfl⟩
    | 3, _ => exact ⟨_, rfl⟩
    | t + 4, ht => exact absurd ht (by omega)
  refine va_aldq (C := C) hC.1 hC.2.1 hW.1 hH.2.2.1 a (4 + t) ((mm_Wq ha.1).trans (by rw [mm_ce_ar ha, e1])) ((mm_tyq G.2.1 ha.2.2).trans (by rw [hC9])) hi h3 ?_
  rw [hr]
  exact k
theorem mm_aaldX {X : mm_X} {d nc ns : Nat} {K : mm_K} {pc n : Nat} {ls : List (Option Value)} {st : List Value} {μ : mm_M} {Q : Option Value → mm_M → Prop} {a t k r j : Nat} (hd : mm_d K pc .aaload 1 n) (ha : mm_ar μ a (4 + t) k) (hj : j < k) (hk : k < 2 ^ 31) (hr : mm_P μ a j = some r) (h : mm_T X d nc ns K n ls (.ref r :: st) μ Q) : mm_T X d nc ns K pc ls (.int (nI j) :: .ref a :: st) μ Q := mm_aald hd ha (vp_in_nI hj hk) (by rw [nI_clamp (Nat.lt_trans hj hk)]; exact hr) h
theorem mm_aald0X {X : mm_X} {d nc ns : Nat} {K : mm_K} {pc n : Nat} {ls : List (Option Value)} {st : List Value} {μ : mm_M} {Q : Option Value → mm_M → Prop} {a t k j : Nat} (hd : mm_d K pc .aaload 1 n) (ha : mm_ar μ a (4 + t) k) (hj : j < k) (hk : k < 2 ^ 31) (hr : mm_P μ a j = none) (h : mm_T X d nc ns K n ls (.null :: st) μ Q) : mm_T X d nc ns K pc ls (.int (nI j) :: .ref a :: st) μ Q := mm_aald0 hd ha (vp_in_nI hj hk) (by rw [nI_clamp (Nat.lt_trans hj hk)]; exact hr) h
theorem mm_acopyN {X : mm_X} {d nc ns : Nat} {K : mm_K} {pc n : Nat} {ls : List (Option Value)} {st : List Value} {μ : mm_M} {Q : Option Value → mm_M → Prop} {a b t k0 k1 m : Nat} (hd : mm_cm K arraycopyName pc n) (ht : t < 3) (ha : mm_ar μ a t k0) (hb : mm_ar μ b t k1) (h4 : m ≤ k0) (h5 : m ≤ k1) (hm : m < 2 ^ 31) (hfit : ∀ i, i < m → fits (mm_ty t) (.int (mm_I μ a i)) = true) (h : mm_T X d nc ns K n ls st (mm_cp μ a b 0 0 m) Q) (hdd : 1 ≤ d := by exact Nat.le_of_ble_eq_true rfl) (hcat : (st.map fun v => v.category).sum ≤ 8 := by exact Nat.le_of_ble_eq_true rfl) : mm_T X d nc ns K pc ls (.int (nI m) :: .int (nI 0) :: .ref b :: .int (nI 0) :: .ref a :: st) μ Q := by
  have e0 : (nI 0).toNatClampNeg = 0 := rfl
  refine mm_acopy hd ht ha hb (by decide) (by decide) (nI_pos hm) ?_ ?_ ?_ ?_ hdd hcat
  · rw [nI_clamp hm, e0]; omega
  · rw [nI_clamp hm, e0]; omega
  · rw [nI_clamp hm, e0]; intro i hi; rw [Nat.zero_add]; exact hfit i hi
  · rw [nI_clamp hm, e0]; exact h
theorem mm_I_cp {μ : mm_M} {a b m q j : Nat} : mm_I (mm_cp μ a b 0 0 m) q j = if q = b ∧ j < m then mm_I μ a j else mm_I μ q j := by
  by_cases h : q = b
  · subst h
    rw [mm_cp_at]
    by_cases h2 : j < m
    · rw [sb_cpy0 h2, if_pos ⟨rfl, h2⟩]
    · rw [pk_cpy_out (Or.inr (by omega)), if_neg (fun z => h2 z.2)]
  · rw [mm_cp_off h, if_neg (fun z => h z.1)]
def scR (b n x : Nat) : Bool := b ≤ x && x ≤ b + n
theorem scR_f {b n x : Nat} (h : x < b ∨ b + n < x) : scR b n x = false := by unfold scR; simp; omega
theorem scR_t {b n x : Nat} (h : b ≤ x ∧ x ≤ b + n) : scR b n x = true := by unfold scR; simp; omega
theorem scR_o {b n x : Nat} (h : scR b n x = true) : b ≤ x ∧ x ≤ b + n := by unfold scR at h; simp at h; omega
theorem sp_Co_copyFrom {X : mm_X} {μ : mm_M} {q : mm_M → Prop} {a b : Nat} (h1 : CoS μ a) (h2 : CoS μ b) (hd : a + 6 < b ∨ b + 6 < a) (h : ∀ μ', Fr (scR b 6) μ μ' → mm_P μ' = mm_P μ → CyC μ a μ' b → q μ') : mm_Cv X 1 0 0 k_Co_copyFrom [.ref b, .ref a] μ q := by
  show mm_T X 1 0 0 k_Co_copyFrom 0 [some (.ref b), some (.ref a)] [] μ _
  have hA : CoS μ a ∧ True := ⟨h1, trivial⟩
  have hB : CoS μ b ∧ True := ⟨h2, trivial⟩
  have t : ∀ x, x ≤ 6 → scR b 6 (b + x) = true := fun x hx => scR_t ⟨by omega, by omega⟩
  refine mm_aload d_Co_copyFrom_0 rfl ?_
  refine mm_getP d_Co_copyFrom_1 rfl hA.1.1 (CoS_p0 hA.1) ?_
  refine mm_ciN 0 d_Co_copyFrom_4 rfl ?_
  refine mm_aload d_Co_copyFrom_5 rfl ?_
  refine mm_getP d_Co_copyFrom_6 rfl hB.1.1 (CoS_p0 hB.1) ?_
  refine mm_ciN 0 d_Co_copyFrom_9 rfl ?_
  refine mm_ciN 8 d_Co_copyFrom_10 rfl ?_
  refine mm_acopyN d_Co_copyFrom_12 (by decide) (CoS_a0 hA.1) (CoS_a0 hB.1) (by decide) (by decide) (by decide) (fun _ _ => rfl) ?_
  refine mm_aload d_Co_copyFrom_15 rfl ?_
  refine mm_getP d_Co_copyFrom_16 rfl hA.1.1 (CoS_p1 hA.1) ?_
  refine mm_ciN 0 d_Co_copyFrom_19 rfl ?_
  refine mm_aload d_Co_copyFrom_20 rfl ?_
  refine mm_getP d_Co_copyFrom_21 rfl hB.1.1 (CoS_p1 hB.1) ?_
  refine mm_ciN 0 d_Co_copyFrom_24 rfl ?_
  refine mm_ciN 8 d_Co_copyFrom_25 rfl ?_
  refine mm_acopyN d_Co_copyFrom_27 (by decide) (CoS_a1 hA.1) (CoS_a1 hB.1) (by decide) (by decide) (by decide) (fun _ _ => rfl) ?_
  refine mm_aload d_Co_copyFrom_30 rfl ?_
  refine mm_getP d_Co_copyFrom_31 rfl hA.1.1 (CoS_p2 hA.1) ?_
  refine mm_ciN 0 d_Co_copyFrom_34 rfl ?_
  refine mm_aload d_Co_copyFrom_35 rfl ?_
  refine mm_getP d_Co_copyFrom_36 rfl hB.1.1 (CoS_p2 hB.1) ?_
  refine mm_ciN 0 d_Co_copyFrom_39 rfl ?_
  refine mm_ciN 8 d_Co_copyFrom_40 rfl ?_
  refine mm_acopyN d_Co_copyFrom_42 (by decide) (CoS_a2 hA.1) (CoS_a2 hB.1) (by decide) (by decide) (by decide) (fun _ _ => rfl) ?_
  refine mm_aload d_Co_copyFrom_45 rfl ?_
  refine mm_getP d_Co_copyFrom_46 rfl hA.1.1 (CoS_p3 hA.1) ?_
  refine mm_ciN 0 d_Co_copyFrom_49 rfl ?_
  refine mm_aload d_Co_copyFrom_50 rfl ?_
  refine mm_getP d_Co_copyFrom_51 rfl hB.1.1 (CoS_p3 hB.1) ?_
  refine mm_ciN 0 d_Co_copyFrom_54 rfl ?_
  refine mm_ciN 6 d_Co_copyFrom_55 rfl ?_
  refine mm_acopyN d_Co_copyFrom_57 (by decide) (CoS_a3 hA.1) (CoS_a3 hB.1) (by decide) (by decide) (by decide) (fun _ _ => rfl) ?_
  refine mm_aload d_Co_copyFrom_60 rfl ?_
  refine mm_getP d_Co_copyFrom_61 rfl hA.1.1 (CoS_p4 hA.1) ?_
  refine mm_ciN 0 d_Co_copyFrom_64 rfl ?_
  refine mm_aload d_Co_copyFrom_65 rfl ?_
  refine mm_getP d_Co_copyFrom_66 rfl hB.1.1 (CoS_p4 hB.1) ?_
  refine mm_ciN 0 d_Co_copyFrom_69 rfl ?_
  refine mm_ciN 6 d_Co_copyFrom_70 rfl ?_
  refine mm_acopyN d_Co_copyFrom_72 (by decide) (CoS_a4 hA.1) (CoS_a4 hB.1) (by decide) (by decide) (by decide) (fun _ _ => rfl) ?_
  refine mm_aload d_Co_copyFrom_75 rfl ?_
  refine mm_getP d_Co_copyFrom_76 rfl hA.1.1 (CoS_p5 hA.1) ?_
  refine mm_ciN 0 d_Co_copyFrom_79 rfl ?_
  refine mm_aload d_Co_copyFrom_80 rfl ?_
  refine mm_getP d_Co_copyFrom_81 rfl hB.1.1 (CoS_p5 hB.1) ?_
  refine mm_ciN 0 d_Co_copyFrom_84 rfl ?_
  refine mm_ciN 6 d_Co_copyFrom_85 rfl ?_
  refine mm_acopyN d_Co_copyFrom_87 (by decide) (CoS_a5 hA.1) (CoS_a5 hB.1) (by decide) (by decide) (by decide) (fun _ _ => rfl) ?_
  refine mm_aload d_Co_copyFrom_90 rfl ?_
  refine mm_aload d_Co_copyFrom_91 rfl ?_
  refine mm_getI d_Co_copyFrom_92 rfl hA.1.1 ?_
  refine mm_putI d_Co_copyFrom_95 rfl hB.1.1 (Or.inl rfl) ?_
  refine mm_aload d_Co_copyFrom_98 rfl ?_
  refine mm_aload d_Co_copyFrom_99 rfl ?_
  refine mm_getI d_Co_copyFrom_100 rfl hA.1.1 ?_
  refine mm_putI d_Co_copyFrom_103 rfl hB.1.1 (Or.inl rfl) ?_
  exact mm_rv d_Co_copyFrom_106 (h _ ((((((((Fr.rf.cp (t 1 (by decide))).cp (t 2 (by decide))).cp (t 3 (by decide))).cp (t 4 (by decide))).cp (t 5 (by decide))).cp (t 6 (by decide))).sI (t 0 (by decide))).sI (t 0 (by decide))) rfl ⟨by simp only [mm_I_sI, mm_I_cp]; (repeat (first | rw [if_neg (by first | omega | (intro z; have := z.2; omega))] | rw [if_pos (by first | omega | (refine ⟨trivial, ?_⟩; first | trivial | omega))])), by simp only [mm_I_sI, mm_I_cp]; (repeat (first | rw [if_neg (by first | omega | (intro z; have := z.2; omega))] | rw [if_pos (by first | omega | (refine ⟨trivial, ?_⟩; first | trivial | omega))])), fun j hj => by refine ⟨?_, ?_, ?_⟩ <;> (simp only [mm_I_sI, mm_I_cp]; (repeat (first | rw [if_neg (by first | omega | (intro z; have := z.2; omega))] | rw [if_pos (by first | omega | (refine ⟨trivial, ?_⟩; first | trivial | omega))]))), fun j hj => by refine ⟨?_, ?_, ?_⟩ <;> (simp only [mm_I_sI, mm_I_cp]; (repeat (first | rw [if_neg (by first | omega | (intro z; have := z.2; omega))] | rw [if_pos (by first | omega | (refine ⟨trivial, ?_⟩; first | trivial | omega))])))⟩)
theorem sp_Ye_copyFrom {X : mm_X} {μ : mm_M} {q : mm_M → Prop} {a b : Nat} (h1 : YeS μ a) (h2 : YeS μ b) (hd : a + 3 < b ∨ b + 3 < a) (h : ∀ μ', Fr (scR b 3) μ μ' → mm_P μ' = mm_P μ → CyY μ a μ' b → q μ') : mm_Cv X 1 0 0 k_Ye_copyFrom [.ref b, .ref a] μ q := by
  show mm_T X 1 0 0 k_Ye_copyFrom 0 [some (.ref b), some (.ref a)] [] μ _
  obtain ⟨oa, ⟨a1, a2⟩, ⟨a3, a4⟩, ⟨a5, a6⟩⟩ := h1
  obtain ⟨ob, ⟨b1, b2⟩, ⟨b3, b4⟩, ⟨b5, b6⟩⟩ := h2
  have t : ∀ x, x ≤ 3 → scR b 3 (b + x) = true := fun x hx => scR_t ⟨by omega, by omega⟩
  refine mm_aload d_Ye_copyFrom_0 rfl ?_
  refine mm_getP d_Ye_copyFrom_1 rfl oa a1 ?_
  refine mm_ciN 0 d_Ye_copyFrom_4 rfl ?_
  refine mm_aload d_Ye_copyFrom_5 rfl ?_
  refine mm_getP d_Ye_copyFrom_6 rfl ob b1 ?_
  refine mm_ciN 0 d_Ye_copyFrom_9 rfl ?_
  refine mm_ciN 40 d_Ye_copyFrom_10 rfl ?_
  refine mm_acopyN d_Ye_copyFrom_12 (by decide) a2 b2 (by decide) (by decide) (by decide) (fun _ _ => rfl) ?_
  refine mm_aload d_Ye_copyFrom_15 rfl ?_
  refine mm_getP d_Ye_copyFrom_16 rfl oa a3 ?_
  refine mm_ciN 0 d_Ye_copyFrom_19 rfl ?_
  refine mm_aload d_Ye_copyFrom_20 rfl ?_
  refine mm_getP d_Ye_copyFrom_21 rfl ob b3 ?_
  refine mm_ciN 0 d_Ye_copyFrom_24 rfl ?_
  refine mm_ciN 40 d_Ye_copyFrom_25 rfl ?_
  refine mm_acopyN d_Ye_copyFrom_27 (by decide) a4 b4 (by decide) (by decide) (by decide) (fun _ _ => rfl) ?_
  refine mm_aload d_Ye_copyFrom_30 rfl ?_
  refine mm_getP d_Ye_copyFrom_31 rfl oa a5 ?_
  refine mm_ciN 0 d_Ye_copyFrom_34 rfl ?_
  refine mm_aload d_Ye_copyFrom_35 rfl ?_
  refine mm_getP d_Ye_copyFrom_36 rfl ob b5 ?_
  refine mm_ciN 0 d_Ye_copyFrom_39 rfl ?_
  refine mm_ciN 40 d_Ye_copyFrom_40 rfl ?_
  refine mm_acopyN d_Ye_copyFrom_42 (by decide) a6 b6 (by decide) (by decide) (by decide) (fun _ _ => rfl) ?_
  refine mm_aload d_Ye_copyFrom_45 rfl ?_
  refine mm_aload d_Ye_copyFrom_46 rfl ?_
  refine mm_getI d_Ye_copyFrom_47 rfl oa ?_
  refine mm_putI d_Ye_copyFrom_50 rfl ob (Or.inl rfl) ?_
  exact mm_rv d_Ye_copyFrom_53 (h _ ((((Fr.rf.cp (t 1 (by decide))).cp (t 2 (by decide))).cp (t 3 (by decide))).sI (t 0 (by decide))) rfl ⟨by simp only [mm_I_sI, mm_I_cp]; (repeat (first | rw [if_neg (by first | omega | (intro z; have := z.2; omega))] | rw [if_pos (by first | omega | (refine ⟨trivial, ?_⟩; first | trivial | omega))])), fun j hj => by refine ⟨?_, ?_, ?_⟩ <;> (simp only [mm_I_sI, mm_I_cp]; (repeat (first | rw [if_neg (by first | omega | (intro z; have := z.2; omega))] | rw [if_pos (by first | omega | (refine ⟨trivial, ?_⟩; first | trivial | omega))])))⟩)
theorem sp_Lo_copyFrom {X : mm_X} {μ : mm_M} {q : mm_M → Prop} {a b : Nat} (h1 : LoS μ a) (h2 : LoS μ b) (hd : a + 2 < b ∨ b + 2 < a) (h : ∀ μ', Fr (scR b 2) μ μ' → mm_P μ' = mm_P μ → CyL μ a μ' b → q μ') : mm_Cv X 1 0 0 k_Lo_copyFrom [.ref b, .ref a] μ q := by
  show mm_T X 1 0 0 k_Lo_copyFrom 0 [some (.ref b), some (.ref a)] [] μ _
  obtain ⟨oa, ⟨a1, a2⟩, ⟨a3, a4⟩⟩ := h1
  obtain ⟨ob, ⟨b1, b2⟩, ⟨b3, b4⟩⟩ := h2
  have t : ∀ x, x ≤ 2 → scR b 2 (b + x) = true := fun x hx => scR_t ⟨by omega, by omega⟩
  refine mm_aload d_Lo_copyFrom_0 rfl ?_
  refine mm_getP d_Lo_copyFrom_1 rfl oa a1 ?_
  refine mm_ciN 0 d_Lo_copyFrom_4 rfl ?_
  refine mm_aload d_Lo_copyFrom_5 rfl ?_
  refine mm_getP d_Lo_copyFrom_6 rfl ob b1 ?_
  refine mm_ciN 0 d_Lo_copyFrom_9 rfl ?_
  refine mm_ciN 8 d_Lo_copyFrom_10 rfl ?_
  refine mm_acopyN d_Lo_copyFrom_12 (by decide) a2 b2 (by decide) (by decide) (by decide) (fun _ _ => rfl) ?_
  refine mm_aload d_Lo_copyFrom_15 rfl ?_
  refine mm_getP d_Lo_copyFrom_16 rfl oa a3 ?_
  refine mm_ciN 0 d_Lo_copyFrom_19 rfl ?_
  refine mm_aload d_Lo_copyFrom_20 rfl ?_
  refine mm_getP d_Lo_copyFrom_21 rfl ob b3 ?_
  refine mm_ciN 0 d_Lo_copyFrom_24 rfl ?_
  refine mm_ciN 8 d_Lo_copyFrom_25 rfl ?_
  refine mm_acopyN d_Lo_copyFrom_27 (by decide) a4 b4 (by decide) (by decide) (by decide) (fun _ _ => rfl) ?_
  refine mm_aload d_Lo_copyFrom_30 rfl ?_
  refine mm_aload d_Lo_copyFrom_31 rfl ?_
  refine mm_getI d_Lo_copyFrom_32 rfl oa ?_
  refine mm_putI d_Lo_copyFrom_35 rfl ob (Or.inl rfl) ?_
  exact mm_rv d_Lo_copyFrom_38 (h _ (((Fr.rf.cp (t 1 (by decide))).cp (t 2 (by decide))).sI (t 0 (by decide))) rfl ⟨by simp only [mm_I_sI, mm_I_cp]; (repeat (first | rw [if_neg (by first | omega | (intro z; have := z.2; omega))] | rw [if_pos (by first | omega | (refine ⟨trivial, ?_⟩; first | trivial | omega))])), fun j hj => by refine ⟨?_, ?_⟩ <;> (simp only [mm_I_sI, mm_I_cp]; (repeat (first | rw [if_neg (by first | omega | (intro z; have := z.2; omega))] | rw [if_pos (by first | omega | (refine ⟨trivial, ?_⟩; first | trivial | omega))])))⟩)
theorem ToS.sm {μ μ' : mm_M} {t : Nat} (h : ToS μ t) (hn : mm_n μ' = mm_n μ) (hs : mm_sh μ' = mm_sh μ) (hP : mm_P μ' = mm_P μ) : ToS μ' t := by
  unfold ToS CoS YeS LoS mm_ob mm_ar at *
  rw [hn, hs, hP]
  exact h
theorem ToS.pc {μ : mm_M} {t i : Nat} (h : ToS μ t) (hi : i < 2) : mm_P μ (t + 2) i = some (t + 3 + 7 * i) := by
  have h2 : i = 0 ∨ i = 1 := by omega
  rcases h2 with rfl | rfl
  · exact h.2.2.1.2.2.1
  · exact h.2.2.1.2.2.2.1
theorem ToS.py {μ : mm_M} {t i : Nat} (h : ToS μ t) (hi : i < 2) : mm_P μ (t + 17) i = some (t + 18 + 4 * i) := by
  have h2 : i = 0 ∨ i = 1 := by omega
  rcases h2 with rfl | rfl
  · exact h.2.2.2.1.2.2.1
  · exact h.2.2.2.1.2.2.2.1
theorem ToS.pl {μ : mm_M} {t i : Nat} (h : ToS μ t) (hi : i < 2) : mm_P μ (t + 26) i = some (t + 27 + 3 * i) := by
  have h2 : i = 0 ∨ i = 1 := by omega
  rcases h2 with rfl | rfl
  · exact h.2.2.2.2.1.2.2.1
  · exact h.2.2.2.2.1.2.2.2.1
theorem CyC.frm {μ ν μ' ν' : mm_M} {a b : Nat} (c : CyC μ a ν b) (e1 : ∀ x, x ≤ 6 → mm_I μ' (a + x) = mm_I μ (a + x)) (e2 : ∀ x, x ≤ 6 → mm_I ν' (b + x) = mm_I ν (b + x)) : CyC μ' a ν' b := by
  unfold CyC at *
  rw [show mm_I μ' a = mm_I μ a from e1 0 (by decide), e1 1 (by decide), e1 2 (by decide), e1 3 (by decide), e1 4 (by decide), e1 5 (by decide), e1 6 (by decide), show mm_I ν' b = mm_I ν b from e2 0 (by decide), e2 1 (by decide), e2 2 (by decide), e2 3 (by decide), e2 4 (by decide), e2 5 (by decide), e2 6 (by decide)]
  exact c
theorem CyY.frm {μ ν μ' ν' : mm_M} {a b : Nat} (c : CyY μ a ν b) (e1 : ∀ x, x ≤ 3 → mm_I μ' (a + x) = mm_I μ (a + x)) (e2 : ∀ x, x ≤ 3 → mm_I ν' (b + x) = mm_I ν (b + x)) : CyY μ' a ν' b := by
  unfold CyY at *
  rw [show mm_I μ' a = mm_I μ a from e1 0 (by decide), e1 1 (by decide), e1 2 (by decide), e1 3 (by decide), show mm_I ν' b = mm_I ν b from e2 0 (by decide), e2 1 (by decide), e2 2 (by decide), e2 3 (by decide)]
  exact c
theorem CyL.frm {μ ν μ' ν' : mm_M} {a b : Nat} (c : CyL μ a ν b) (e1 : ∀ x, x ≤ 2 → mm_I μ' (a + x) = mm_I μ (a + x)) (e2 : ∀ x, x ≤ 2 → mm_I ν' (b + x) = mm_I ν (b + x)) : CyL μ' a ν' b := by
  unfold CyL at *
  rw [show mm_I μ' a = mm_I μ a from e1 0 (by decide), e1 1 (by decide), e1 2 (by decide), show mm_I ν' b = mm_I ν b from e2 0 (by decide), e2 1 (by decide), e2 2 (by decide)]
  exact c
def CyI (μ ν : mm_M) (a b i : Nat) : Prop := Fr (scR b 33) μ ν ∧ mm_P ν = mm_P μ ∧ (∀ j, mm_I ν (b + 1) j = if j < 600 then mm_I μ (a + 1) j else mm_I μ (b + 1) j) ∧ ∀ e, e < i → CyC μ (a + 3 + 7 * e) ν (b + 3 + 7 * e) ∧ CyY μ (a + 18 + 4 * e) ν (b + 18 + 4 * e) ∧ CyL μ (a + 27 + 3 * e) ν (b + 27 + 3 * e)
theorem sp_To_copyFrom {X : mm_X} {μ : mm_M} {q : mm_M → Prop} {a b : Nat} (h1 : ToS μ a) (h2 : ToS μ b) (hb : ∀ j, fits .byte (.int (mm_I μ (a + 1) j)) = true) (hd : a + 33 < b ∨ b + 33 < a) (h : ∀ μ', Fr (scR b 33) μ μ' → mm_P μ' = mm_P μ → CyT μ a μ' b → (∀ j, 600 ≤ j → mm_I μ' (b + 1) j = mm_I μ (b + 1) j) → q μ') : mm_Cv X 2 0 0 k_To_copyFrom [.ref b, .ref a] μ q := by
  show mm_T X 2 0 0 k_To_copyFrom 0 [some (.ref b), some (.ref a), none] [] μ _
  have t : ∀ x, x ≤ 33 → scR b 33 (b + x) = true := fun x hx => scR_t ⟨by omega, by omega⟩
  have fa : ∀ ν, Fr (scR b 33) μ ν → ∀ x, x ≤ 33 → mm_I ν (a + x) = mm_I μ (a + x) := fun ν hf x hx => (hf.2.2.1 (a + x) (scR_f (by omega))).1
  refine mm_aload d_To_copyFrom_0 rfl ?_
  refine mm_getP d_To_copyFrom_1 rfl h1.1 h1.2.1.1 ?_
  refine mm_ciN 0 d_To_copyFrom_4 rfl ?_
  refine mm_aload d_To_copyFrom_5 rfl ?_
  refine mm_getP d_To_copyFrom_6 rfl h2.1 h2.2.1.1 ?_
  refine mm_ciN 0 d_To_copyFrom_9 rfl ?_
  refine mm_ciN 600 d_To_copyFrom_10 rfl ?_
  refine mm_acopyN d_To_copyFrom_13 (by decide) h1.2.1.2 h2.2.1.2 (by decide) (by decide) (by decide) (fun i _ => hb i) ?_
  refine mm_ciN 0 d_To_copyFrom_16 rfl ?_
  refine mm_ist2 d_To_copyFrom_17 ?_
  refine mm_up (P := fun i => ∀ ν, (CyI μ ν a b i) → mm_T X _ 0 0 k_To_copyFrom 18 [some (.ref b), some (.ref a), some (.int (nI i))] [] ν _) (2) ?_ ?_ _ ⟨Fr.rf.cp (t 1 (by decide)), rfl, fun j => by rw [mm_I_cp]; by_cases z : j < 600; rw [if_pos ⟨rfl, z⟩, if_pos z]; rw [if_neg (fun w => z w.2), if_neg z], fun e he => absurd he (Nat.not_lt_zero e)⟩
  · intro ν hI
    obtain ⟨hf, hP, et, ec⟩ := hI
    have s1 := h1.sm hf.1 hf.2.1 hP
    have s2 := h2.sm hf.1 hf.2.1 hP
    refine mm_iload d_To_copyFrom_18 rfl ?_
    refine mm_ciN 2 d_To_copyFrom_19 rfl ?_
    refine mm_icmp_geN d_To_copyFrom_20 (by first | omega | exact ite01_lt | exact bt8_lt31 _ _ | exact godB_lt31 _ _ _ | exact pop_lt31 _ | assumption | exact b31 (hW.gp (by omega)) | exact b31 (hW.ne (by omega)) | exact b31 (hW.op (by omega)) | exact and31 (hW.gp (by omega)) | exact and31 (hW.ne (by omega)) | exact and31 (hW.op (by omega)) | exact and31 (by assumption) | exact and31r (hW.ne (by omega)) | exact and31r (hW.gp (by omega)) | exact and31r (by decide)) (by first | omega | exact ite01_lt | exact bt8_lt31 _ _ | exact godB_lt31 _ _ _ | exact pop_lt31 _ | assumption | exact b31 (hW.gp (by omega)) | exact b31 (hW.ne (by omega)) | exact b31 (hW.op (by omega)) | exact and31 (hW.gp (by omega)) | exact and31 (hW.ne (by omega)) | exact and31 (hW.op (by omega)) | exact and31 (by assumption) | exact and31r (hW.ne (by omega)) | exact and31r (hW.gp (by omega)) | exact and31r (by decide)) (fun c_20 => ?_) (fun c_20 => False.elim (by omega))
    refine mm_aload d_To_copyFrom_74 rfl ?_
    refine mm_getP d_To_copyFrom_75 rfl s1.1 s1.2.2.2.2.2.1 ?_
    refine mm_ciN 0 d_To_copyFrom_78 rfl ?_
    refine mm_aload d_To_copyFrom_79 rfl ?_
    refine mm_getP d_To_copyFrom_80 rfl s2.1 s2.2.2.2.2.2.1 ?_
    refine mm_ciN 0 d_To_copyFrom_83 rfl ?_
    refine mm_ciN 3 d_To_copyFrom_84 rfl ?_
    refine mm_acopyN d_To_copyFrom_85 (by decide) s1.2.2.2.2.2.2 s2.2.2.2.2.2.2 (by decide) (by decide) (by decide) (fun _ _ => rfl) ?_
    refine mm_aload d_To_copyFrom_88 rfl ?_
    refine mm_aload d_To_copyFrom_89 rfl ?_
    refine mm_getI d_To_copyFrom_90 rfl s1.1 ?_
    refine mm_putI d_To_copyFrom_93 rfl s2.1 (Or.inl rfl) ?_
    refine mm_aload d_To_copyFrom_96 rfl ?_
    refine mm_aload d_To_copyFrom_97 rfl ?_
    refine mm_getI d_To_copyFrom_98 rfl s1.1 ?_
    refine mm_putI d_To_copyFrom_101 rfl s2.1 (Or.inl rfl) ?_
    refine mm_aload d_To_copyFrom_104 rfl ?_
    refine mm_aload d_To_copyFrom_105 rfl ?_
    refine mm_getI d_To_copyFrom_106 rfl s1.1 ?_
    refine mm_putI d_To_copyFrom_109 rfl s2.1 (Or.inl rfl) ?_
    exact mm_rv d_To_copyFrom_112 (h _ ((((hf.cp (t 33 (by decide))).sI (t 0 (by decide))).sI (t 0 (by decide))).sI (t 0 (by decide))) hP ⟨⟨by simp only [mm_I_sI, mm_I_cp]; (repeat (first | rw [if_neg (by first | omega | (intro z; have := z.2; omega))] | rw [if_pos (by first | omega | (refine ⟨trivial, ?_⟩; first | trivial | omega))])); exact congrFun (fa ν hf 0 (by decide)) _, by simp only [mm_I_sI, mm_I_cp]; (repeat (first | rw [if_neg (by first | omega | (intro z; have := z.2; omega))] | rw [if_pos (by first | omega | (refine ⟨trivial, ?_⟩; first | trivial | omega))])); exact congrFun (fa ν hf 0 (by decide)) _, by simp only [mm_I_sI, mm_I_cp]; (repeat (first | rw [if_neg (by first | omega | (intro z; have := z.2; omega))] | rw [if_pos (by first | omega | (refine ⟨trivial, ?_⟩; first | trivial | omega))])); exact congrFun (fa ν hf 0 (by decide)) _⟩, fun j hj => by simp only [mm_I_sI, mm_I_cp]; (repeat (first | rw [if_neg (by first | omega | (intro z; have := z.2; omega))] | rw [if_pos (by first | omega | (refine ⟨trivial, ?_⟩; first | trivial | omega))])); rw [et j, if_pos hj], fun j hj => by simp only [mm_I_sI, mm_I_cp]; (repeat (first | rw [if_neg (by first | omega | (intro z; have := z.2; omega))] | rw [if_pos (by first | omega | (refine ⟨trivial, ?_⟩; first | trivial | omega))])); exact congrFun (fa ν hf 33 (by decide)) j, fun e he => (ec e he).1.frm (fun x hx => rfl) (fun x hx => by rw [mm_sI_off (by omega), mm_sI_off (by omega), mm_sI_off (by omega), mm_cp_off (by omega)]), fun e he => (ec e he).2.1.frm (fun x hx => rfl) (fun x hx => by rw [mm_sI_off (by omega), mm_sI_off (by omega), mm_sI_off (by omega), mm_cp_off (by omega)]), fun e he => (ec e he).2.2.frm (fun x hx => rfl) (fun x hx => by rw [mm_sI_off (by omega), mm_sI_off (by omega), mm_sI_off (by omega), mm_cp_off (by omega)])⟩ (fun j hj => by simp only [mm_I_sI, mm_I_cp]; (repeat (first | rw [if_neg (by first | omega | (intro z; have := z.2; omega))] | rw [if_pos (by first | omega | (refine ⟨trivial, ?_⟩; first | trivial | omega))])); rw [et j, if_neg (by omega)]))
  · intro i hi ih ν hI
    obtain ⟨hf, hP, et, ec⟩ := hI
    have s1 := h1.sm hf.1 hf.2.1 hP
    have s2 := h2.sm hf.1 hf.2.1 hP
    refine mm_iload d_To_copyFrom_18 rfl ?_
    refine mm_ciN 2 d_To_copyFrom_19 rfl ?_
    refine mm_icmp_geN d_To_copyFrom_20 (by first | omega | exact ite01_lt | exact bt8_lt31 _ _ | exact godB_lt31 _ _ _ | exact pop_lt31 _ | assumption | exact b31 (hW.gp (by omega)) | exact b31 (hW.ne (by omega)) | exact b31 (hW.op (by omega)) | exact and31 (hW.gp (by omega)) | exact and31 (hW.ne (by omega)) | exact and31 (hW.op (by omega)) | exact and31 (by assumption) | exact and31r (hW.ne (by omega)) | exact and31r (hW.gp (by omega)) | exact and31r (by decide)) (by first | omega | exact ite01_lt | exact bt8_lt31 _ _ | exact godB_lt31 _ _ _ | exact pop_lt31 _ | assumption | exact b31 (hW.gp (by omega)) | exact b31 (hW.ne (by omega)) | exact b31 (hW.op (by omega)) | exact and31 (hW.gp (by omega)) | exact and31 (hW.ne (by omega)) | exact and31 (hW.op (by omega)) | exact and31 (by assumption) | exact and31r (hW.ne (by omega)) | exact and31r (hW.gp (by omega)) | exact and31r (by decide)) (fun c_20 => False.elim (by omega)) (fun c_20 => ?_)
    refine mm_aload d_To_copyFrom_23 rfl ?_
    refine mm_getP d_To_copyFrom_24 rfl s2.1 s2.2.2.1.1 ?_
    refine mm_iload d_To_copyFrom_27 rfl ?_
    refine mm_aaldX d_To_copyFrom_28 (t := 0) s2.2.2.1.2.1 hi (by decide) (s2.pc hi) ?_
    refine mm_aload d_To_copyFrom_29 rfl ?_
    refine mm_getP d_To_copyFrom_30 rfl s1.1 s1.2.2.1.1 ?_
    refine mm_iload d_To_copyFrom_33 rfl ?_
    refine mm_aaldX d_To_copyFrom_34 (t := 0) s1.2.2.1.2.1 hi (by decide) (s1.pc hi) ?_
    refine mm_v1v d_To_copyFrom_35 (s2.co hi).1 (sp_Co_copyFrom (s1.co hi) (s2.co hi) (by omega) (fun ν1 f1 p1 c1 => ?_))
    have s1a := s1.sm f1.1 f1.2.1 p1
    have s2a := s2.sm f1.1 f1.2.1 p1
    refine mm_aload d_To_copyFrom_38 rfl ?_
    refine mm_getP d_To_copyFrom_39 rfl s2a.1 s2a.2.2.2.1.1 ?_
    refine mm_iload d_To_copyFrom_42 rfl ?_
    refine mm_aaldX d_To_copyFrom_43 (t := 1) s2a.2.2.2.1.2.1 hi (by decide) (s2a.py hi) ?_
    refine mm_aload d_To_copyFrom_44 rfl ?_
    refine mm_getP d_To_copyFrom_45 rfl s1a.1 s1a.2.2.2.1.1 ?_
    refine mm_iload d_To_copyFrom_48 rfl ?_
    refine mm_aaldX d_To_copyFrom_49 (t := 1) s1a.2.2.2.1.2.1 hi (by decide) (s1a.py hi) ?_
    refine mm_v1v d_To_copyFrom_50 (s2a.ye hi).1 (sp_Ye_copyFrom (s1a.ye hi) (s2a.ye hi) (by omega) (fun ν2 f2 p2 c2 => ?_))
    have s1b := s1a.sm f2.1 f2.2.1 p2
    have s2b := s2a.sm f2.1 f2.2.1 p2
    refine mm_aload d_To_copyFrom_53 rfl ?_
    refine mm_getP d_To_copyFrom_54 rfl s2b.1 s2b.2.2.2.2.1.1 ?_
    refine mm_iload d_To_copyFrom_57 rfl ?_
    refine mm_aaldX d_To_copyFrom_58 (t := 2) s2b.2.2.2.2.1.2.1 hi (by decide) (s2b.pl hi) ?_
    refine mm_aload d_To_copyFrom_59 rfl ?_
    refine mm_getP d_To_copyFrom_60 rfl s1b.1 s1b.2.2.2.2.1.1 ?_
    refine mm_iload d_To_copyFrom_63 rfl ?_
    refine mm_aaldX d_To_copyFrom_64 (t := 2) s1b.2.2.2.2.1.2.1 hi (by decide) (s1b.pl hi) ?_
    refine mm_v1v d_To_copyFrom_65 (s2b.lo hi).1 (sp_Lo_copyFrom (s1b.lo hi) (s2b.lo hi) (by omega) (fun ν3 f3 p3 c3 => ?_))
    refine mm_inc2N d_To_copyFrom_68 ?_
    refine mm_goto d_To_copyFrom_71 ?_
    have u1 : Fr (scR b 33) ν ν1 := f1.sub (fun x z => by have := scR_o z; exact scR_t ⟨by omega, by omega⟩)
    have u2 : Fr (scR b 33) ν1 ν2 := f2.sub (fun x z => by have := scR_o z; exact scR_t ⟨by omega, by omega⟩)
    have u3 : Fr (scR b 33) ν2 ν3 := f3.sub (fun x z => by have := scR_o z; exact scR_t ⟨by omega, by omega⟩)
    have k1 : ∀ x, x < b + 3 + 7 * i ∨ b + 3 + 7 * i + 6 < x → mm_I ν1 x = mm_I ν x := fun x hx => (f1.2.2.1 x (scR_f hx)).1
    have k2 : ∀ x, x < b + 18 + 4 * i ∨ b + 18 + 4 * i + 3 < x → mm_I ν2 x = mm_I ν1 x := fun x hx => (f2.2.2.1 x (scR_f hx)).1
    have k3 : ∀ x, x < b + 27 + 3 * i ∨ b + 27 + 3 * i + 2 < x → mm_I ν3 x = mm_I ν2 x := fun x hx => (f3.2.2.1 x (scR_f hx)).1
    refine ih ν3 ⟨((hf.trans u1).trans u2).trans u3, p3.trans (p2.trans (p1.trans hP)), fun j => ?_, fun e he => ?_⟩
    · rw [k3 (b + 1) (by omega), k2 (b + 1) (by omega), k1 (b + 1) (by omega)]; exact et j
    · by_cases hei : e = i
      · subst hei
        exact ⟨c1.frm (fun x hx => by rw [show a + 3 + 7 * e + x = a + (3 + 7 * e + x) by omega]; exact (fa ν hf _ (by omega)).symm) (fun x hx => by rw [k3 _ (by omega), k2 _ (by omega)]), c2.frm (fun x hx => by rw [show a + 18 + 4 * e + x = a + (18 + 4 * e + x) by omega]; exact (fa ν1 (hf.trans u1) _ (by omega)).symm) (fun x hx => by rw [k3 _ (by omega)]), c3.frm (fun x hx => by rw [show a + 27 + 3 * e + x = a + (27 + 3 * e + x) by omega]; exact (fa ν2 ((hf.trans u1).trans u2) _ (by omega)).symm) (fun x hx => rfl)⟩
      · obtain ⟨g1, g2, g3⟩ := ec e (by omega)
        exact ⟨g1.frm (fun x hx => rfl) (fun x hx => by rw [k3 _ (by omega), k2 _ (by omega), k1 _ (by omega)]), g2.frm (fun x hx => rfl) (fun x hx => by rw [k3 _ (by omega), k2 _ (by omega), k1 _ (by omega)]), g3.frm (fun x hx => rfl) (fun x hx => by rw [k3 _ (by omega), k2 _ (by omega), k1 _ (by omega)])⟩
