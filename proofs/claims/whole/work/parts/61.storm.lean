/-! storm -/
theorem CoD.frC {μ μ' : mm_M} {i : Nat} {D : mm_D} (h : CoD μ (4 + 7 * i) D) (hf : Fr scC μ μ') (hi : i < 2) : CoD μ' (4 + 7 * i) D := h.eq (hf.eq2 (fun x hx hy => by unfold scC; simp; omega))
def mm_rowJ (μ : mm_M) (a : Nat) (f : Nat → Int64) : mm_M := (μ.1, μ.2.1, μ.2.2.1, fun b => if b = a then f else μ.2.2.2.1 b, μ.2.2.2.2)
theorem mm_rowJ_at {μ : mm_M} {a : Nat} {f : Nat → Int64} : mm_J (mm_rowJ μ a f) a = f := by simp [mm_J, mm_rowJ]
theorem mm_rowJ_sJ {μ : mm_M} {a j : Nat} {f : Nat → Int64} {x : Int64} : mm_sJ (mm_rowJ μ a f) a j x = mm_rowJ μ a (vp_updL f j x) := by
  unfold mm_sJ mm_rowJ
  simp only [if_true]
  congr 3
  congr 1
  funext b
  by_cases h : b = a <;> simp [h]
theorem mm_rowJ_id {μ : mm_M} {a : Nat} : mm_rowJ μ a (mm_J μ a) = μ := by
  obtain ⟨n, sh, I, J, P⟩ := μ
  unfold mm_rowJ mm_J
  simp only
  congr 4
  funext b
  by_cases h : b = a <;> simp [h]
theorem Fr.rowJ {S : Nat → Bool} {μ μ' : mm_M} {a : Nat} {f : Nat → Int64} (h : Fr S μ μ') (ha : S a = true) : Fr S μ (mm_rowJ μ' a f) := h.trans ⟨rfl, rfl, fun b hb => ⟨rfl, (by simp [mm_J, mm_rowJ, show ¬ b = a from fun e => by rw [e, ha] at hb; cases hb]), rfl⟩, fun z => z⟩
theorem updL_lt {i : Nat} {x : Int64} {g : Nat → Int64} : vp_updL (fun j => if j < i then x else g j) i x = fun j => if j < i + 1 then x else g j := by
  funext j
  show (if j = i then x else if j < i then x else g j) = _
  by_cases e : j = i
  · rw [if_pos e, if_pos (by omega)]
  · by_cases e2 : j < i
    · rw [if_neg e, if_pos e2, if_pos (by omega)]
    · rw [if_neg e, if_neg e2, if_neg (by omega)]
theorem sp_Arr_fillJ {X : mm_X} {μ : mm_M} {q : mm_M → Prop} {a k : Nat} {x : Int64} (ha : mm_ar μ a 3 k) (hk : k < 2 ^ 31) (h : q (mm_rowJ μ a (fun j => if j < k then x else mm_J μ a j))) : mm_Cv X 0 0 0 k_Arr_fillJ [.ref a, .long x] μ q := by
  show mm_T X 0 0 0 k_Arr_fillJ 0 [some (.ref a), some (.long x), none, none, none] [] μ _
  refine mm_ciN 0 d_Arr_fillJ_0 rfl ?_
  refine mm_ist3 d_Arr_fillJ_1 ?_
  refine mm_aload d_Arr_fillJ_2 rfl ?_
  refine mm_alen d_Arr_fillJ_3 ha ?_
  refine mm_ist4 d_Arr_fillJ_4 ?_
  have h0 : μ = mm_rowJ μ a (fun j => if j < 0 then x else mm_J μ a j) := by
    rw [show (fun j => if j < 0 then x else mm_J μ a j) = mm_J μ a from funext fun j => if_neg (Nat.not_lt_zero j)]
    exact mm_rowJ_id.symm
  rw [h0]
  refine mm_up (P := fun i => mm_T X 0 0 0 k_Arr_fillJ 6 [some (.ref a), some (.long x), none, some (.int (nI i)), some (.int (nI k))] [] (mm_rowJ μ a (fun j => if j < i then x else mm_J μ a j)) _) k ?_ (fun i hi ih => ?_)
  · refine mm_iload d_Arr_fillJ_6 rfl ?_
    refine mm_iload d_Arr_fillJ_7 rfl ?_
    refine mm_icmp_geN d_Arr_fillJ_9 (by first | omega | exact ite01_lt | exact bt8_lt31 _ _ | exact godB_lt31 _ _ _ | exact pop_lt31 _ | assumption | exact b31 (hW.gp (by omega)) | exact b31 (hW.ne (by omega)) | exact b31 (hW.op (by omega)) | exact and31 (hW.gp (by omega)) | exact and31 (hW.ne (by omega)) | exact and31 (hW.op (by omega)) | exact and31 (by assumption) | exact and31r (hW.ne (by omega)) | exact and31r (hW.gp (by omega)) | exact and31r (by decide)) (by first | omega | exact ite01_lt | exact bt8_lt31 _ _ | exact godB_lt31 _ _ _ | exact pop_lt31 _ | assumption | exact b31 (hW.gp (by omega)) | exact b31 (hW.ne (by omega)) | exact b31 (hW.op (by omega)) | exact and31 (hW.gp (by omega)) | exact and31 (hW.ne (by omega)) | exact and31 (hW.op (by omega)) | exact and31 (by assumption) | exact and31r (hW.ne (by omega)) | exact and31r (hW.gp (by omega)) | exact and31r (by decide)) (fun c_9 => ?_) (fun c_9 => False.elim (by omega))
    exact mm_rv d_Arr_fillJ_22 h
  · have ha' : mm_ar (mm_rowJ μ a (fun j => if j < i then x else mm_J μ a j)) a 3 k := ha
    refine mm_iload d_Arr_fillJ_6 rfl ?_
    refine mm_iload d_Arr_fillJ_7 rfl ?_
    refine mm_icmp_geN d_Arr_fillJ_9 (by first | omega | exact ite01_lt | exact bt8_lt31 _ _ | exact godB_lt31 _ _ _ | exact pop_lt31 _ | assumption | exact b31 (hW.gp (by omega)) | exact b31 (hW.ne (by omega)) | exact b31 (hW.op (by omega)) | exact and31 (hW.gp (by omega)) | exact and31 (hW.ne (by omega)) | exact and31 (hW.op (by omega)) | exact and31 (by assumption) | exact and31r (hW.ne (by omega)) | exact and31r (hW.gp (by omega)) | exact and31r (by decide)) (by first | omega | exact ite01_lt | exact bt8_lt31 _ _ | exact godB_lt31 _ _ _ | exact pop_lt31 _ | assumption | exact b31 (hW.gp (by omega)) | exact b31 (hW.ne (by omega)) | exact b31 (hW.op (by omega)) | exact and31 (hW.gp (by omega)) | exact and31 (hW.ne (by omega)) | exact and31 (hW.op (by omega)) | exact and31 (by assumption) | exact and31r (hW.ne (by omega)) | exact and31r (hW.gp (by omega)) | exact and31r (by decide)) (fun c_9 => False.elim (by omega)) (fun c_9 => ?_)
    refine mm_aload d_Arr_fillJ_12 rfl ?_
    refine mm_iload d_Arr_fillJ_13 rfl ?_
    refine mm_lload d_Arr_fillJ_14 rfl ?_
    refine mm_lastX d_Arr_fillJ_15 ha' hi hk ?_
    rw [mm_rowJ_sJ, updL_lt]
    refine mm_inc3N d_Arr_fillJ_16 ?_
    refine mm_goto d_Arr_fillJ_19 ?_
    exact ih
def wy (D : mm_D) : Nat → Nat → Nat
  | 0, k => if k = 0 then 1 else 0
  | w + 1, 0 => wy D w 0 * (10 - dch D w)
  | w + 1, k + 1 => wy D w (k + 1) * (10 - dch D w) + wy D w k * dch D w
theorem wy_0 (D : mm_D) : ∀ w k, w < k → wy D w k = 0
  | 0, k, h => if_neg (by omega)
  | w + 1, 0, h => absurd h (Nat.not_lt_zero _)
  | w + 1, k + 1, h => by
    unfold wy
    rw [wy_0 D w (k + 1) (by omega), wy_0 D w k (by omega)]
    simp
theorem wy_le {D : mm_D} (hW : WfD D) : ∀ w, w ≤ 8 → ∀ k, wy D w k ≤ 20 ^ w
  | 0, _, k => by unfold wy; split <;> simp
  | w + 1, h, 0 => by
    have h1 := wy_le hW w (by omega) 0
    unfold wy
    rw [Nat.pow_succ]
    exact Nat.mul_le_mul h1 (by omega)
  | w + 1, h, k + 1 => by
    have h1 := wy_le hW w (by omega) (k + 1)
    have h2 := wy_le hW w (by omega) k
    have h3 := hW.ch (j := w) (by omega)
    unfold wy
    rw [Nat.pow_succ]
    have h4 : wy D w (k + 1) * (10 - dch D w) ≤ 20 ^ w * 10 := Nat.mul_le_mul h1 (by omega)
    have h5 : wy D w k * dch D w ≤ 20 ^ w * 10 := Nat.mul_le_mul h2 (by omega)
    omega
def syK (D : mm_D) (n : Nat) : Nat → Nat
  | 0 => 0
  | i + 1 => syK D n i + wy D 8 (n + i)
theorem syK_le {D : mm_D} (hW : WfD D) (n : Nat) : ∀ i, syK D n i ≤ i * 25600000000
  | 0 => Nat.zero_le _
  | i + 1 => by
    have h1 := syK_le hW n i
    have h2 := wy_le hW 8 (by decide) (n + i)
    unfold syK
    rw [Nat.add_mul]
    have : 20 ^ 8 = 25600000000 := rfl
    omega
/-- the row of ways, those above m already of the next weather -/
def wyR (D : mm_D) (w m : Nat) (j : Nat) : Nat := if j < m then wy D w j else wy D (w + 1) j
theorem sp_Sk_waysToCome {X : mm_X} {μ : mm_M} {q : Int64 → mm_M → Prop} {i n : Nat} {D : mm_D} (hM : SK μ) (hi2 : i < 2) (hCD : CoD μ (4 + 7 * i) D) (hW : WfD D) (hn : n ≤ 8) (h : ∀ μ', Fr scC μ μ' → mm_I μ' = mm_I μ → q (lN (syK D n (9 - n))) μ') : mm_Cj X 1 0 0 k_Sk_waysToCome [.ref 67, .ref (4 + 7 * i), .int (nI n)] μ q := by
  show mm_T X 1 0 0 k_Sk_waysToCome 0 [some (.ref 67), some (.ref (4 + 7 * i)), some (.int (nI n)), none, none, none, none, none] [] μ _
  refine mm_aload d_Sk_waysToCome_0 rfl ?_
  refine mm_getP d_Sk_waysToCome_1 rfl (sk_o_67 hM) (sk_p_67_2 hM) ?_
  refine mm_lciN 0 d_Sk_waysToCome_4 rfl ?_
  refine mm_s2v d_Sk_waysToCome_5 (sp_Arr_fillJ (sk_a_70 hM) (by decide) ?_)
  refine mm_aload d_Sk_waysToCome_8 rfl ?_
  refine mm_getP d_Sk_waysToCome_9 rfl (sk_o_67 hM) (sk_p_67_2 hM) ?_
  refine mm_ciN 0 d_Sk_waysToCome_12 rfl ?_
  refine mm_lciN 1 d_Sk_waysToCome_13 rfl ?_
  refine mm_lastX d_Sk_waysToCome_14 (sk_a_70 hM) (by omega) (by decide) ?_
  refine mm_ciN 0 d_Sk_waysToCome_15 rfl ?_
  refine mm_ist3 d_Sk_waysToCome_16 ?_
  have base : Fr scC μ (mm_sJ (mm_rowJ μ 70 fun j => if j < 9 then lN 0 else mm_J μ 70 j) 70 0 (lN 1)) ∧ mm_I (mm_sJ (mm_rowJ μ 70 fun j => if j < 9 then lN 0 else mm_J μ 70 j) 70 0 (lN 1)) = mm_I μ ∧ ∀ j, j < 9 → mm_J (mm_sJ (mm_rowJ μ 70 fun j => if j < 9 then lN 0 else mm_J μ 70 j) 70 0 (lN 1)) 70 j = lN (wy D 0 j) := by
    refine ⟨(Fr.rf.rowJ rfl).sJ rfl, rfl, fun j hj => ?_⟩
    rw [mm_J_sJ]
    unfold wy
    by_cases e : j = 0
    · rw [if_pos ⟨rfl, e⟩, if_pos e]
    · rw [if_neg (fun z => e z.2), if_neg e, mm_rowJ_at]
      exact if_pos hj
  generalize mm_sJ (mm_rowJ μ 70 fun j => if j < 9 then lN 0 else mm_J μ 70 j) 70 0 (lN 1) = μ0 at base
  refine mm_up (P := fun w => ∀ ν, (Fr scC μ ν ∧ mm_I ν = mm_I μ ∧ ∀ j, j < 9 → mm_J ν 70 j = lN (wy D w j)) → ∀ l4 l5 l6 : Option Value, mm_T X _ 0 0 k_Sk_waysToCome 17 [some (.ref 67), some (.ref (4 + 7 * i)), some (.int (nI n)), some (.int (nI w)), l4, l5, l6, none] [] ν _) 8 ?_ ?_ μ0 base none none none
  · intro ν hI l4 l5 l6
    obtain ⟨hf, hI, hJ⟩ := hI
    replace hM := hf.2.2.2 hM
    refine mm_iload d_Sk_waysToCome_17 rfl ?_
    refine mm_ciN 8 d_Sk_waysToCome_18 rfl ?_
    refine mm_icmp_geN d_Sk_waysToCome_20 (by first | omega | exact ite01_lt | exact bt8_lt31 _ _ | exact godB_lt31 _ _ _ | exact pop_lt31 _ | assumption | exact b31 (hW.gp (by omega)) | exact b31 (hW.ne (by omega)) | exact b31 (hW.op (by omega)) | exact and31 (hW.gp (by omega)) | exact and31 (hW.ne (by omega)) | exact and31 (hW.op (by omega)) | exact and31 (by assumption) | exact and31r (hW.ne (by omega)) | exact and31r (hW.gp (by omega)) | exact and31r (by decide)) (by first | omega | exact ite01_lt | exact bt8_lt31 _ _ | exact godB_lt31 _ _ _ | exact pop_lt31 _ | assumption | exact b31 (hW.gp (by omega)) | exact b31 (hW.ne (by omega)) | exact b31 (hW.op (by omega)) | exact and31 (hW.gp (by omega)) | exact and31 (hW.ne (by omega)) | exact and31 (hW.op (by omega)) | exact and31 (by assumption) | exact and31r (hW.ne (by omega)) | exact and31r (hW.gp (by omega)) | exact and31r (by decide)) (fun c_20 => ?_) (fun c_20 => False.elim (by omega))
    refine mm_lciN 0 d_Sk_waysToCome_100 rfl ?_
    refine mm_lst3 d_Sk_waysToCome_101 ?_
    refine mm_iload d_Sk_waysToCome_102 rfl ?_
    refine mm_ciN 0 d_Sk_waysToCome_103 rfl ?_
    refine mm_mmaxN d_Sk_waysToCome_104 (by omega) (by omega) (Nat.le_of_ble_eq_true rfl) (Nat.le_of_ble_eq_true rfl) ?_
    rw [Nat.max_eq_left (Nat.zero_le n)]
    refine mm_ist5 d_Sk_waysToCome_107 ?_
    refine mm_up (P := fun s => mm_T X _ 0 0 k_Sk_waysToCome 109 [some (.ref 67), some (.ref (4 + 7 * i)), some (.int (nI n)), some (.long (lN (syK D n s))), none, some (.int (nI (n + s))), l6, none] [] ν _) (9 - n) ?_ (fun s hs ih => ?_)
    · refine mm_iload d_Sk_waysToCome_109 rfl ?_
      refine mm_ciN 8 d_Sk_waysToCome_111 rfl ?_
      refine mm_icmp_gtN d_Sk_waysToCome_113 (by first | omega | exact ite01_lt | exact bt8_lt31 _ _ | exact godB_lt31 _ _ _ | exact pop_lt31 _ | assumption | exact b31 (hW.gp (by omega)) | exact b31 (hW.ne (by omega)) | exact b31 (hW.op (by omega)) | exact and31 (hW.gp (by omega)) | exact and31 (hW.ne (by omega)) | exact and31 (hW.op (by omega)) | exact and31 (by assumption) | exact and31r (hW.ne (by omega)) | exact and31r (hW.gp (by omega)) | exact and31r (by decide)) (by first | omega | exact ite01_lt | exact bt8_lt31 _ _ | exact godB_lt31 _ _ _ | exact pop_lt31 _ | assumption | exact b31 (hW.gp (by omega)) | exact b31 (hW.ne (by omega)) | exact b31 (hW.op (by omega)) | exact and31 (hW.gp (by omega)) | exact and31 (hW.ne (by omega)) | exact and31 (hW.op (by omega)) | exact and31 (by assumption) | exact and31r (hW.ne (by omega)) | exact and31r (hW.gp (by omega)) | exact and31r (by decide)) (fun c_113 => ?_) (fun c_113 => False.elim (by omega))
      refine mm_lload d_Sk_waysToCome_132 rfl ?_
      exact mm_rj d_Sk_waysToCome_133 (h ν hf hI)
    · refine mm_iload d_Sk_waysToCome_109 rfl ?_
      refine mm_ciN 8 d_Sk_waysToCome_111 rfl ?_
      refine mm_icmp_gtN d_Sk_waysToCome_113 (by first | omega | exact ite01_lt | exact bt8_lt31 _ _ | exact godB_lt31 _ _ _ | exact pop_lt31 _ | assumption | exact b31 (hW.gp (by omega)) | exact b31 (hW.ne (by omega)) | exact b31 (hW.op (by omega)) | exact and31 (hW.gp (by omega)) | exact and31 (hW.ne (by omega)) | exact and31 (hW.op (by omega)) | exact and31 (by assumption) | exact and31r (hW.ne (by omega)) | exact and31r (hW.gp (by omega)) | exact and31r (by decide)) (by first | omega | exact ite01_lt | exact bt8_lt31 _ _ | exact godB_lt31 _ _ _ | exact pop_lt31 _ | assumption | exact b31 (hW.gp (by omega)) | exact b31 (hW.ne (by omega)) | exact b31 (hW.op (by omega)) | exact and31 (hW.gp (by omega)) | exact and31 (hW.ne (by omega)) | exact and31 (hW.op (by omega)) | exact and31 (by assumption) | exact and31r (hW.ne (by omega)) | exact and31r (hW.gp (by omega)) | exact and31r (by decide)) (fun c_113 => False.elim (by omega)) (fun c_113 => ?_)
      refine mm_lload d_Sk_waysToCome_116 rfl ?_
      refine mm_aload d_Sk_waysToCome_117 rfl ?_
      refine mm_getP d_Sk_waysToCome_118 rfl (sk_o_67 hM) (sk_p_67_2 hM) ?_
      refine mm_iload d_Sk_waysToCome_121 rfl ?_
      refine mm_laldN d_Sk_waysToCome_123 (sk_a_70 hM) (by omega) (by decide) (hJ _ (by omega)) ?_
      refine mm_laddN d_Sk_waysToCome_124 ?_
      refine mm_lst3 d_Sk_waysToCome_125 ?_
      refine mm_inc5N d_Sk_waysToCome_126 ?_
      refine mm_goto d_Sk_waysToCome_129 ?_
      exact ih
  · intro w hw ih ν hI l4 l5 l6
    obtain ⟨hf, hI, hJ⟩ := hI
    have hM0 := hM
    replace hM := hf.2.2.2 hM
    have hch := hW.ch hw
    replace hCD := hCD.frC hf hi2
    have fin : ∀ ν', (Fr scC μ ν' ∧ mm_I ν' = mm_I μ ∧ ∀ j, j < 9 → mm_J ν' 70 j = lN (wyR D w 0 j)) → ∀ l6 : Option Value, mm_T X 1 0 0 k_Sk_waysToCome 35 [some (.ref 67), some (.ref (4 + 7 * i)), some (.int (nI n)), some (.int (nI w)), some (.int (nI (dch D w))), some (.int (-1)), l6, none] [] ν' (fun v μ' => ∃ r, v = some (.long r) ∧ q r μ') := by
      intro ν' hI' l6
      refine mm_iload d_Sk_waysToCome_35 rfl ?_
      refine mm_if_lt d_Sk_waysToCome_37 (fun c_37 => ?_) (fun c_37 => False.elim (c_37 (by decide)))
      refine mm_inc3N d_Sk_waysToCome_94 ?_
      refine mm_goto d_Sk_waysToCome_97 ?_
      exact ih ν' ⟨hI'.1, hI'.2.1, fun j hj => (hI'.2.2 j hj).trans rfl⟩ _ _ _
    have stp : ∀ t, t ≤ 8 → (∀ ν', (Fr scC μ ν' ∧ mm_I ν' = mm_I μ ∧ ∀ j, j < 9 → mm_J ν' 70 j = lN (wyR D w (8 - t) j)) → ∀ (z : Int32) (l6 : Option Value), z = nI (8 - t) + -1 → mm_T X 1 0 0 k_Sk_waysToCome 35 [some (.ref 67), some (.ref (4 + 7 * i)), some (.int (nI n)), some (.int (nI w)), some (.int (nI (dch D w))), some (.int z), l6, none] [] ν' (fun v μ' => ∃ r, v = some (.long r) ∧ q r μ')) → ∀ ν', (Fr scC μ ν' ∧ mm_I ν' = mm_I μ ∧ ∀ j, j < 9 → mm_J ν' 70 j = lN (wyR D w (9 - t) j)) → ∀ l6 : Option Value, mm_T X 1 0 0 k_Sk_waysToCome 35 [some (.ref 67), some (.ref (4 + 7 * i)), some (.int (nI n)), some (.int (nI w)), some (.int (nI (dch D w))), some (.int (nI (8 - t))), l6, none] [] ν' (fun v μ' => ∃ r, v = some (.long r) ∧ q r μ') := by
      intro t ht nx ν' hI' l6
      obtain ⟨hf', hI', hJ'⟩ := hI'
      replace hM := hf'.2.2.2 hM0
      have hwl : ∀ x, wy D w x ≤ 20 ^ 8 := fun x => Nat.le_trans (wy_le hW w (by omega) x) (Nat.pow_le_pow_right (by decide) (by omega))
      have up : ∀ v, (v = wy D (w + 1) (8 - t)) → (Fr scC μ (mm_sJ ν' 70 (8 - t) (lN v)) ∧ mm_I (mm_sJ ν' 70 (8 - t) (lN v)) = mm_I μ ∧ ∀ j, j < 9 → mm_J (mm_sJ ν' 70 (8 - t) (lN v)) 70 j = lN (wyR D w (8 - t) j)) := by
        intro v hv
        refine ⟨hf'.sJ rfl, hI', fun j hj => ?_⟩
        rw [mm_J_sJ]
        by_cases e : j = 8 - t
        · rw [if_pos ⟨rfl, e⟩, hv, e]
          unfold wyR
          rw [if_neg (by omega)]
        · rw [if_neg (fun z => e z.2), hJ' j hj]
          unfold wyR
          by_cases e2 : j < 8 - t
          · rw [if_pos e2, if_pos (by omega)]
          · rw [if_neg e2, if_neg (by omega)]
      have r1 : wyR D w (9 - t) (8 - t) = wy D w (8 - t) := if_pos (by omega)
      refine mm_iload d_Sk_waysToCome_35 rfl ?_
      refine mm_if_ltN d_Sk_waysToCome_37 (by first | omega | exact ite01_lt | exact bt8_lt31 _ _ | exact godB_lt31 _ _ _ | exact pop_lt31 _ | assumption | exact b31 (hW.gp (by omega)) | exact b31 (hW.ne (by omega)) | exact b31 (hW.op (by omega)) | exact and31 (hW.gp (by omega)) | exact and31 (hW.ne (by omega)) | exact and31 (hW.op (by omega)) | exact and31 (by assumption) | exact and31r (hW.ne (by omega)) | exact and31r (hW.gp (by omega)) | exact and31r (by decide)) ?_
      refine mm_aload d_Sk_waysToCome_40 rfl ?_
      refine mm_getP d_Sk_waysToCome_41 rfl (sk_o_67 hM) (sk_p_67_2 hM) ?_
      refine mm_iload d_Sk_waysToCome_44 rfl ?_
      refine mm_laldN d_Sk_waysToCome_46 (sk_a_70 hM) (by omega) (by decide) ((hJ' _ (by omega)).trans (by rw [r1])) ?_
      refine mm_ciN 10 d_Sk_waysToCome_47 rfl ?_
      refine mm_iload d_Sk_waysToCome_49 rfl ?_
      refine mm_isubN d_Sk_waysToCome_51 (by omega) ?_
      refine mm_i2lN d_Sk_waysToCome_52 (by first | omega | exact ite01_lt | exact bt8_lt31 _ _ | exact godB_lt31 _ _ _ | exact pop_lt31 _ | assumption | exact b31 (hW.gp (by omega)) | exact b31 (hW.ne (by omega)) | exact b31 (hW.op (by omega)) | exact and31 (hW.gp (by omega)) | exact and31 (hW.ne (by omega)) | exact and31 (hW.op (by omega)) | exact and31 (by assumption) | exact and31r (hW.ne (by omega)) | exact and31r (hW.gp (by omega)) | exact and31r (by decide)) ?_
      refine mm_lmulN d_Sk_waysToCome_53 ?_
      refine mm_lst6 d_Sk_waysToCome_54 ?_
      refine mm_aload d_Sk_waysToCome_56 rfl ?_
      refine mm_getP d_Sk_waysToCome_57 rfl (sk_o_67 hM) (sk_p_67_2 hM) ?_
      refine mm_iload d_Sk_waysToCome_60 rfl ?_
      refine mm_lload d_Sk_waysToCome_62 rfl ?_
      refine mm_iload d_Sk_waysToCome_64 rfl ?_
      refine mm_if_leN d_Sk_waysToCome_66 (by first | omega | exact ite01_lt | exact bt8_lt31 _ _ | exact godB_lt31 _ _ _ | exact pop_lt31 _ | assumption | exact b31 (hW.gp (by omega)) | exact b31 (hW.ne (by omega)) | exact b31 (hW.op (by omega)) | exact and31 (hW.gp (by omega)) | exact and31 (hW.ne (by omega)) | exact and31 (hW.op (by omega)) | exact and31 (by assumption) | exact and31r (hW.ne (by omega)) | exact and31r (hW.gp (by omega)) | exact and31r (by decide)) (fun c_66 => ?_) (fun c_66 => ?_)
      · refine mm_lciN 0 d_Sk_waysToCome_85 rfl ?_
        refine mm_laddN d_Sk_waysToCome_86 ?_
        refine mm_lastX d_Sk_waysToCome_87 (sk_a_70 hM) (by omega) (by decide) ?_
        refine mm_inc5 d_Sk_waysToCome_88 ?_
        refine mm_goto d_Sk_waysToCome_91 ?_
        first
          | exact nx _ (up _ (by obtain ⟨x, hx⟩ : ∃ x, 8 - t = x + 1 := ⟨8 - t - 1, by omega⟩; rw [hx]; rfl)) _ _ rfl
          | exact nx _ (up _ (by rw [show 8 - t = 0 by omega]; rfl)) _ _ rfl
      · refine mm_aload d_Sk_waysToCome_69 rfl ?_
        refine mm_getP d_Sk_waysToCome_70 rfl (sk_o_67 hM) (sk_p_67_2 hM) ?_
        refine mm_iload d_Sk_waysToCome_73 rfl ?_
        refine mm_ciN 1 d_Sk_waysToCome_75 rfl ?_
        refine mm_isubN d_Sk_waysToCome_76 (by omega) ?_
        refine mm_laldN d_Sk_waysToCome_77 (sk_a_70 hM) (by omega) (by decide) ((hJ' _ (by omega)).trans (by rw [show wyR D w (9 - t) (8 - t - 1) = wy D w (8 - t - 1) from if_pos (by omega)])) ?_
        refine mm_iload d_Sk_waysToCome_78 rfl ?_
        refine mm_i2lN d_Sk_waysToCome_80 (by first | omega | exact ite01_lt | exact bt8_lt31 _ _ | exact godB_lt31 _ _ _ | exact pop_lt31 _ | assumption | exact b31 (hW.gp (by omega)) | exact b31 (hW.ne (by omega)) | exact b31 (hW.op (by omega)) | exact and31 (hW.gp (by omega)) | exact and31 (hW.ne (by omega)) | exact and31 (hW.op (by omega)) | exact and31 (by assumption) | exact and31r (hW.ne (by omega)) | exact and31r (hW.gp (by omega)) | exact and31r (by decide)) ?_
        refine mm_lmulN d_Sk_waysToCome_81 ?_
        refine mm_goto d_Sk_waysToCome_82 ?_
        refine mm_laddN d_Sk_waysToCome_86 ?_
        refine mm_lastX d_Sk_waysToCome_87 (sk_a_70 hM) (by omega) (by decide) ?_
        refine mm_inc5 d_Sk_waysToCome_88 ?_
        refine mm_goto d_Sk_waysToCome_91 ?_
        first
          | exact nx _ (up _ (by obtain ⟨x, hx⟩ : ∃ x, 8 - t = x + 1 := ⟨8 - t - 1, by omega⟩; rw [hx]; rfl)) _ _ rfl
          | exact nx _ (up _ (by rw [show 8 - t = 0 by omega]; rfl)) _ _ rfl
    have all := mm_up (P := fun t => ∀ ν', (Fr scC μ ν' ∧ mm_I ν' = mm_I μ ∧ ∀ j, j < 9 → mm_J ν' 70 j = lN (wyR D w (9 - t) j)) → ∀ l6 : Option Value, mm_T X 1 0 0 k_Sk_waysToCome 35 [some (.ref 67), some (.ref (4 + 7 * i)), some (.int (nI n)), some (.int (nI w)), some (.int (nI (dch D w))), some (.int (nI (8 - t))), l6, none] [] ν' (fun v μ' => ∃ r, v = some (.long r) ∧ q r μ')) 8 (stp 8 (Nat.le_refl _) (fun ν' hI' z l6 hz => by rw [hz]; exact fin ν' hI' l6)) (fun t ht ih2 => stp t (by omega) (fun ν' hI' z l6 hz => by rw [hz, show 8 - t = (8 - (t + 1)) + 1 by omega, pk_m1]; rw [show 8 - t = 9 - (t + 1) by omega] at hI'; exact ih2 ν' hI' l6))
    refine mm_iload d_Sk_waysToCome_17 rfl ?_
    refine mm_ciN 8 d_Sk_waysToCome_18 rfl ?_
    refine mm_icmp_geN d_Sk_waysToCome_20 (by first | omega | exact ite01_lt | exact bt8_lt31 _ _ | exact godB_lt31 _ _ _ | exact pop_lt31 _ | assumption | exact b31 (hW.gp (by omega)) | exact b31 (hW.ne (by omega)) | exact b31 (hW.op (by omega)) | exact and31 (hW.gp (by omega)) | exact and31 (hW.ne (by omega)) | exact and31 (hW.op (by omega)) | exact and31 (by assumption) | exact and31r (hW.ne (by omega)) | exact and31r (hW.gp (by omega)) | exact and31r (by decide)) (by first | omega | exact ite01_lt | exact bt8_lt31 _ _ | exact godB_lt31 _ _ _ | exact pop_lt31 _ | assumption | exact b31 (hW.gp (by omega)) | exact b31 (hW.ne (by omega)) | exact b31 (hW.op (by omega)) | exact and31 (hW.gp (by omega)) | exact and31 (hW.ne (by omega)) | exact and31 (hW.op (by omega)) | exact and31 (by assumption) | exact and31r (hW.ne (by omega)) | exact and31r (hW.gp (by omega)) | exact and31r (by decide)) (fun c_20 => False.elim (by omega)) (fun c_20 => ?_)
    refine mm_aload d_Sk_waysToCome_23 rfl ?_
    refine mm_getP d_Sk_waysToCome_24 rfl hCD.1.1 (CoS_p0 hCD.1) ?_
    refine mm_iload d_Sk_waysToCome_27 rfl ?_
    refine mm_ialdN d_Sk_waysToCome_28 (CoS_a0 hCD.1) (by omega) (by decide) (hCD.f0 (by omega)) ?_
    refine mm_ist4 d_Sk_waysToCome_29 ?_
    refine mm_ciN 8 d_Sk_waysToCome_31 rfl ?_
    refine mm_ist5 d_Sk_waysToCome_33 ?_
    exact all ν ⟨hf, hI, fun j hj => (hJ j hj).trans (by rw [show wyR D w (9 - 0) j = wy D w j from if_pos hj])⟩ _
theorem Hd.ofI {μ ν : mm_M} {k : Nat} {D : mm_D} (h : Hd μ k D) (hI : mm_I ν = mm_I μ) (hM : SK ν) : Hd ν k D := ⟨hM, h.2.1, by rw [hI]; exact h.2.2.1, by rw [hI]; exact h.2.2.2.1, by rw [hI]; exact h.2.2.2.2.1, h.2.2.2.2.2.1.eq (by rw [hI]), h.2.2.2.2.2.2⟩
theorem Wk.fr' {k : Nat} {μ μ' : mm_M} (h : Wk k μ) (hI : mm_I μ' = mm_I μ) : Wk k μ' := by
  unfold Wk
  rw [hI]
  exact h
theorem pair_storm {X : mm_X} {k : Nat} {μ : mm_M} (hJ : JJ k μ) (y1 y2 y3 : Int32) : PairJ X (JJ (k + 1)) k_G_storm k_M_storm [.int y1, .int y2, .int y3] μ := by
  obtain ⟨c, h02, h0, m0, hv⟩ := hJ.coast y1
  have hM := hJ.1
  have hw := hJ.2.2.2.up
  rcases hv with hx | ⟨i, D, hi, rfl, hW, hCD, hDM⟩
  · exact pairQj (-1) hJ (d := 2) (d' := 4) (by decide) (by decide) (n_G_storm hM h0 h02 hx ⟨rfl, Fr.rf, hw⟩) (fun μ1 hf => n_M_storm (hf.2.2.2 hM) (by rw [(hf.2.2.1 76 rfl).1]; exact m0) h02 hx (fun μ' hk => ⟨rfl, hk.fr (hf.2.2.2 hM)⟩))
  have hn6 := hW.1
  have hw6 := hW.2.1
  rcases rng_or y2 (a := 0) (b := 8) (by decide) (by decide) with ⟨hz, hz2⟩ | ⟨n, -, hn, rfl⟩
  · refine pairQj (-1) hJ (d := 12) (d' := 12) (by decide) (by decide) ?_ (fun μ1 hf => ?_)
    · show mm_T X 12 0 0 k_G_storm 0 [some (.ref 0), some (.int (nI i)), some (.int y2), some (.int y3), none] [] μ _
      refine mm_aload d_G_storm_0 rfl ?_
      refine mm_getP d_G_storm_1 rfl (sk_o_0 hM) (sk_p_0_0 hM) ?_
      refine mm_iload d_G_storm_4 rfl ?_
      refine mm_v1r d_G_storm_5 (sk_o_1 hM) (sp_To_coastAtI hM h0 h02 hi ?_)
      refine mm_ast4 d_G_storm_8 ?_
      refine mm_aload d_G_storm_10 rfl ?_
      refine mm_ifnull d_G_storm_12 ?_
      refine mm_iload d_G_storm_15 rfl ?_
      refine mm_if_lt d_G_storm_16 (fun c_16 => ?_) (fun c_16 => ?_)
      · refine mm_lci d_G_storm_25 ?_
        exact mm_rj d_G_storm_28 ⟨rfl, Fr.rf, hw⟩
      · refine mm_iload d_G_storm_19 rfl ?_
        refine mm_ciN 8 d_G_storm_20 rfl ?_
        refine mm_icmp_le d_G_storm_22 (fun c_22 => False.elim (rng_dead hz2 c_16 c_22)) (fun c_22 => ?_)
        refine mm_lci d_G_storm_25 ?_
        exact mm_rj d_G_storm_28 ⟨rfl, Fr.rf, hw⟩
    · show mm_T X 12 0 0 k_M_storm 0 [some (.ref 71), some (.int (nI i)), some (.int y2), some (.int y3), none, none, none, none, none, none] [] μ1 _
      replace hM := hf.2.2.2 hM
      replace m0 : mm_I μ1 76 0 = nI c := by rw [(hf.2.2.1 76 rfl).1]; exact m0
      replace hDM := hDM.frC hf
      refine mm_aload d_M_storm_0 rfl ?_
      refine mm_ciN 0 d_M_storm_1 rfl ?_
      refine mm_putI d_M_storm_2 rfl (sk_o_71 hM) (Or.inl rfl) ?_
      refine mm_iload d_M_storm_5 rfl ?_
      refine mm_ciN 0 d_M_storm_6 rfl ?_
      refine mm_ciN 8 d_M_storm_7 rfl ?_
      refine mm_s3i d_M_storm_9 (sp_M_inB hz ?_)
      refine mm_if_eqN d_M_storm_12 (by first | omega | exact ite01_lt | exact bt8_lt31 _ _ | exact godB_lt31 _ _ _ | exact pop_lt31 _ | assumption | exact b31 (hW.gp (by omega)) | exact b31 (hW.ne (by omega)) | exact b31 (hW.op (by omega)) | exact and31 (hW.gp (by omega)) | exact and31 (hW.ne (by omega)) | exact and31 (hW.op (by omega)) | exact and31 (by assumption) | exact and31r (hW.ne (by omega)) | exact and31r (hW.gp (by omega)) | exact and31r (by decide)) (fun c_12 => ?_) (fun c_12 => False.elim (by omega))
      refine mm_lci d_M_storm_23 ?_
      exact mm_rj d_M_storm_26 ⟨rfl, Fr.rf.sI rfl⟩
  · have hsy := syK_le hW n (9 - n)
    have hsy2 : (9 - n) * 25600000000 ≤ 9 * 25600000000 := Nat.mul_le_mul_right _ (by omega)
    refine pairQj (lN (ltN y3 (syK D n (9 - n)) 100000000)) hJ (d := 12) (d' := 12) (by decide) (by decide) ?_ (fun μ1 hf => ?_)
    · show mm_T X 12 0 0 k_G_storm 0 [some (.ref 0), some (.int (nI i)), some (.int (nI n)), some (.int y3), none] [] μ _
      refine mm_aload d_G_storm_0 rfl ?_
      refine mm_getP d_G_storm_1 rfl (sk_o_0 hM) (sk_p_0_0 hM) ?_
      refine mm_iload d_G_storm_4 rfl ?_
      refine mm_v1r d_G_storm_5 (sk_o_1 hM) (sp_To_coastAtI hM h0 h02 hi ?_)
      refine mm_ast4 d_G_storm_8 ?_
      refine mm_aload d_G_storm_10 rfl ?_
      refine mm_ifnull d_G_storm_12 ?_
      refine mm_iload d_G_storm_15 rfl ?_
      refine mm_if_ltN d_G_storm_16 (by first | omega | exact ite01_lt | exact bt8_lt31 _ _ | exact godB_lt31 _ _ _ | exact pop_lt31 _ | assumption | exact b31 (hW.gp (by omega)) | exact b31 (hW.ne (by omega)) | exact b31 (hW.op (by omega)) | exact and31 (hW.gp (by omega)) | exact and31 (hW.ne (by omega)) | exact and31 (hW.op (by omega)) | exact and31 (by assumption) | exact and31r (hW.ne (by omega)) | exact and31r (hW.gp (by omega)) | exact and31r (by decide)) ?_
      refine mm_iload d_G_storm_19 rfl ?_
      refine mm_ciN 8 d_G_storm_20 rfl ?_
      refine mm_icmp_leN d_G_storm_22 (by first | omega | exact ite01_lt | exact bt8_lt31 _ _ | exact godB_lt31 _ _ _ | exact pop_lt31 _ | assumption | exact b31 (hW.gp (by omega)) | exact b31 (hW.ne (by omega)) | exact b31 (hW.op (by omega)) | exact and31 (hW.gp (by omega)) | exact and31 (hW.ne (by omega)) | exact and31 (hW.op (by omega)) | exact and31 (by assumption) | exact and31r (hW.ne (by omega)) | exact and31r (hW.gp (by omega)) | exact and31r (by decide)) (by first | omega | exact ite01_lt | exact bt8_lt31 _ _ | exact godB_lt31 _ _ _ | exact pop_lt31 _ | assumption | exact b31 (hW.gp (by omega)) | exact b31 (hW.ne (by omega)) | exact b31 (hW.op (by omega)) | exact and31 (hW.gp (by omega)) | exact and31 (hW.ne (by omega)) | exact and31 (hW.op (by omega)) | exact and31 (by assumption) | exact and31r (hW.ne (by omega)) | exact and31r (hW.gp (by omega)) | exact and31r (by decide)) (fun c_22 => ?_) (fun c_22 => False.elim (by omega))
      refine mm_aload d_G_storm_29 rfl ?_
      refine mm_getP d_G_storm_30 rfl (sk_o_0 hM) (sk_p_0_6 hM) ?_
      refine mm_aload d_G_storm_33 rfl ?_
      refine mm_iload d_G_storm_35 rfl ?_
      refine mm_v2j d_G_storm_36 (sk_o_67 hM) (sp_Sk_waysToCome hM (by omega) hCD hW hn (fun μ' hf hI => ?_))
      refine mm_lciN 100000000 d_G_storm_39 rfl ?_
      refine mm_iload d_G_storm_42 rfl ?_
      refine mm_s3j d_G_storm_43 (sp_G_leastTerms (by omega) (by omega) (by omega) ?_)
      exact mm_rj d_G_storm_46 ⟨rfl, hf, hw.fr' hI⟩
    · show mm_T X 12 0 0 k_M_storm 0 [some (.ref 71), some (.int (nI i)), some (.int (nI n)), some (.int y3), none, none, none, none, none, none] [] μ1 _
      replace hM := hf.2.2.2 hM
      replace m0 : mm_I μ1 76 0 = nI c := by rw [(hf.2.2.1 76 rfl).1]; exact m0
      replace hDM := hDM.frC hf
      refine mm_aload d_M_storm_0 rfl ?_
      refine mm_ciN 0 d_M_storm_1 rfl ?_
      refine mm_putI d_M_storm_2 rfl (sk_o_71 hM) (Or.inl rfl) ?_
      refine mm_iload d_M_storm_5 rfl ?_
      refine mm_ciN 0 d_M_storm_6 rfl ?_
      refine mm_ciN 8 d_M_storm_7 rfl ?_
      refine mm_s3i d_M_storm_9 (sp_M_inT (by omega) (by omega) (by omega) ?_)
      refine mm_if_eqN d_M_storm_12 (by first | omega | exact ite01_lt | exact bt8_lt31 _ _ | exact godB_lt31 _ _ _ | exact pop_lt31 _ | assumption | exact b31 (hW.gp (by omega)) | exact b31 (hW.ne (by omega)) | exact b31 (hW.op (by omega)) | exact and31 (hW.gp (by omega)) | exact and31 (hW.ne (by omega)) | exact and31 (hW.op (by omega)) | exact and31 (by assumption) | exact and31r (hW.ne (by omega)) | exact and31r (hW.gp (by omega)) | exact and31r (by decide)) (fun c_12 => False.elim (by omega)) (fun c_12 => ?_)
      refine mm_aload d_M_storm_15 rfl ?_
      refine mm_iload d_M_storm_16 rfl ?_
      refine mm_v1i d_M_storm_17 (sk_o_71 hM) (sp_M_handN hM (by first | exact m0 | (rw [mm_sI_off (by decide)]; exact m0)) h02 hi (by first | exact hDM | exact hDM.eq (mm_sI_off (by decide))) hW (fun μ2 g1 hH hZ => ?_))
      replace hM := hH.1
      refine mm_if_neN d_M_storm_20 (by first | omega | exact ite01_lt | exact bt8_lt31 _ _ | exact godB_lt31 _ _ _ | exact pop_lt31 _ | assumption | exact b31 (hW.gp (by omega)) | exact b31 (hW.ne (by omega)) | exact b31 (hW.op (by omega)) | exact and31 (hW.gp (by omega)) | exact and31 (hW.ne (by omega)) | exact and31 (hW.op (by omega)) | exact and31 (by assumption) | exact and31r (hW.ne (by omega)) | exact and31r (hW.gp (by omega)) | exact and31r (by decide)) (fun c_20 => ?_) (fun c_20 => False.elim (by omega))
      refine mm_lciN 1 d_M_storm_27 rfl ?_
      refine mm_lst4 d_M_storm_28 ?_
      refine mm_ciN 0 d_M_storm_30 rfl ?_
      refine mm_ist6 d_M_storm_31 ?_
      have gf := (Fr.rf (S := scM) (μ := μ1).sI (j := 0) (x := nI 0) (a := 71) rfl).trans g1
      generalize nI i = l1
      have sum : ∀ ν, (Fr scM μ1 ν ∧ mm_I ν = mm_I μ2 ∧ SK ν ∧ ∀ j, j < 10 → mm_J ν 91 j = lN (wy D 8 j)) → ∀ l7 l8 : Option Value, mm_T X 12 0 0 k_M_storm 164 [some (.ref 71), some (.int l1), some (.int (nI n)), some (.int y3), some (.long (lN (10 ^ 8))), none, some (.int (nI 8)), l7, l8, none] [] ν (fun v μ' => ∃ r, v = some (.long r) ∧ (r = lN (ltN y3 (syK D n (9 - n)) 100000000) ∧ Fr scM μ1 μ')) := by
        intro ν hI l7 l8
        obtain ⟨hfr, hII, hM, hJ'⟩ := hI
        refine mm_lciN 0 d_M_storm_164 rfl ?_
        refine mm_lst6 d_M_storm_165 ?_
        refine mm_iload d_M_storm_167 rfl ?_
        refine mm_ist8 d_M_storm_168 ?_
        refine mm_up (P := fun s => mm_T X _ 0 0 k_M_storm 170 [some (.ref 71), some (.int l1), some (.int (nI n)), some (.int y3), some (.long (lN (10 ^ 8))), none, some (.long (lN (syK D n s))), none, some (.int (nI (n + s))), none] [] ν _) (9 - n) ?_ (fun s hs ih => ?_)
        · refine mm_iload d_M_storm_170 rfl ?_
          refine mm_ciN 8 d_M_storm_172 rfl ?_
          refine mm_icmp_gtN d_M_storm_174 (by first | omega | exact ite01_lt | exact bt8_lt31 _ _ | exact godB_lt31 _ _ _ | exact pop_lt31 _ | assumption | exact b31 (hW.gp (by omega)) | exact b31 (hW.ne (by omega)) | exact b31 (hW.op (by omega)) | exact and31 (hW.gp (by omega)) | exact and31 (hW.ne (by omega)) | exact and31 (hW.op (by omega)) | exact and31 (by assumption) | exact and31r (hW.ne (by omega)) | exact and31r (hW.gp (by omega)) | exact and31r (by decide)) (by first | omega | exact ite01_lt | exact bt8_lt31 _ _ | exact godB_lt31 _ _ _ | exact pop_lt31 _ | assumption | exact b31 (hW.gp (by omega)) | exact b31 (hW.ne (by omega)) | exact b31 (hW.op (by omega)) | exact and31 (hW.gp (by omega)) | exact and31 (hW.ne (by omega)) | exact and31 (hW.op (by omega)) | exact and31 (by assumption) | exact and31r (hW.ne (by omega)) | exact and31r (hW.gp (by omega)) | exact and31r (by decide)) (fun c_174 => ?_) (fun c_174 => False.elim (by omega))
          refine mm_lload d_M_storm_195 rfl ?_
          refine mm_lload d_M_storm_197 rfl ?_
          refine mm_iload d_M_storm_199 rfl ?_
          refine mm_s3j d_M_storm_200 (sp_M_part (by omega) (by omega) (by omega) ?_)
          exact mm_rj d_M_storm_203 ⟨rfl, hfr⟩
        · refine mm_iload d_M_storm_170 rfl ?_
          refine mm_ciN 8 d_M_storm_172 rfl ?_
          refine mm_icmp_gtN d_M_storm_174 (by first | omega | exact ite01_lt | exact bt8_lt31 _ _ | exact godB_lt31 _ _ _ | exact pop_lt31 _ | assumption | exact b31 (hW.gp (by omega)) | exact b31 (hW.ne (by omega)) | exact b31 (hW.op (by omega)) | exact and31 (hW.gp (by omega)) | exact and31 (hW.ne (by omega)) | exact and31 (hW.op (by omega)) | exact and31 (by assumption) | exact and31r (hW.ne (by omega)) | exact and31r (hW.gp (by omega)) | exact and31r (by decide)) (by first | omega | exact ite01_lt | exact bt8_lt31 _ _ | exact godB_lt31 _ _ _ | exact pop_lt31 _ | assumption | exact b31 (hW.gp (by omega)) | exact b31 (hW.ne (by omega)) | exact b31 (hW.op (by omega)) | exact and31 (hW.gp (by omega)) | exact and31 (hW.ne (by omega)) | exact and31 (hW.op (by omega)) | exact and31 (by assumption) | exact and31r (hW.ne (by omega)) | exact and31r (hW.gp (by omega)) | exact and31r (by decide)) (fun c_174 => False.elim (by omega)) (fun c_174 => ?_)
          refine mm_lload d_M_storm_177 rfl ?_
          refine mm_aload d_M_storm_179 rfl ?_
          refine mm_getP d_M_storm_180 rfl (sk_o_71 hM) (sk_p_71_47 hM) ?_
          refine mm_iload d_M_storm_183 rfl ?_
          refine mm_laldN d_M_storm_185 (sk_a_91 hM) (by omega) (by decide) (hJ' _ (by omega)) ?_
          refine mm_laddN d_M_storm_186 ?_
          refine mm_lst6 d_M_storm_187 ?_
          refine mm_inc8N d_M_storm_189 ?_
          refine mm_goto d_M_storm_192 ?_
          exact ih
      have outer : ∀ ν, (Fr scM μ1 ν ∧ mm_I ν = mm_I μ2 ∧ SK ν ∧ ∀ j, j < 10 → mm_J ν 91 j = lN (wy D 0 j)) → ∀ l7 l8 : Option Value, mm_T X 12 0 0 k_M_storm 66 [some (.ref 71), some (.int l1), some (.int (nI n)), some (.int y3), some (.long (lN (10 ^ 0))), none, some (.int (nI 0)), l7, l8, none] [] ν (fun v μ' => ∃ r, v = some (.long r) ∧ (r = lN (ltN y3 (syK D n (9 - n)) 100000000) ∧ Fr scM μ1 μ')) := by
        have inn : ∀ w, w < 8 → (∀ ν, (Fr scM μ1 ν ∧ mm_I ν = mm_I μ2 ∧ SK ν ∧ ∀ j, j < 10 → mm_J ν 91 j = lN (wy D (w + 1) j)) → ∀ l8 : Option Value, mm_T X 12 0 0 k_M_storm 150 [some (.ref 71), some (.int l1), some (.int (nI n)), some (.int y3), some (.long (lN (10 ^ w))), none, some (.int (nI w)), some (.int (-1)), l8, none] [] ν (fun v μ' => ∃ r, v = some (.long r) ∧ (r = lN (ltN y3 (syK D n (9 - n)) 100000000) ∧ Fr scM μ1 μ'))) → ∀ ν, (Fr scM μ1 ν ∧ mm_I ν = mm_I μ2 ∧ SK ν ∧ ∀ j, j < 10 → mm_J ν 91 j = lN (wy D w j)) → ∀ l8 : Option Value, mm_T X 12 0 0 k_M_storm 79 [some (.ref 71), some (.int l1), some (.int (nI n)), some (.int y3), some (.long (lN (10 ^ w))), none, some (.int (nI w)), some (.int (nI (w + 1))), l8, none] [] ν (fun v μ' => ∃ r, v = some (.long r) ∧ (r = lN (ltN y3 (syK D n (9 - n)) 100000000) ∧ Fr scM μ1 μ')) := by
          intro w hw8 nxt
          have hch := hW.ch hw8
          have stp : ∀ t, t ≤ w + 1 → (∀ ν, (Fr scM μ1 ν ∧ mm_I ν = mm_I μ2 ∧ SK ν ∧ ∀ j, j < 10 → mm_J ν 91 j = lN (wyR D w (w + 1 - t) j)) → ∀ (z : Int32) (l8 : Option Value), z = nI (w + 1 - t) + -1 → mm_T X 12 0 0 k_M_storm 79 [some (.ref 71), some (.int l1), some (.int (nI n)), some (.int y3), some (.long (lN (10 ^ w))), none, some (.int (nI w)), some (.int z), l8, none] [] ν (fun v μ' => ∃ r, v = some (.long r) ∧ (r = lN (ltN y3 (syK D n (9 - n)) 100000000) ∧ Fr scM μ1 μ'))) → ∀ ν, (Fr scM μ1 ν ∧ mm_I ν = mm_I μ2 ∧ SK ν ∧ ∀ j, j < 10 → mm_J ν 91 j = lN (wyR D w (w + 2 - t) j)) → ∀ l8 : Option Value, mm_T X 12 0 0 k_M_storm 79 [some (.ref 71), some (.int l1), some (.int (nI n)), some (.int y3), some (.long (lN (10 ^ w))), none, some (.int (nI w)), some (.int (nI (w + 1 - t))), l8, none] [] ν (fun v μ' => ∃ r, v = some (.long r) ∧ (r = lN (ltN y3 (syK D n (9 - n)) 100000000) ∧ Fr scM μ1 μ')) := by
            intro t ht nx ν hI l8
            obtain ⟨hfr, hII, hM, hJ'⟩ := hI
            replace hH := hH.ofI hII hM
            have up : ∀ v, (v = wy D (w + 1) (w + 1 - t)) → (fun ν => (Fr scM μ1 ν ∧ mm_I ν = mm_I μ2 ∧ SK ν ∧ ∀ j, j < 10 → mm_J ν 91 j = lN (wyR D w (w + 1 - t) j))) (mm_sJ ν 91 (w + 1 - t) (lN v)) := by
              intro v hv
              refine ⟨hfr.sJ rfl, hII, hM, fun j hj => ?_⟩
              rw [mm_J_sJ]
              by_cases e : j = w + 1 - t
              · rw [if_pos ⟨rfl, e⟩, hv, e]
                unfold wyR
                rw [if_neg (by omega)]
              · rw [if_neg (fun z => e z.2), hJ' j hj]
                unfold wyR
                by_cases e2 : j < w + 1 - t
                · rw [if_pos e2, if_pos (by omega)]
                · rw [if_neg e2, if_neg (by omega)]
            have r1 : wyR D w (w + 2 - t) (w + 1 - t) = wy D w (w + 1 - t) := if_pos (by omega)
            refine mm_iload d_M_storm_79 rfl ?_
            refine mm_if_ltN d_M_storm_81 (by first | omega | exact ite01_lt | exact bt8_lt31 _ _ | exact godB_lt31 _ _ _ | exact pop_lt31 _ | assumption | exact b31 (hW.gp (by omega)) | exact b31 (hW.ne (by omega)) | exact b31 (hW.op (by omega)) | exact and31 (hW.gp (by omega)) | exact and31 (hW.ne (by omega)) | exact and31 (hW.op (by omega)) | exact and31 (by assumption) | exact and31r (hW.ne (by omega)) | exact and31r (hW.gp (by omega)) | exact and31r (by decide)) ?_
            refine mm_iload d_M_storm_84 rfl ?_
            refine mm_if_leN d_M_storm_86 (by first | omega | exact ite01_lt | exact bt8_lt31 _ _ | exact godB_lt31 _ _ _ | exact pop_lt31 _ | assumption | exact b31 (hW.gp (by omega)) | exact b31 (hW.ne (by omega)) | exact b31 (hW.op (by omega)) | exact and31 (hW.gp (by omega)) | exact and31 (hW.ne (by omega)) | exact and31 (hW.op (by omega)) | exact and31 (by assumption) | exact and31r (hW.ne (by omega)) | exact and31r (hW.gp (by omega)) | exact and31r (by decide)) (fun c_86 => ?_) (fun c_86 => ?_)
            · refine mm_lciN 0 d_M_storm_111 rfl ?_
              refine mm_lst8 d_M_storm_112 ?_
              refine mm_aload d_M_storm_114 rfl ?_
              refine mm_getP d_M_storm_115 rfl (sk_o_71 hM) (sk_p_71_47 hM) ?_
              refine mm_iload d_M_storm_118 rfl ?_
              refine mm_aload d_M_storm_120 rfl ?_
              refine mm_getP d_M_storm_121 rfl (sk_o_71 hM) (sk_p_71_47 hM) ?_
              refine mm_iload d_M_storm_124 rfl ?_
              refine mm_laldN d_M_storm_126 (sk_a_91 hM) (by omega) (by decide) ((hJ' _ (by omega)).trans (by rw [r1])) ?_
              refine mm_ciN 10 d_M_storm_127 rfl ?_
              refine mm_aload d_M_storm_129 rfl ?_
              refine mm_ciN 2 d_M_storm_130 rfl ?_
              refine mm_iload d_M_storm_131 rfl ?_
              refine mm_iaddN d_M_storm_133 ?_
              refine mm_v1i d_M_storm_134 (sk_o_71 hM) (sp_M_ofN hH (by omega) (hH.f0 (by omega)) ?_)
              refine mm_isubN d_M_storm_137 (by omega) ?_
              refine mm_i2lN d_M_storm_138 (by first | omega | exact ite01_lt | exact bt8_lt31 _ _ | exact godB_lt31 _ _ _ | exact pop_lt31 _ | assumption | exact b31 (hW.gp (by omega)) | exact b31 (hW.ne (by omega)) | exact b31 (hW.op (by omega)) | exact and31 (hW.gp (by omega)) | exact and31 (hW.ne (by omega)) | exact and31 (hW.op (by omega)) | exact and31 (by assumption) | exact and31r (hW.ne (by omega)) | exact and31r (hW.gp (by omega)) | exact and31r (by decide)) ?_
              refine mm_lmulN d_M_storm_139 ?_
              refine mm_lload d_M_storm_140 rfl ?_
              refine mm_laddN d_M_storm_142 ?_
              refine mm_lastX d_M_storm_143 (sk_a_91 hM) (by omega) (by decide) ?_
              refine mm_inc7 d_M_storm_144 ?_
              refine mm_goto d_M_storm_147 ?_
              first
                | exact nx _ (up _ (by obtain ⟨x, hx⟩ : ∃ x, w + 1 - t = x + 1 := ⟨w + 1 - t - 1, by omega⟩; rw [hx]; rfl)) _ _ rfl
                | exact nx _ (up _ (by rw [show w + 1 - t = 0 by omega]; rfl)) _ _ rfl
            · refine mm_aload d_M_storm_89 rfl ?_
              refine mm_getP d_M_storm_90 rfl (sk_o_71 hM) (sk_p_71_47 hM) ?_
              refine mm_iload d_M_storm_93 rfl ?_
              refine mm_ciN 1 d_M_storm_95 rfl ?_
              refine mm_isubN d_M_storm_96 (by omega) ?_
              refine mm_laldN d_M_storm_97 (sk_a_91 hM) (by omega) (by decide) ((hJ' _ (by omega)).trans (by rw [show wyR D w (w + 2 - t) (w + 1 - t - 1) = wy D w (w + 1 - t - 1) from if_pos (by omega)])) ?_
              refine mm_aload d_M_storm_98 rfl ?_
              refine mm_ciN 2 d_M_storm_99 rfl ?_
              refine mm_iload d_M_storm_100 rfl ?_
              refine mm_iaddN d_M_storm_102 ?_
              refine mm_v1i d_M_storm_103 (sk_o_71 hM) (sp_M_ofN hH (by omega) (hH.f0 (by omega)) ?_)
              refine mm_i2lN d_M_storm_106 (by first | omega | exact ite01_lt | exact bt8_lt31 _ _ | exact godB_lt31 _ _ _ | exact pop_lt31 _ | assumption | exact b31 (hW.gp (by omega)) | exact b31 (hW.ne (by omega)) | exact b31 (hW.op (by omega)) | exact and31 (hW.gp (by omega)) | exact and31 (hW.ne (by omega)) | exact and31 (hW.op (by omega)) | exact and31 (by assumption) | exact and31r (hW.ne (by omega)) | exact and31r (hW.gp (by omega)) | exact and31r (by decide)) ?_
              refine mm_lmulN d_M_storm_107 ?_
              refine mm_goto d_M_storm_108 ?_
              refine mm_lst8 d_M_storm_112 ?_
              refine mm_aload d_M_storm_114 rfl ?_
              refine mm_getP d_M_storm_115 rfl (sk_o_71 hM) (sk_p_71_47 hM) ?_
              refine mm_iload d_M_storm_118 rfl ?_
              refine mm_aload d_M_storm_120 rfl ?_
              refine mm_getP d_M_storm_121 rfl (sk_o_71 hM) (sk_p_71_47 hM) ?_
              refine mm_iload d_M_storm_124 rfl ?_
              refine mm_laldN d_M_storm_126 (sk_a_91 hM) (by omega) (by decide) ((hJ' _ (by omega)).trans (by rw [r1])) ?_
              refine mm_ciN 10 d_M_storm_127 rfl ?_
              refine mm_aload d_M_storm_129 rfl ?_
              refine mm_ciN 2 d_M_storm_130 rfl ?_
              refine mm_iload d_M_storm_131 rfl ?_
              refine mm_iaddN d_M_storm_133 ?_
              refine mm_v1i d_M_storm_134 (sk_o_71 hM) (sp_M_ofN hH (by omega) (hH.f0 (by omega)) ?_)
              refine mm_isubN d_M_storm_137 (by omega) ?_
              refine mm_i2lN d_M_storm_138 (by first | omega | exact ite01_lt | exact bt8_lt31 _ _ | exact godB_lt31 _ _ _ | exact pop_lt31 _ | assumption | exact b31 (hW.gp (by omega)) | exact b31 (hW.ne (by omega)) | exact b31 (hW.op (by omega)) | exact and31 (hW.gp (by omega)) | exact and31 (hW.ne (by omega)) | exact and31 (hW.op (by omega)) | exact and31 (by assumption) | exact and31r (hW.ne (by omega)) | exact and31r (hW.gp (by omega)) | exact and31r (by decide)) ?_
              refine mm_lmulN d_M_storm_139 ?_
              refine mm_lload d_M_storm_140 rfl ?_
              refine mm_laddN d_M_storm_142 ?_
              refine mm_lastX d_M_storm_143 (sk_a_91 hM) (by omega) (by decide) ?_
              refine mm_inc7 d_M_storm_144 ?_
              refine mm_goto d_M_storm_147 ?_
              first
                | exact nx _ (up _ (by obtain ⟨x, hx⟩ : ∃ x, w + 1 - t = x + 1 := ⟨w + 1 - t - 1, by omega⟩; rw [hx]; rfl)) _ _ rfl
                | exact nx _ (up _ (by rw [show w + 1 - t = 0 by omega]; rfl)) _ _ rfl
          have last : ∀ ν, (Fr scM μ1 ν ∧ mm_I ν = mm_I μ2 ∧ SK ν ∧ ∀ j, j < 10 → mm_J ν 91 j = lN (wyR D w 0 j)) → ∀ l8 : Option Value, mm_T X 12 0 0 k_M_storm 79 [some (.ref 71), some (.int l1), some (.int (nI n)), some (.int y3), some (.long (lN (10 ^ w))), none, some (.int (nI w)), some (.int (-1)), l8, none] [] ν (fun v μ' => ∃ r, v = some (.long r) ∧ (r = lN (ltN y3 (syK D n (9 - n)) 100000000) ∧ Fr scM μ1 μ')) := by
            intro ν hI l8
            refine mm_iload d_M_storm_79 rfl ?_
            refine mm_if_lt d_M_storm_81 (fun c_81 => ?_) (fun c_81 => False.elim (c_81 (by decide)))
            exact nxt ν ⟨hI.1, hI.2.1, hI.2.2.1, fun j hj => (hI.2.2.2 j hj).trans rfl⟩ _
          have all := mm_up (P := fun t => ∀ ν, (Fr scM μ1 ν ∧ mm_I ν = mm_I μ2 ∧ SK ν ∧ ∀ j, j < 10 → mm_J ν 91 j = lN (wyR D w (w + 2 - t) j)) → ∀ l8 : Option Value, mm_T X 12 0 0 k_M_storm 79 [some (.ref 71), some (.int l1), some (.int (nI n)), some (.int y3), some (.long (lN (10 ^ w))), none, some (.int (nI w)), some (.int (nI (w + 1 - t))), l8, none] [] ν (fun v μ' => ∃ r, v = some (.long r) ∧ (r = lN (ltN y3 (syK D n (9 - n)) 100000000) ∧ Fr scM μ1 μ'))) (w + 1) (stp (w + 1) (Nat.le_refl _) (fun ν' hI' z l6 hz => by rw [hz, Nat.sub_self]; rw [Nat.sub_self] at hI'; exact last ν' hI' l6)) (fun t ht ih2 => stp t (by omega) (fun ν' hI' z l6 hz => by rw [hz, show w + 1 - t = (w + 1 - (t + 1)) + 1 by omega, pk_m1]; rw [show w + 1 - t = w + 2 - (t + 1) by omega] at hI'; exact ih2 ν' hI' l6))
          intro ν hI l8
          refine all ν ⟨hI.1, hI.2.1, hI.2.2.1, fun j hj => (hI.2.2.2 j hj).trans ?_⟩ l8
          unfold wyR
          by_cases e : j < w + 2 - 0
          · rw [if_pos e]
          · rw [if_neg e, wy_0 D w j (by omega), wy_0 D (w + 1) j (by omega)]
        refine mm_up (P := fun w => ∀ ν, (Fr scM μ1 ν ∧ mm_I ν = mm_I μ2 ∧ SK ν ∧ ∀ j, j < 10 → mm_J ν 91 j = lN (wy D w j)) → ∀ l7 l8 : Option Value, mm_T X 12 0 0 k_M_storm 66 [some (.ref 71), some (.int l1), some (.int (nI n)), some (.int y3), some (.long (lN (10 ^ w))), none, some (.int (nI w)), l7, l8, none] [] ν (fun v μ' => ∃ r, v = some (.long r) ∧ (r = lN (ltN y3 (syK D n (9 - n)) 100000000) ∧ Fr scM μ1 μ'))) 8 ?_ ?_
        · intro ν hI l7 l8
          refine mm_iload d_M_storm_66 rfl ?_
          refine mm_ciN 8 d_M_storm_68 rfl ?_
          refine mm_icmp_geN d_M_storm_70 (by first | omega | exact ite01_lt | exact bt8_lt31 _ _ | exact godB_lt31 _ _ _ | exact pop_lt31 _ | assumption | exact b31 (hW.gp (by omega)) | exact b31 (hW.ne (by omega)) | exact b31 (hW.op (by omega)) | exact and31 (hW.gp (by omega)) | exact and31 (hW.ne (by omega)) | exact and31 (hW.op (by omega)) | exact and31 (by assumption) | exact and31r (hW.ne (by omega)) | exact and31r (hW.gp (by omega)) | exact and31r (by decide)) (by first | omega | exact ite01_lt | exact bt8_lt31 _ _ | exact godB_lt31 _ _ _ | exact pop_lt31 _ | assumption | exact b31 (hW.gp (by omega)) | exact b31 (hW.ne (by omega)) | exact b31 (hW.op (by omega)) | exact and31 (hW.gp (by omega)) | exact and31 (hW.ne (by omega)) | exact and31 (hW.op (by omega)) | exact and31 (by assumption) | exact and31r (hW.ne (by omega)) | exact and31r (hW.gp (by omega)) | exact and31r (by decide)) (fun c_70 => ?_) (fun c_70 => False.elim (by omega))
          exact sum ν hI _ _
        · intro w hw8 ih ν hI l7 l8
          have hM := hI.2.2.1
          refine mm_iload d_M_storm_66 rfl ?_
          refine mm_ciN 8 d_M_storm_68 rfl ?_
          refine mm_icmp_geN d_M_storm_70 (by first | omega | exact ite01_lt | exact bt8_lt31 _ _ | exact godB_lt31 _ _ _ | exact pop_lt31 _ | assumption | exact b31 (hW.gp (by omega)) | exact b31 (hW.ne (by omega)) | exact b31 (hW.op (by omega)) | exact and31 (hW.gp (by omega)) | exact and31 (hW.ne (by omega)) | exact and31 (hW.op (by omega)) | exact and31 (by assumption) | exact and31r (hW.ne (by omega)) | exact and31r (hW.gp (by omega)) | exact and31r (by decide)) (by first | omega | exact ite01_lt | exact bt8_lt31 _ _ | exact godB_lt31 _ _ _ | exact pop_lt31 _ | assumption | exact b31 (hW.gp (by omega)) | exact b31 (hW.ne (by omega)) | exact b31 (hW.op (by omega)) | exact and31 (hW.gp (by omega)) | exact and31 (hW.ne (by omega)) | exact and31 (hW.op (by omega)) | exact and31 (by assumption) | exact and31r (hW.ne (by omega)) | exact and31r (hW.gp (by omega)) | exact and31r (by decide)) (fun c_70 => False.elim (by omega)) (fun c_70 => ?_)
          refine mm_iload d_M_storm_73 rfl ?_
          refine mm_ciN 1 d_M_storm_75 rfl ?_
          refine mm_iaddN d_M_storm_76 ?_
          refine mm_ist7 d_M_storm_77 ?_
          refine inn w hw8 (fun ν hI l8 => ?_) ν hI _
          refine mm_lload d_M_storm_150 rfl ?_
          refine mm_lciN 10 d_M_storm_152 rfl ?_
          refine mm_lmulN d_M_storm_155 ?_
          refine mm_lst4 d_M_storm_156 ?_
          refine mm_inc6N d_M_storm_158 ?_
          refine mm_goto d_M_storm_161 ?_
          exact ih ν hI _ _
      refine mm_up (P := fun t => ∀ ν, (Fr scM μ1 ν ∧ mm_I ν = mm_I μ2 ∧ SK ν ∧ ∀ j, j < t → mm_J ν 91 j = lN (wy D 0 j)) → mm_T X _ 0 0 k_M_storm 33 [some (.ref 71), some (.int l1), some (.int (nI n)), some (.int y3), some (.long (lN 1)), none, some (.int (nI t)), none, none, none] [] ν _) 10 ?_ ?_ μ2 ⟨gf, rfl, hM, fun j hj => absurd hj (Nat.not_lt_zero j)⟩
      · intro ν hI
        refine mm_iload d_M_storm_33 rfl ?_
        refine mm_ciN 10 d_M_storm_35 rfl ?_
        refine mm_icmp_geN d_M_storm_37 (by first | omega | exact ite01_lt | exact bt8_lt31 _ _ | exact godB_lt31 _ _ _ | exact pop_lt31 _ | assumption | exact b31 (hW.gp (by omega)) | exact b31 (hW.ne (by omega)) | exact b31 (hW.op (by omega)) | exact and31 (hW.gp (by omega)) | exact and31 (hW.ne (by omega)) | exact and31 (hW.op (by omega)) | exact and31 (by assumption) | exact and31r (hW.ne (by omega)) | exact and31r (hW.gp (by omega)) | exact and31r (by decide)) (by first | omega | exact ite01_lt | exact bt8_lt31 _ _ | exact godB_lt31 _ _ _ | exact pop_lt31 _ | assumption | exact b31 (hW.gp (by omega)) | exact b31 (hW.ne (by omega)) | exact b31 (hW.op (by omega)) | exact and31 (hW.gp (by omega)) | exact and31 (hW.ne (by omega)) | exact and31 (hW.op (by omega)) | exact and31 (by assumption) | exact and31r (hW.ne (by omega)) | exact and31r (hW.gp (by omega)) | exact and31r (by decide)) (fun c_37 => ?_) (fun c_37 => False.elim (by omega))
        refine mm_ciN 0 d_M_storm_63 rfl ?_
        refine mm_ist6 d_M_storm_64 ?_
        exact outer ν hI _ _
      · intro t ht ih ν hI
        obtain ⟨hfr, hII, hM, hJ'⟩ := hI
        have up : ∀ v, v = wy D 0 t → (fun ν => (Fr scM μ1 ν ∧ mm_I ν = mm_I μ2 ∧ SK ν ∧ ∀ j, j < t + 1 → mm_J ν 91 j = lN (wy D 0 j))) (mm_sJ ν 91 t (lN v)) := by
          intro v hv
          refine ⟨hfr.sJ rfl, hII, hM, fun j hj => ?_⟩
          rw [mm_J_sJ]
          by_cases e : j = t
          · rw [if_pos ⟨rfl, e⟩, hv, e]
          · rw [if_neg (fun z => e z.2)]
            exact hJ' j (by omega)
        refine mm_iload d_M_storm_33 rfl ?_
        refine mm_ciN 10 d_M_storm_35 rfl ?_
        refine mm_icmp_geN d_M_storm_37 (by first | omega | exact ite01_lt | exact bt8_lt31 _ _ | exact godB_lt31 _ _ _ | exact pop_lt31 _ | assumption | exact b31 (hW.gp (by omega)) | exact b31 (hW.ne (by omega)) | exact b31 (hW.op (by omega)) | exact and31 (hW.gp (by omega)) | exact and31 (hW.ne (by omega)) | exact and31 (hW.op (by omega)) | exact and31 (by assumption) | exact and31r (hW.ne (by omega)) | exact and31r (hW.gp (by omega)) | exact and31r (by decide)) (by first | omega | exact ite01_lt | exact bt8_lt31 _ _ | exact godB_lt31 _ _ _ | exact pop_lt31 _ | assumption | exact b31 (hW.gp (by omega)) | exact b31 (hW.ne (by omega)) | exact b31 (hW.op (by omega)) | exact and31 (hW.gp (by omega)) | exact and31 (hW.ne (by omega)) | exact and31 (hW.op (by omega)) | exact and31 (by assumption) | exact and31r (hW.ne (by omega)) | exact and31r (hW.gp (by omega)) | exact and31r (by decide)) (fun c_37 => False.elim (by omega)) (fun c_37 => ?_)
        refine mm_aload d_M_storm_40 rfl ?_
        refine mm_getP d_M_storm_41 rfl (sk_o_71 hM) (sk_p_71_47 hM) ?_
        refine mm_iload d_M_storm_44 rfl ?_
        refine mm_iload d_M_storm_46 rfl ?_
        refine mm_if_neN d_M_storm_48 (by first | omega | exact ite01_lt | exact bt8_lt31 _ _ | exact godB_lt31 _ _ _ | exact pop_lt31 _ | assumption | exact b31 (hW.gp (by omega)) | exact b31 (hW.ne (by omega)) | exact b31 (hW.op (by omega)) | exact and31 (hW.gp (by omega)) | exact and31 (hW.ne (by omega)) | exact and31 (hW.op (by omega)) | exact and31 (by assumption) | exact and31r (hW.ne (by omega)) | exact and31r (hW.gp (by omega)) | exact and31r (by decide)) (fun c_48 => ?_) (fun c_48 => ?_)
        · refine mm_lciN 0 d_M_storm_55 rfl ?_
          refine mm_lastX d_M_storm_56 (sk_a_91 hM) (by omega) (by decide) ?_
          refine mm_inc6N d_M_storm_57 ?_
          refine mm_goto d_M_storm_60 ?_
          first
            | exact ih _ (up _ (if_neg c_48).symm)
            | exact ih _ (up _ (if_pos c_48).symm)
        · refine mm_lciN 1 d_M_storm_51 rfl ?_
          refine mm_goto d_M_storm_52 ?_
          refine mm_lastX d_M_storm_56 (sk_a_91 hM) (by omega) (by decide) ?_
          refine mm_inc6N d_M_storm_57 ?_
          refine mm_goto d_M_storm_60 ?_
          first
            | exact ih _ (up _ (if_neg c_48).symm)
            | exact ih _ (up _ (if_pos c_48).symm)
