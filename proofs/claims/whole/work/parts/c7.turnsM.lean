/-! pairs: headland -/
def wI : Option Nat → Int32
  | none => -9
  | some v => nI v
def wW : Option Nat → Int32
  | none => -1
  | some v => nI v
theorem nI_m9 {v : Nat} (h : v < 2 ^ 31) : ¬ nI v = -9 := fun e => nI_pos (n := v) h (by rw [e]; decide)
theorem p19 {n : Nat} (h : n ≤ 3) : 19 ^ n ≤ 6859 := Nat.pow_le_pow_right (n := 19) (i := n) (j := 3) (by decide) h
theorem hsN_lt {D : mm_D} (hW : WfD D) : ∀ t k p, hsN D t k = some p → p.1 < 64 ∧ p.2 < 256
  | 0, k, p, h => by cases h; exact ⟨show (0 : Nat) < 64 by decide, show (0 : Nat) < 256 by decide⟩
  | t + 1, k, p, h => by
    have hn6 := hW.1
    unfold hsN at h
    cases hs : hsN D t (k / 19) with
    | none => rw [hs] at h; cases h
    | some q =>
      rw [hs] at h
      obtain ⟨q1, q2⟩ := hsN_lt hW t _ q hs
      replace h : stepv D q.1 q.2 (k % 19) = some p := h
      unfold stepv at h
      split at h
      · cases h; exact ⟨q1, q2⟩
      · split at h
        · cases h
        · rename_i c
          have hc : k % 19 / 3 < dn D := by omega
          have hk := kthN_ok _ (hW.gp (j := k % 19 / 3) (by omega)) (hW.2.2.2.2.1 _ hc) (k % 19 % 3) (by omega)
          cases h
          exact ⟨or_lt64 q1 (p2_lt (by omega)), comesN_lt q2 hk.1⟩
theorem hsN_up {D : mm_D} {n x : Nat} : ∀ m, m ≤ n → hsN D (n - m) (x / 19 ^ m) = none → hsN D n x = none
  | 0, _, h => by rw [Nat.pow_zero, Nat.div_one, Nat.sub_zero] at h; exact h
  | m + 1, hm, h => by
    refine hsN_up m (by omega) ?_
    rw [show n - m = (n - (m + 1)) + 1 by omega]
    unfold hsN
    rw [Nat.div_div_eq_div_mul, ← Nat.pow_succ, h]
theorem sp_M_rowsOf {X : mm_X} {μ : mm_M} {q : Int32 → mm_M → Prop} {n : Nat} (hn : n ≤ 3) (h : q (nI (19 ^ n)) μ) : mm_Ci X 0 0 0 k_M_rowsOf [.int (nI n)] μ q := by
  show mm_T X 0 0 0 k_M_rowsOf 0 [some (.int (nI n)), none, none] [] μ _
  refine mm_ciN 1 d_M_rowsOf_0 rfl ?_
  refine mm_ist1 d_M_rowsOf_1 ?_
  refine mm_ciN 0 d_M_rowsOf_2 rfl ?_
  refine mm_ist2 d_M_rowsOf_3 ?_
  refine mm_up (P := fun i => mm_T X _ 0 0 k_M_rowsOf 4 [some (.int (nI n)), some (.int (nI (19 ^ i))), some (.int (nI i))] [] μ _) (n) ?_ (fun i hi ih => ?_)
  · refine mm_iload d_M_rowsOf_4 rfl ?_
    refine mm_iload d_M_rowsOf_5 rfl ?_
    refine mm_icmp_geN d_M_rowsOf_6 (by first | omega | exact ite01_lt | exact bt8_lt31 _ _ | exact godB_lt31 _ _ _ | exact pop_lt31 _ | assumption | exact b31 (hW.gp (by omega)) | exact b31 (hW.ne (by omega)) | exact b31 (hW.op (by omega)) | exact and31 (hW.gp (by omega)) | exact and31 (hW.ne (by omega)) | exact and31 (hW.op (by omega)) | exact and31 (by assumption) | exact and31r (hW.ne (by omega)) | exact and31r (hW.gp (by omega)) | exact and31r (by decide)) (by first | omega | exact ite01_lt | exact bt8_lt31 _ _ | exact godB_lt31 _ _ _ | exact pop_lt31 _ | assumption | exact b31 (hW.gp (by omega)) | exact b31 (hW.ne (by omega)) | exact b31 (hW.op (by omega)) | exact and31 (hW.gp (by omega)) | exact and31 (hW.ne (by omega)) | exact and31 (hW.op (by omega)) | exact and31 (by assumption) | exact and31r (hW.ne (by omega)) | exact and31r (hW.gp (by omega)) | exact and31r (by decide)) (fun c_6 => ?_) (fun c_6 => False.elim (by omega))
    refine mm_iload d_M_rowsOf_20 rfl ?_
    exact mm_ri d_M_rowsOf_21 h
  · refine mm_iload d_M_rowsOf_4 rfl ?_
    refine mm_iload d_M_rowsOf_5 rfl ?_
    refine mm_icmp_geN d_M_rowsOf_6 (by first | omega | exact ite01_lt | exact bt8_lt31 _ _ | exact godB_lt31 _ _ _ | exact pop_lt31 _ | assumption | exact b31 (hW.gp (by omega)) | exact b31 (hW.ne (by omega)) | exact b31 (hW.op (by omega)) | exact and31 (hW.gp (by omega)) | exact and31 (hW.ne (by omega)) | exact and31 (hW.op (by omega)) | exact and31 (by assumption) | exact and31r (hW.ne (by omega)) | exact and31r (hW.gp (by omega)) | exact and31r (by decide)) (by first | omega | exact ite01_lt | exact bt8_lt31 _ _ | exact godB_lt31 _ _ _ | exact pop_lt31 _ | assumption | exact b31 (hW.gp (by omega)) | exact b31 (hW.ne (by omega)) | exact b31 (hW.op (by omega)) | exact and31 (hW.gp (by omega)) | exact and31 (hW.ne (by omega)) | exact and31 (hW.op (by omega)) | exact and31 (by assumption) | exact and31r (hW.ne (by omega)) | exact and31r (hW.gp (by omega)) | exact and31r (by decide)) (fun c_6 => False.elim (by omega)) (fun c_6 => ?_)
    refine mm_iload d_M_rowsOf_9 rfl ?_
    refine mm_ciN 19 d_M_rowsOf_10 rfl ?_
    refine mm_imulN d_M_rowsOf_12 ?_
    refine mm_ist1 d_M_rowsOf_13 ?_
    refine mm_inc2N d_M_rowsOf_14 ?_
    refine mm_goto d_M_rowsOf_17 ?_
    rw [Nat.pow_succ] at ih
    exact ih
theorem sp_M_choiceOf {X : mm_X} {μ : mm_M} {q : Int32 → mm_M → Prop} {k v : Nat} {D : mm_D} (hH : Hd μ k D) (hv : v = 18 ∨ v < 18 ∧ v / 3 < dn D) (h : q (nI (chF D v)) μ) : mm_Ci X 2 0 0 k_M_choiceOf [.ref 71, .int (nI v)] μ q := by
  show mm_T X 2 0 0 k_M_choiceOf 0 [some (.ref 71), some (.int (nI v))] [] μ _
  have hM := hH.1
  have hW := hH.wf
  have hn6 := hW.1
  unfold chF at h
  by_cases e : v = 18
  · rw [if_pos e] at h
    refine mm_iload d_M_choiceOf_0 rfl ?_
    refine mm_ciN 18 d_M_choiceOf_1 rfl ?_
    refine mm_icmp_neN d_M_choiceOf_3 (by first | omega | exact ite01_lt | exact bt8_lt31 _ _ | exact godB_lt31 _ _ _ | exact pop_lt31 _ | assumption | exact b31 (hW.gp (by omega)) | exact b31 (hW.ne (by omega)) | exact b31 (hW.op (by omega)) | exact and31 (hW.gp (by omega)) | exact and31 (hW.ne (by omega)) | exact and31 (hW.op (by omega)) | exact and31 (by assumption) | exact and31r (hW.ne (by omega)) | exact and31r (hW.gp (by omega)) | exact and31r (by decide)) (by first | omega | exact ite01_lt | exact bt8_lt31 _ _ | exact godB_lt31 _ _ _ | exact pop_lt31 _ | assumption | exact b31 (hW.gp (by omega)) | exact b31 (hW.ne (by omega)) | exact b31 (hW.op (by omega)) | exact and31 (hW.gp (by omega)) | exact and31 (hW.ne (by omega)) | exact and31 (hW.op (by omega)) | exact and31 (by assumption) | exact and31r (hW.ne (by omega)) | exact and31r (hW.gp (by omega)) | exact and31r (by decide)) (fun c_3 => False.elim (by omega)) (fun c_3 => ?_)
    refine mm_ciN 99 d_M_choiceOf_6 rfl ?_
    refine mm_goto d_M_choiceOf_8 ?_
    exact mm_ri d_M_choiceOf_32 h
  · rw [if_neg e] at h
    have hc : v / 3 < dn D := by omega
    have hk := kthN_ok _ (hW.gp (j := v / 3) (by omega)) (hW.2.2.2.2.1 _ hc) (v % 3) (by omega)
    refine mm_iload d_M_choiceOf_0 rfl ?_
    refine mm_ciN 18 d_M_choiceOf_1 rfl ?_
    refine mm_icmp_neN d_M_choiceOf_3 (by first | omega | exact ite01_lt | exact bt8_lt31 _ _ | exact godB_lt31 _ _ _ | exact pop_lt31 _ | assumption | exact b31 (hW.gp (by omega)) | exact b31 (hW.ne (by omega)) | exact b31 (hW.op (by omega)) | exact and31 (hW.gp (by omega)) | exact and31 (hW.ne (by omega)) | exact and31 (hW.op (by omega)) | exact and31 (by assumption) | exact and31r (hW.ne (by omega)) | exact and31r (hW.gp (by omega)) | exact and31r (by decide)) (by first | omega | exact ite01_lt | exact bt8_lt31 _ _ | exact godB_lt31 _ _ _ | exact pop_lt31 _ | assumption | exact b31 (hW.gp (by omega)) | exact b31 (hW.ne (by omega)) | exact b31 (hW.op (by omega)) | exact and31 (hW.gp (by omega)) | exact and31 (hW.ne (by omega)) | exact and31 (hW.op (by omega)) | exact and31 (by assumption) | exact and31r (hW.ne (by omega)) | exact and31r (hW.gp (by omega)) | exact and31r (by decide)) (fun c_3 => ?_) (fun c_3 => False.elim (by omega))
    refine mm_ciN 10 d_M_choiceOf_11 rfl ?_
    refine mm_iload d_M_choiceOf_13 rfl ?_
    refine mm_ciN 3 d_M_choiceOf_14 rfl ?_
    refine mm_idivN d_M_choiceOf_15 (by first | omega | exact ite01_lt | exact bt8_lt31 _ _ | exact godB_lt31 _ _ _ | exact pop_lt31 _ | assumption | exact b31 (hW.gp (by omega)) | exact b31 (hW.ne (by omega)) | exact b31 (hW.op (by omega)) | exact and31 (hW.gp (by omega)) | exact and31 (hW.ne (by omega)) | exact and31 (hW.op (by omega)) | exact and31 (by assumption) | exact and31r (hW.ne (by omega)) | exact and31r (hW.gp (by omega)) | exact and31r (by decide)) (by omega) (by omega) ?_
    refine mm_imulN d_M_choiceOf_16 ?_
    refine mm_aload d_M_choiceOf_17 rfl ?_
    refine mm_aload d_M_choiceOf_18 rfl ?_
    refine mm_iload d_M_choiceOf_19 rfl ?_
    refine mm_ciN 3 d_M_choiceOf_20 rfl ?_
    refine mm_idivN d_M_choiceOf_21 (by first | omega | exact ite01_lt | exact bt8_lt31 _ _ | exact godB_lt31 _ _ _ | exact pop_lt31 _ | assumption | exact b31 (hW.gp (by omega)) | exact b31 (hW.ne (by omega)) | exact b31 (hW.op (by omega)) | exact and31 (hW.gp (by omega)) | exact and31 (hW.ne (by omega)) | exact and31 (hW.op (by omega)) | exact and31 (by assumption) | exact and31r (hW.ne (by omega)) | exact and31r (hW.gp (by omega)) | exact and31r (by decide)) (by omega) (by omega) ?_
    refine mm_v1i d_M_choiceOf_22 (sk_o_71 hM) (sp_M_gods hH (by omega) ?_)
    refine mm_iload d_M_choiceOf_25 rfl ?_
    refine mm_ciN 3 d_M_choiceOf_26 rfl ?_
    refine mm_iremN d_M_choiceOf_27 (by first | omega | exact ite01_lt | exact bt8_lt31 _ _ | exact godB_lt31 _ _ _ | exact pop_lt31 _ | assumption | exact b31 (hW.gp (by omega)) | exact b31 (hW.ne (by omega)) | exact b31 (hW.op (by omega)) | exact and31 (hW.gp (by omega)) | exact and31 (hW.ne (by omega)) | exact and31 (hW.op (by omega)) | exact and31 (by assumption) | exact and31r (hW.ne (by omega)) | exact and31r (hW.gp (by omega)) | exact and31r (by decide)) (by omega) (by omega) ?_
    refine mm_v2i d_M_choiceOf_28 (sk_o_71 hM) (sp_M_kth hM (hW.gp (by omega)) hk.1 hk.2.1 hk.2.2 ?_)
    refine mm_iaddN d_M_choiceOf_31 ?_
    exact mm_ri d_M_choiceOf_32 h
theorem sp_M_endOf {X : mm_X} {μ : mm_M} {q : Int32 → mm_M → Prop} {k n x : Nat} {D : mm_D} (hH : Hd μ k D) (hn : n ≤ 3) (hx : x < 19 ^ n) (h : q (wI ((hsN D n x).map (fun p => gN D (nI 0) p.2))) μ) : mm_Ci X 3 0 0 k_M_endOf [.ref 71, .int (nI n), .int (nI x)] μ q := by
  show mm_T X 3 0 0 k_M_endOf 0 [some (.ref 71), some (.int (nI n)), some (.int (nI x)), none, none, none, none, none, none] [] μ _
  have hM := hH.1
  have hW := hH.wf
  have hn6 := hW.1
  have h19 := p19 hn
  refine mm_ciN 0 d_M_endOf_0 rfl ?_
  refine mm_ist3 d_M_endOf_1 ?_
  refine mm_ciN 0 d_M_endOf_2 rfl ?_
  refine mm_ist4 d_M_endOf_3 ?_
  refine mm_iload d_M_endOf_5 rfl ?_
  refine mm_s1i d_M_endOf_6 (sp_M_rowsOf hn ?_)
  refine mm_ist5 d_M_endOf_9 ?_
  refine mm_ciN 0 d_M_endOf_11 rfl ?_
  refine mm_ist6 d_M_endOf_12 ?_
  refine mm_up (P := fun t => ∀ (had set : Nat) (l7 l8 : Option Value), hsN D t (x / 19 ^ (n - t)) = some (had, set) → mm_T X 3 0 0 k_M_endOf 14 [some (.ref 71), some (.int (nI n)), some (.int (nI x)), some (.int (nI set)), some (.int (nI had)), some (.int (nI (19 ^ (n - t)))), some (.int (nI t)), l7, l8] [] μ (fun v μ' => ∃ r, v = some (.int r) ∧ q r μ')) n ?_ ?_ 0 0 none none rfl
  · intro had set l7 l8 e
    rw [Nat.sub_self, Nat.pow_zero, Nat.div_one] at e
    rw [e] at h
    replace h : q (nI (gN D (nI 0) set)) μ := h
    rw [show gN D (nI 0) set = worthN D (readyN D set) from if_pos rfl] at h
    have hr : readyN D set < 256 := by have := readyN_lt hW set; omega
    refine mm_iload d_M_endOf_14 rfl ?_
    refine mm_iload d_M_endOf_16 rfl ?_
    refine mm_icmp_geN d_M_endOf_17 (by first | omega | exact ite01_lt | exact bt8_lt31 _ _ | exact godB_lt31 _ _ _ | exact pop_lt31 _ | assumption | exact b31 (hW.gp (by omega)) | exact b31 (hW.ne (by omega)) | exact b31 (hW.op (by omega)) | exact and31 (hW.gp (by omega)) | exact and31 (hW.ne (by omega)) | exact and31 (hW.op (by omega)) | exact and31 (by assumption) | exact and31r (hW.ne (by omega)) | exact and31r (hW.gp (by omega)) | exact and31r (by decide)) (by first | omega | exact ite01_lt | exact bt8_lt31 _ _ | exact godB_lt31 _ _ _ | exact pop_lt31 _ | assumption | exact b31 (hW.gp (by omega)) | exact b31 (hW.ne (by omega)) | exact b31 (hW.op (by omega)) | exact and31 (hW.gp (by omega)) | exact and31 (hW.ne (by omega)) | exact and31 (hW.op (by omega)) | exact and31 (by assumption) | exact and31r (hW.ne (by omega)) | exact and31r (hW.gp (by omega)) | exact and31r (by decide)) (fun c_17 => ?_) (fun c_17 => False.elim (by omega))
    refine mm_aload d_M_endOf_101 rfl ?_
    refine mm_aload d_M_endOf_102 rfl ?_
    refine mm_iload d_M_endOf_103 rfl ?_
    refine mm_v1i d_M_endOf_104 (sk_o_71 hM) (sp_M_readyBy hH ?_)
    refine mm_v1i d_M_endOf_107 (sk_o_71 hM) (sp_M_worthOf hH (by first | omega | assumption | exact hW.gp (by omega) | exact hW.ne (by omega) | exact hW.op (by omega) | exact and_lt256 (hW.gp (by omega)) | exact and_lt256 (hW.ne (by omega)) | exact and_lt256 (hW.op (by omega)) | exact and_lt256 (by assumption)) ?_)
    exact mm_ri d_M_endOf_110 h
  · intro t ht IH had set l7 l8 e
    have em : n - t = (n - (t + 1)) + 1 := by omega
    have hp : 0 < 19 ^ (n - (t + 1)) := Nat.pow_pos (by decide)
    have hpl := p19 (n := n - (t + 1)) (by omega)
    have ew : 19 ^ (n - t) / 19 = 19 ^ (n - (t + 1)) := by rw [em, Nat.pow_succ, Nat.mul_div_cancel _ (by decide)]
    have hpn := p19 (n := n - t) (by omega)
    have ek : x / 19 ^ (n - (t + 1)) / 19 = x / 19 ^ (n - t) := by rw [Nat.div_div_eq_div_mul, em, Nat.pow_succ]
    have hlt := hsN_lt hW _ _ _ e
    have es : hsN D (t + 1) (x / 19 ^ (n - (t + 1))) = stepv D had set (x / 19 ^ (n - (t + 1)) % 19) := by
      show (match hsN D t (x / 19 ^ (n - (t + 1)) / 19) with | none => none | some p => stepv D p.1 p.2 (x / 19 ^ (n - (t + 1)) % 19)) = _
      rw [ek, e]
    have hv : x / 19 ^ (n - (t + 1)) % 19 < 19 := Nat.mod_lt _ (by decide)
    have hxl : x / 19 ^ (n - (t + 1)) ≤ x := Nat.div_le_self _ _
    have bad : stepv D had set (x / 19 ^ (n - (t + 1)) % 19) = none → q (-9) μ := by
      intro y
      have := hsN_up (D := D) (n := n) (x := x) (n - (t + 1)) (by omega) (by rw [show n - (n - (t + 1)) = t + 1 by omega, es, y])
      rw [this] at h
      exact h
    rw [es] at IH
    generalize hve : x / 19 ^ (n - (t + 1)) % 19 = v at IH bad hv
    refine mm_iload d_M_endOf_14 rfl ?_
    refine mm_iload d_M_endOf_16 rfl ?_
    refine mm_icmp_geN d_M_endOf_17 (by first | omega | exact ite01_lt | exact bt8_lt31 _ _ | exact godB_lt31 _ _ _ | exact pop_lt31 _ | assumption | exact b31 (hW.gp (by omega)) | exact b31 (hW.ne (by omega)) | exact b31 (hW.op (by omega)) | exact and31 (hW.gp (by omega)) | exact and31 (hW.ne (by omega)) | exact and31 (hW.op (by omega)) | exact and31 (by assumption) | exact and31r (hW.ne (by omega)) | exact and31r (hW.gp (by omega)) | exact and31r (by decide)) (by first | omega | exact ite01_lt | exact bt8_lt31 _ _ | exact godB_lt31 _ _ _ | exact pop_lt31 _ | assumption | exact b31 (hW.gp (by omega)) | exact b31 (hW.ne (by omega)) | exact b31 (hW.op (by omega)) | exact and31 (hW.gp (by omega)) | exact and31 (hW.ne (by omega)) | exact and31 (hW.op (by omega)) | exact and31 (by assumption) | exact and31r (hW.ne (by omega)) | exact and31r (hW.gp (by omega)) | exact and31r (by decide)) (fun c_17 => False.elim (by omega)) (fun c_17 => ?_)
    refine mm_iload d_M_endOf_20 rfl ?_
    refine mm_ciN 19 d_M_endOf_22 rfl ?_
    refine mm_idivN d_M_endOf_24 (by first | omega | exact ite01_lt | exact bt8_lt31 _ _ | exact godB_lt31 _ _ _ | exact pop_lt31 _ | assumption | exact b31 (hW.gp (by omega)) | exact b31 (hW.ne (by omega)) | exact b31 (hW.op (by omega)) | exact and31 (hW.gp (by omega)) | exact and31 (hW.ne (by omega)) | exact and31 (hW.op (by omega)) | exact and31 (by assumption) | exact and31r (hW.ne (by omega)) | exact and31r (hW.gp (by omega)) | exact and31r (by decide)) (by omega) (by omega) ?_
    rw [ew]
    refine mm_ist5 d_M_endOf_25 ?_
    refine mm_iload d_M_endOf_27 rfl ?_
    refine mm_iload d_M_endOf_28 rfl ?_
    refine mm_idivN d_M_endOf_30 (by first | omega | exact ite01_lt | exact bt8_lt31 _ _ | exact godB_lt31 _ _ _ | exact pop_lt31 _ | assumption | exact b31 (hW.gp (by omega)) | exact b31 (hW.ne (by omega)) | exact b31 (hW.op (by omega)) | exact and31 (hW.gp (by omega)) | exact and31 (hW.ne (by omega)) | exact and31 (hW.op (by omega)) | exact and31 (by assumption) | exact and31r (hW.ne (by omega)) | exact and31r (hW.gp (by omega)) | exact and31r (by decide)) (by omega) (by omega) ?_
    refine mm_ciN 19 d_M_endOf_31 rfl ?_
    refine mm_iremN d_M_endOf_33 (by first | omega | exact ite01_lt | exact bt8_lt31 _ _ | exact godB_lt31 _ _ _ | exact pop_lt31 _ | assumption | exact b31 (hW.gp (by omega)) | exact b31 (hW.ne (by omega)) | exact b31 (hW.op (by omega)) | exact and31 (hW.gp (by omega)) | exact and31 (hW.ne (by omega)) | exact and31 (hW.op (by omega)) | exact and31 (by assumption) | exact and31r (hW.ne (by omega)) | exact and31r (hW.gp (by omega)) | exact and31r (by decide)) (by omega) (by omega) ?_
    rw [hve]
    refine mm_ist7 d_M_endOf_34 ?_
    refine mm_iload d_M_endOf_36 rfl ?_
    refine mm_ciN 3 d_M_endOf_38 rfl ?_
    refine mm_idivN d_M_endOf_39 (by first | omega | exact ite01_lt | exact bt8_lt31 _ _ | exact godB_lt31 _ _ _ | exact pop_lt31 _ | assumption | exact b31 (hW.gp (by omega)) | exact b31 (hW.ne (by omega)) | exact b31 (hW.op (by omega)) | exact and31 (hW.gp (by omega)) | exact and31 (hW.ne (by omega)) | exact and31 (hW.op (by omega)) | exact and31 (by assumption) | exact and31r (hW.ne (by omega)) | exact and31r (hW.gp (by omega)) | exact and31r (by decide)) (by omega) (by omega) ?_
    refine mm_ist8 d_M_endOf_40 ?_
    refine mm_iload d_M_endOf_42 rfl ?_
    refine mm_ciN 18 d_M_endOf_44 rfl ?_
    refine mm_icmp_geN d_M_endOf_46 (by first | omega | exact ite01_lt | exact bt8_lt31 _ _ | exact godB_lt31 _ _ _ | exact pop_lt31 _ | assumption | exact b31 (hW.gp (by omega)) | exact b31 (hW.ne (by omega)) | exact b31 (hW.op (by omega)) | exact and31 (hW.gp (by omega)) | exact and31 (hW.ne (by omega)) | exact and31 (hW.op (by omega)) | exact and31 (by assumption) | exact and31r (hW.ne (by omega)) | exact and31r (hW.gp (by omega)) | exact and31r (by decide)) (by first | omega | exact ite01_lt | exact bt8_lt31 _ _ | exact godB_lt31 _ _ _ | exact pop_lt31 _ | assumption | exact b31 (hW.gp (by omega)) | exact b31 (hW.ne (by omega)) | exact b31 (hW.op (by omega)) | exact and31 (hW.gp (by omega)) | exact and31 (hW.ne (by omega)) | exact and31 (hW.op (by omega)) | exact and31 (by assumption) | exact and31r (hW.ne (by omega)) | exact and31r (hW.gp (by omega)) | exact and31r (by decide)) (fun c_46 => ?_) (fun c_46 => ?_)
    · refine mm_inc6N d_M_endOf_95 ?_
      refine mm_goto d_M_endOf_98 ?_
      first | exact IH had set _ _ (by unfold stepv; rw [if_pos (by omega)]) | exact IH _ _ _ _ (by unfold stepv; rw [if_neg (by omega), if_neg (by rintro (y | y); omega; exact y c_65)])
    · refine mm_iload d_M_endOf_49 rfl ?_
      refine mm_aload d_M_endOf_51 rfl ?_
      refine mm_getIN d_M_endOf_52 rfl (sk_o_71 hM) hH.n ?_
      refine mm_icmp_geN d_M_endOf_55 (by first | omega | exact ite01_lt | exact bt8_lt31 _ _ | exact godB_lt31 _ _ _ | exact pop_lt31 _ | assumption | exact b31 (hW.gp (by omega)) | exact b31 (hW.ne (by omega)) | exact b31 (hW.op (by omega)) | exact and31 (hW.gp (by omega)) | exact and31 (hW.ne (by omega)) | exact and31 (hW.op (by omega)) | exact and31 (by assumption) | exact and31r (hW.ne (by omega)) | exact and31r (hW.gp (by omega)) | exact and31r (by decide)) (by first | omega | exact ite01_lt | exact bt8_lt31 _ _ | exact godB_lt31 _ _ _ | exact pop_lt31 _ | assumption | exact b31 (hW.gp (by omega)) | exact b31 (hW.ne (by omega)) | exact b31 (hW.op (by omega)) | exact and31 (hW.gp (by omega)) | exact and31 (hW.ne (by omega)) | exact and31 (hW.op (by omega)) | exact and31 (by assumption) | exact and31r (hW.ne (by omega)) | exact and31r (hW.gp (by omega)) | exact and31r (by decide)) (fun c_55 => ?_) (fun c_55 => ?_)
      · refine mm_ci d_M_endOf_68 ?_
        exact mm_ri d_M_endOf_70 (bad (by unfold stepv; rw [if_neg (by omega)]; first | exact if_pos (Or.inl c_55) | exact if_pos (Or.inr c_65)))
      · refine mm_iload d_M_endOf_58 rfl ?_
        refine mm_iload d_M_endOf_60 rfl ?_
        refine mm_s2i d_M_endOf_62 (sp_M_has (by omega) (by omega) ?_)
        refine mm_if_eqN d_M_endOf_65 (by first | omega | exact ite01_lt | exact bt8_lt31 _ _ | exact godB_lt31 _ _ _ | exact pop_lt31 _ | assumption | exact b31 (hW.gp (by omega)) | exact b31 (hW.ne (by omega)) | exact b31 (hW.op (by omega)) | exact and31 (hW.gp (by omega)) | exact and31 (hW.ne (by omega)) | exact and31 (hW.op (by omega)) | exact and31 (by assumption) | exact and31r (hW.ne (by omega)) | exact and31r (hW.gp (by omega)) | exact and31r (by decide)) (fun c_65 => ?_) (fun c_65 => ?_)
        · refine mm_iload d_M_endOf_71 rfl ?_
          refine mm_ciN 1 d_M_endOf_73 rfl ?_
          refine mm_iload d_M_endOf_74 rfl ?_
          refine mm_ishl1N d_M_endOf_76 (by omega) ?_
          refine mm_iorN d_M_endOf_77 ?_
          refine mm_ist4 d_M_endOf_78 ?_
          refine mm_aload d_M_endOf_80 rfl ?_
          refine mm_iload d_M_endOf_81 rfl ?_
          refine mm_aload d_M_endOf_82 rfl ?_
          refine mm_iload d_M_endOf_83 rfl ?_
          have hk := kthN_ok _ (hW.gp (j := v / 3) (by omega)) (hW.2.2.2.2.1 _ c_55) (v % 3) (by omega)
          have ecv : chF D v % 10 = kthN (dgp D (v / 3)) (v % 3) := by unfold chF; rw [if_neg (by omega)]; omega
          have hcl : chF D v < 100 := by unfold chF; rw [if_neg (by omega)]; omega
          refine mm_v1i d_M_endOf_85 (sk_o_71 hM) (sp_M_choiceOf hH (Or.inr ⟨by omega, c_55⟩) ?_)
          refine mm_ciN 10 d_M_endOf_88 rfl ?_
          refine mm_iremN d_M_endOf_90 (by first | omega | exact ite01_lt | exact bt8_lt31 _ _ | exact godB_lt31 _ _ _ | exact pop_lt31 _ | assumption | exact b31 (hW.gp (by omega)) | exact b31 (hW.ne (by omega)) | exact b31 (hW.op (by omega)) | exact and31 (hW.gp (by omega)) | exact and31 (hW.ne (by omega)) | exact and31 (hW.op (by omega)) | exact and31 (by assumption) | exact and31r (hW.ne (by omega)) | exact and31r (hW.gp (by omega)) | exact and31r (by decide)) (by omega) (by omega) ?_
          rw [ecv]
          refine mm_v2i d_M_endOf_91 (sk_o_71 hM) (sp_M_comes hH hk.1 ?_)
          refine mm_ist3 d_M_endOf_94 ?_
          refine mm_inc6N d_M_endOf_95 ?_
          refine mm_goto d_M_endOf_98 ?_
          first | exact IH had set _ _ (by unfold stepv; rw [if_pos (by omega)]) | exact IH _ _ _ _ (by unfold stepv; rw [if_neg (by omega), if_neg (by rintro (y | y); omega; exact y c_65)])
        · refine mm_ci d_M_endOf_68 ?_
          exact mm_ri d_M_endOf_70 (bad (by unfold stepv; rw [if_neg (by omega)]; first | exact if_pos (Or.inl c_55) | exact if_pos (Or.inr c_65)))
theorem sp_M_fold {X : mm_X} {μ : mm_M} {q : Int32 → mm_M → Prop} {k a z : Nat} {f : Nat → Option Nat} {D : mm_D} (hH : Hd μ k D) (ha : a + 19 ≤ 6859) (hz : z = 0 ∨ z = 1) (hv : ∀ v, v < 19 → mm_I μ 87 (a + v) = wI (f v)) (hf : ∀ v x, f v = some x → x < 1000) (h : ∀ ν, Fr scM μ ν → Hd ν k D → mm_I ν 87 = mm_I μ 87 → mm_I ν 71 40 = wW (fB z f 19).2 → q (wI (fB z f 19).1) ν) : mm_Ci X 1 0 0 k_M_fold [.ref 71, .int (nI a), .int (nI z)] μ q := by
  show mm_T X 1 0 0 k_M_fold 0 [some (.ref 71), some (.int (nI a)), some (.int (nI z)), none, none, none] [] μ _
  have hM := hH.1
  refine mm_ci d_M_fold_0 ?_
  refine mm_ist3 d_M_fold_2 ?_
  refine mm_aload d_M_fold_3 rfl ?_
  refine mm_ci d_M_fold_4 ?_
  refine mm_putI d_M_fold_5 rfl (sk_o_71 hM) (Or.inl rfl) ?_
  refine mm_ciN 0 d_M_fold_8 rfl ?_
  refine mm_ist4 d_M_fold_9 ?_
  refine mm_up (P := fun v => ∀ (l5 : Option Value) (ν : mm_M), Fr scM μ ν → Hd ν k D → mm_I ν 87 = mm_I μ 87 → mm_I ν 71 40 = wW (fB z f v).2 → mm_T X 1 0 0 k_M_fold 11 [some (.ref 71), some (.int (nI a)), some (.int (nI z)), some (.int (wI (fB z f v).1)), some (.int (nI v)), l5] [] ν (fun v μ' => ∃ r, v = some (.int r) ∧ q r μ')) 19 ?_ ?_ none _ (Fr.rf.sI rfl) (hH.s71 (by decide)) (mm_sI_off (by decide)) (by rw [mm_I_sI, if_pos ⟨rfl, rfl⟩]; rfl)
  · intro l5 ν hf2 hH e87 e40
    have hM := hH.1
    refine mm_iload d_M_fold_11 rfl ?_
    refine mm_ciN 19 d_M_fold_13 rfl ?_
    refine mm_icmp_geN d_M_fold_15 (by first | omega | exact ite01_lt | exact bt8_lt31 _ _ | exact godB_lt31 _ _ _ | exact pop_lt31 _ | assumption | exact b31 (hW.gp (by omega)) | exact b31 (hW.ne (by omega)) | exact b31 (hW.op (by omega)) | exact and31 (hW.gp (by omega)) | exact and31 (hW.ne (by omega)) | exact and31 (hW.op (by omega)) | exact and31 (by assumption) | exact and31r (hW.ne (by omega)) | exact and31r (hW.gp (by omega)) | exact and31r (by decide)) (by first | omega | exact ite01_lt | exact bt8_lt31 _ _ | exact godB_lt31 _ _ _ | exact pop_lt31 _ | assumption | exact b31 (hW.gp (by omega)) | exact b31 (hW.ne (by omega)) | exact b31 (hW.op (by omega)) | exact and31 (hW.gp (by omega)) | exact and31 (hW.ne (by omega)) | exact and31 (hW.op (by omega)) | exact and31 (by assumption) | exact and31r (hW.ne (by omega)) | exact and31r (hW.gp (by omega)) | exact and31r (by decide)) (fun c_15 => ?_) (fun c_15 => False.elim (by omega))
    refine mm_iload d_M_fold_76 rfl ?_
    exact mm_ri d_M_fold_77 (h ν hf2 hH e87 e40)
  · intro v hv19 IH l5 ν hf2 hH e87 e40
    have hM := hH.1
    have ev : mm_I ν 87 (a + v) = wI (f v) := by rw [e87]; exact hv v hv19
    cases hfv : f v with
    | none =>
      rw [hfv] at ev
      rw [fB_n hfv] at IH
      refine mm_iload d_M_fold_11 rfl ?_
      refine mm_ciN 19 d_M_fold_13 rfl ?_
      refine mm_icmp_geN d_M_fold_15 (by first | omega | exact ite01_lt | exact bt8_lt31 _ _ | exact godB_lt31 _ _ _ | exact pop_lt31 _ | assumption | exact b31 (hW.gp (by omega)) | exact b31 (hW.ne (by omega)) | exact b31 (hW.op (by omega)) | exact and31 (hW.gp (by omega)) | exact and31 (hW.ne (by omega)) | exact and31 (hW.op (by omega)) | exact and31 (by assumption) | exact and31r (hW.ne (by omega)) | exact and31r (hW.gp (by omega)) | exact and31r (by decide)) (by first | omega | exact ite01_lt | exact bt8_lt31 _ _ | exact godB_lt31 _ _ _ | exact pop_lt31 _ | assumption | exact b31 (hW.gp (by omega)) | exact b31 (hW.ne (by omega)) | exact b31 (hW.op (by omega)) | exact and31 (hW.gp (by omega)) | exact and31 (hW.ne (by omega)) | exact and31 (hW.op (by omega)) | exact and31 (by assumption) | exact and31r (hW.ne (by omega)) | exact and31r (hW.gp (by omega)) | exact and31r (by decide)) (fun c_15 => False.elim (by omega)) (fun c_15 => ?_)
      refine mm_aload d_M_fold_18 rfl ?_
      refine mm_getP d_M_fold_19 rfl (sk_o_71 hM) (sk_p_71_39 hM) ?_
      refine mm_iload d_M_fold_22 rfl ?_
      refine mm_iload d_M_fold_23 rfl ?_
      refine mm_iaddN d_M_fold_25 ?_
      refine mm_ialdV d_M_fold_26 (sk_a_87 hM) (by omega) (by decide) (show _ = -9 from ev) ?_
      refine mm_ist5 d_M_fold_27 ?_
      refine mm_iload d_M_fold_29 rfl ?_
      refine mm_ci d_M_fold_31 ?_
      refine mm_icmp_eq d_M_fold_33 (fun c_33 => ?_) (fun c_33 => False.elim (c_33 rfl))
      refine mm_inc4N d_M_fold_70 ?_
      refine mm_goto d_M_fold_73 ?_
      exact IH _ ν hf2 hH e87 e40
    | some x =>
      have hx := hf v x hfv
      rw [hfv] at ev
      cases he : (fB z f v).1 with
      | none =>
        rw [fB_s hfv he] at IH
        rw [show wI none = -9 from rfl]
        refine mm_iload d_M_fold_11 rfl ?_
        refine mm_ciN 19 d_M_fold_13 rfl ?_
        refine mm_icmp_geN d_M_fold_15 (by first | omega | exact ite01_lt | exact bt8_lt31 _ _ | exact godB_lt31 _ _ _ | exact pop_lt31 _ | assumption | exact b31 (hW.gp (by omega)) | exact b31 (hW.ne (by omega)) | exact b31 (hW.op (by omega)) | exact and31 (hW.gp (by omega)) | exact and31 (hW.ne (by omega)) | exact and31 (hW.op (by omega)) | exact and31 (by assumption) | exact and31r (hW.ne (by omega)) | exact and31r (hW.gp (by omega)) | exact and31r (by decide)) (by first | omega | exact ite01_lt | exact bt8_lt31 _ _ | exact godB_lt31 _ _ _ | exact pop_lt31 _ | assumption | exact b31 (hW.gp (by omega)) | exact b31 (hW.ne (by omega)) | exact b31 (hW.op (by omega)) | exact and31 (hW.gp (by omega)) | exact and31 (hW.ne (by omega)) | exact and31 (hW.op (by omega)) | exact and31 (by assumption) | exact and31r (hW.ne (by omega)) | exact and31r (hW.gp (by omega)) | exact and31r (by decide)) (fun c_15 => False.elim (by omega)) (fun c_15 => ?_)
        refine mm_aload d_M_fold_18 rfl ?_
        refine mm_getP d_M_fold_19 rfl (sk_o_71 hM) (sk_p_71_39 hM) ?_
        refine mm_iload d_M_fold_22 rfl ?_
        refine mm_iload d_M_fold_23 rfl ?_
        refine mm_iaddN d_M_fold_25 ?_
        refine mm_ialdN d_M_fold_26 (sk_a_87 hM) (by omega) (by decide) (show _ = nI x from ev) ?_
        refine mm_ist5 d_M_fold_27 ?_
        refine mm_iload d_M_fold_29 rfl ?_
        refine mm_ci d_M_fold_31 ?_
        refine mm_icmp_eq d_M_fold_33 (fun c_33 => False.elim (nI_m9 (by omega) c_33)) (fun c_33 => ?_)
        refine mm_iload d_M_fold_36 rfl ?_
        refine mm_ci d_M_fold_37 ?_
        refine mm_icmp_eq d_M_fold_39 (fun c_39 => ?_) (fun c_39 => False.elim (c_39 rfl))
        refine mm_iload d_M_fold_61 rfl ?_
        refine mm_ist3 d_M_fold_63 ?_
        refine mm_aload d_M_fold_64 rfl ?_
        refine mm_iload d_M_fold_65 rfl ?_
        refine mm_putI d_M_fold_67 rfl (sk_o_71 hM) (Or.inl rfl) ?_
        refine mm_inc4N d_M_fold_70 ?_
        refine mm_goto d_M_fold_73 ?_
        exact IH _ _ (hf2.sI rfl) (hH.s71 (by decide)) (by rw [mm_sI_off (by decide)]; exact e87) (by rw [mm_I_sI, if_pos ⟨rfl, rfl⟩]; rfl)
      | some y =>
        have hy : y < 1000 := by
          rcases fB_ok (z := z) (f := f) v with ⟨w, -⟩ | ⟨x', u, -, w, w2, -⟩
          · rw [w] at he; cases he
          · rw [w] at he; cases he; exact hf u _ w2
        rw [fB_c hfv he] at IH
        rw [show wI (some y) = nI y from rfl]
        unfold btr at IH
        rcases hz with rfl | rfl
        · rw [if_pos (show (0 : Nat) = 0 from rfl)] at IH
          refine mm_iload d_M_fold_11 rfl ?_
          refine mm_ciN 19 d_M_fold_13 rfl ?_
          refine mm_icmp_geN d_M_fold_15 (by first | omega | exact ite01_lt | exact bt8_lt31 _ _ | exact godB_lt31 _ _ _ | exact pop_lt31 _ | assumption | exact b31 (hW.gp (by omega)) | exact b31 (hW.ne (by omega)) | exact b31 (hW.op (by omega)) | exact and31 (hW.gp (by omega)) | exact and31 (hW.ne (by omega)) | exact and31 (hW.op (by omega)) | exact and31 (by assumption) | exact and31r (hW.ne (by omega)) | exact and31r (hW.gp (by omega)) | exact and31r (by decide)) (by first | omega | exact ite01_lt | exact bt8_lt31 _ _ | exact godB_lt31 _ _ _ | exact pop_lt31 _ | assumption | exact b31 (hW.gp (by omega)) | exact b31 (hW.ne (by omega)) | exact b31 (hW.op (by omega)) | exact and31 (hW.gp (by omega)) | exact and31 (hW.ne (by omega)) | exact and31 (hW.op (by omega)) | exact and31 (by assumption) | exact and31r (hW.ne (by omega)) | exact and31r (hW.gp (by omega)) | exact and31r (by decide)) (fun c_15 => False.elim (by omega)) (fun c_15 => ?_)
          refine mm_aload d_M_fold_18 rfl ?_
          refine mm_getP d_M_fold_19 rfl (sk_o_71 hM) (sk_p_71_39 hM) ?_
          refine mm_iload d_M_fold_22 rfl ?_
          refine mm_iload d_M_fold_23 rfl ?_
          refine mm_iaddN d_M_fold_25 ?_
          refine mm_ialdN d_M_fold_26 (sk_a_87 hM) (by omega) (by decide) (show _ = nI x from ev) ?_
          refine mm_ist5 d_M_fold_27 ?_
          refine mm_iload d_M_fold_29 rfl ?_
          refine mm_ci d_M_fold_31 ?_
          refine mm_icmp_eq d_M_fold_33 (fun c_33 => False.elim (nI_m9 (by omega) c_33)) (fun c_33 => ?_)
          refine mm_iload d_M_fold_36 rfl ?_
          refine mm_ci d_M_fold_37 ?_
          refine mm_icmp_eq d_M_fold_39 (fun c_39 => False.elim (nI_m9 (by omega) c_39)) (fun c_39 => ?_)
          refine mm_iload d_M_fold_42 rfl ?_
          refine mm_if_eqN d_M_fold_43 (by first | omega | exact ite01_lt | exact bt8_lt31 _ _ | exact godB_lt31 _ _ _ | exact pop_lt31 _ | assumption | exact b31 (hW.gp (by omega)) | exact b31 (hW.ne (by omega)) | exact b31 (hW.op (by omega)) | exact and31 (hW.gp (by omega)) | exact and31 (hW.ne (by omega)) | exact and31 (hW.op (by omega)) | exact and31 (by assumption) | exact and31r (hW.ne (by omega)) | exact and31r (hW.gp (by omega)) | exact and31r (by decide)) (fun c_43 => ?_) (fun c_43 => False.elim (by omega))
          refine mm_iload d_M_fold_55 rfl ?_
          refine mm_iload d_M_fold_57 rfl ?_
          refine mm_icmp_geN d_M_fold_58 (by first | omega | exact ite01_lt | exact bt8_lt31 _ _ | exact godB_lt31 _ _ _ | exact pop_lt31 _ | assumption | exact b31 (hW.gp (by omega)) | exact b31 (hW.ne (by omega)) | exact b31 (hW.op (by omega)) | exact and31 (hW.gp (by omega)) | exact and31 (hW.ne (by omega)) | exact and31 (hW.op (by omega)) | exact and31 (by assumption) | exact and31r (hW.ne (by omega)) | exact and31r (hW.gp (by omega)) | exact and31r (by decide)) (by first | omega | exact ite01_lt | exact bt8_lt31 _ _ | exact godB_lt31 _ _ _ | exact pop_lt31 _ | assumption | exact b31 (hW.gp (by omega)) | exact b31 (hW.ne (by omega)) | exact b31 (hW.op (by omega)) | exact and31 (hW.gp (by omega)) | exact and31 (hW.ne (by omega)) | exact and31 (hW.op (by omega)) | exact and31 (by assumption) | exact and31r (hW.ne (by omega)) | exact and31r (hW.gp (by omega)) | exact and31r (by decide)) (fun c_58 => ?_) (fun c_58 => ?_)
          · refine mm_inc4N d_M_fold_70 ?_
            refine mm_goto d_M_fold_73 ?_
            first | (rw [if_neg (by simp; omega), he] at IH; exact IH _ ν hf2 hH e87 e40) | (rw [if_pos (by simp; omega)] at IH; exact IH _ _ (hf2.sI rfl) (hH.s71 (by decide)) (by rw [mm_sI_off (by decide)]; exact e87) (by rw [mm_I_sI, if_pos ⟨rfl, rfl⟩]; rfl))
          · refine mm_iload d_M_fold_61 rfl ?_
            refine mm_ist3 d_M_fold_63 ?_
            refine mm_aload d_M_fold_64 rfl ?_
            refine mm_iload d_M_fold_65 rfl ?_
            refine mm_putI d_M_fold_67 rfl (sk_o_71 hM) (Or.inl rfl) ?_
            refine mm_inc4N d_M_fold_70 ?_
            refine mm_goto d_M_fold_73 ?_
            first | (rw [if_neg (by simp; omega), he] at IH; exact IH _ ν hf2 hH e87 e40) | (rw [if_pos (by simp; omega)] at IH; exact IH _ _ (hf2.sI rfl) (hH.s71 (by decide)) (by rw [mm_sI_off (by decide)]; exact e87) (by rw [mm_I_sI, if_pos ⟨rfl, rfl⟩]; rfl))
        · rw [if_neg (show ¬ (1 : Nat) = 0 by decide)] at IH
          refine mm_iload d_M_fold_11 rfl ?_
          refine mm_ciN 19 d_M_fold_13 rfl ?_
          refine mm_icmp_geN d_M_fold_15 (by first | omega | exact ite01_lt | exact bt8_lt31 _ _ | exact godB_lt31 _ _ _ | exact pop_lt31 _ | assumption | exact b31 (hW.gp (by omega)) | exact b31 (hW.ne (by omega)) | exact b31 (hW.op (by omega)) | exact and31 (hW.gp (by omega)) | exact and31 (hW.ne (by omega)) | exact and31 (hW.op (by omega)) | exact and31 (by assumption) | exact and31r (hW.ne (by omega)) | exact and31r (hW.gp (by omega)) | exact and31r (by decide)) (by first | omega | exact ite01_lt | exact bt8_lt31 _ _ | exact godB_lt31 _ _ _ | exact pop_lt31 _ | assumption | exact b31 (hW.gp (by omega)) | exact b31 (hW.ne (by omega)) | exact b31 (hW.op (by omega)) | exact and31 (hW.gp (by omega)) | exact and31 (hW.ne (by omega)) | exact and31 (hW.op (by omega)) | exact and31 (by assumption) | exact and31r (hW.ne (by omega)) | exact and31r (hW.gp (by omega)) | exact and31r (by decide)) (fun c_15 => False.elim (by omega)) (fun c_15 => ?_)
          refine mm_aload d_M_fold_18 rfl ?_
          refine mm_getP d_M_fold_19 rfl (sk_o_71 hM) (sk_p_71_39 hM) ?_
          refine mm_iload d_M_fold_22 rfl ?_
          refine mm_iload d_M_fold_23 rfl ?_
          refine mm_iaddN d_M_fold_25 ?_
          refine mm_ialdN d_M_fold_26 (sk_a_87 hM) (by omega) (by decide) (show _ = nI x from ev) ?_
          refine mm_ist5 d_M_fold_27 ?_
          refine mm_iload d_M_fold_29 rfl ?_
          refine mm_ci d_M_fold_31 ?_
          refine mm_icmp_eq d_M_fold_33 (fun c_33 => False.elim (nI_m9 (by omega) c_33)) (fun c_33 => ?_)
          refine mm_iload d_M_fold_36 rfl ?_
          refine mm_ci d_M_fold_37 ?_
          refine mm_icmp_eq d_M_fold_39 (fun c_39 => False.elim (nI_m9 (by omega) c_39)) (fun c_39 => ?_)
          refine mm_iload d_M_fold_42 rfl ?_
          refine mm_if_eqN d_M_fold_43 (by first | omega | exact ite01_lt | exact bt8_lt31 _ _ | exact godB_lt31 _ _ _ | exact pop_lt31 _ | assumption | exact b31 (hW.gp (by omega)) | exact b31 (hW.ne (by omega)) | exact b31 (hW.op (by omega)) | exact and31 (hW.gp (by omega)) | exact and31 (hW.ne (by omega)) | exact and31 (hW.op (by omega)) | exact and31 (by assumption) | exact and31r (hW.ne (by omega)) | exact and31r (hW.gp (by omega)) | exact and31r (by decide)) (fun c_43 => False.elim (by omega)) (fun c_43 => ?_)
          refine mm_iload d_M_fold_46 rfl ?_
          refine mm_iload d_M_fold_48 rfl ?_
          refine mm_icmp_leN d_M_fold_49 (by first | omega | exact ite01_lt | exact bt8_lt31 _ _ | exact godB_lt31 _ _ _ | exact pop_lt31 _ | assumption | exact b31 (hW.gp (by omega)) | exact b31 (hW.ne (by omega)) | exact b31 (hW.op (by omega)) | exact and31 (hW.gp (by omega)) | exact and31 (hW.ne (by omega)) | exact and31 (hW.op (by omega)) | exact and31 (by assumption) | exact and31r (hW.ne (by omega)) | exact and31r (hW.gp (by omega)) | exact and31r (by decide)) (by first | omega | exact ite01_lt | exact bt8_lt31 _ _ | exact godB_lt31 _ _ _ | exact pop_lt31 _ | assumption | exact b31 (hW.gp (by omega)) | exact b31 (hW.ne (by omega)) | exact b31 (hW.op (by omega)) | exact and31 (hW.gp (by omega)) | exact and31 (hW.ne (by omega)) | exact and31 (hW.op (by omega)) | exact and31 (by assumption) | exact and31r (hW.ne (by omega)) | exact and31r (hW.gp (by omega)) | exact and31r (by decide)) (fun c_49 => ?_) (fun c_49 => ?_)
          · refine mm_inc4N d_M_fold_70 ?_
            refine mm_goto d_M_fold_73 ?_
            first | (rw [if_neg (by simp; omega), he] at IH; exact IH _ ν hf2 hH e87 e40) | (rw [if_pos (by simp; omega)] at IH; exact IH _ _ (hf2.sI rfl) (hH.s71 (by decide)) (by rw [mm_sI_off (by decide)]; exact e87) (by rw [mm_I_sI, if_pos ⟨rfl, rfl⟩]; rfl))
          · refine mm_goto d_M_fold_52 ?_
            refine mm_iload d_M_fold_61 rfl ?_
            refine mm_ist3 d_M_fold_63 ?_
            refine mm_aload d_M_fold_64 rfl ?_
            refine mm_iload d_M_fold_65 rfl ?_
            refine mm_putI d_M_fold_67 rfl (sk_o_71 hM) (Or.inl rfl) ?_
            refine mm_inc4N d_M_fold_70 ?_
            refine mm_goto d_M_fold_73 ?_
            first | (rw [if_neg (by simp; omega), he] at IH; exact IH _ ν hf2 hH e87 e40) | (rw [if_pos (by simp; omega)] at IH; exact IH _ _ (hf2.sI rfl) (hH.s71 (by decide)) (by rw [mm_sI_off (by decide)]; exact e87) (by rw [mm_I_sI, if_pos ⟨rfl, rfl⟩]; rfl))
