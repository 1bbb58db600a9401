/-! pairs: lots -/
def sm (f : Nat → Nat) : Nat → Nat
  | 0 => 0
  | k + 1 => sm f k + f k
theorem sm_add {f : Nat → Nat} {k : Nat} : ∀ l, sm f (k + l) = sm f k + sm (fun s => f (k + s)) l
  | 0 => rfl
  | l + 1 => by
    show sm f (k + l) + f (k + l) = sm f k + (sm (fun s => f (k + s)) l + f (k + l))
    rw [sm_add l, Nat.add_assoc]
theorem sm_cg {f g : Nat → Nat} : ∀ k, (∀ s, s < k → f s = g s) → sm f k = sm g k
  | 0, _ => rfl
  | k + 1, h => by
    show sm f k + f k = sm g k + g k
    rw [sm_cg k (fun s hs => h s (by omega)), h k (by omega)]
theorem sm_0 {f : Nat → Nat} : ∀ k, (∀ s, s < k → f s = 0) → sm f k = 0
  | 0, _ => rfl
  | k + 1, h => by
    show sm f k + f k = 0
    rw [sm_0 k (fun s hs => h s (by omega)), h k (by omega)]
theorem sm_le {f : Nat → Nat} {M : Nat} : ∀ k, (∀ s, s < k → f s ≤ M) → sm f k ≤ k * M
  | 0, _ => Nat.zero_le _
  | k + 1, h => by
    show sm f k + f k ≤ _
    rw [Nat.succ_mul]
    exact Nat.add_le_add (sm_le k (fun s hs => h s (by omega))) (h k (by omega))
theorem sm_blk {f : Nat → Nat} {T : Nat} : ∀ k, sm f (k * T) = sm (fun d => sm (fun s => f (d * T + s)) T) k
  | 0 => by rw [Nat.zero_mul]; rfl
  | k + 1 => by
    rw [Nat.succ_mul, sm_add, sm_blk k]
    rfl
def rdy (nd x : Nat) : Nat := if nd &&& (x ^^^ 4294967295) = 0 then 1 else 0
theorem rdy_le (nd x : Nat) : rdy nd x ≤ 1 := by unfold rdy; split <;> decide
def lk (D : mm_D) (nd : Nat) : Nat → Nat → Nat
  | 0, h => rdy nd h
  | m + 1, h => sm (fun d => lk D nd m (comesN D h (kthN (dgp D (dn D - (m + 1))) d))) 3
theorem lk_le {D : mm_D} {nd : Nat} : ∀ m h, lk D nd m h ≤ 3 ^ m
  | 0, h => rdy_le nd h
  | m + 1, h => by
    have := sm_le (f := fun d => lk D nd m (comesN D h (kthN (dgp D (dn D - (m + 1))) d))) (M := 3 ^ m) 3 (fun s _ => lk_le m _)
    rw [Nat.pow_succ, Nat.mul_comm]
    exact this
def aaF : Nat → Nat → Nat
  | 0, _ => 1
  | m + 1, s => if s / 4 ^ m % 4 = 3 then 0 else aaF m s
theorem aaF_01 : ∀ m s, aaF m s = 0 ∨ aaF m s = 1
  | 0, _ => Or.inr rfl
  | m + 1, s => by
    unfold aaF
    split
    · exact Or.inl rfl
    · exact aaF_01 m s
theorem aaF_per : ∀ m s d, aaF m (d * 4 ^ m + s) = aaF m s
  | 0, _, _ => rfl
  | m + 1, s, d => by
    have e1 : (d * 4 ^ (m + 1) + s) / 4 ^ m % 4 = s / 4 ^ m % 4 := by
      rw [Nat.pow_succ, Nat.add_comm, Nat.mul_left_comm, Nat.add_mul_div_left _ _ (p4 m), Nat.add_mul_mod_self_right]
    have ih := aaF_per m s (d * 4)
    rw [Nat.mul_assoc, Nat.mul_comm 4, ← Nat.pow_succ] at ih
    show (if (d * 4 ^ (m + 1) + s) / 4 ^ m % 4 = 3 then _ else _) = (if s / 4 ^ m % 4 = 3 then _ else _)
    rw [e1, ih]
theorem aaF_d {m s d : Nat} (hd : d < 4) (hs : s < 4 ^ m) : aaF (m + 1) (d * 4 ^ m + s) = if d = 3 then 0 else aaF m s := by
  show (if (d * 4 ^ m + s) / 4 ^ m % 4 = 3 then _ else _) = _
  rw [dig_at hd hs, aaF_per]
def lkR (D : mm_D) (nd m h s : Nat) : Nat := if aaF m s = 0 then 0 else rdy nd ((hbF D ou0 m h s).getD 0)
theorem four_m (m : Nat) : 4 ^ (m + 1) = 4 * 4 ^ m := by rw [Nat.pow_succ, Nat.mul_comm]
theorem lk_sum {D : mm_D} {nd : Nat} : ∀ m h, sm (lkR D nd m h) (4 ^ m) = lk D nd m h
  | 0, h => by show 0 + lkR D nd 0 h 0 = _; rw [Nat.zero_add]; rfl
  | m + 1, h => by
    rw [four_m, sm_blk]
    show sm _ 3 + sm (fun s => lkR D nd (m + 1) h (3 * 4 ^ m + s)) (4 ^ m) = _
    rw [sm_0 (4 ^ m) (fun s hs => by unfold lkR; rw [aaF_d (by decide) hs, if_pos rfl, if_pos rfl]), Nat.add_zero]
    refine sm_cg 3 (fun d hd => ?_)
    rw [← lk_sum m]
    refine sm_cg _ (fun s hs => ?_)
    unfold lkR
    rw [aaF_d (by omega) hs, if_neg (show ¬ d = 3 by omega), hbF_d hd hs rfl]
theorem aa_sum : ∀ m, sm (aaF m) (4 ^ m) = 3 ^ m
  | 0 => rfl
  | m + 1 => by
    rw [four_m, sm_blk]
    show sm _ 3 + sm (fun s => aaF (m + 1) (3 * 4 ^ m + s)) (4 ^ m) = _
    rw [sm_0 (4 ^ m) (fun s hs => by rw [aaF_d (by decide) hs, if_pos rfl]), Nat.add_zero]
    have e : ∀ d, d < 3 → sm (fun s => aaF (m + 1) (d * 4 ^ m + s)) (4 ^ m) = 3 ^ m := by
      intro d hd
      rw [← aa_sum m]
      exact sm_cg _ (fun s hs => by rw [aaF_d (by omega) hs, if_neg (by omega)])
    show 0 + sm (fun s => aaF (m + 1) (0 * 4 ^ m + s)) (4 ^ m) + sm (fun s => aaF (m + 1) (1 * 4 ^ m + s)) (4 ^ m) + sm (fun s => aaF (m + 1) (2 * 4 ^ m + s)) (4 ^ m) = _
    rw [e 0 (by decide), e 1 (by decide), e 2 (by decide), Nat.pow_succ]
    omega
theorem three_le {n : Nat} (h : n ≤ 6) : 3 ^ n ≤ 729 := Nat.pow_le_pow_right (n := 3) (i := n) (j := 6) (by decide) h
theorem sp_As_luckyRowsFrom {X : mm_X} {μ : mm_M} {a nd : Nat} {D : mm_D} (hCD : CoD μ a D) (hW : WfD D) (hnd : nd < 256) : ∀ (m c h : Nat) (q : Int32 → mm_M → Prop), m + c = dn D → h < 256 → q (nI (lk D nd m h)) μ → mm_Ci X (m + 2) 0 0 k_As_luckyRowsFrom [.ref a, .int (nI nd), .int (nI c), .int (nI h)] μ q := by
  intro m
  induction m with
  | zero =>
    intro c h q hm hh hq
    have hn6 := hW.1
    show mm_T X (0 + 2) 0 0 k_As_luckyRowsFrom 0 [some (.ref a), some (.int (nI nd)), some (.int (nI c)), some (.int (nI h)), none, none] [] μ _
    unfold lk rdy at hq
    have hl : nd &&& (h ^^^ 4294967295) < 256 := and_lt256 hnd
    refine mm_iload d_As_luckyRowsFrom_0 rfl ?_
    refine mm_aload d_As_luckyRowsFrom_1 rfl ?_
    refine mm_getIN d_As_luckyRowsFrom_2 rfl hCD.1.1 hCD.n ?_
    refine mm_icmp_ltN d_As_luckyRowsFrom_5 (by first | omega | exact ite01_lt | exact bt8_lt31 _ _ | exact godB_lt31 _ _ _ | exact pop_lt31 _ | assumption | exact b31 (hW.gp (by omega)) | exact b31 (hW.ne (by omega)) | exact b31 (hW.op (by omega)) | exact and31 (hW.gp (by omega)) | exact and31 (hW.ne (by omega)) | exact and31 (hW.op (by omega)) | exact and31 (by assumption) | exact and31r (hW.ne (by omega)) | exact and31r (hW.gp (by omega)) | exact and31r (by decide)) (by first | omega | exact ite01_lt | exact bt8_lt31 _ _ | exact godB_lt31 _ _ _ | exact pop_lt31 _ | assumption | exact b31 (hW.gp (by omega)) | exact b31 (hW.ne (by omega)) | exact b31 (hW.op (by omega)) | exact and31 (hW.gp (by omega)) | exact and31 (hW.ne (by omega)) | exact and31 (hW.op (by omega)) | exact and31 (by assumption) | exact and31r (hW.ne (by omega)) | exact and31r (hW.gp (by omega)) | exact and31r (by decide)) (fun c_5 => False.elim (by omega)) (fun c_5 => ?_)
    refine mm_iload d_As_luckyRowsFrom_8 rfl ?_
    refine mm_iload d_As_luckyRowsFrom_9 rfl ?_
    refine mm_ci d_As_luckyRowsFrom_10 ?_
    refine mm_inotN d_As_luckyRowsFrom_11 ?_
    refine mm_iandN d_As_luckyRowsFrom_12 ?_
    refine mm_if_neN d_As_luckyRowsFrom_13 (by first | omega | exact ite01_lt | exact bt8_lt31 _ _ | exact godB_lt31 _ _ _ | exact pop_lt31 _ | assumption | exact b31 (hW.gp (by omega)) | exact b31 (hW.ne (by omega)) | exact b31 (hW.op (by omega)) | exact and31 (hW.gp (by omega)) | exact and31 (hW.ne (by omega)) | exact and31 (hW.op (by omega)) | exact and31 (by assumption) | exact and31r (hW.ne (by omega)) | exact and31r (hW.gp (by omega)) | exact and31r (by decide)) (fun c_13 => ?_) (fun c_13 => ?_)
    · refine mm_ciN 0 d_As_luckyRowsFrom_20 rfl ?_
      exact mm_ri d_As_luckyRowsFrom_21 (by first | (rw [if_pos c_13] at hq; exact hq) | (rw [if_neg c_13] at hq; exact hq))
    · refine mm_ciN 1 d_As_luckyRowsFrom_16 rfl ?_
      refine mm_goto d_As_luckyRowsFrom_17 ?_
      exact mm_ri d_As_luckyRowsFrom_21 (by first | (rw [if_pos c_13] at hq; exact hq) | (rw [if_neg c_13] at hq; exact hq))
  | succ m ih =>
    intro c h q hm hh hq
    have hn6 := hW.1
    have hc : c < dn D := by omega
    have h3 := hW.2.2.2.2.1 c hc
    have hgp := hW.gp (j := c) (by omega)
    have ec : dn D - (m + 1) = c := by omega
    have h36 := three_le (n := m) (by omega)
    show mm_T X (m + 1 + 2) 0 0 k_As_luckyRowsFrom 0 [some (.ref a), some (.int (nI nd)), some (.int (nI c)), some (.int (nI h)), none, none] [] μ _
    have hq' : q (nI (sm (fun d => lk D nd m (comesN D h (kthN (dgp D c) d))) 3)) μ := by
      have z := hq
      unfold lk at z
      rw [ec] at z
      exact z
    have hb : ∀ k, k ≤ 3 → sm (fun d => lk D nd m (comesN D h (kthN (dgp D c) d))) k ≤ 2187 := fun k hk => Nat.le_trans (sm_le k (fun s _ => lk_le m _)) (Nat.le_trans (Nat.mul_le_mul hk h36) (by decide))
    refine mm_iload d_As_luckyRowsFrom_0 rfl ?_
    refine mm_aload d_As_luckyRowsFrom_1 rfl ?_
    refine mm_getIN d_As_luckyRowsFrom_2 rfl hCD.1.1 hCD.n ?_
    refine mm_icmp_ltN d_As_luckyRowsFrom_5 (by first | omega | exact ite01_lt | exact bt8_lt31 _ _ | exact godB_lt31 _ _ _ | exact pop_lt31 _ | assumption | exact b31 (hW.gp (by omega)) | exact b31 (hW.ne (by omega)) | exact b31 (hW.op (by omega)) | exact and31 (hW.gp (by omega)) | exact and31 (hW.ne (by omega)) | exact and31 (hW.op (by omega)) | exact and31 (by assumption) | exact and31r (hW.ne (by omega)) | exact and31r (hW.gp (by omega)) | exact and31r (by decide)) (by first | omega | exact ite01_lt | exact bt8_lt31 _ _ | exact godB_lt31 _ _ _ | exact pop_lt31 _ | assumption | exact b31 (hW.gp (by omega)) | exact b31 (hW.ne (by omega)) | exact b31 (hW.op (by omega)) | exact and31 (hW.gp (by omega)) | exact and31 (hW.ne (by omega)) | exact and31 (hW.op (by omega)) | exact and31 (by assumption) | exact and31r (hW.ne (by omega)) | exact and31r (hW.gp (by omega)) | exact and31r (by decide)) (fun c_5 => ?_) (fun c_5 => False.elim (by omega))
    refine mm_ciN 0 d_As_luckyRowsFrom_22 rfl ?_
    refine mm_ist4 d_As_luckyRowsFrom_23 ?_
    refine mm_ciN 0 d_As_luckyRowsFrom_25 rfl ?_
    refine mm_ist5 d_As_luckyRowsFrom_26 ?_
    refine mm_up (P := fun w => mm_T X (m + 1 + 2) 0 0 k_As_luckyRowsFrom 28 [some (.ref a), some (.int (nI nd)), some (.int (nI c)), some (.int (nI h)), some (.int (nI (sm (fun d => lk D nd m (comesN D h (kthN (dgp D c) d))) (popK (dgp D c) w)))), some (.int (nI w))] [] μ _) 8 ?_ ?_
    · rw [popK_8, h3]
      refine mm_iload d_As_luckyRowsFrom_28 rfl ?_
      refine mm_ciN 8 d_As_luckyRowsFrom_30 rfl ?_
      refine mm_icmp_geN d_As_luckyRowsFrom_32 (by first | omega | exact ite01_lt | exact bt8_lt31 _ _ | exact godB_lt31 _ _ _ | exact pop_lt31 _ | assumption | exact b31 (hW.gp (by omega)) | exact b31 (hW.ne (by omega)) | exact b31 (hW.op (by omega)) | exact and31 (hW.gp (by omega)) | exact and31 (hW.ne (by omega)) | exact and31 (hW.op (by omega)) | exact and31 (by assumption) | exact and31r (hW.ne (by omega)) | exact and31r (hW.gp (by omega)) | exact and31r (by decide)) (by first | omega | exact ite01_lt | exact bt8_lt31 _ _ | exact godB_lt31 _ _ _ | exact pop_lt31 _ | assumption | exact b31 (hW.gp (by omega)) | exact b31 (hW.ne (by omega)) | exact b31 (hW.op (by omega)) | exact and31 (hW.gp (by omega)) | exact and31 (hW.ne (by omega)) | exact and31 (hW.op (by omega)) | exact and31 (by assumption) | exact and31r (hW.ne (by omega)) | exact and31r (hW.gp (by omega)) | exact and31r (by decide)) (fun c_32 => ?_) (fun c_32 => False.elim (by omega))
      refine mm_iload d_As_luckyRowsFrom_71 rfl ?_
      exact mm_ri d_As_luckyRowsFrom_73 hq'
    · intro w hw IH
      have hpk : popK (dgp D c) (w + 1) = popK (dgp D c) w + bt8 (dgp D c) w := rfl
      have hgB : godB D c w = bt8 (dgp D c) w := if_pos hc
      refine mm_iload d_As_luckyRowsFrom_28 rfl ?_
      refine mm_ciN 8 d_As_luckyRowsFrom_30 rfl ?_
      refine mm_icmp_geN d_As_luckyRowsFrom_32 (by first | omega | exact ite01_lt | exact bt8_lt31 _ _ | exact godB_lt31 _ _ _ | exact pop_lt31 _ | assumption | exact b31 (hW.gp (by omega)) | exact b31 (hW.ne (by omega)) | exact b31 (hW.op (by omega)) | exact and31 (hW.gp (by omega)) | exact and31 (hW.ne (by omega)) | exact and31 (hW.op (by omega)) | exact and31 (by assumption) | exact and31r (hW.ne (by omega)) | exact and31r (hW.gp (by omega)) | exact and31r (by decide)) (by first | omega | exact ite01_lt | exact bt8_lt31 _ _ | exact godB_lt31 _ _ _ | exact pop_lt31 _ | assumption | exact b31 (hW.gp (by omega)) | exact b31 (hW.ne (by omega)) | exact b31 (hW.op (by omega)) | exact and31 (hW.gp (by omega)) | exact and31 (hW.ne (by omega)) | exact and31 (hW.op (by omega)) | exact and31 (by assumption) | exact and31r (hW.ne (by omega)) | exact and31r (hW.gp (by omega)) | exact and31r (by decide)) (fun c_32 => False.elim (by omega)) (fun c_32 => ?_)
      refine mm_aload d_As_luckyRowsFrom_35 rfl ?_
      refine mm_iload d_As_luckyRowsFrom_36 rfl ?_
      refine mm_iload d_As_luckyRowsFrom_37 rfl ?_
      refine mm_v2i d_As_luckyRowsFrom_39 hCD.1.1 (sp_Co_isGodparent hCD hW (by omega) (by omega) ?_) (hdd := by omega)
      refine mm_if_eqN d_As_luckyRowsFrom_42 (by first | omega | exact ite01_lt | exact bt8_lt31 _ _ | exact godB_lt31 _ _ _ | exact pop_lt31 _ | assumption | exact b31 (hW.gp (by omega)) | exact b31 (hW.ne (by omega)) | exact b31 (hW.op (by omega)) | exact and31 (hW.gp (by omega)) | exact and31 (hW.ne (by omega)) | exact and31 (hW.op (by omega)) | exact and31 (by assumption) | exact and31r (hW.ne (by omega)) | exact and31r (hW.gp (by omega)) | exact and31r (by decide)) (fun c_42 => ?_) (fun c_42 => ?_)
      · refine mm_inc5N d_As_luckyRowsFrom_65 ?_
        refine mm_goto d_As_luckyRowsFrom_68 ?_
        first | (rw [hpk, hw1, es] at IH; exact IH) | (rw [hpk, show bt8 (dgp D c) w = 0 by rw [← hgB]; exact c_42] at IH; exact IH)
      · have hw1 : bt8 (dgp D c) w = 1 := by rcases bt8_01 (dgp D c) w with y | y; exact absurd (by rw [hgB]; exact y) c_42; exact y
        obtain ⟨k1, k2⟩ := kth_w _ hgp h3 w hw hw1
        have hb1 := hb (popK (dgp D c) w) (by omega)
        have es : sm (fun d => lk D nd m (comesN D h (kthN (dgp D c) d))) (popK (dgp D c) w + 1) = sm (fun d => lk D nd m (comesN D h (kthN (dgp D c) d))) (popK (dgp D c) w) + lk D nd m (comesN D h w) := by
          show _ + lk D nd m (comesN D h (kthN (dgp D c) (popK (dgp D c) w))) = _
          rw [k1]
        refine mm_iload d_As_luckyRowsFrom_45 rfl ?_
        refine mm_aload d_As_luckyRowsFrom_47 rfl ?_
        refine mm_iload d_As_luckyRowsFrom_48 rfl ?_
        refine mm_iload d_As_luckyRowsFrom_49 rfl ?_
        refine mm_ciN 1 d_As_luckyRowsFrom_50 rfl ?_
        refine mm_iaddN d_As_luckyRowsFrom_51 ?_
        refine mm_aload d_As_luckyRowsFrom_52 rfl ?_
        refine mm_iload d_As_luckyRowsFrom_53 rfl ?_
        refine mm_iload d_As_luckyRowsFrom_54 rfl ?_
        refine mm_v2i d_As_luckyRowsFrom_56 hCD.1.1 (sp_Co_hereOnceComes hCD (by omega) ?_) (hdd := by omega)
        refine mm_s4i d_As_luckyRowsFrom_59 (ih (c + 1) (comesN D h w) _ (by omega) (comesN_lt hh hw) ?_) (hdd := by omega)
        refine mm_iaddN d_As_luckyRowsFrom_62 ?_
        refine mm_ist4 d_As_luckyRowsFrom_63 ?_
        refine mm_inc5N d_As_luckyRowsFrom_65 ?_
        refine mm_goto d_As_luckyRowsFrom_68 ?_
        first | (rw [hpk, hw1, es] at IH; exact IH) | (rw [hpk, show bt8 (dgp D c) w = 0 by rw [← hgB]; exact c_42] at IH; exact IH)
theorem sp_As_luckyRows {X : mm_X} {μ : mm_M} {q : Int32 → mm_M → Prop} {a nd : Nat} {D : mm_D} (hCD : CoD μ a D) (hW : WfD D) (hnd : nd < 256) (h : q (nI (lk D nd (dn D) 0)) μ) : mm_Ci X 9 0 0 k_As_luckyRows [.ref a, .int (nI nd)] μ q := by
  show mm_T X 9 0 0 k_As_luckyRows 0 [some (.ref a), some (.int (nI nd))] [] μ _
  have hn6 := hW.1
  refine mm_aload d_As_luckyRows_0 rfl ?_
  refine mm_iload d_As_luckyRows_1 rfl ?_
  refine mm_ciN 0 d_As_luckyRows_2 rfl ?_
  refine mm_ciN 0 d_As_luckyRows_3 rfl ?_
  refine mm_s4i d_As_luckyRows_4 (sp_As_luckyRowsFrom hCD hW hnd (dn D) 0 0 _ (by omega) (by decide) ?_) (hdd := by omega)
  exact mm_ri d_As_luckyRows_7 h
theorem sp_M_allAsk {X : mm_X} {μ : mm_M} {q : Int32 → mm_M → Prop} {k S : Nat} {D : mm_D} (hH : Hd μ k D) (hS : S < 2 ^ 31) (h : q (nI (aaF (dn D) S)) μ) : mm_Ci X 3 0 0 k_M_allAsk [.ref 71, .int (nI S)] μ q := by
  show mm_T X 3 0 0 k_M_allAsk 0 [some (.ref 71), some (.int (nI S)), none, none] [] μ _
  have hM := hH.1
  have hW := hH.wf
  have hn6 := hW.1
  generalize hR : aaF (dn D) S = R at h
  refine mm_ciN 1 d_M_allAsk_0 rfl ?_
  refine mm_ist2 d_M_allAsk_1 ?_
  refine mm_ciN 0 d_M_allAsk_2 rfl ?_
  refine mm_ist3 d_M_allAsk_3 ?_
  refine mm_up (P := fun c => ∀ (z : Nat), (z = 0 ∧ R = 0 ∨ z = 1 ∧ aaF (dn D - c) S = R) → mm_T X 3 0 0 k_M_allAsk 4 [some (.ref 71), some (.int (nI S)), some (.int (nI z)), some (.int (nI c))] [] μ (fun v μ' => ∃ r, v = some (.int r) ∧ q r μ')) (dn D) ?_ ?_ 1 (Or.inr ⟨rfl, hR⟩)
  · intro z hz
    rw [Nat.sub_self] at hz
    rcases hz with ⟨rfl, rfl⟩ | ⟨rfl, rfl⟩
    · refine mm_iload d_M_allAsk_4 rfl ?_
      refine mm_aload d_M_allAsk_5 rfl ?_
      refine mm_getIN d_M_allAsk_6 rfl (sk_o_71 hM) hH.n ?_
      refine mm_icmp_geN d_M_allAsk_9 (by first | omega | exact ite01_lt | exact bt8_lt31 _ _ | exact godB_lt31 _ _ _ | exact pop_lt31 _ | assumption | exact b31 (hW.gp (by omega)) | exact b31 (hW.ne (by omega)) | exact b31 (hW.op (by omega)) | exact and31 (hW.gp (by omega)) | exact and31 (hW.ne (by omega)) | exact and31 (hW.op (by omega)) | exact and31 (by assumption) | exact and31r (hW.ne (by omega)) | exact and31r (hW.gp (by omega)) | exact and31r (by decide)) (by first | omega | exact ite01_lt | exact bt8_lt31 _ _ | exact godB_lt31 _ _ _ | exact pop_lt31 _ | assumption | exact b31 (hW.gp (by omega)) | exact b31 (hW.ne (by omega)) | exact b31 (hW.op (by omega)) | exact and31 (hW.gp (by omega)) | exact and31 (hW.ne (by omega)) | exact and31 (hW.op (by omega)) | exact and31 (by assumption) | exact and31r (hW.ne (by omega)) | exact and31r (hW.gp (by omega)) | exact and31r (by decide)) (fun c_9 => ?_) (fun c_9 => False.elim (by omega))
      refine mm_iload d_M_allAsk_39 rfl ?_
      exact mm_rz d_M_allAsk_40 h
    · refine mm_iload d_M_allAsk_4 rfl ?_
      refine mm_aload d_M_allAsk_5 rfl ?_
      refine mm_getIN d_M_allAsk_6 rfl (sk_o_71 hM) hH.n ?_
      refine mm_icmp_geN d_M_allAsk_9 (by first | omega | exact ite01_lt | exact bt8_lt31 _ _ | exact godB_lt31 _ _ _ | exact pop_lt31 _ | assumption | exact b31 (hW.gp (by omega)) | exact b31 (hW.ne (by omega)) | exact b31 (hW.op (by omega)) | exact and31 (hW.gp (by omega)) | exact and31 (hW.ne (by omega)) | exact and31 (hW.op (by omega)) | exact and31 (by assumption) | exact and31r (hW.ne (by omega)) | exact and31r (hW.gp (by omega)) | exact and31r (by decide)) (by first | omega | exact ite01_lt | exact bt8_lt31 _ _ | exact godB_lt31 _ _ _ | exact pop_lt31 _ | assumption | exact b31 (hW.gp (by omega)) | exact b31 (hW.ne (by omega)) | exact b31 (hW.op (by omega)) | exact and31 (hW.gp (by omega)) | exact and31 (hW.ne (by omega)) | exact and31 (hW.op (by omega)) | exact and31 (by assumption) | exact and31r (hW.ne (by omega)) | exact and31r (hW.gp (by omega)) | exact and31r (by decide)) (fun c_9 => ?_) (fun c_9 => False.elim (by omega))
      refine mm_iload d_M_allAsk_39 rfl ?_
      exact mm_rz d_M_allAsk_40 h
  · intro c hc IH z hz
    rcases hz with ⟨rfl, hz⟩ | ⟨rfl, e⟩
    · refine mm_iload d_M_allAsk_4 rfl ?_
      refine mm_aload d_M_allAsk_5 rfl ?_
      refine mm_getIN d_M_allAsk_6 rfl (sk_o_71 hM) hH.n ?_
      refine mm_icmp_geN d_M_allAsk_9 (by first | omega | exact ite01_lt | exact bt8_lt31 _ _ | exact godB_lt31 _ _ _ | exact pop_lt31 _ | assumption | exact b31 (hW.gp (by omega)) | exact b31 (hW.ne (by omega)) | exact b31 (hW.op (by omega)) | exact and31 (hW.gp (by omega)) | exact and31 (hW.ne (by omega)) | exact and31 (hW.op (by omega)) | exact and31 (by assumption) | exact and31r (hW.ne (by omega)) | exact and31r (hW.gp (by omega)) | exact and31r (by decide)) (by first | omega | exact ite01_lt | exact bt8_lt31 _ _ | exact godB_lt31 _ _ _ | exact pop_lt31 _ | assumption | exact b31 (hW.gp (by omega)) | exact b31 (hW.ne (by omega)) | exact b31 (hW.op (by omega)) | exact and31 (hW.gp (by omega)) | exact and31 (hW.ne (by omega)) | exact and31 (hW.op (by omega)) | exact and31 (by assumption) | exact and31r (hW.ne (by omega)) | exact and31r (hW.gp (by omega)) | exact and31r (by decide)) (fun c_9 => False.elim (by omega)) (fun c_9 => ?_)
      refine mm_iload d_M_allAsk_12 rfl ?_
      refine mm_if_eqN d_M_allAsk_13 (by first | omega | exact ite01_lt | exact bt8_lt31 _ _ | exact godB_lt31 _ _ _ | exact pop_lt31 _ | assumption | exact b31 (hW.gp (by omega)) | exact b31 (hW.ne (by omega)) | exact b31 (hW.op (by omega)) | exact and31 (hW.gp (by omega)) | exact and31 (hW.ne (by omega)) | exact and31 (hW.op (by omega)) | exact and31 (by assumption) | exact and31r (hW.ne (by omega)) | exact and31r (hW.gp (by omega)) | exact and31r (by decide)) (fun c_13 => ?_) (fun c_13 => False.elim (by omega))
      refine mm_ciN 0 d_M_allAsk_31 rfl ?_
      refine mm_ist2 d_M_allAsk_32 ?_
      refine mm_inc3N d_M_allAsk_33 ?_
      refine mm_goto d_M_allAsk_36 ?_
      exact IH 0 (Or.inl ⟨rfl, hz⟩)
    · have ec : dn D - c = (dn D - (c + 1)) + 1 := by omega
      have ec3 : dn D - 1 - c = dn D - (c + 1) := by omega
      rw [ec] at e
      unfold aaF at e
      by_cases d3 : S / 4 ^ (dn D - (c + 1)) % 4 = 3
      · rw [if_pos d3] at e
        have w8 : whN D S c = 8 := by unfold whN; rw [ec3, if_pos d3]
        refine mm_iload d_M_allAsk_4 rfl ?_
        refine mm_aload d_M_allAsk_5 rfl ?_
        refine mm_getIN d_M_allAsk_6 rfl (sk_o_71 hM) hH.n ?_
        refine mm_icmp_geN d_M_allAsk_9 (by first | omega | exact ite01_lt | exact bt8_lt31 _ _ | exact godB_lt31 _ _ _ | exact pop_lt31 _ | assumption | exact b31 (hW.gp (by omega)) | exact b31 (hW.ne (by omega)) | exact b31 (hW.op (by omega)) | exact and31 (hW.gp (by omega)) | exact and31 (hW.ne (by omega)) | exact and31 (hW.op (by omega)) | exact and31 (by assumption) | exact and31r (hW.ne (by omega)) | exact and31r (hW.gp (by omega)) | exact and31r (by decide)) (by first | omega | exact ite01_lt | exact bt8_lt31 _ _ | exact godB_lt31 _ _ _ | exact pop_lt31 _ | assumption | exact b31 (hW.gp (by omega)) | exact b31 (hW.ne (by omega)) | exact b31 (hW.op (by omega)) | exact and31 (hW.gp (by omega)) | exact and31 (hW.ne (by omega)) | exact and31 (hW.op (by omega)) | exact and31 (by assumption) | exact and31r (hW.ne (by omega)) | exact and31r (hW.gp (by omega)) | exact and31r (by decide)) (fun c_9 => False.elim (by omega)) (fun c_9 => ?_)
        refine mm_iload d_M_allAsk_12 rfl ?_
        refine mm_if_eqN d_M_allAsk_13 (by first | omega | exact ite01_lt | exact bt8_lt31 _ _ | exact godB_lt31 _ _ _ | exact pop_lt31 _ | assumption | exact b31 (hW.gp (by omega)) | exact b31 (hW.ne (by omega)) | exact b31 (hW.op (by omega)) | exact and31 (hW.gp (by omega)) | exact and31 (hW.ne (by omega)) | exact and31 (hW.op (by omega)) | exact and31 (by assumption) | exact and31r (hW.ne (by omega)) | exact and31r (hW.gp (by omega)) | exact and31r (by decide)) (fun c_13 => False.elim (by omega)) (fun c_13 => ?_)
        refine mm_aload d_M_allAsk_16 rfl ?_
        refine mm_iload d_M_allAsk_17 rfl ?_
        refine mm_iload d_M_allAsk_18 rfl ?_
        refine mm_v2i d_M_allAsk_19 (sk_o_71 hM) (sp_M_whom hH hc hS ?_)
        rw [w8]
        refine mm_ciN 8 d_M_allAsk_22 rfl ?_
        refine mm_icmp_eqN d_M_allAsk_24 (by first | omega | exact ite01_lt | exact bt8_lt31 _ _ | exact godB_lt31 _ _ _ | exact pop_lt31 _ | assumption | exact b31 (hW.gp (by omega)) | exact b31 (hW.ne (by omega)) | exact b31 (hW.op (by omega)) | exact and31 (hW.gp (by omega)) | exact and31 (hW.ne (by omega)) | exact and31 (hW.op (by omega)) | exact and31 (by assumption) | exact and31r (hW.ne (by omega)) | exact and31r (hW.gp (by omega)) | exact and31r (by decide)) (by first | omega | exact ite01_lt | exact bt8_lt31 _ _ | exact godB_lt31 _ _ _ | exact pop_lt31 _ | assumption | exact b31 (hW.gp (by omega)) | exact b31 (hW.ne (by omega)) | exact b31 (hW.op (by omega)) | exact and31 (hW.gp (by omega)) | exact and31 (hW.ne (by omega)) | exact and31 (hW.op (by omega)) | exact and31 (by assumption) | exact and31r (hW.ne (by omega)) | exact and31r (hW.gp (by omega)) | exact and31r (by decide)) (fun c_24 => ?_) (fun c_24 => False.elim (by omega))
        refine mm_ciN 0 d_M_allAsk_31 rfl ?_
        refine mm_ist2 d_M_allAsk_32 ?_
        refine mm_inc3N d_M_allAsk_33 ?_
        refine mm_goto d_M_allAsk_36 ?_
        exact IH 0 (Or.inl ⟨rfl, e.symm⟩)
      · rw [if_neg d3] at e
        have w8 : whN D S c = kthN (dgp D c) (S / 4 ^ (dn D - (c + 1)) % 4) := by unfold whN; rw [ec3, if_neg d3]
        have hk := (kthN_ok (dgp D c) (hW.gp (by omega)) (hW.2.2.2.2.1 c hc) (S / 4 ^ (dn D - (c + 1)) % 4) (by have := Nat.mod_lt (S / 4 ^ (dn D - (c + 1))) (show 0 < 4 by decide); omega)).1
        generalize kthN (dgp D c) (S / 4 ^ (dn D - (c + 1)) % 4) = w at w8 hk
        refine mm_iload d_M_allAsk_4 rfl ?_
        refine mm_aload d_M_allAsk_5 rfl ?_
        refine mm_getIN d_M_allAsk_6 rfl (sk_o_71 hM) hH.n ?_
        refine mm_icmp_geN d_M_allAsk_9 (by first | omega | exact ite01_lt | exact bt8_lt31 _ _ | exact godB_lt31 _ _ _ | exact pop_lt31 _ | assumption | exact b31 (hW.gp (by omega)) | exact b31 (hW.ne (by omega)) | exact b31 (hW.op (by omega)) | exact and31 (hW.gp (by omega)) | exact and31 (hW.ne (by omega)) | exact and31 (hW.op (by omega)) | exact and31 (by assumption) | exact and31r (hW.ne (by omega)) | exact and31r (hW.gp (by omega)) | exact and31r (by decide)) (by first | omega | exact ite01_lt | exact bt8_lt31 _ _ | exact godB_lt31 _ _ _ | exact pop_lt31 _ | assumption | exact b31 (hW.gp (by omega)) | exact b31 (hW.ne (by omega)) | exact b31 (hW.op (by omega)) | exact and31 (hW.gp (by omega)) | exact and31 (hW.ne (by omega)) | exact and31 (hW.op (by omega)) | exact and31 (by assumption) | exact and31r (hW.ne (by omega)) | exact and31r (hW.gp (by omega)) | exact and31r (by decide)) (fun c_9 => False.elim (by omega)) (fun c_9 => ?_)
        refine mm_iload d_M_allAsk_12 rfl ?_
        refine mm_if_eqN d_M_allAsk_13 (by first | omega | exact ite01_lt | exact bt8_lt31 _ _ | exact godB_lt31 _ _ _ | exact pop_lt31 _ | assumption | exact b31 (hW.gp (by omega)) | exact b31 (hW.ne (by omega)) | exact b31 (hW.op (by omega)) | exact and31 (hW.gp (by omega)) | exact and31 (hW.ne (by omega)) | exact and31 (hW.op (by omega)) | exact and31 (by assumption) | exact and31r (hW.ne (by omega)) | exact and31r (hW.gp (by omega)) | exact and31r (by decide)) (fun c_13 => False.elim (by omega)) (fun c_13 => ?_)
        refine mm_aload d_M_allAsk_16 rfl ?_
        refine mm_iload d_M_allAsk_17 rfl ?_
        refine mm_iload d_M_allAsk_18 rfl ?_
        refine mm_v2i d_M_allAsk_19 (sk_o_71 hM) (sp_M_whom hH hc hS ?_)
        rw [w8]
        refine mm_ciN 8 d_M_allAsk_22 rfl ?_
        refine mm_icmp_eqN d_M_allAsk_24 (by first | omega | exact ite01_lt | exact bt8_lt31 _ _ | exact godB_lt31 _ _ _ | exact pop_lt31 _ | assumption | exact b31 (hW.gp (by omega)) | exact b31 (hW.ne (by omega)) | exact b31 (hW.op (by omega)) | exact and31 (hW.gp (by omega)) | exact and31 (hW.ne (by omega)) | exact and31 (hW.op (by omega)) | exact and31 (by assumption) | exact and31r (hW.ne (by omega)) | exact and31r (hW.gp (by omega)) | exact and31r (by decide)) (by first | omega | exact ite01_lt | exact bt8_lt31 _ _ | exact godB_lt31 _ _ _ | exact pop_lt31 _ | assumption | exact b31 (hW.gp (by omega)) | exact b31 (hW.ne (by omega)) | exact b31 (hW.op (by omega)) | exact and31 (hW.gp (by omega)) | exact and31 (hW.ne (by omega)) | exact and31 (hW.op (by omega)) | exact and31 (by assumption) | exact and31r (hW.ne (by omega)) | exact and31r (hW.gp (by omega)) | exact and31r (by decide)) (fun c_24 => False.elim (by omega)) (fun c_24 => ?_)
        refine mm_ciN 1 d_M_allAsk_27 rfl ?_
        refine mm_goto d_M_allAsk_28 ?_
        refine mm_ist2 d_M_allAsk_32 ?_
        refine mm_inc3N d_M_allAsk_33 ?_
        refine mm_goto d_M_allAsk_36 ?_
        exact IH 1 (Or.inr ⟨rfl, e⟩)
theorem pair_lots {X : mm_X} {k : Nat} {μ : mm_M} (hJ : JJ k μ) (y1 y2 y3 : Int32) : PairJ X (JJ (k + 1)) k_G_lots k_M_lots [.int y1, .int y2, .int y3] μ := by
  obtain ⟨c, h02, h0, m0, hv⟩ := hJ.coast y1
  have hM := hJ.1
  have hw := hJ.2.2.2.up
  rcases hv with hx | ⟨i, D, hi, rfl, hW, hCD, hDM⟩
  · exact pairQj (-1) hJ (d := 2) (d' := 4) (by decide) (by decide) (n_G_lots hM h0 h02 hx ⟨rfl, Fr.rf, hw⟩) (fun μ1 hf => n_M_lots (hf.2.2.2 hM) (by rw [(hf.2.2.1 76 rfl).1]; exact m0) h02 hx (fun μ' hk => ⟨rfl, hk.fr (hf.2.2.2 hM)⟩))
  have hn6 := hW.1
  have hw6 := hW.2.1
  rcases atF_or (c := dw D) (by omega) y2 with hz | ⟨j, hj, rfl⟩
  · refine pairQj (-1) hJ (d := 12) (d' := 12) (by decide) (by decide) ?_ (fun μ1 hf => ?_)
    · show mm_T X 12 0 0 k_G_lots 0 [some (.ref 0), some (.int (nI i)), some (.int y2), some (.int y3), none, none, none, none] [] μ _
      refine mm_aload d_G_lots_0 rfl ?_
      refine mm_getP d_G_lots_1 rfl (sk_o_0 hM) (sk_p_0_0 hM) ?_
      refine mm_iload d_G_lots_4 rfl ?_
      refine mm_iload d_G_lots_5 rfl ?_
      refine mm_v2r d_G_lots_6 (sk_o_1 hM) (sp_To_coastWithWorkN hM h0 h02 hi hCD hz ?_)
      refine mm_astN4 d_G_lots_9 ?_
      refine mm_aloadN d_G_lots_11 rfl ?_
      refine mm_ifnonnullN d_G_lots_13 ?_
      refine mm_lci d_G_lots_16 ?_
      exact mm_rj d_G_lots_19 ⟨rfl, Fr.rf, hw⟩
    · show mm_T X 12 0 0 k_M_lots 0 [some (.ref 71), some (.int (nI i)), some (.int y2), some (.int y3), none, none, none, none, none] [] μ1 _
      replace hM := hf.2.2.2 hM
      replace m0 : mm_I μ1 76 0 = nI c := by rw [(hf.2.2.1 76 rfl).1]; exact m0
      replace hDM := hDM.frC hf
      refine mm_aload d_M_lots_0 rfl ?_
      refine mm_ciN 0 d_M_lots_1 rfl ?_
      refine mm_putI d_M_lots_2 rfl (sk_o_71 hM) (Or.inl rfl) ?_
      refine mm_aload d_M_lots_5 rfl ?_
      refine mm_iload d_M_lots_6 rfl ?_
      refine mm_v1i d_M_lots_7 (sk_o_71 hM) (sp_M_handN hM (by first | exact m0 | (rw [mm_sI_off (by decide)]; exact m0)) h02 hi (by first | exact hDM | exact hDM.eq (mm_sI_off (by decide))) hW (fun μ2 g1 hH hZ => ?_))
      replace hM := hH.1
      refine mm_if_eqN d_M_lots_10 (by first | omega | exact ite01_lt | exact bt8_lt31 _ _ | exact godB_lt31 _ _ _ | exact pop_lt31 _ | assumption | exact b31 (hW.gp (by omega)) | exact b31 (hW.ne (by omega)) | exact b31 (hW.op (by omega)) | exact and31 (hW.gp (by omega)) | exact and31 (hW.ne (by omega)) | exact and31 (hW.op (by omega)) | exact and31 (by assumption) | exact and31r (hW.ne (by omega)) | exact and31r (hW.gp (by omega)) | exact and31r (by decide)) (fun c_10 => False.elim (by omega)) (fun c_10 => ?_)
      refine mm_aload d_M_lots_13 rfl ?_
      refine mm_iload d_M_lots_14 rfl ?_
      refine mm_v1i d_M_lots_15 (sk_o_71 hM) (sp_M_isWorkB hH hz ?_)
      refine mm_if_neN d_M_lots_18 (by first | omega | exact ite01_lt | exact bt8_lt31 _ _ | exact godB_lt31 _ _ _ | exact pop_lt31 _ | assumption | exact b31 (hW.gp (by omega)) | exact b31 (hW.ne (by omega)) | exact b31 (hW.op (by omega)) | exact and31 (hW.gp (by omega)) | exact and31 (hW.ne (by omega)) | exact and31 (hW.op (by omega)) | exact and31 (by assumption) | exact and31r (hW.ne (by omega)) | exact and31r (hW.gp (by omega)) | exact and31r (by decide)) (fun c_18 => False.elim (by omega)) (fun c_18 => ?_)
      refine mm_lci d_M_lots_21 ?_
      exact mm_rj d_M_lots_24 ⟨rfl, (Fr.rf.sI rfl).trans g1⟩
  · have hnd := hW.ne (j := j) (by omega)
    have hl := lk_le (D := D) (nd := dne D j) (dn D) 0
    have h36 := three_le hn6
    have h30 : 0 < 3 ^ dn D := Nat.pow_pos (by decide)
    refine pairQj (lN (ltN y3 (lk D (dne D j) (dn D) 0) (3 ^ dn D))) hJ (d := 12) (d' := 12) (by decide) (by decide) ?_ (fun μ1 hf => ?_)
    · show mm_T X 12 0 0 k_G_lots 0 [some (.ref 0), some (.int (nI i)), some (.int (nI j)), some (.int y3), none, none, none, none] [] μ _
      refine mm_aload d_G_lots_0 rfl ?_
      refine mm_getP d_G_lots_1 rfl (sk_o_0 hM) (sk_p_0_0 hM) ?_
      refine mm_iload d_G_lots_4 rfl ?_
      refine mm_iload d_G_lots_5 rfl ?_
      refine mm_v2r d_G_lots_6 (sk_o_1 hM) (sp_To_coastWithWorkI hM h0 h02 hi hCD hW (by omega) ?_)
      refine mm_ast4 d_G_lots_9 ?_
      refine mm_aload d_G_lots_11 rfl ?_
      refine mm_ifnonnull d_G_lots_13 ?_
      refine mm_lciN 1 d_G_lots_20 rfl ?_
      refine mm_lst5 d_G_lots_21 ?_
      refine mm_ciN 0 d_G_lots_23 rfl ?_
      refine mm_ist7 d_G_lots_24 ?_
      refine mm_up (P := fun c => mm_T X 12 0 0 k_G_lots 26 [some (.ref 0), some (.int (nI i)), some (.int (nI j)), some (.int y3), some (.ref (4 + 7 * i)), some (.long (lN (3 ^ c))), none, some (.int (nI c))] [] μ _) (dn D) ?_ ?_
      · refine mm_iload d_G_lots_26 rfl ?_
        refine mm_aload d_G_lots_28 rfl ?_
        refine mm_getIN d_G_lots_30 rfl hCD.1.1 hCD.n ?_
        refine mm_icmp_geN d_G_lots_33 (by first | omega | exact ite01_lt | exact bt8_lt31 _ _ | exact godB_lt31 _ _ _ | exact pop_lt31 _ | assumption | exact b31 (hW.gp (by omega)) | exact b31 (hW.ne (by omega)) | exact b31 (hW.op (by omega)) | exact and31 (hW.gp (by omega)) | exact and31 (hW.ne (by omega)) | exact and31 (hW.op (by omega)) | exact and31 (by assumption) | exact and31r (hW.ne (by omega)) | exact and31r (hW.gp (by omega)) | exact and31r (by decide)) (by first | omega | exact ite01_lt | exact bt8_lt31 _ _ | exact godB_lt31 _ _ _ | exact pop_lt31 _ | assumption | exact b31 (hW.gp (by omega)) | exact b31 (hW.ne (by omega)) | exact b31 (hW.op (by omega)) | exact and31 (hW.gp (by omega)) | exact and31 (hW.ne (by omega)) | exact and31 (hW.op (by omega)) | exact and31 (by assumption) | exact and31r (hW.ne (by omega)) | exact and31r (hW.gp (by omega)) | exact and31r (by decide)) (fun c_33 => ?_) (fun c_33 => False.elim (by omega))
        refine mm_aload d_G_lots_50 rfl ?_
        refine mm_aload d_G_lots_52 rfl ?_
        refine mm_getP d_G_lots_54 rfl hCD.1.1 (CoS_p5 hCD.1) ?_
        refine mm_iload d_G_lots_57 rfl ?_
        refine mm_ialdN d_G_lots_58 (CoS_a5 hCD.1) (by omega) (by decide) (hCD.f5 (by omega)) ?_
        refine mm_s2i d_G_lots_59 (sp_As_luckyRows hCD hW hnd ?_)
        refine mm_i2lN d_G_lots_62 (by first | omega | exact ite01_lt | exact bt8_lt31 _ _ | exact godB_lt31 _ _ _ | exact pop_lt31 _ | assumption | exact b31 (hW.gp (by omega)) | exact b31 (hW.ne (by omega)) | exact b31 (hW.op (by omega)) | exact and31 (hW.gp (by omega)) | exact and31 (hW.ne (by omega)) | exact and31 (hW.op (by omega)) | exact and31 (by assumption) | exact and31r (hW.ne (by omega)) | exact and31r (hW.gp (by omega)) | exact and31r (by decide)) ?_
        refine mm_lload d_G_lots_63 rfl ?_
        refine mm_iload d_G_lots_65 rfl ?_
        refine mm_s3j d_G_lots_66 (sp_G_leastTerms (by omega) (by omega) (by omega) ?_)
        exact mm_rj d_G_lots_69 ⟨rfl, Fr.rf, hw⟩
      · intro c hc IH
        rw [Nat.pow_succ] at IH
        refine mm_iload d_G_lots_26 rfl ?_
        refine mm_aload d_G_lots_28 rfl ?_
        refine mm_getIN d_G_lots_30 rfl hCD.1.1 hCD.n ?_
        refine mm_icmp_geN d_G_lots_33 (by first | omega | exact ite01_lt | exact bt8_lt31 _ _ | exact godB_lt31 _ _ _ | exact pop_lt31 _ | assumption | exact b31 (hW.gp (by omega)) | exact b31 (hW.ne (by omega)) | exact b31 (hW.op (by omega)) | exact and31 (hW.gp (by omega)) | exact and31 (hW.ne (by omega)) | exact and31 (hW.op (by omega)) | exact and31 (by assumption) | exact and31r (hW.ne (by omega)) | exact and31r (hW.gp (by omega)) | exact and31r (by decide)) (by first | omega | exact ite01_lt | exact bt8_lt31 _ _ | exact godB_lt31 _ _ _ | exact pop_lt31 _ | assumption | exact b31 (hW.gp (by omega)) | exact b31 (hW.ne (by omega)) | exact b31 (hW.op (by omega)) | exact and31 (hW.gp (by omega)) | exact and31 (hW.ne (by omega)) | exact and31 (hW.op (by omega)) | exact and31 (by assumption) | exact and31r (hW.ne (by omega)) | exact and31r (hW.gp (by omega)) | exact and31r (by decide)) (fun c_33 => False.elim (by omega)) (fun c_33 => ?_)
        refine mm_lload d_G_lots_36 rfl ?_
        refine mm_lciN 3 d_G_lots_38 rfl ?_
        refine mm_lmulN d_G_lots_41 ?_
        refine mm_lst5 d_G_lots_42 ?_
        refine mm_inc7N d_G_lots_44 ?_
        refine mm_goto d_G_lots_47 ?_
        exact IH
    · show mm_T X 12 0 0 k_M_lots 0 [some (.ref 71), some (.int (nI i)), some (.int (nI j)), some (.int y3), none, none, none, none, none] [] μ1 _
      replace hM := hf.2.2.2 hM
      replace m0 : mm_I μ1 76 0 = nI c := by rw [(hf.2.2.1 76 rfl).1]; exact m0
      replace hDM := hDM.frC hf
      refine mm_aload d_M_lots_0 rfl ?_
      refine mm_ciN 0 d_M_lots_1 rfl ?_
      refine mm_putI d_M_lots_2 rfl (sk_o_71 hM) (Or.inl rfl) ?_
      refine mm_aload d_M_lots_5 rfl ?_
      refine mm_iload d_M_lots_6 rfl ?_
      refine mm_v1i d_M_lots_7 (sk_o_71 hM) (sp_M_handN hM (by first | exact m0 | (rw [mm_sI_off (by decide)]; exact m0)) h02 hi (by first | exact hDM | exact hDM.eq (mm_sI_off (by decide))) hW (fun μ2 g1 hH hZ => ?_))
      replace hM := hH.1
      refine mm_if_eqN d_M_lots_10 (by first | omega | exact ite01_lt | exact bt8_lt31 _ _ | exact godB_lt31 _ _ _ | exact pop_lt31 _ | assumption | exact b31 (hW.gp (by omega)) | exact b31 (hW.ne (by omega)) | exact b31 (hW.op (by omega)) | exact and31 (hW.gp (by omega)) | exact and31 (hW.ne (by omega)) | exact and31 (hW.op (by omega)) | exact and31 (by assumption) | exact and31r (hW.ne (by omega)) | exact and31r (hW.gp (by omega)) | exact and31r (by decide)) (fun c_10 => False.elim (by omega)) (fun c_10 => ?_)
      refine mm_aload d_M_lots_13 rfl ?_
      refine mm_iload d_M_lots_14 rfl ?_
      refine mm_v1i d_M_lots_15 (sk_o_71 hM) (sp_M_isWorkT hH (by omega) ?_)
      refine mm_if_neN d_M_lots_18 (by first | omega | exact ite01_lt | exact bt8_lt31 _ _ | exact godB_lt31 _ _ _ | exact pop_lt31 _ | assumption | exact b31 (hW.gp (by omega)) | exact b31 (hW.ne (by omega)) | exact b31 (hW.op (by omega)) | exact and31 (hW.gp (by omega)) | exact and31 (hW.ne (by omega)) | exact and31 (hW.op (by omega)) | exact and31 (by assumption) | exact and31r (hW.ne (by omega)) | exact and31r (hW.gp (by omega)) | exact and31r (by decide)) (fun c_18 => ?_) (fun c_18 => False.elim (by omega))
      refine mm_lciN 0 d_M_lots_25 rfl ?_
      refine mm_lst4 d_M_lots_26 ?_
      refine mm_lciN 0 d_M_lots_28 rfl ?_
      refine mm_lst6 d_M_lots_29 ?_
      refine mm_ciN 0 d_M_lots_31 rfl ?_
      refine mm_ist8 d_M_lots_32 ?_
      have gf := (Fr.rf (S := scM) (μ := μ1).sI (j := 0) (x := nI 0) (a := 71) rfl).trans g1
      have h46 : 4 ^ dn D ≤ 4096 := Nat.pow_le_pow_right (n := 4) (by decide) hn6
      refine mm_up (P := fun r => mm_T X 12 0 0 k_M_lots 34 [some (.ref 71), some (.int (nI i)), some (.int (nI j)), some (.int y3), some (.long (lN (sm (lkR D (dne D j) (dn D) 0) r))), none, some (.long (lN (sm (aaF (dn D)) r))), none, some (.int (nI r))] [] μ2 _) (4 ^ dn D) ?_ ?_
      · rw [lk_sum, aa_sum]
        refine mm_iload d_M_lots_34 rfl ?_
        refine mm_aload d_M_lots_36 rfl ?_
        refine mm_getIN d_M_lots_37 rfl (sk_o_71 hM) hH.n ?_
        refine mm_s1i d_M_lots_40 (sp_M_fours hn6 ?_)
        refine mm_icmp_geN d_M_lots_43 (by first | omega | exact ite01_lt | exact bt8_lt31 _ _ | exact godB_lt31 _ _ _ | exact pop_lt31 _ | assumption | exact b31 (hW.gp (by omega)) | exact b31 (hW.ne (by omega)) | exact b31 (hW.op (by omega)) | exact and31 (hW.gp (by omega)) | exact and31 (hW.ne (by omega)) | exact and31 (hW.op (by omega)) | exact and31 (by assumption) | exact and31r (hW.ne (by omega)) | exact and31r (hW.gp (by omega)) | exact and31r (by decide)) (by first | omega | exact ite01_lt | exact bt8_lt31 _ _ | exact godB_lt31 _ _ _ | exact pop_lt31 _ | assumption | exact b31 (hW.gp (by omega)) | exact b31 (hW.ne (by omega)) | exact b31 (hW.op (by omega)) | exact and31 (hW.gp (by omega)) | exact and31 (hW.ne (by omega)) | exact and31 (hW.op (by omega)) | exact and31 (by assumption) | exact and31r (hW.ne (by omega)) | exact and31r (hW.gp (by omega)) | exact and31r (by decide)) (fun c_43 => ?_) (fun c_43 => False.elim (by omega))
        refine mm_lload d_M_lots_95 rfl ?_
        refine mm_lload d_M_lots_97 rfl ?_
        refine mm_iload d_M_lots_99 rfl ?_
        refine mm_s3j d_M_lots_100 (sp_M_part (by omega) (by omega) (by omega) ?_)
        exact mm_rj d_M_lots_103 ⟨rfl, gf⟩
      · intro r hr IH
        have e1 : sm (lkR D (dne D j) (dn D) 0) (r + 1) = sm (lkR D (dne D j) (dn D) 0) r + lkR D (dne D j) (dn D) 0 r := rfl
        have e2 : sm (aaF (dn D)) (r + 1) = sm (aaF (dn D)) r + aaF (dn D) r := rfl
        have a01 := aaF_01 (dn D) r
        have hrd : readyN D (hx D r) < 256 := by have := readyN_lt hW (hx D r); omega
        have hbit := readyN_bit hW (s := hx D r) hj
        have elk : lkR D (dne D j) (dn D) 0 r = if aaF (dn D) r = 0 then 0 else rdy (dne D j) (hx D r) := rfl
        unfold rdy at elk
        rw [e1, e2] at IH
        refine mm_iload d_M_lots_34 rfl ?_
        refine mm_aload d_M_lots_36 rfl ?_
        refine mm_getIN d_M_lots_37 rfl (sk_o_71 hM) hH.n ?_
        refine mm_s1i d_M_lots_40 (sp_M_fours hn6 ?_)
        refine mm_icmp_geN d_M_lots_43 (by first | omega | exact ite01_lt | exact bt8_lt31 _ _ | exact godB_lt31 _ _ _ | exact pop_lt31 _ | assumption | exact b31 (hW.gp (by omega)) | exact b31 (hW.ne (by omega)) | exact b31 (hW.op (by omega)) | exact and31 (hW.gp (by omega)) | exact and31 (hW.ne (by omega)) | exact and31 (hW.op (by omega)) | exact and31 (by assumption) | exact and31r (hW.ne (by omega)) | exact and31r (hW.gp (by omega)) | exact and31r (by decide)) (by first | omega | exact ite01_lt | exact bt8_lt31 _ _ | exact godB_lt31 _ _ _ | exact pop_lt31 _ | assumption | exact b31 (hW.gp (by omega)) | exact b31 (hW.ne (by omega)) | exact b31 (hW.op (by omega)) | exact and31 (hW.gp (by omega)) | exact and31 (hW.ne (by omega)) | exact and31 (hW.op (by omega)) | exact and31 (by assumption) | exact and31r (hW.ne (by omega)) | exact and31r (hW.gp (by omega)) | exact and31r (by decide)) (fun c_43 => False.elim (by omega)) (fun c_43 => ?_)
        refine mm_aload d_M_lots_46 rfl ?_
        refine mm_iload d_M_lots_47 rfl ?_
        refine mm_v1i d_M_lots_49 (sk_o_71 hM) (sp_M_allAsk hH (by omega) ?_)
        refine mm_if_eqN d_M_lots_52 (by first | omega | exact ite01_lt | exact bt8_lt31 _ _ | exact godB_lt31 _ _ _ | exact pop_lt31 _ | assumption | exact b31 (hW.gp (by omega)) | exact b31 (hW.ne (by omega)) | exact b31 (hW.op (by omega)) | exact and31 (hW.gp (by omega)) | exact and31 (hW.ne (by omega)) | exact and31 (hW.op (by omega)) | exact and31 (by assumption) | exact and31r (hW.ne (by omega)) | exact and31r (hW.gp (by omega)) | exact and31r (by decide)) (fun c_52 => ?_) (fun c_52 => ?_)
        · refine mm_inc8N d_M_lots_89 ?_
          refine mm_goto d_M_lots_92 ?_
          first | (rw [elk, if_pos c_52, c_52] at IH; exact IH) | (rw [elk, if_neg c_52, if_pos (hbit.mp c_78), show aaF (dn D) r = 1 by omega] at IH; exact IH) | (rw [elk, if_neg c_52, if_neg (fun z => hbit.mpr z c_78), show aaF (dn D) r = 1 by omega] at IH; exact IH)
        · refine mm_lload d_M_lots_55 rfl ?_
          refine mm_lciN 1 d_M_lots_57 rfl ?_
          refine mm_laddN d_M_lots_58 ?_
          refine mm_lst6 d_M_lots_59 ?_
          refine mm_lload d_M_lots_61 rfl ?_
          refine mm_aload d_M_lots_63 rfl ?_
          refine mm_aload d_M_lots_64 rfl ?_
          refine mm_iload d_M_lots_65 rfl ?_
          refine mm_ciN 0 d_M_lots_67 rfl ?_
          refine mm_v2i d_M_lots_68 (sk_o_71 hM) (sp_M_hereBy (ou := ou0) hH (by omega) (fun c _ => bt8_0 c) (by decide) ?_)
          rw [hx_s r, oQ_s]
          refine mm_v1i d_M_lots_71 (sk_o_71 hM) (sp_M_readyBy hH ?_)
          refine mm_iload d_M_lots_74 rfl ?_
          refine mm_s2i d_M_lots_75 (sp_M_has (by first | omega | assumption | exact hW.gp (by omega) | exact hW.ne (by omega) | exact hW.op (by omega) | exact and_lt256 (hW.gp (by omega)) | exact and_lt256 (hW.ne (by omega)) | exact and_lt256 (hW.op (by omega)) | exact and_lt256 (by assumption)) (by omega) ?_)
          refine mm_if_eqN d_M_lots_78 (by first | omega | exact ite01_lt | exact bt8_lt31 _ _ | exact godB_lt31 _ _ _ | exact pop_lt31 _ | assumption | exact b31 (hW.gp (by omega)) | exact b31 (hW.ne (by omega)) | exact b31 (hW.op (by omega)) | exact and31 (hW.gp (by omega)) | exact and31 (hW.ne (by omega)) | exact and31 (hW.op (by omega)) | exact and31 (by assumption) | exact and31r (hW.ne (by omega)) | exact and31r (hW.gp (by omega)) | exact and31r (by decide)) (fun c_78 => ?_) (fun c_78 => ?_)
          · refine mm_lciN 0 d_M_lots_85 rfl ?_
            refine mm_laddN d_M_lots_86 ?_
            refine mm_lst4 d_M_lots_87 ?_
            refine mm_inc8N d_M_lots_89 ?_
            refine mm_goto d_M_lots_92 ?_
            first | (rw [elk, if_pos c_52, c_52] at IH; exact IH) | (rw [elk, if_neg c_52, if_pos (hbit.mp c_78), show aaF (dn D) r = 1 by omega] at IH; exact IH) | (rw [elk, if_neg c_52, if_neg (fun z => hbit.mpr z c_78), show aaF (dn D) r = 1 by omega] at IH; exact IH)
          · refine mm_lciN 1 d_M_lots_81 rfl ?_
            refine mm_goto d_M_lots_82 ?_
            refine mm_laddN d_M_lots_86 ?_
            refine mm_lst4 d_M_lots_87 ?_
            refine mm_inc8N d_M_lots_89 ?_
            refine mm_goto d_M_lots_92 ?_
            first | (rw [elk, if_pos c_52, c_52] at IH; exact IH) | (rw [elk, if_neg c_52, if_pos (hbit.mp c_78), show aaF (dn D) r = 1 by omega] at IH; exact IH) | (rw [elk, if_neg c_52, if_neg (fun z => hbit.mpr z c_78), show aaF (dn D) r = 1 by omega] at IH; exact IH)
