/-! the pair headland -/
theorem EV_lt {D : mm_D} (hW : WfD D) {g : Nat → Nat} {n r k x : Nat} (hg : ∀ x, g x < 1000) (hr : r ≤ n) (h : EV D g n r k = some x) : x < 1000 := by
  obtain ⟨a, b⟩ := EV_pl hW (g := g) (n := n) r k (n - r) (by omega)
  cases hs : hsN D (n - r) k with
  | none => rw [a hs] at h; cases h
  | some p => rw [b p hs] at h; cases h; exact pl_lt hg _ _ _ _
def tI : Nat → Int32
  | 0 => -1
  | m + 1 => nI m
theorem tI_s (m : Nat) : nI m + -1 = tI m := by
  cases m with
  | zero => decide
  | succ m => exact pk_m1 m
theorem sp_M_headTail {X : mm_X} {μ : mm_M} {q : Int32 → mm_M → Prop} {k n : Nat} {y1 y3 R : Int32} {D : mm_D} (hH : Hd μ k D) (hn : n ≤ 3) (hR0 : y3 = 0 → R = nI (pl D (gN D (nI 0)) n 0 0 1)) (hR1 : y3 ≠ 0 → n = 0 → R = -1) (hR2 : y3 ≠ 0 → ∀ r, n = r + 1 → ∃ v, (v = 18 ∨ v < 18 ∧ v / 3 < dn D) ∧ (fB 1 (fun u => EV D (gN D (nI 0)) n r (19 * 0 + u)) 19).2 = some v ∧ R = nI (chF D v)) (h : ∀ ν, Fr scM μ ν → q R ν) : mm_T X 12 0 0 k_M_headland 25 [some (.ref 71), some (.int y1), some (.int (nI n)), some (.int y3), none, none, none] [] μ (fun v μ' => ∃ r, v = some (.int r) ∧ q r μ') := by
  have hW := hH.wf
  have hn6 := hW.1
  have hg : ∀ x, gN D (nI 0) x < 1000 := fun x => Nat.lt_trans (gN_lt hW _ x) (by decide)
  have h19 := p19 hn
  obtain ⟨g, hge⟩ : ∃ g, gN D (nI 0) = g := ⟨_, rfl⟩
  have fin : ∀ (ν : mm_M) (l6 : Option Value), Fr scM μ ν → Hd ν k D → mm_I ν 87 0 = wI (EV D g n n 0) → (mm_I ν 71 40 = if n = 0 then -1 else wW (fB 1 (fun u => EV D g n (n - 1) (19 * 0 + u)) 19).2) → mm_T X 12 0 0 k_M_headland 133 [some (.ref 71), some (.int y1), some (.int (nI n)), some (.int y3), some (.int (nI (19 ^ 0))), some (.int (tI 0)), l6] [] ν (fun v μ' => ∃ r, v = some (.int r) ∧ q r μ') := by
    intro ν l6 hf hH e87 e40
    have hM := hH.1
    have hq := h ν hf
    have e87' : mm_I ν 87 0 = nI (pl D g n 0 0 1) := by
      rw [e87, (EV_pl hW (g := g) (n := n) n 0 0 (by omega)).2 (0, 0) rfl]
      rfl
    by_cases hy : y3 = 0
    · rw [hR0 hy, hge] at hq
      refine mm_iload d_M_headland_133 rfl ?_
      refine mm_if_ne d_M_headland_134 (fun c_134 => False.elim (c_134 hy)) (fun c_134 => ?_)
      refine mm_aload d_M_headland_137 rfl ?_
      refine mm_getP d_M_headland_138 rfl (sk_o_71 hM) (sk_p_71_39 hM) ?_
      refine mm_ciN 0 d_M_headland_141 rfl ?_
      refine mm_ialdN d_M_headland_142 (sk_a_87 hM) (by omega) (by decide) e87' ?_
      refine mm_goto d_M_headland_143 ?_
      exact mm_ri d_M_headland_166 hq
    · by_cases hn0 : n = 0
      · rw [if_pos hn0] at e40
        rw [hR1 hy hn0] at hq
        refine mm_iload d_M_headland_133 rfl ?_
        refine mm_if_ne d_M_headland_134 (fun c_134 => ?_) (fun c_134 => False.elim (c_134 hy))
        refine mm_aload d_M_headland_146 rfl ?_
        refine mm_getIV d_M_headland_147 rfl (sk_o_71 hM) e40 ?_
        refine mm_ci d_M_headland_150 ?_
        refine mm_icmp_neS d_M_headland_151 ?_
        refine mm_ci d_M_headland_154 ?_
        refine mm_goto d_M_headland_155 ?_
        exact mm_ri d_M_headland_166 hq
      · obtain ⟨v, v1, v2, v3⟩ := hR2 hy (n - 1) (by omega)
        rw [hge] at v2
        rw [if_neg hn0, v2] at e40
        rw [v3] at hq
        refine mm_iload d_M_headland_133 rfl ?_
        refine mm_if_ne d_M_headland_134 (fun c_134 => ?_) (fun c_134 => False.elim (c_134 hy))
        refine mm_aload d_M_headland_146 rfl ?_
        refine mm_getIN d_M_headland_147 rfl (sk_o_71 hM) (show _ = nI v from e40) ?_
        refine mm_ci d_M_headland_150 ?_
        refine mm_icmp_neM1 d_M_headland_151 (by first | omega | exact ite01_lt | exact bt8_lt31 _ _ | exact godB_lt31 _ _ _ | exact pop_lt31 _ | assumption | exact b31 (hW.gp (by omega)) | exact b31 (hW.ne (by omega)) | exact b31 (hW.op (by omega)) | exact and31 (hW.gp (by omega)) | exact and31 (hW.ne (by omega)) | exact and31 (hW.op (by omega)) | exact and31 (by assumption) | exact and31r (hW.ne (by omega)) | exact and31r (hW.gp (by omega)) | exact and31r (by decide)) ?_
        refine mm_aload d_M_headland_158 rfl ?_
        refine mm_aload d_M_headland_159 rfl ?_
        refine mm_getIN d_M_headland_160 rfl (sk_o_71 hM) (show _ = nI v from e40) ?_
        refine mm_v1i d_M_headland_163 (sk_o_71 hM) (sp_M_choiceOf hH v1 ?_)
        exact mm_ri d_M_headland_166 hq
  have outer : ∀ (m : Nat) (ν : mm_M) (l6 : Option Value), m ≤ n → Fr scM μ ν → Hd ν k D → (∀ i, i < 19 ^ m → mm_I ν 87 i = wI (EV D g n (n - m) i)) → (m = 0 → mm_I ν 71 40 = if n = 0 then -1 else wW (fB 1 (fun u => EV D g n (n - 1) (19 * 0 + u)) 19).2) → mm_T X 12 0 0 k_M_headland 71 [some (.ref 71), some (.int y1), some (.int (nI n)), some (.int y3), some (.int (nI (19 ^ m))), some (.int (tI m)), l6] [] ν (fun v μ' => ∃ r, v = some (.int r) ∧ q r μ') := by
    intro m
    induction m with
    | zero =>
      intro ν l6 hm hf hH e87 e40
      refine mm_iload d_M_headland_71 rfl ?_
      refine mm_if_lt d_M_headland_73 (fun _ => ?_) (fun y => absurd (show tI 0 < 0 by decide) y)
      exact fin ν l6 hf hH (e87 0 (by decide)) (e40 rfl)
    | succ m ih =>
      intro ν l6 hm hf hH e87 e40
      have hM := hH.1
      have hpm := p19 (n := m) (by omega)
      have hpm1 := p19 (n := m + 1) (by omega)
      have ediv : 19 ^ (m + 1) / 19 = 19 ^ m := by rw [Nat.pow_succ, Nat.mul_div_cancel _ (by decide)]
      have e19 : 19 ^ (m + 1) = 19 * 19 ^ m := by rw [Nat.pow_succ, Nat.mul_comm]
      have er : n - m = (n - (m + 1)) + 1 := by omega
      have eEV : ∀ i, EV D g n (n - m) i = (fB (1 - m % 2) (fun v => EV D g n (n - (m + 1)) (19 * i + v)) 19).1 := by
        intro i
        rw [er]
        show (fB (1 - (n - (n - (m + 1) + 1)) % 2) _ 19).1 = _
        rw [show n - (n - (m + 1) + 1) = m by omega]
      rw [show tI (m + 1) = nI m from rfl]
      refine mm_iload d_M_headland_71 rfl ?_
      refine mm_if_ltN d_M_headland_73 (by first | omega | exact ite01_lt | exact bt8_lt31 _ _ | exact godB_lt31 _ _ _ | exact pop_lt31 _ | assumption | exact b31 (hW.gp (by omega)) | exact b31 (hW.ne (by omega)) | exact b31 (hW.op (by omega)) | exact and31 (hW.gp (by omega)) | exact and31 (hW.ne (by omega)) | exact and31 (hW.op (by omega)) | exact and31 (by assumption) | exact and31r (hW.ne (by omega)) | exact and31r (hW.gp (by omega)) | exact and31r (by decide)) ?_
      refine mm_iload d_M_headland_76 rfl ?_
      refine mm_ciN 19 d_M_headland_78 rfl ?_
      refine mm_idivN d_M_headland_80 (by first | omega | exact ite01_lt | exact bt8_lt31 _ _ | exact godB_lt31 _ _ _ | exact pop_lt31 _ | assumption | exact b31 (hW.gp (by omega)) | exact b31 (hW.ne (by omega)) | exact b31 (hW.op (by omega)) | exact and31 (hW.gp (by omega)) | exact and31 (hW.ne (by omega)) | exact and31 (hW.op (by omega)) | exact and31 (by assumption) | exact and31r (hW.ne (by omega)) | exact and31r (hW.gp (by omega)) | exact and31r (by decide)) (by omega) (by omega) ?_
      rw [ediv]
      refine mm_ist4 d_M_headland_81 ?_
      refine mm_ciN 0 d_M_headland_83 rfl ?_
      refine mm_ist6 d_M_headland_84 ?_
      refine mm_up (P := fun i => ∀ (ν : mm_M), Fr scM μ ν → Hd ν k D → (∀ j, j < i → mm_I ν 87 j = wI (EV D g n (n - m) j)) → (∀ j, i ≤ j → j < 19 ^ (m + 1) → mm_I ν 87 j = wI (EV D g n (n - (m + 1)) j)) → (m = 0 → 0 < i → mm_I ν 71 40 = if n = 0 then -1 else wW (fB 1 (fun u => EV D g n (n - 1) (19 * 0 + u)) 19).2) → mm_T X 12 0 0 k_M_headland 86 [some (.ref 71), some (.int y1), some (.int (nI n)), some (.int y3), some (.int (nI (19 ^ m))), some (.int (nI m)), some (.int (nI i))] [] ν (fun v μ' => ∃ r, v = some (.int r) ∧ q r μ')) (19 ^ m) ?_ ?_ ν hf hH (fun j hj => absurd hj (Nat.not_lt_zero j)) (fun j _ hj => e87 j hj) (fun _ y => absurd y (Nat.lt_irrefl 0))
      · intro ν hf hH a1 a2 a3
        have hM := hH.1
        refine mm_iload d_M_headland_86 rfl ?_
        refine mm_iload d_M_headland_88 rfl ?_
        refine mm_icmp_geN d_M_headland_90 (by first | omega | exact ite01_lt | exact bt8_lt31 _ _ | exact godB_lt31 _ _ _ | exact pop_lt31 _ | assumption | exact b31 (hW.gp (by omega)) | exact b31 (hW.ne (by omega)) | exact b31 (hW.op (by omega)) | exact and31 (hW.gp (by omega)) | exact and31 (hW.ne (by omega)) | exact and31 (hW.op (by omega)) | exact and31 (by assumption) | exact and31r (hW.ne (by omega)) | exact and31r (hW.gp (by omega)) | exact and31r (by decide)) (by first | omega | exact ite01_lt | exact bt8_lt31 _ _ | exact godB_lt31 _ _ _ | exact pop_lt31 _ | assumption | exact b31 (hW.gp (by omega)) | exact b31 (hW.ne (by omega)) | exact b31 (hW.op (by omega)) | exact and31 (hW.gp (by omega)) | exact and31 (hW.ne (by omega)) | exact and31 (hW.op (by omega)) | exact and31 (by assumption) | exact and31r (hW.ne (by omega)) | exact and31r (hW.gp (by omega)) | exact and31r (by decide)) (fun c_90 => ?_) (fun c_90 => False.elim (by omega))
        refine mm_inc5 d_M_headland_127 ?_
        refine mm_goto d_M_headland_130 ?_
        rw [tI_s]
        exact ih ν _ (by omega) hf hH a1 (fun y => a3 y (by rw [y]; decide))
      · intro i hi IH ν hf hH a1 a2 a3
        have hM := hH.1
        have hfold := fun v (hv : v < 19) => a2 (19 * i + v) (by omega) (by rw [e19]; omega)
        have hfl : ∀ v x, (fun v => EV D g n (n - (m + 1)) (19 * i + v)) v = some x → x < 1000 := fun v x y => EV_lt hW (by rw [← hge]; exact hg) (by omega) y
        have i87 : ∀ (ν2 : mm_M), mm_I ν2 87 = mm_I ν 87 → Fr scM ν ν2 → Hd ν2 k D → mm_I ν2 71 40 = wW (fB (1 - m % 2) (fun v => EV D g n (n - (m + 1)) (19 * i + v)) 19).2 → mm_T X 12 0 0 k_M_headland 86 [some (.ref 71), some (.int y1), some (.int (nI n)), some (.int y3), some (.int (nI (19 ^ m))), some (.int (nI m)), some (.int (nI (i + 1)))] [] (mm_sI ν2 87 i (wI (fB (1 - m % 2) (fun v => EV D g n (n - (m + 1)) (19 * i + v)) 19).1)) (fun v μ' => ∃ r, v = some (.int r) ∧ q r μ') := by
          intro ν2 b1 b2 b3 b4
          refine IH _ ((hf.trans b2).sI rfl) (b3.sI (by decide) (by decide)) (fun j hj => ?_) (fun j h1 h2 => ?_) (fun y _ => ?_)
          · rw [mm_I_sI, b1]
            by_cases y : j = i
            · rw [if_pos ⟨rfl, y⟩, y, eEV]
            · rw [if_neg (fun w => y w.2)]; exact a1 j (by omega)
          · rw [mm_I_sI, if_neg (by omega), b1]; exact a2 j (by omega) h2
          · have i0 : i = 0 := by rw [y] at hi; have : i < 1 := hi; omega
            rw [mm_sI_off (by decide), b4, if_neg (by omega), y, i0]
        rcases Nat.mod_two_eq_zero_or_one m with hz | hz
        · rw [hz] at i87
          refine mm_iload d_M_headland_86 rfl ?_
          refine mm_iload d_M_headland_88 rfl ?_
          refine mm_icmp_geN d_M_headland_90 (by first | omega | exact ite01_lt | exact bt8_lt31 _ _ | exact godB_lt31 _ _ _ | exact pop_lt31 _ | assumption | exact b31 (hW.gp (by omega)) | exact b31 (hW.ne (by omega)) | exact b31 (hW.op (by omega)) | exact and31 (hW.gp (by omega)) | exact and31 (hW.ne (by omega)) | exact and31 (hW.op (by omega)) | exact and31 (by assumption) | exact and31r (hW.ne (by omega)) | exact and31r (hW.gp (by omega)) | exact and31r (by decide)) (by first | omega | exact ite01_lt | exact bt8_lt31 _ _ | exact godB_lt31 _ _ _ | exact pop_lt31 _ | assumption | exact b31 (hW.gp (by omega)) | exact b31 (hW.ne (by omega)) | exact b31 (hW.op (by omega)) | exact and31 (hW.gp (by omega)) | exact and31 (hW.ne (by omega)) | exact and31 (hW.op (by omega)) | exact and31 (by assumption) | exact and31r (hW.ne (by omega)) | exact and31r (hW.gp (by omega)) | exact and31r (by decide)) (fun c_90 => False.elim (by omega)) (fun c_90 => ?_)
          refine mm_aload d_M_headland_93 rfl ?_
          refine mm_getP d_M_headland_94 rfl (sk_o_71 hM) (sk_p_71_39 hM) ?_
          refine mm_iload d_M_headland_97 rfl ?_
          refine mm_aload d_M_headland_99 rfl ?_
          refine mm_ciN 19 d_M_headland_100 rfl ?_
          refine mm_iload d_M_headland_102 rfl ?_
          refine mm_imulN d_M_headland_104 ?_
          refine mm_iload d_M_headland_105 rfl ?_
          refine mm_ciN 2 d_M_headland_107 rfl ?_
          refine mm_iremN d_M_headland_108 (by first | omega | exact ite01_lt | exact bt8_lt31 _ _ | exact godB_lt31 _ _ _ | exact pop_lt31 _ | assumption | exact b31 (hW.gp (by omega)) | exact b31 (hW.ne (by omega)) | exact b31 (hW.op (by omega)) | exact and31 (hW.gp (by omega)) | exact and31 (hW.ne (by omega)) | exact and31 (hW.op (by omega)) | exact and31 (by assumption) | exact and31r (hW.ne (by omega)) | exact and31r (hW.gp (by omega)) | exact and31r (by decide)) (by omega) (by omega) ?_
          refine mm_if_neN d_M_headland_109 (by first | omega | exact ite01_lt | exact bt8_lt31 _ _ | exact godB_lt31 _ _ _ | exact pop_lt31 _ | assumption | exact b31 (hW.gp (by omega)) | exact b31 (hW.ne (by omega)) | exact b31 (hW.op (by omega)) | exact and31 (hW.gp (by omega)) | exact and31 (hW.ne (by omega)) | exact and31 (hW.op (by omega)) | exact and31 (by assumption) | exact and31r (hW.ne (by omega)) | exact and31r (hW.gp (by omega)) | exact and31r (by decide)) (fun c_109 => False.elim (by omega)) (fun c_109 => ?_)
          refine mm_ciN 1 d_M_headland_112 rfl ?_
          refine mm_goto d_M_headland_113 ?_
          refine mm_v2i d_M_headland_117 (sk_o_71 hM) (sp_M_fold hH (by omega) (Or.inr rfl) hfold hfl (fun ν2 b1 b2 b3 b4 => ?_))
          have hM := b2.1
          refine mm_iastX d_M_headland_120 (sk_a_87 hM) (by omega) (by decide) ?_
          refine mm_inc6N d_M_headland_121 ?_
          refine mm_goto d_M_headland_124 ?_
          exact i87 ν2 b3 b1 b2 b4
        · rw [hz] at i87
          refine mm_iload d_M_headland_86 rfl ?_
          refine mm_iload d_M_headland_88 rfl ?_
          refine mm_icmp_geN d_M_headland_90 (by first | omega | exact ite01_lt | exact bt8_lt31 _ _ | exact godB_lt31 _ _ _ | exact pop_lt31 _ | assumption | exact b31 (hW.gp (by omega)) | exact b31 (hW.ne (by omega)) | exact b31 (hW.op (by omega)) | exact and31 (hW.gp (by omega)) | exact and31 (hW.ne (by omega)) | exact and31 (hW.op (by omega)) | exact and31 (by assumption) | exact and31r (hW.ne (by omega)) | exact and31r (hW.gp (by omega)) | exact and31r (by decide)) (by first | omega | exact ite01_lt | exact bt8_lt31 _ _ | exact godB_lt31 _ _ _ | exact pop_lt31 _ | assumption | exact b31 (hW.gp (by omega)) | exact b31 (hW.ne (by omega)) | exact b31 (hW.op (by omega)) | exact and31 (hW.gp (by omega)) | exact and31 (hW.ne (by omega)) | exact and31 (hW.op (by omega)) | exact and31 (by assumption) | exact and31r (hW.ne (by omega)) | exact and31r (hW.gp (by omega)) | exact and31r (by decide)) (fun c_90 => False.elim (by omega)) (fun c_90 => ?_)
          refine mm_aload d_M_headland_93 rfl ?_
          refine mm_getP d_M_headland_94 rfl (sk_o_71 hM) (sk_p_71_39 hM) ?_
          refine mm_iload d_M_headland_97 rfl ?_
          refine mm_aload d_M_headland_99 rfl ?_
          refine mm_ciN 19 d_M_headland_100 rfl ?_
          refine mm_iload d_M_headland_102 rfl ?_
          refine mm_imulN d_M_headland_104 ?_
          refine mm_iload d_M_headland_105 rfl ?_
          refine mm_ciN 2 d_M_headland_107 rfl ?_
          refine mm_iremN d_M_headland_108 (by first | omega | exact ite01_lt | exact bt8_lt31 _ _ | exact godB_lt31 _ _ _ | exact pop_lt31 _ | assumption | exact b31 (hW.gp (by omega)) | exact b31 (hW.ne (by omega)) | exact b31 (hW.op (by omega)) | exact and31 (hW.gp (by omega)) | exact and31 (hW.ne (by omega)) | exact and31 (hW.op (by omega)) | exact and31 (by assumption) | exact and31r (hW.ne (by omega)) | exact and31r (hW.gp (by omega)) | exact and31r (by decide)) (by omega) (by omega) ?_
          refine mm_if_neN d_M_headland_109 (by first | omega | exact ite01_lt | exact bt8_lt31 _ _ | exact godB_lt31 _ _ _ | exact pop_lt31 _ | assumption | exact b31 (hW.gp (by omega)) | exact b31 (hW.ne (by omega)) | exact b31 (hW.op (by omega)) | exact and31 (hW.gp (by omega)) | exact and31 (hW.ne (by omega)) | exact and31 (hW.op (by omega)) | exact and31 (by assumption) | exact and31r (hW.ne (by omega)) | exact and31r (hW.gp (by omega)) | exact and31r (by decide)) (fun c_109 => ?_) (fun c_109 => False.elim (by omega))
          refine mm_ciN 0 d_M_headland_116 rfl ?_
          refine mm_v2i d_M_headland_117 (sk_o_71 hM) (sp_M_fold hH (by omega) (Or.inl rfl) hfold hfl (fun ν2 b1 b2 b3 b4 => ?_))
          have hM := b2.1
          refine mm_iastX d_M_headland_120 (sk_a_87 hM) (by omega) (by decide) ?_
          refine mm_inc6N d_M_headland_121 ?_
          refine mm_goto d_M_headland_124 ?_
          exact i87 ν2 b3 b1 b2 b4
  have hM := hH.1
  refine mm_iload d_M_headland_25 rfl ?_
  refine mm_s1i d_M_headland_26 (sp_M_rowsOf hn ?_)
  refine mm_ist4 d_M_headland_29 ?_
  refine mm_ciN 0 d_M_headland_31 rfl ?_
  refine mm_ist5 d_M_headland_32 ?_
  refine mm_up (P := fun i => ∀ (ν : mm_M), Fr scM μ ν → Hd ν k D → (∀ j, j < i → mm_I ν 87 j = wI (EV D g n 0 j)) → mm_T X 12 0 0 k_M_headland 34 [some (.ref 71), some (.int y1), some (.int (nI n)), some (.int y3), some (.int (nI (19 ^ n))), some (.int (nI i)), none] [] ν (fun v μ' => ∃ r, v = some (.int r) ∧ q r μ')) (19 ^ n) ?_ ?_ μ Fr.rf hH (fun j hj => absurd hj (Nat.not_lt_zero j))
  · intro ν hf hH e
    have hM := hH.1
    refine mm_iload d_M_headland_34 rfl ?_
    refine mm_iload d_M_headland_36 rfl ?_
    refine mm_icmp_geN d_M_headland_38 (by first | omega | exact ite01_lt | exact bt8_lt31 _ _ | exact godB_lt31 _ _ _ | exact pop_lt31 _ | assumption | exact b31 (hW.gp (by omega)) | exact b31 (hW.ne (by omega)) | exact b31 (hW.op (by omega)) | exact and31 (hW.gp (by omega)) | exact and31 (hW.ne (by omega)) | exact and31 (hW.op (by omega)) | exact and31 (by assumption) | exact and31r (hW.ne (by omega)) | exact and31r (hW.gp (by omega)) | exact and31r (by decide)) (by first | omega | exact ite01_lt | exact bt8_lt31 _ _ | exact godB_lt31 _ _ _ | exact pop_lt31 _ | assumption | exact b31 (hW.gp (by omega)) | exact b31 (hW.ne (by omega)) | exact b31 (hW.op (by omega)) | exact and31 (hW.gp (by omega)) | exact and31 (hW.ne (by omega)) | exact and31 (hW.op (by omega)) | exact and31 (by assumption) | exact and31r (hW.ne (by omega)) | exact and31r (hW.gp (by omega)) | exact and31r (by decide)) (fun c_38 => ?_) (fun c_38 => False.elim (by omega))
    refine mm_aload d_M_headland_61 rfl ?_
    refine mm_ci d_M_headland_62 ?_
    refine mm_putI d_M_headland_63 rfl (sk_o_71 hM) (Or.inl rfl) ?_
    refine mm_iload d_M_headland_66 rfl ?_
    refine mm_ciN 1 d_M_headland_67 rfl ?_
    refine mm_isub d_M_headland_68 ?_
    rw [show nI n - nI 1 = tI n by cases n with | zero => decide | succ m => rw [pk_sub (by omega)]; rfl]
    refine mm_ist5 d_M_headland_69 ?_
    exact outer n _ _ (Nat.le_refl _) (hf.sI rfl) (hH.s71 (by decide)) (fun j hj => by rw [mm_sI_off (by decide), Nat.sub_self]; exact e j hj) (fun y => by rw [mm_I_sI, if_pos ⟨rfl, rfl⟩, if_pos y])
  · intro i hi IH ν hf hH e
    have hM := hH.1
    refine mm_iload d_M_headland_34 rfl ?_
    refine mm_iload d_M_headland_36 rfl ?_
    refine mm_icmp_geN d_M_headland_38 (by first | omega | exact ite01_lt | exact bt8_lt31 _ _ | exact godB_lt31 _ _ _ | exact pop_lt31 _ | assumption | exact b31 (hW.gp (by omega)) | exact b31 (hW.ne (by omega)) | exact b31 (hW.op (by omega)) | exact and31 (hW.gp (by omega)) | exact and31 (hW.ne (by omega)) | exact and31 (hW.op (by omega)) | exact and31 (by assumption) | exact and31r (hW.ne (by omega)) | exact and31r (hW.gp (by omega)) | exact and31r (by decide)) (by first | omega | exact ite01_lt | exact bt8_lt31 _ _ | exact godB_lt31 _ _ _ | exact pop_lt31 _ | assumption | exact b31 (hW.gp (by omega)) | exact b31 (hW.ne (by omega)) | exact b31 (hW.op (by omega)) | exact and31 (hW.gp (by omega)) | exact and31 (hW.ne (by omega)) | exact and31 (hW.op (by omega)) | exact and31 (by assumption) | exact and31r (hW.ne (by omega)) | exact and31r (hW.gp (by omega)) | exact and31r (by decide)) (fun c_38 => False.elim (by omega)) (fun c_38 => ?_)
    refine mm_aload d_M_headland_41 rfl ?_
    refine mm_getP d_M_headland_42 rfl (sk_o_71 hM) (sk_p_71_39 hM) ?_
    refine mm_iload d_M_headland_45 rfl ?_
    refine mm_aload d_M_headland_47 rfl ?_
    refine mm_iload d_M_headland_48 rfl ?_
    refine mm_iload d_M_headland_49 rfl ?_
    refine mm_v2i d_M_headland_51 (sk_o_71 hM) (sp_M_endOf hH hn hi ?_)
    rw [hge]
    refine mm_iastX d_M_headland_54 (sk_a_87 hM) (by omega) (by decide) ?_
    refine mm_inc5N d_M_headland_55 ?_
    refine mm_goto d_M_headland_58 ?_
    exact IH _ (hf.sI rfl) (hH.sI (by decide) (by decide)) (fun j hj => by rw [mm_I_sI]; by_cases y : j = i; (rw [if_pos ⟨rfl, y⟩, y]; rfl); (rw [if_neg (fun w => y w.2)]; exact e j (by omega)))
theorem pair_headland {X : mm_X} {k : Nat} {μ : mm_M} (hJ : JJ k μ) (y1 y2 y3 : Int32) : PairI X (JJ (k + 1)) k_G_headland k_M_headland [.int y1, .int y2, .int y3] μ := by
  obtain ⟨c, h02, h0, m0, hv⟩ := hJ.coast y1
  have hM := hJ.1
  have hw := hJ.2.2.2.up
  rcases hv with hx | ⟨i, D, hi, rfl, hW, hCD, hDM⟩
  · exact pairQ (-2) hJ (d := 2) (d' := 4) (by decide) (by decide) (n_G_headland hM h0 h02 hx ⟨rfl, Fr.rf, hw⟩) (fun μ1 hf => n_M_headland (hf.2.2.2 hM) (by rw [(hf.2.2.1 76 rfl).1]; exact m0) h02 hx (fun μ' hk => ⟨rfl, hk.fr (hf.2.2.2 hM)⟩))
  have hn6 := hW.1
  have hw6 := hW.2.1
  have hi2 : i < 2 := by omega
  rcases rng_or y2 (a := 0) (b := 3) (by decide) (by decide) with ⟨hz, hz2⟩ | ⟨n, -, hn, rfl⟩
  · refine pairQ (-2) hJ (d := 12) (d' := 12) (by decide) (by decide) ?_ (fun μ1 hf => ?_)
    · show mm_T X 12 0 0 k_G_headland 0 [some (.ref 0), some (.int (nI i)), some (.int y2), some (.int y3), none] [] μ _
      refine mm_aload d_G_headland_0 rfl ?_
      refine mm_getP d_G_headland_1 rfl (sk_o_0 hM) (sk_p_0_0 hM) ?_
      refine mm_iload d_G_headland_4 rfl ?_
      refine mm_v1r d_G_headland_5 (sk_o_1 hM) (sp_To_coastAtI hM h0 h02 hi ?_)
      refine mm_ast4 d_G_headland_8 ?_
      refine mm_aload d_G_headland_10 rfl ?_
      refine mm_ifnull d_G_headland_12 ?_
      refine mm_iload d_G_headland_15 rfl ?_
      refine mm_if_lt d_G_headland_16 (fun c_16 => ?_) (fun c_16 => ?_)
      · refine mm_ci d_G_headland_24 ?_
        exact mm_ri d_G_headland_26 ⟨rfl, Fr.rf, hw⟩
      · refine mm_iload d_G_headland_19 rfl ?_
        refine mm_ciN 3 d_G_headland_20 rfl ?_
        refine mm_icmp_le d_G_headland_21 (fun c_21 => False.elim (hz2.elim (fun y => c_16 y) (fun y => absurd c_21 (Int32.not_le.mpr y)))) (fun c_21 => ?_)
        refine mm_ci d_G_headland_24 ?_
        exact mm_ri d_G_headland_26 ⟨rfl, Fr.rf, hw⟩
    · show mm_T X 12 0 0 k_M_headland 0 [some (.ref 71), some (.int (nI i)), some (.int y2), some (.int y3), none, none, none] [] μ1 _
      replace hM := hf.2.2.2 hM
      replace m0 : mm_I μ1 76 0 = nI c := by rw [(hf.2.2.1 76 rfl).1]; exact m0
      replace hDM := hDM.frC hf
      refine mm_aload d_M_headland_0 rfl ?_
      refine mm_ciN 0 d_M_headland_1 rfl ?_
      refine mm_putI d_M_headland_2 rfl (sk_o_71 hM) (Or.inl rfl) ?_
      refine mm_iload d_M_headland_5 rfl ?_
      refine mm_ciN 0 d_M_headland_6 rfl ?_
      refine mm_ciN 3 d_M_headland_7 rfl ?_
      refine mm_s3i d_M_headland_8 (sp_M_inB hz ?_)
      refine mm_if_eqN d_M_headland_11 (by first | omega | exact ite01_lt | exact bt8_lt31 _ _ | exact godB_lt31 _ _ _ | exact pop_lt31 _ | assumption | exact b31 (hW.gp (by omega)) | exact b31 (hW.ne (by omega)) | exact b31 (hW.op (by omega)) | exact and31 (hW.gp (by omega)) | exact and31 (hW.ne (by omega)) | exact and31 (hW.op (by omega)) | exact and31 (by assumption) | exact and31r (hW.ne (by omega)) | exact and31r (hW.gp (by omega)) | exact and31r (by decide)) (fun c_11 => ?_) (fun c_11 => False.elim (by omega))
      refine mm_ci d_M_headland_22 ?_
      exact mm_ri d_M_headland_24 ⟨rfl, Fr.rf.sI rfl⟩
  · have model : ∀ (R : Int32), (y3 = 0 → R = nI (pl D (gN D (nI 0)) n 0 0 1)) → (y3 ≠ 0 → n = 0 → R = -1) → (y3 ≠ 0 → ∀ r, n = r + 1 → ∃ v, (v = 18 ∨ v < 18 ∧ v / 3 < dn D) ∧ (fB 1 (fun u => EV D (gN D (nI 0)) n r (19 * 0 + u)) 19).2 = some v ∧ R = nI (chF D v)) → ∀ μ1, Fr scC μ μ1 → mm_Ci X 12 0 0 k_M_headland [.ref 71, .int (nI i), .int (nI n), .int y3] μ1 (fun r μ2 => r = R ∧ Fr scM μ1 μ2) := by
      intro R r0 r1 r2 μ1 hf
      show mm_T X 12 0 0 k_M_headland 0 [some (.ref 71), some (.int (nI i)), some (.int (nI n)), some (.int y3), none, none, none] [] μ1 _
      replace hM := hf.2.2.2 hM
      replace m0 : mm_I μ1 76 0 = nI c := by rw [(hf.2.2.1 76 rfl).1]; exact m0
      replace hDM := hDM.frC hf
      refine mm_aload d_M_headland_0 rfl ?_
      refine mm_ciN 0 d_M_headland_1 rfl ?_
      refine mm_putI d_M_headland_2 rfl (sk_o_71 hM) (Or.inl rfl) ?_
      refine mm_iload d_M_headland_5 rfl ?_
      refine mm_ciN 0 d_M_headland_6 rfl ?_
      refine mm_ciN 3 d_M_headland_7 rfl ?_
      refine mm_s3i d_M_headland_8 (sp_M_inT (by omega) (by omega) (by omega) ?_)
      refine mm_if_eqN d_M_headland_11 (by first | omega | exact ite01_lt | exact bt8_lt31 _ _ | exact godB_lt31 _ _ _ | exact pop_lt31 _ | assumption | exact b31 (hW.gp (by omega)) | exact b31 (hW.ne (by omega)) | exact b31 (hW.op (by omega)) | exact and31 (hW.gp (by omega)) | exact and31 (hW.ne (by omega)) | exact and31 (hW.op (by omega)) | exact and31 (by assumption) | exact and31r (hW.ne (by omega)) | exact and31r (hW.gp (by omega)) | exact and31r (by decide)) (fun c_11 => False.elim (by omega)) (fun c_11 => ?_)
      refine mm_aload d_M_headland_14 rfl ?_
      refine mm_iload d_M_headland_15 rfl ?_
      refine mm_v1i d_M_headland_16 (sk_o_71 hM) (sp_M_handN hM (by first | exact m0 | (rw [mm_sI_off (by decide)]; exact m0)) h02 hi (by first | exact hDM | exact hDM.eq (mm_sI_off (by decide))) hW (fun μ2 g1 hH hZ => ?_))
      replace hM := hH.1
      refine mm_if_neN d_M_headland_19 (by first | omega | exact ite01_lt | exact bt8_lt31 _ _ | exact godB_lt31 _ _ _ | exact pop_lt31 _ | assumption | exact b31 (hW.gp (by omega)) | exact b31 (hW.ne (by omega)) | exact b31 (hW.op (by omega)) | exact and31 (hW.gp (by omega)) | exact and31 (hW.ne (by omega)) | exact and31 (hW.op (by omega)) | exact and31 (by assumption) | exact and31r (hW.ne (by omega)) | exact and31r (hW.gp (by omega)) | exact and31r (by decide)) (fun c_19 => ?_) (fun c_19 => False.elim (by omega))
      exact sp_M_headTail hH hn r0 r1 r2 (fun ν f => ⟨rfl, ((Fr.rf.sI rfl).trans g1).trans f⟩)
    by_cases hy : y3 = 0
    · subst hy
      refine pairQ (nI (pl D (gN D (nI 0)) n 0 0 1)) hJ (d := 12) (d' := 12) (by decide) (by decide) ?_ (model _ (fun _ => rfl) (fun y => absurd rfl y) (fun y => absurd rfl y))
      show mm_T X 12 0 0 k_G_headland 0 [some (.ref 0), some (.int (nI i)), some (.int (nI n)), some (.int 0), none] [] μ _
      refine mm_aload d_G_headland_0 rfl ?_
      refine mm_getP d_G_headland_1 rfl (sk_o_0 hM) (sk_p_0_0 hM) ?_
      refine mm_iload d_G_headland_4 rfl ?_
      refine mm_v1r d_G_headland_5 (sk_o_1 hM) (sp_To_coastAtI hM h0 h02 hi ?_)
      refine mm_ast4 d_G_headland_8 ?_
      refine mm_aload d_G_headland_10 rfl ?_
      refine mm_ifnull d_G_headland_12 ?_
      refine mm_iload d_G_headland_15 rfl ?_
      refine mm_if_ltN d_G_headland_16 (by first | omega | exact ite01_lt | exact bt8_lt31 _ _ | exact godB_lt31 _ _ _ | exact pop_lt31 _ | assumption | exact b31 (hW.gp (by omega)) | exact b31 (hW.ne (by omega)) | exact b31 (hW.op (by omega)) | exact and31 (hW.gp (by omega)) | exact and31 (hW.ne (by omega)) | exact and31 (hW.op (by omega)) | exact and31 (by assumption) | exact and31r (hW.ne (by omega)) | exact and31r (hW.gp (by omega)) | exact and31r (by decide)) ?_
      refine mm_iload d_G_headland_19 rfl ?_
      refine mm_ciN 3 d_G_headland_20 rfl ?_
      refine mm_icmp_leN d_G_headland_21 (by first | omega | exact ite01_lt | exact bt8_lt31 _ _ | exact godB_lt31 _ _ _ | exact pop_lt31 _ | assumption | exact b31 (hW.gp (by omega)) | exact b31 (hW.ne (by omega)) | exact b31 (hW.op (by omega)) | exact and31 (hW.gp (by omega)) | exact and31 (hW.ne (by omega)) | exact and31 (hW.op (by omega)) | exact and31 (by assumption) | exact and31r (hW.ne (by omega)) | exact and31r (hW.gp (by omega)) | exact and31r (by decide)) (by first | omega | exact ite01_lt | exact bt8_lt31 _ _ | exact godB_lt31 _ _ _ | exact pop_lt31 _ | assumption | exact b31 (hW.gp (by omega)) | exact b31 (hW.ne (by omega)) | exact b31 (hW.op (by omega)) | exact and31 (hW.gp (by omega)) | exact and31 (hW.ne (by omega)) | exact and31 (hW.op (by omega)) | exact and31 (by assumption) | exact and31r (hW.ne (by omega)) | exact and31r (hW.gp (by omega)) | exact and31r (by decide)) (fun c_21 => ?_) (fun c_21 => False.elim (by omega))
      refine mm_iload d_G_headland_27 rfl ?_
      refine mm_if_eq d_G_headland_28 (fun c_28 => ?_) (fun c_28 => False.elim (c_28 rfl))
      refine mm_iload d_G_headland_37 rfl ?_
      refine mm_if_eq d_G_headland_38 (fun c_38 => ?_) (fun c_38 => False.elim (c_38 rfl))
      refine mm_aload d_G_headland_54 rfl ?_
      refine mm_getP d_G_headland_55 rfl (sk_o_0 hM) (sk_p_0_4 hM) ?_
      refine mm_aload d_G_headland_58 rfl ?_
      refine mm_iload d_G_headland_60 rfl ?_
      refine mm_v2i d_G_headland_61 (sk_o_57 hM) (sp_As_outcome hM hi2 hCD hW hn (fun ν f e57 hA => ?_))
      exact mm_ri d_G_headland_64 ⟨rfl, f.sub scB_C, hw.cg e57 (f.2.2.1 62 rfl).1⟩
    · cases n with
      | zero =>
        refine pairQ (-1) hJ (d := 12) (d' := 12) (by decide) (by decide) ?_ (model _ (fun y => absurd y hy) (fun _ _ => rfl) (fun _ r y => absurd y (by omega)))
        show mm_T X 12 0 0 k_G_headland 0 [some (.ref 0), some (.int (nI i)), some (.int (nI 0)), some (.int y3), none] [] μ _
        refine mm_aload d_G_headland_0 rfl ?_
        refine mm_getP d_G_headland_1 rfl (sk_o_0 hM) (sk_p_0_0 hM) ?_
        refine mm_iload d_G_headland_4 rfl ?_
        refine mm_v1r d_G_headland_5 (sk_o_1 hM) (sp_To_coastAtI hM h0 h02 hi ?_)
        refine mm_ast4 d_G_headland_8 ?_
        refine mm_aload d_G_headland_10 rfl ?_
        refine mm_ifnull d_G_headland_12 ?_
        refine mm_iload d_G_headland_15 rfl ?_
        refine mm_if_ltN d_G_headland_16 (by first | omega | exact ite01_lt | exact bt8_lt31 _ _ | exact godB_lt31 _ _ _ | exact pop_lt31 _ | assumption | exact b31 (hW.gp (by omega)) | exact b31 (hW.ne (by omega)) | exact b31 (hW.op (by omega)) | exact and31 (hW.gp (by omega)) | exact and31 (hW.ne (by omega)) | exact and31 (hW.op (by omega)) | exact and31 (by assumption) | exact and31r (hW.ne (by omega)) | exact and31r (hW.gp (by omega)) | exact and31r (by decide)) ?_
        refine mm_iload d_G_headland_19 rfl ?_
        refine mm_ciN 3 d_G_headland_20 rfl ?_
        refine mm_icmp_leN d_G_headland_21 (by first | omega | exact ite01_lt | exact bt8_lt31 _ _ | exact godB_lt31 _ _ _ | exact pop_lt31 _ | assumption | exact b31 (hW.gp (by omega)) | exact b31 (hW.ne (by omega)) | exact b31 (hW.op (by omega)) | exact and31 (hW.gp (by omega)) | exact and31 (hW.ne (by omega)) | exact and31 (hW.op (by omega)) | exact and31 (by assumption) | exact and31r (hW.ne (by omega)) | exact and31r (hW.gp (by omega)) | exact and31r (by decide)) (by first | omega | exact ite01_lt | exact bt8_lt31 _ _ | exact godB_lt31 _ _ _ | exact pop_lt31 _ | assumption | exact b31 (hW.gp (by omega)) | exact b31 (hW.ne (by omega)) | exact b31 (hW.op (by omega)) | exact and31 (hW.gp (by omega)) | exact and31 (hW.ne (by omega)) | exact and31 (hW.op (by omega)) | exact and31 (by assumption) | exact and31r (hW.ne (by omega)) | exact and31r (hW.gp (by omega)) | exact and31r (by decide)) (fun c_21 => ?_) (fun c_21 => False.elim (by omega))
        refine mm_iload d_G_headland_27 rfl ?_
        refine mm_if_eq d_G_headland_28 (fun c_28 => False.elim (hy c_28)) (fun c_28 => ?_)
        refine mm_iload d_G_headland_31 rfl ?_
        refine mm_if_neN d_G_headland_32 (by first | omega | exact ite01_lt | exact bt8_lt31 _ _ | exact godB_lt31 _ _ _ | exact pop_lt31 _ | assumption | exact b31 (hW.gp (by omega)) | exact b31 (hW.ne (by omega)) | exact b31 (hW.op (by omega)) | exact and31 (hW.gp (by omega)) | exact and31 (hW.ne (by omega)) | exact and31 (hW.op (by omega)) | exact and31 (by assumption) | exact and31r (hW.ne (by omega)) | exact and31r (hW.gp (by omega)) | exact and31r (by decide)) (fun c_32 => False.elim (by omega)) (fun c_32 => ?_)
        refine mm_ci d_G_headland_35 ?_
        exact mm_ri d_G_headland_36 ⟨rfl, Fr.rf, hw⟩
      | succ r =>
        have hstep : ∀ v, v < 19 → EV D (gN D (nI 0)) (r + 1) r (19 * 0 + v) = (stepv D 0 0 v).map (fun p => pl D (gN D (nI 0)) r p.1 p.2 (1 - 1)) := by
          intro v hv
          obtain ⟨a, b⟩ := EV_pl hW (g := gN D (nI 0)) (n := r + 1) r (19 * 0 + v) 1 (by omega)
          have e2 := hsN_s (D := D) (t := 0) (k := 0) hv
          replace e2 : hsN D 1 (19 * 0 + v) = stepv D 0 0 v := e2
          cases hs : stepv D 0 0 v with
          | none => rw [a (e2.trans hs)]; rfl
          | some p => rw [b p (e2.trans hs)]; rfl
        obtain ⟨v, v19, vf, ve, vm⟩ := turn hW (g := gN D (nI 0)) (r := r) (tk := 0) (h := 0) (z := 1) (f := fun u => EV D (gN D (nI 0)) (r + 1) r (19 * 0 + u)) hstep
        have hat : v < 18 → v / 3 < dn D ∧ PP D (gN D (nI 0)) r (pl D (gN D (nI 0)) (r + 1) 0 0 1) (v / 3) (kthN (dgp D (v / 3)) (v % 3)) := by
          intro v18
          have e := hstep v v19
          rw [show EV D (gN D (nI 0)) (r + 1) r (19 * 0 + v) = some (pl D (gN D (nI 0)) (r + 1) 0 0 1) from ve] at e
          unfold stepv at e
          rw [if_neg (by omega)] at e
          by_cases y : dn D ≤ v / 3 ∨ bt8 0 (v / 3) ≠ 0
          · rw [if_pos y] at e; cases e
          · rw [if_neg y] at e
            have hc : v / 3 < dn D := by omega
            have hk := kthN_ok _ (hW.gp (j := v / 3) (by omega)) (hW.2.2.2.2.1 _ hc) (v % 3) (by omega)
            have e3 := Option.some.inj e
            refine ⟨hc, ?_, ?_⟩
            · have : godB D (v / 3) (kthN (dgp D (v / 3)) (v % 3)) = bt8 (dgp D (v / 3)) (kthN (dgp D (v / 3)) (v % 3)) := if_pos hc
              rw [this, hk.2.1]
              decide
            · rw [e3, Nat.zero_or]
        have hmin : ∀ c w, c < dn D → w < 8 → PP D (gN D (nI 0)) r (pl D (gN D (nI 0)) (r + 1) 0 0 1) c w → v ≤ 3 * c + popK (dgp D c) w := by
          intro c w hc hw8 hP
          refine Nat.not_lt.mp fun y => ?_
          have hg1 : bt8 (dgp D c) w = 1 := by
            have e : godB D c w = bt8 (dgp D c) w := if_pos hc
            have := bt8_01 (dgp D c) w
            have := hP.1
            omega
          obtain ⟨k1, k2⟩ := kth_w _ (hW.gp (j := c) (by omega)) (hW.2.2.2.2.1 c hc) w hw8 hg1
          refine vm _ y ?_
          show EV D (gN D (nI 0)) (r + 1) r (19 * 0 + (3 * c + popK (dgp D c) w)) = _
          have e1 : (3 * c + popK (dgp D c) w) / 3 = c := by omega
          have e2 : (3 * c + popK (dgp D c) w) % 3 = popK (dgp D c) w := by omega
          rw [hstep _ (by omega)]
          unfold stepv
          rw [if_neg (by omega), e1, e2, if_neg (by rintro (z | z); omega; exact z (bt8_0 c)), k1, Nat.zero_or]
          show some (pl D (gN D (nI 0)) r (2 ^ c) (comesN D 0 w) 0) = _
          rw [hP.2]
        refine pairQ (nI (chF D v)) hJ (d := 12) (d' := 12) (by decide) (by decide) ?_ (model _ (fun y => absurd y hy) (fun _ y => absurd y (by omega)) (fun _ r' y => by
          obtain rfl : r' = r := by omega
          exact ⟨v, by by_cases z : v = 18; exact Or.inl z; exact Or.inr ⟨by omega, (hat (by omega)).1⟩, by rw [vf], rfl⟩))
        show mm_T X 12 0 0 k_G_headland 0 [some (.ref 0), some (.int (nI i)), some (.int (nI (r + 1))), some (.int y3), none] [] μ _
        refine mm_aload d_G_headland_0 rfl ?_
        refine mm_getP d_G_headland_1 rfl (sk_o_0 hM) (sk_p_0_0 hM) ?_
        refine mm_iload d_G_headland_4 rfl ?_
        refine mm_v1r d_G_headland_5 (sk_o_1 hM) (sp_To_coastAtI hM h0 h02 hi ?_)
        refine mm_ast4 d_G_headland_8 ?_
        refine mm_aload d_G_headland_10 rfl ?_
        refine mm_ifnull d_G_headland_12 ?_
        refine mm_iload d_G_headland_15 rfl ?_
        refine mm_if_ltN d_G_headland_16 (by first | omega | exact ite01_lt | exact bt8_lt31 _ _ | exact godB_lt31 _ _ _ | exact pop_lt31 _ | assumption | exact b31 (hW.gp (by omega)) | exact b31 (hW.ne (by omega)) | exact b31 (hW.op (by omega)) | exact and31 (hW.gp (by omega)) | exact and31 (hW.ne (by omega)) | exact and31 (hW.op (by omega)) | exact and31 (by assumption) | exact and31r (hW.ne (by omega)) | exact and31r (hW.gp (by omega)) | exact and31r (by decide)) ?_
        refine mm_iload d_G_headland_19 rfl ?_
        refine mm_ciN 3 d_G_headland_20 rfl ?_
        refine mm_icmp_leN d_G_headland_21 (by first | omega | exact ite01_lt | exact bt8_lt31 _ _ | exact godB_lt31 _ _ _ | exact pop_lt31 _ | assumption | exact b31 (hW.gp (by omega)) | exact b31 (hW.ne (by omega)) | exact b31 (hW.op (by omega)) | exact and31 (hW.gp (by omega)) | exact and31 (hW.ne (by omega)) | exact and31 (hW.op (by omega)) | exact and31 (by assumption) | exact and31r (hW.ne (by omega)) | exact and31r (hW.gp (by omega)) | exact and31r (by decide)) (by first | omega | exact ite01_lt | exact bt8_lt31 _ _ | exact godB_lt31 _ _ _ | exact pop_lt31 _ | assumption | exact b31 (hW.gp (by omega)) | exact b31 (hW.ne (by omega)) | exact b31 (hW.op (by omega)) | exact and31 (hW.gp (by omega)) | exact and31 (hW.ne (by omega)) | exact and31 (hW.op (by omega)) | exact and31 (by assumption) | exact and31r (hW.ne (by omega)) | exact and31r (hW.gp (by omega)) | exact and31r (by decide)) (fun c_21 => ?_) (fun c_21 => False.elim (by omega))
        refine mm_iload d_G_headland_27 rfl ?_
        refine mm_if_eq d_G_headland_28 (fun c_28 => False.elim (hy c_28)) (fun c_28 => ?_)
        refine mm_iload d_G_headland_31 rfl ?_
        refine mm_if_neN d_G_headland_32 (by first | omega | exact ite01_lt | exact bt8_lt31 _ _ | exact godB_lt31 _ _ _ | exact pop_lt31 _ | assumption | exact b31 (hW.gp (by omega)) | exact b31 (hW.ne (by omega)) | exact b31 (hW.op (by omega)) | exact and31 (hW.gp (by omega)) | exact and31 (hW.ne (by omega)) | exact and31 (hW.op (by omega)) | exact and31 (by assumption) | exact and31r (hW.ne (by omega)) | exact and31r (hW.gp (by omega)) | exact and31r (by decide)) (fun c_32 => ?_) (fun c_32 => False.elim (by omega))
        refine mm_iload d_G_headland_37 rfl ?_
        refine mm_if_eq d_G_headland_38 (fun c_38 => False.elim (hy c_38)) (fun c_38 => ?_)
        refine mm_aload d_G_headland_41 rfl ?_
        refine mm_getP d_G_headland_42 rfl (sk_o_0 hM) (sk_p_0_4 hM) ?_
        refine mm_aload d_G_headland_45 rfl ?_
        refine mm_iload d_G_headland_47 rfl ?_
        refine mm_v2i d_G_headland_48 (sk_o_57 hM) (sp_As_opening hM hi2 hCD hW hn v19 hmin hat (fun ν f e57 => ?_))
        refine mm_goto d_G_headland_51 ?_
        exact mm_ri d_G_headland_64 ⟨rfl, f.sub scB_C, hw.cg e57 (f.2.2.1 62 rfl).1⟩
