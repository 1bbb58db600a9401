/-! pair: after -/
theorem rx_iv {D : mm_D} (hW : WfD D) {Y : mm_Y} (hY : WfYY Y) {s0 : Int32} : ∀ {k σ}, k ≤ Y.1 → rn D Y k = some σ → Qt σ (rx D Y s0 k) ∨ ((∃ e, xO (rx D Y s0 k) = some e) ∧ (∃ e, e < 100 ∧ xW (rx D Y s0 k) = some e) ∧ 0 < sB σ)
  | 0, σ, _, h => by cases h; exact Or.inl ⟨rfl, rfl, rfl, fun _ _ => rfl⟩
  | k + 1, σ, hk, h => by
    have hn6 := hW.1
    cases e : rn D Y k with
    | none => rw [show rn D Y (k + 1) = none by show (match rn D Y k with | none => none | some σ => dl D σ (yk Y k) (yx Y k) (yy Y k)) = _; rw [e]] at h; cases h
    | some τ =>
      have hok := (WfY_ok (hY.2 k (by omega))).2.2
      rw [rx_s e h]
      have h' := (rn_s e).symm.trans h
      rcases rx_iv hW hY (s0 := s0) (by omega) e with a | ⟨⟨x, b1⟩, ⟨z, b2, b3⟩, b4⟩
      · rcases stepA hW (k := k) hok a h' with c | ⟨c1, c2, c0, w0, c3, c4, c5⟩
        · exact Or.inl c
        · exact Or.inr ⟨⟨k, c1⟩, ⟨_, by have := c5.2.1; omega, c4⟩, c2⟩
      · have c := stepB (k := k) hok b1 b4 h'
        exact Or.inr ⟨⟨x, c.1.trans b1⟩, ⟨z, b2, c.2.1.trans b3⟩, c.2.2⟩
def afR (D : mm_D) (σ : mm_S) (ξ : mm_Xi) (t : Nat) : Int32 := if t = 0 then oI (xO ξ) else if t = 1 then oI (xW ξ) else if t = 2 then nI (xM ξ) else if t = 3 then oI (egK σ (dn D)) else if t = 4 then nI (xT ξ) else nI ((2 ^ dw D - 1) &&& (sD σ ^^^ 4294967295))
theorem lvF_some {D : mm_D} {Y : mm_Y} : ∀ n, ∃ σ, rn D Y (lvF D Y n) = some σ
  | 0 => ⟨S0, rfl⟩
  | n + 1 => by
    unfold lvF
    cases e : rn D Y (n + 1) with
    | some σ => exact ⟨σ, e⟩
    | none => exact lvF_some n
theorem sp_after {X : mm_X} {μ : mm_M} {q : Int32 → mm_M → Prop} {i l t : Nat} {l1 l2 : Int32} {D : mm_D} {Y : mm_Y} {s0 : Int32} {σe : mm_S} (hS : MoS μ i D S0) (hY : HY μ l Y) (ht : t ≤ 5) (he : rn D Y (lvF D Y Y.1) = some σe) (h : ∀ μ', Fr scM μ μ' → q (afR D σe (rx D Y s0 (lvF D Y Y.1)) t) μ') : mm_T X 12 0 0 k_M_after 44 [some (.ref 71), some (.int l1), some (.int l2), some (.int (nI t)), some (.int (-1)), some (.int (-1)), some (.int (nI 0)), some (.int (nI 0)), some (.int (nI 1)), some (.int (nI 0))] [] μ (fun v μ' => ∃ r, v = some (.int r) ∧ q r μ') := by
  have hW := hS.1.wf
  have hw6 := hW.2.1
  have hWY := hY.2.2.2.2
  have h40 := hWY.1
  have fin : ∀ k ν σ, k ≤ Y.1 → rn D Y k = some σ → lvF D Y Y.1 = k → MoS ν i D σ → Fr scM μ ν → mm_T X 12 0 0 k_M_after 44 [some (.ref 71), some (.int l1), some (.int l2), some (.int (nI t)), some (.int (oI (xO (rx D Y s0 k)))), some (.int (oI (xW (rx D Y s0 k)))), some (.int (nI (xM (rx D Y s0 k)))), some (.int (nI (xT (rx D Y s0 k)))), some (.int (nI 0)), some (.int (nI (k + 1)))] [] ν (fun v μ' => ∃ r, v = some (.int r) ∧ q r μ') := by
    intro k ν σ hk hr hlv hS hf
    rw [hlv] at h he
    rw [hr] at he
    cases he
    have hM := hS.1.1
    have hH := hS.1
    have hF := hS.2
    have hbd := rn_bd hW hWY hk hr
    have ha1 := one_le_two_pow (dw D)
    have hts : t = 0 ∨ t = 1 ∨ t = 2 ∨ t = 3 ∨ t = 4 ∨ t = 5 := by omega
    rcases hts with rfl | rfl | rfl | rfl | rfl | rfl
    · refine mm_iload d_M_after_44 rfl ?_
      refine mm_if_eqN d_M_after_46 (by first | omega | exact ite01_lt | exact bt8_lt31 _ _ | exact godB_lt31 _ _ _ | exact pop_lt31 _ | assumption | exact b31 (hW.gp (by omega)) | exact b31 (hW.ne (by omega)) | exact b31 (hW.op (by omega)) | exact and31 (hW.gp (by omega)) | exact and31 (hW.ne (by omega)) | exact and31 (hW.op (by omega)) | exact and31 (by assumption) | exact and31r (hW.ne (by omega)) | exact and31r (hW.gp (by omega)) | exact and31r (by decide)) (fun c_46 => ?_) (fun c_46 => False.elim (by omega))
      refine mm_iload d_M_after_159 rfl ?_
      refine mm_switchIn (n := 0) d_M_after_160 0 (by decide) (by decide) rfl ?_
      refine mm_iload d_M_after_196 rfl ?_
      exact mm_ri d_M_after_198 (h ν hf)
    · refine mm_iload d_M_after_44 rfl ?_
      refine mm_if_eqN d_M_after_46 (by first | omega | exact ite01_lt | exact bt8_lt31 _ _ | exact godB_lt31 _ _ _ | exact pop_lt31 _ | assumption | exact b31 (hW.gp (by omega)) | exact b31 (hW.ne (by omega)) | exact b31 (hW.op (by omega)) | exact and31 (hW.gp (by omega)) | exact and31 (hW.ne (by omega)) | exact and31 (hW.op (by omega)) | exact and31 (by assumption) | exact and31r (hW.ne (by omega)) | exact and31r (hW.gp (by omega)) | exact and31r (by decide)) (fun c_46 => ?_) (fun c_46 => False.elim (by omega))
      refine mm_iload d_M_after_159 rfl ?_
      refine mm_switchIn (n := 0) d_M_after_160 1 (by decide) (by decide) rfl ?_
      refine mm_iload d_M_after_199 rfl ?_
      exact mm_ri d_M_after_201 (h ν hf)
    · refine mm_iload d_M_after_44 rfl ?_
      refine mm_if_eqN d_M_after_46 (by first | omega | exact ite01_lt | exact bt8_lt31 _ _ | exact godB_lt31 _ _ _ | exact pop_lt31 _ | assumption | exact b31 (hW.gp (by omega)) | exact b31 (hW.ne (by omega)) | exact b31 (hW.op (by omega)) | exact and31 (hW.gp (by omega)) | exact and31 (hW.ne (by omega)) | exact and31 (hW.op (by omega)) | exact and31 (by assumption) | exact and31r (hW.ne (by omega)) | exact and31r (hW.gp (by omega)) | exact and31r (by decide)) (fun c_46 => ?_) (fun c_46 => False.elim (by omega))
      refine mm_iload d_M_after_159 rfl ?_
      refine mm_switchIn (n := 0) d_M_after_160 2 (by decide) (by decide) rfl ?_
      refine mm_iload d_M_after_202 rfl ?_
      exact mm_ri d_M_after_204 (h ν hf)
    · refine mm_iload d_M_after_44 rfl ?_
      refine mm_if_eqN d_M_after_46 (by first | omega | exact ite01_lt | exact bt8_lt31 _ _ | exact godB_lt31 _ _ _ | exact pop_lt31 _ | assumption | exact b31 (hW.gp (by omega)) | exact b31 (hW.ne (by omega)) | exact b31 (hW.op (by omega)) | exact and31 (hW.gp (by omega)) | exact and31 (hW.ne (by omega)) | exact and31 (hW.op (by omega)) | exact and31 (by assumption) | exact and31r (hW.ne (by omega)) | exact and31r (hW.gp (by omega)) | exact and31r (by decide)) (fun c_46 => ?_) (fun c_46 => False.elim (by omega))
      refine mm_iload d_M_after_159 rfl ?_
      refine mm_switchIn (n := 0) d_M_after_160 3 (by decide) (by decide) rfl ?_
      refine mm_aload d_M_after_205 rfl ?_
      refine mm_v0i d_M_after_206 (sk_o_71 hM) (sp_M_eager hS (fun c => by have := hbd.2 c; omega) ?_)
      exact mm_ri d_M_after_209 (h ν hf)
    · refine mm_iload d_M_after_44 rfl ?_
      refine mm_if_eqN d_M_after_46 (by first | omega | exact ite01_lt | exact bt8_lt31 _ _ | exact godB_lt31 _ _ _ | exact pop_lt31 _ | assumption | exact b31 (hW.gp (by omega)) | exact b31 (hW.ne (by omega)) | exact b31 (hW.op (by omega)) | exact and31 (hW.gp (by omega)) | exact and31 (hW.ne (by omega)) | exact and31 (hW.op (by omega)) | exact and31 (by assumption) | exact and31r (hW.ne (by omega)) | exact and31r (hW.gp (by omega)) | exact and31r (by decide)) (fun c_46 => ?_) (fun c_46 => False.elim (by omega))
      refine mm_iload d_M_after_159 rfl ?_
      refine mm_switchIn (n := 0) d_M_after_160 4 (by decide) (by decide) rfl ?_
      refine mm_iload d_M_after_210 rfl ?_
      exact mm_ri d_M_after_212 (h ν hf)
    · refine mm_iload d_M_after_44 rfl ?_
      refine mm_if_eqN d_M_after_46 (by first | omega | exact ite01_lt | exact bt8_lt31 _ _ | exact godB_lt31 _ _ _ | exact pop_lt31 _ | assumption | exact b31 (hW.gp (by omega)) | exact b31 (hW.ne (by omega)) | exact b31 (hW.op (by omega)) | exact and31 (hW.gp (by omega)) | exact and31 (hW.ne (by omega)) | exact and31 (hW.op (by omega)) | exact and31 (by assumption) | exact and31r (hW.ne (by omega)) | exact and31r (hW.gp (by omega)) | exact and31r (by decide)) (fun c_46 => ?_) (fun c_46 => False.elim (by omega))
      refine mm_iload d_M_after_159 rfl ?_
      refine mm_switchOut (n := 0) d_M_after_160 (Or.inr (by decide)) ?_
      refine mm_ciN 1 d_M_after_213 rfl ?_
      refine mm_aload d_M_after_214 rfl ?_
      refine mm_getIN d_M_after_215 rfl (sk_o_71 hM) hH.w ?_
      refine mm_ishl1N d_M_after_218 (by omega) ?_
      refine mm_ciN 1 d_M_after_219 rfl ?_
      refine mm_isubN d_M_after_220 (by omega) ?_
      refine mm_aload d_M_after_221 rfl ?_
      refine mm_getIN d_M_after_222 rfl (sk_o_71 hM) hF.D ?_
      refine mm_ci d_M_after_225 ?_
      refine mm_inotN d_M_after_226 ?_
      refine mm_iandN d_M_after_227 ?_
      exact mm_ri d_M_after_228 (h ν hf)
  have fl : ∀ k ν σ, k ≤ Y.1 → rn D Y k = some σ → lvF D Y Y.1 = k → MoS ν i D σ → Fr scM μ ν → mm_T X 12 0 0 k_M_after 85 [some (.ref 71), some (.int l1), some (.int l2), some (.int (nI t)), some (.int (oI (xO (rx D Y s0 k)))), some (.int (oI (xW (rx D Y s0 k)))), some (.int (nI (xM (rx D Y s0 k)))), some (.int (nI (xT (rx D Y s0 k)))), some (.int (nI 1)), some (.int (nI k))] [] ν (fun v μ' => ∃ r, v = some (.int r) ∧ q r μ') := by
    intro k ν σ hk hr hlv hS hf
    have z := fin k ν σ hk hr hlv hS hf
    have hM := hS.1.1
    have hF := hS.2
    have hbd := rn_bd hW hWY hk hr
    rcases rx_iv hW hWY (s0 := s0) hk hr with ⟨a1, a2, a3, a4⟩ | ⟨⟨x, b1⟩, ⟨y, b2, b3⟩, b4⟩
    · rw [a1, a2] at z ⊢
      refine mm_ciN 0 d_M_after_85 rfl ?_
      refine mm_ist8 d_M_after_86 ?_
      refine mm_iload d_M_after_88 rfl ?_
      refine mm_iload d_M_after_90 rfl ?_
      refine mm_if_eqN d_M_after_92 (by first | omega | exact ite01_lt | exact bt8_lt31 _ _ | exact godB_lt31 _ _ _ | exact pop_lt31 _ | assumption | exact b31 (hW.gp (by omega)) | exact b31 (hW.ne (by omega)) | exact b31 (hW.op (by omega)) | exact and31 (hW.gp (by omega)) | exact and31 (hW.ne (by omega)) | exact and31 (hW.op (by omega)) | exact and31 (by assumption) | exact and31r (hW.ne (by omega)) | exact and31r (hW.gp (by omega)) | exact and31r (by decide)) (fun c_92 => ?_) (fun c_92 => False.elim (by omega))
      refine mm_ciN 0 d_M_after_110 rfl ?_
      refine mm_iaddN d_M_after_111 ?_
      refine mm_ist7 d_M_after_112 ?_
      refine mm_iload d_M_after_114 rfl ?_
      refine mm_ci d_M_after_116 ?_
      refine mm_icmp_neS d_M_after_117 ?_
      refine mm_aload d_M_after_120 rfl ?_
      refine mm_getIN d_M_after_121 rfl (sk_o_71 hM) (hF.B.trans (by rw [a3])) ?_
      refine mm_if_leN d_M_after_124 (by first | omega | exact ite01_lt | exact bt8_lt31 _ _ | exact godB_lt31 _ _ _ | exact pop_lt31 _ | assumption | exact b31 (hW.gp (by omega)) | exact b31 (hW.ne (by omega)) | exact b31 (hW.op (by omega)) | exact and31 (hW.gp (by omega)) | exact and31 (hW.ne (by omega)) | exact and31 (hW.op (by omega)) | exact and31 (by assumption) | exact and31r (hW.ne (by omega)) | exact and31r (hW.gp (by omega)) | exact and31r (by decide)) (fun c_124 => ?_) (fun c_124 => False.elim (by omega))
      refine mm_iload d_M_after_132 rfl ?_
      refine mm_ist4 d_M_after_134 ?_
      refine mm_iload d_M_after_136 rfl ?_
      refine mm_ci d_M_after_138 ?_
      refine mm_icmp_neS d_M_after_139 ?_
      refine mm_aload d_M_after_142 rfl ?_
      refine mm_v0i d_M_after_143 (sk_o_71 hM) (sp_M_fc0 hS a4 ?_)
      refine mm_goto d_M_after_146 ?_
      refine mm_ist5 d_M_after_151 ?_
      refine mm_inc9N d_M_after_153 ?_
      refine mm_goto d_M_after_156 ?_
      exact z
    · have hx := (rx_wf (D := D) (Y := Y) (s0 := s0) k (by omega)).2 x b1
      rw [b1, b3] at z ⊢
      refine mm_ciN 0 d_M_after_85 rfl ?_
      refine mm_ist8 d_M_after_86 ?_
      refine mm_iload d_M_after_88 rfl ?_
      refine mm_iload d_M_after_90 rfl ?_
      refine mm_if_eqN d_M_after_92 (by first | omega | exact ite01_lt | exact bt8_lt31 _ _ | exact godB_lt31 _ _ _ | exact pop_lt31 _ | assumption | exact b31 (hW.gp (by omega)) | exact b31 (hW.ne (by omega)) | exact b31 (hW.op (by omega)) | exact and31 (hW.gp (by omega)) | exact and31 (hW.ne (by omega)) | exact and31 (hW.op (by omega)) | exact and31 (by assumption) | exact and31r (hW.ne (by omega)) | exact and31r (hW.gp (by omega)) | exact and31r (by decide)) (fun c_92 => ?_) (fun c_92 => False.elim (by omega))
      refine mm_ciN 0 d_M_after_110 rfl ?_
      refine mm_iaddN d_M_after_111 ?_
      refine mm_ist7 d_M_after_112 ?_
      refine mm_iload d_M_after_114 rfl ?_
      refine mm_ci d_M_after_116 ?_
      refine mm_icmp_neM1 d_M_after_117 (by first | omega | exact ite01_lt | exact bt8_lt31 _ _ | exact godB_lt31 _ _ _ | exact pop_lt31 _ | assumption | exact b31 (hW.gp (by omega)) | exact b31 (hW.ne (by omega)) | exact b31 (hW.op (by omega)) | exact and31 (hW.gp (by omega)) | exact and31 (hW.ne (by omega)) | exact and31 (hW.op (by omega)) | exact and31 (by assumption) | exact and31r (hW.ne (by omega)) | exact and31r (hW.gp (by omega)) | exact and31r (by decide)) ?_
      refine mm_iload d_M_after_132 rfl ?_
      refine mm_ist4 d_M_after_134 ?_
      refine mm_iload d_M_after_136 rfl ?_
      refine mm_ci d_M_after_138 ?_
      refine mm_icmp_neM1 d_M_after_139 (by first | omega | exact ite01_lt | exact bt8_lt31 _ _ | exact godB_lt31 _ _ _ | exact pop_lt31 _ | assumption | exact b31 (hW.gp (by omega)) | exact b31 (hW.ne (by omega)) | exact b31 (hW.op (by omega)) | exact and31 (hW.gp (by omega)) | exact and31 (hW.ne (by omega)) | exact and31 (hW.op (by omega)) | exact and31 (by assumption) | exact and31r (hW.ne (by omega)) | exact and31r (hW.gp (by omega)) | exact and31r (by decide)) ?_
      refine mm_iload d_M_after_149 rfl ?_
      refine mm_ist5 d_M_after_151 ?_
      refine mm_inc9N d_M_after_153 ?_
      refine mm_goto d_M_after_156 ?_
      exact z
  refine mm_up (P := fun k => ∀ ν σ m, rn D Y k = some σ → MoS ν i D σ → HY ν l Y → Fr scM μ ν → max m (pop (sH σ)) = xM (rx D Y s0 k) → m ≤ 8 → mm_T X 12 0 0 k_M_after 44 [some (.ref 71), some (.int l1), some (.int l2), some (.int (nI t)), some (.int (oI (xO (rx D Y s0 k)))), some (.int (oI (xW (rx D Y s0 k)))), some (.int (nI m)), some (.int (nI (xT (rx D Y s0 k)))), some (.int (nI 1)), some (.int (nI k))] [] ν (fun v μ' => ∃ r, v = some (.int r) ∧ q r μ')) Y.1 ?_ (fun k hk ih => ?_) μ S0 0 rfl hS hY Fr.rf rfl (by decide)
  · intro ν σ m hr hS hY hf hmx hm
    have hM := hS.1.1
    have hF := hS.2
    have hwf := rn_wf hW hWY (Nat.le_refl _) hr
    have hsh := hwf.1.1
    refine mm_iload d_M_after_44 rfl ?_
    refine mm_if_eqN d_M_after_46 (by first | omega | exact ite01_lt | exact bt8_lt31 _ _ | exact godB_lt31 _ _ _ | exact pop_lt31 _ | assumption | exact b31 (hW.gp (by omega)) | exact b31 (hW.ne (by omega)) | exact b31 (hW.op (by omega)) | exact and31 (hW.gp (by omega)) | exact and31 (hW.ne (by omega)) | exact and31 (hW.op (by omega)) | exact and31 (by assumption) | exact and31r (hW.ne (by omega)) | exact and31r (hW.gp (by omega)) | exact and31r (by decide)) (fun c_46 => False.elim (by omega)) (fun c_46 => ?_)
    refine mm_iload d_M_after_49 rfl ?_
    refine mm_aload d_M_after_51 rfl ?_
    refine mm_getIN d_M_after_52 rfl (sk_o_71 hM) hF.H ?_
    refine mm_s1i d_M_after_55 (sp_M_ones (by first | omega | assumption | exact hW.gp (by omega) | exact hW.ne (by omega) | exact hW.op (by omega) | exact and_lt256 (hW.gp (by omega)) | exact and_lt256 (hW.ne (by omega)) | exact and_lt256 (hW.op (by omega)) | exact and_lt256 (by assumption)) ?_)
    refine mm_s2i d_M_after_58 (sp_M_greaterN (by first | omega | exact ite01_lt | exact bt8_lt31 _ _ | exact godB_lt31 _ _ _ | exact pop_lt31 _ | assumption | exact b31 (hW.gp (by omega)) | exact b31 (hW.ne (by omega)) | exact b31 (hW.op (by omega)) | exact and31 (hW.gp (by omega)) | exact and31 (hW.ne (by omega)) | exact and31 (hW.op (by omega)) | exact and31 (by assumption) | exact and31r (hW.ne (by omega)) | exact and31r (hW.gp (by omega)) | exact and31r (by decide)) (by first | omega | exact ite01_lt | exact bt8_lt31 _ _ | exact godB_lt31 _ _ _ | exact pop_lt31 _ | assumption | exact b31 (hW.gp (by omega)) | exact b31 (hW.ne (by omega)) | exact b31 (hW.op (by omega)) | exact and31 (hW.gp (by omega)) | exact and31 (hW.ne (by omega)) | exact and31 (hW.op (by omega)) | exact and31 (by assumption) | exact and31r (hW.ne (by omega)) | exact and31r (hW.gp (by omega)) | exact and31r (by decide)) ?_)
    rw [hmx]
    refine mm_ist6 d_M_after_61 ?_
    refine mm_iload d_M_after_63 rfl ?_
    refine mm_aload d_M_after_65 rfl ?_
    refine mm_v0i d_M_after_66 (sk_o_71 hM) (sp_M_deeds hY ?_)
    refine mm_icmp_geN d_M_after_69 (by first | omega | exact ite01_lt | exact bt8_lt31 _ _ | exact godB_lt31 _ _ _ | exact pop_lt31 _ | assumption | exact b31 (hW.gp (by omega)) | exact b31 (hW.ne (by omega)) | exact b31 (hW.op (by omega)) | exact and31 (hW.gp (by omega)) | exact and31 (hW.ne (by omega)) | exact and31 (hW.op (by omega)) | exact and31 (by assumption) | exact and31r (hW.ne (by omega)) | exact and31r (hW.gp (by omega)) | exact and31r (by decide)) (by first | omega | exact ite01_lt | exact bt8_lt31 _ _ | exact godB_lt31 _ _ _ | exact pop_lt31 _ | assumption | exact b31 (hW.gp (by omega)) | exact b31 (hW.ne (by omega)) | exact b31 (hW.op (by omega)) | exact and31 (hW.gp (by omega)) | exact and31 (hW.ne (by omega)) | exact and31 (hW.op (by omega)) | exact and31 (by assumption) | exact and31r (hW.ne (by omega)) | exact and31r (hW.gp (by omega)) | exact and31r (by decide)) (fun c_69 => ?_) (fun c_69 => False.elim (by omega))
    exact fl Y.1 ν σ (Nat.le_refl _) hr (lvF_all hr) hS hf
  · intro ν σ m hr hS hY hf hmx hm
    have hM := hS.1.1
    have hF := hS.2
    have hwf := rn_wf hW hWY (by omega) hr
    have hsh := hwf.1.1
    have hxw := rx_wf (D := D) (Y := Y) (s0 := s0) k (by omega)
    have hok := WfY_ok (hWY.2 k hk)
    have hyk : yk Y k ≤ 4 := hok.2.1
    have sc : ∀ σ', dl D σ (yk Y k) (yx Y k) (yy Y k) = some σ' → ∀ μ', MoS μ' i D σ' → Mk ν μ' → mm_T X 12 0 0 k_M_after 78 [some (.ref 71), some (.int l1), some (.int l2), some (.int (nI t)), some (.int (oI (xO (rx D Y s0 k)))), some (.int (oI (xW (rx D Y s0 k)))), some (.int (nI (xM (rx D Y s0 k)))), some (.int (nI (xT (rx D Y s0 k)))), some (.int (nI 1)), some (.int (nI k))] [.int (nI 1)] μ' (fun v μ' => ∃ r, v = some (.int r) ∧ q r μ') := by
      intro σ' hd ν' hS' hm'
      have hr' : rn D Y (k + 1) = some σ' := (rn_s hr).trans hd
      have hwf' := rn_wf hW hWY (by omega) hr'
      have hbd' := rn_bd hW hWY (by omega) hr'
      have hM := hS'.1.1
      have hF := hS'.2
      have hY' := hY.mk hm'
      have e := rx_s (s0 := s0) hr hr'
      have z := ih ν' σ' (xM (rx D Y s0 k)) hr' hS' hY' (hf.trans hm'.1) (by rw [e]; show _ = max (xM (dlX _ _ _ _ _)) _; rw [xM_dlX]) hxw.1
      rw [e] at z
      replace z : mm_T X 12 0 0 k_M_after 44 [some (.ref 71), some (.int l1), some (.int l2), some (.int (nI t)), some (.int (oI (xO (dlX D σ (rx D Y s0 k) (yk Y k) k)))), some (.int (oI (xW (dlX D σ (rx D Y s0 k) (yk Y k) k)))), some (.int (nI (xM (rx D Y s0 k)))), some (.int (nI (xT (dlX D σ (rx D Y s0 k) (yk Y k) k)))), some (.int (nI 1)), some (.int (nI (k + 1)))] [] ν' (fun v μ' => ∃ r, v = some (.int r) ∧ q r μ') := z
      rw [xT_dlX] at z
      rcases rx_iv hW hWY (s0 := s0) (show k ≤ Y.1 by omega) hr with a | ⟨⟨x, b1⟩, ⟨y, b2, b3⟩, b4⟩
      · rcases stepA hW (k := k) (kd := yk Y k) hok.2.2 a hd with ⟨c1, c2, c3, c4⟩ | ⟨c1, c2, c0, w0, c3, c4, c5⟩
        · rw [a.1, a.2.1]
          rw [c1, c2] at z
          refine mm_if_eqN d_M_after_78 (by first | omega | exact ite01_lt | exact bt8_lt31 _ _ | exact godB_lt31 _ _ _ | exact pop_lt31 _ | assumption | exact b31 (hW.gp (by omega)) | exact b31 (hW.ne (by omega)) | exact b31 (hW.op (by omega)) | exact and31 (hW.gp (by omega)) | exact and31 (hW.ne (by omega)) | exact and31 (hW.op (by omega)) | exact and31 (by assumption) | exact and31r (hW.ne (by omega)) | exact and31r (hW.gp (by omega)) | exact and31r (by decide)) (fun c_78 => False.elim (by omega)) (fun c_78 => ?_)
          refine mm_ciN 1 d_M_after_81 rfl ?_
          refine mm_goto d_M_after_82 ?_
          refine mm_ist8 d_M_after_86 ?_
          refine mm_iload d_M_after_88 rfl ?_
          refine mm_iload d_M_after_90 rfl ?_
          refine mm_if_eqN d_M_after_92 (by first | omega | exact ite01_lt | exact bt8_lt31 _ _ | exact godB_lt31 _ _ _ | exact pop_lt31 _ | assumption | exact b31 (hW.gp (by omega)) | exact b31 (hW.ne (by omega)) | exact b31 (hW.op (by omega)) | exact and31 (hW.gp (by omega)) | exact and31 (hW.ne (by omega)) | exact and31 (hW.op (by omega)) | exact and31 (by assumption) | exact and31r (hW.ne (by omega)) | exact and31r (hW.gp (by omega)) | exact and31r (by decide)) (fun c_92 => False.elim (by omega)) (fun c_92 => ?_)
          refine mm_aload d_M_after_95 rfl ?_
          refine mm_iload d_M_after_96 rfl ?_
          refine mm_ciN 0 d_M_after_98 rfl ?_
          refine mm_v2i d_M_after_99 (sk_o_71 hM) (sp_M_deedOf hY' hk (by decide) ?_)
          rw [show yAt Y k 0 = nI (yk Y k) from hok.1]
          refine mm_ciN 1 d_M_after_102 rfl ?_
          refine mm_icmp_neN d_M_after_103 (by first | omega | exact ite01_lt | exact bt8_lt31 _ _ | exact godB_lt31 _ _ _ | exact pop_lt31 _ | assumption | exact b31 (hW.gp (by omega)) | exact b31 (hW.ne (by omega)) | exact b31 (hW.op (by omega)) | exact and31 (hW.gp (by omega)) | exact and31 (hW.ne (by omega)) | exact and31 (hW.op (by omega)) | exact and31 (by assumption) | exact and31r (hW.ne (by omega)) | exact and31r (hW.gp (by omega)) | exact and31r (by decide)) (by first | omega | exact ite01_lt | exact bt8_lt31 _ _ | exact godB_lt31 _ _ _ | exact pop_lt31 _ | assumption | exact b31 (hW.gp (by omega)) | exact b31 (hW.ne (by omega)) | exact b31 (hW.op (by omega)) | exact and31 (hW.gp (by omega)) | exact and31 (hW.ne (by omega)) | exact and31 (hW.op (by omega)) | exact and31 (by assumption) | exact and31r (hW.ne (by omega)) | exact and31r (hW.gp (by omega)) | exact and31r (by decide)) (fun c_103 => ?_) (fun c_103 => ?_)
          · refine mm_ciN 0 d_M_after_110 rfl ?_
            refine mm_iaddN d_M_after_111 ?_
            refine mm_ist7 d_M_after_112 ?_
            refine mm_iload d_M_after_114 rfl ?_
            refine mm_ci d_M_after_116 ?_
            refine mm_icmp_neS d_M_after_117 ?_
            refine mm_aload d_M_after_120 rfl ?_
            refine mm_getIN d_M_after_121 rfl (sk_o_71 hM) (hF.B.trans (by rw [c3])) ?_
            refine mm_if_leN d_M_after_124 (by first | omega | exact ite01_lt | exact bt8_lt31 _ _ | exact godB_lt31 _ _ _ | exact pop_lt31 _ | assumption | exact b31 (hW.gp (by omega)) | exact b31 (hW.ne (by omega)) | exact b31 (hW.op (by omega)) | exact and31 (hW.gp (by omega)) | exact and31 (hW.ne (by omega)) | exact and31 (hW.op (by omega)) | exact and31 (by assumption) | exact and31r (hW.ne (by omega)) | exact and31r (hW.gp (by omega)) | exact and31r (by decide)) (fun c_124 => ?_) (fun c_124 => False.elim (by omega))
            refine mm_iload d_M_after_132 rfl ?_
            refine mm_ist4 d_M_after_134 ?_
            refine mm_iload d_M_after_136 rfl ?_
            refine mm_ci d_M_after_138 ?_
            refine mm_icmp_neS d_M_after_139 ?_
            refine mm_aload d_M_after_142 rfl ?_
            refine mm_v0i d_M_after_143 (sk_o_71 hM) (sp_M_fc0 hS' c4 ?_)
            refine mm_goto d_M_after_146 ?_
            refine mm_ist5 d_M_after_151 ?_
            refine mm_inc9N d_M_after_153 ?_
            refine mm_goto d_M_after_156 ?_
            first
              | (rw [if_neg c_103] at z; exact z)
              | (rw [if_pos c_103] at z; exact z)
          · refine mm_ciN 1 d_M_after_106 rfl ?_
            refine mm_goto d_M_after_107 ?_
            refine mm_iaddN d_M_after_111 ?_
            refine mm_ist7 d_M_after_112 ?_
            refine mm_iload d_M_after_114 rfl ?_
            refine mm_ci d_M_after_116 ?_
            refine mm_icmp_neS d_M_after_117 ?_
            refine mm_aload d_M_after_120 rfl ?_
            refine mm_getIN d_M_after_121 rfl (sk_o_71 hM) (hF.B.trans (by rw [c3])) ?_
            refine mm_if_leN d_M_after_124 (by first | omega | exact ite01_lt | exact bt8_lt31 _ _ | exact godB_lt31 _ _ _ | exact pop_lt31 _ | assumption | exact b31 (hW.gp (by omega)) | exact b31 (hW.ne (by omega)) | exact b31 (hW.op (by omega)) | exact and31 (hW.gp (by omega)) | exact and31 (hW.ne (by omega)) | exact and31 (hW.op (by omega)) | exact and31 (by assumption) | exact and31r (hW.ne (by omega)) | exact and31r (hW.gp (by omega)) | exact and31r (by decide)) (fun c_124 => ?_) (fun c_124 => False.elim (by omega))
            refine mm_iload d_M_after_132 rfl ?_
            refine mm_ist4 d_M_after_134 ?_
            refine mm_iload d_M_after_136 rfl ?_
            refine mm_ci d_M_after_138 ?_
            refine mm_icmp_neS d_M_after_139 ?_
            refine mm_aload d_M_after_142 rfl ?_
            refine mm_v0i d_M_after_143 (sk_o_71 hM) (sp_M_fc0 hS' c4 ?_)
            refine mm_goto d_M_after_146 ?_
            refine mm_ist5 d_M_after_151 ?_
            refine mm_inc9N d_M_after_153 ?_
            refine mm_goto d_M_after_156 ?_
            first
              | (rw [if_neg c_103] at z; exact z)
              | (rw [if_pos c_103] at z; exact z)
        · rw [a.1, a.2.1]
          rw [c1, c4] at z
          refine mm_if_eqN d_M_after_78 (by first | omega | exact ite01_lt | exact bt8_lt31 _ _ | exact godB_lt31 _ _ _ | exact pop_lt31 _ | assumption | exact b31 (hW.gp (by omega)) | exact b31 (hW.ne (by omega)) | exact b31 (hW.op (by omega)) | exact and31 (hW.gp (by omega)) | exact and31 (hW.ne (by omega)) | exact and31 (hW.op (by omega)) | exact and31 (by assumption) | exact and31r (hW.ne (by omega)) | exact and31r (hW.gp (by omega)) | exact and31r (by decide)) (fun c_78 => False.elim (by omega)) (fun c_78 => ?_)
          refine mm_ciN 1 d_M_after_81 rfl ?_
          refine mm_goto d_M_after_82 ?_
          refine mm_ist8 d_M_after_86 ?_
          refine mm_iload d_M_after_88 rfl ?_
          refine mm_iload d_M_after_90 rfl ?_
          refine mm_if_eqN d_M_after_92 (by first | omega | exact ite01_lt | exact bt8_lt31 _ _ | exact godB_lt31 _ _ _ | exact pop_lt31 _ | assumption | exact b31 (hW.gp (by omega)) | exact b31 (hW.ne (by omega)) | exact b31 (hW.op (by omega)) | exact and31 (hW.gp (by omega)) | exact and31 (hW.ne (by omega)) | exact and31 (hW.op (by omega)) | exact and31 (by assumption) | exact and31r (hW.ne (by omega)) | exact and31r (hW.gp (by omega)) | exact and31r (by decide)) (fun c_92 => False.elim (by omega)) (fun c_92 => ?_)
          refine mm_aload d_M_after_95 rfl ?_
          refine mm_iload d_M_after_96 rfl ?_
          refine mm_ciN 0 d_M_after_98 rfl ?_
          refine mm_v2i d_M_after_99 (sk_o_71 hM) (sp_M_deedOf hY' hk (by decide) ?_)
          rw [show yAt Y k 0 = nI (yk Y k) from hok.1]
          refine mm_ciN 1 d_M_after_102 rfl ?_
          refine mm_icmp_neN d_M_after_103 (by first | omega | exact ite01_lt | exact bt8_lt31 _ _ | exact godB_lt31 _ _ _ | exact pop_lt31 _ | assumption | exact b31 (hW.gp (by omega)) | exact b31 (hW.ne (by omega)) | exact b31 (hW.op (by omega)) | exact and31 (hW.gp (by omega)) | exact and31 (hW.ne (by omega)) | exact and31 (hW.op (by omega)) | exact and31 (by assumption) | exact and31r (hW.ne (by omega)) | exact and31r (hW.gp (by omega)) | exact and31r (by decide)) (by first | omega | exact ite01_lt | exact bt8_lt31 _ _ | exact godB_lt31 _ _ _ | exact pop_lt31 _ | assumption | exact b31 (hW.gp (by omega)) | exact b31 (hW.ne (by omega)) | exact b31 (hW.op (by omega)) | exact and31 (hW.gp (by omega)) | exact and31 (hW.ne (by omega)) | exact and31 (hW.op (by omega)) | exact and31 (by assumption) | exact and31r (hW.ne (by omega)) | exact and31r (hW.gp (by omega)) | exact and31r (by decide)) (fun c_103 => ?_) (fun c_103 => ?_)
          · refine mm_ciN 0 d_M_after_110 rfl ?_
            refine mm_iaddN d_M_after_111 ?_
            refine mm_ist7 d_M_after_112 ?_
            refine mm_iload d_M_after_114 rfl ?_
            refine mm_ci d_M_after_116 ?_
            refine mm_icmp_neS d_M_after_117 ?_
            refine mm_aload d_M_after_120 rfl ?_
            refine mm_getIN d_M_after_121 rfl (sk_o_71 hM) hF.B ?_
            refine mm_if_leN d_M_after_124 (by first | omega | exact ite01_lt | exact bt8_lt31 _ _ | exact godB_lt31 _ _ _ | exact pop_lt31 _ | assumption | exact b31 (hW.gp (by omega)) | exact b31 (hW.ne (by omega)) | exact b31 (hW.op (by omega)) | exact and31 (hW.gp (by omega)) | exact and31 (hW.ne (by omega)) | exact and31 (hW.op (by omega)) | exact and31 (by assumption) | exact and31r (hW.ne (by omega)) | exact and31r (hW.gp (by omega)) | exact and31r (by decide)) (fun c_124 => False.elim (by omega)) (fun c_124 => ?_)
            refine mm_iload d_M_after_127 rfl ?_
            refine mm_goto d_M_after_129 ?_
            refine mm_ist4 d_M_after_134 ?_
            refine mm_iload d_M_after_136 rfl ?_
            refine mm_ci d_M_after_138 ?_
            refine mm_icmp_neS d_M_after_139 ?_
            refine mm_aload d_M_after_142 rfl ?_
            refine mm_v0i d_M_after_143 (sk_o_71 hM) (sp_M_fc1 hS' hwf'.1 c3 c5 ?_)
            refine mm_goto d_M_after_146 ?_
            refine mm_ist5 d_M_after_151 ?_
            refine mm_inc9N d_M_after_153 ?_
            refine mm_goto d_M_after_156 ?_
            first
              | (rw [if_neg c_103] at z; exact z)
              | (rw [if_pos c_103] at z; exact z)
          · refine mm_ciN 1 d_M_after_106 rfl ?_
            refine mm_goto d_M_after_107 ?_
            refine mm_iaddN d_M_after_111 ?_
            refine mm_ist7 d_M_after_112 ?_
            refine mm_iload d_M_after_114 rfl ?_
            refine mm_ci d_M_after_116 ?_
            refine mm_icmp_neS d_M_after_117 ?_
            refine mm_aload d_M_after_120 rfl ?_
            refine mm_getIN d_M_after_121 rfl (sk_o_71 hM) hF.B ?_
            refine mm_if_leN d_M_after_124 (by first | omega | exact ite01_lt | exact bt8_lt31 _ _ | exact godB_lt31 _ _ _ | exact pop_lt31 _ | assumption | exact b31 (hW.gp (by omega)) | exact b31 (hW.ne (by omega)) | exact b31 (hW.op (by omega)) | exact and31 (hW.gp (by omega)) | exact and31 (hW.ne (by omega)) | exact and31 (hW.op (by omega)) | exact and31 (by assumption) | exact and31r (hW.ne (by omega)) | exact and31r (hW.gp (by omega)) | exact and31r (by decide)) (fun c_124 => False.elim (by omega)) (fun c_124 => ?_)
            refine mm_iload d_M_after_127 rfl ?_
            refine mm_goto d_M_after_129 ?_
            refine mm_ist4 d_M_after_134 ?_
            refine mm_iload d_M_after_136 rfl ?_
            refine mm_ci d_M_after_138 ?_
            refine mm_icmp_neS d_M_after_139 ?_
            refine mm_aload d_M_after_142 rfl ?_
            refine mm_v0i d_M_after_143 (sk_o_71 hM) (sp_M_fc1 hS' hwf'.1 c3 c5 ?_)
            refine mm_goto d_M_after_146 ?_
            refine mm_ist5 d_M_after_151 ?_
            refine mm_inc9N d_M_after_153 ?_
            refine mm_goto d_M_after_156 ?_
            first
              | (rw [if_neg c_103] at z; exact z)
              | (rw [if_pos c_103] at z; exact z)
      · have c := stepB (k := k) (kd := yk Y k) hok.2.2 b1 b4 hd
        have hx := hxw.2 x b1
        rw [c.1, c.2.1, b1, b3] at z
        rw [b1, b3]
        refine mm_if_eqN d_M_after_78 (by first | omega | exact ite01_lt | exact bt8_lt31 _ _ | exact godB_lt31 _ _ _ | exact pop_lt31 _ | assumption | exact b31 (hW.gp (by omega)) | exact b31 (hW.ne (by omega)) | exact b31 (hW.op (by omega)) | exact and31 (hW.gp (by omega)) | exact and31 (hW.ne (by omega)) | exact and31 (hW.op (by omega)) | exact and31 (by assumption) | exact and31r (hW.ne (by omega)) | exact and31r (hW.gp (by omega)) | exact and31r (by decide)) (fun c_78 => False.elim (by omega)) (fun c_78 => ?_)
        refine mm_ciN 1 d_M_after_81 rfl ?_
        refine mm_goto d_M_after_82 ?_
        refine mm_ist8 d_M_after_86 ?_
        refine mm_iload d_M_after_88 rfl ?_
        refine mm_iload d_M_after_90 rfl ?_
        refine mm_if_eqN d_M_after_92 (by first | omega | exact ite01_lt | exact bt8_lt31 _ _ | exact godB_lt31 _ _ _ | exact pop_lt31 _ | assumption | exact b31 (hW.gp (by omega)) | exact b31 (hW.ne (by omega)) | exact b31 (hW.op (by omega)) | exact and31 (hW.gp (by omega)) | exact and31 (hW.ne (by omega)) | exact and31 (hW.op (by omega)) | exact and31 (by assumption) | exact and31r (hW.ne (by omega)) | exact and31r (hW.gp (by omega)) | exact and31r (by decide)) (fun c_92 => False.elim (by omega)) (fun c_92 => ?_)
        refine mm_aload d_M_after_95 rfl ?_
        refine mm_iload d_M_after_96 rfl ?_
        refine mm_ciN 0 d_M_after_98 rfl ?_
        refine mm_v2i d_M_after_99 (sk_o_71 hM) (sp_M_deedOf hY' hk (by decide) ?_)
        rw [show yAt Y k 0 = nI (yk Y k) from hok.1]
        refine mm_ciN 1 d_M_after_102 rfl ?_
        refine mm_icmp_neN d_M_after_103 (by first | omega | exact ite01_lt | exact bt8_lt31 _ _ | exact godB_lt31 _ _ _ | exact pop_lt31 _ | assumption | exact b31 (hW.gp (by omega)) | exact b31 (hW.ne (by omega)) | exact b31 (hW.op (by omega)) | exact and31 (hW.gp (by omega)) | exact and31 (hW.ne (by omega)) | exact and31 (hW.op (by omega)) | exact and31 (by assumption) | exact and31r (hW.ne (by omega)) | exact and31r (hW.gp (by omega)) | exact and31r (by decide)) (by first | omega | exact ite01_lt | exact bt8_lt31 _ _ | exact godB_lt31 _ _ _ | exact pop_lt31 _ | assumption | exact b31 (hW.gp (by omega)) | exact b31 (hW.ne (by omega)) | exact b31 (hW.op (by omega)) | exact and31 (hW.gp (by omega)) | exact and31 (hW.ne (by omega)) | exact and31 (hW.op (by omega)) | exact and31 (by assumption) | exact and31r (hW.ne (by omega)) | exact and31r (hW.gp (by omega)) | exact and31r (by decide)) (fun c_103 => ?_) (fun c_103 => ?_)
        · refine mm_ciN 0 d_M_after_110 rfl ?_
          refine mm_iaddN d_M_after_111 ?_
          refine mm_ist7 d_M_after_112 ?_
          refine mm_iload d_M_after_114 rfl ?_
          refine mm_ci d_M_after_116 ?_
          refine mm_icmp_neM1 d_M_after_117 (by first | omega | exact ite01_lt | exact bt8_lt31 _ _ | exact godB_lt31 _ _ _ | exact pop_lt31 _ | assumption | exact b31 (hW.gp (by omega)) | exact b31 (hW.ne (by omega)) | exact b31 (hW.op (by omega)) | exact and31 (hW.gp (by omega)) | exact and31 (hW.ne (by omega)) | exact and31 (hW.op (by omega)) | exact and31 (by assumption) | exact and31r (hW.ne (by omega)) | exact and31r (hW.gp (by omega)) | exact and31r (by decide)) ?_
          refine mm_iload d_M_after_132 rfl ?_
          refine mm_ist4 d_M_after_134 ?_
          refine mm_iload d_M_after_136 rfl ?_
          refine mm_ci d_M_after_138 ?_
          refine mm_icmp_neM1 d_M_after_139 (by first | omega | exact ite01_lt | exact bt8_lt31 _ _ | exact godB_lt31 _ _ _ | exact pop_lt31 _ | assumption | exact b31 (hW.gp (by omega)) | exact b31 (hW.ne (by omega)) | exact b31 (hW.op (by omega)) | exact and31 (hW.gp (by omega)) | exact and31 (hW.ne (by omega)) | exact and31 (hW.op (by omega)) | exact and31 (by assumption) | exact and31r (hW.ne (by omega)) | exact and31r (hW.gp (by omega)) | exact and31r (by decide)) ?_
          refine mm_iload d_M_after_149 rfl ?_
          refine mm_ist5 d_M_after_151 ?_
          refine mm_inc9N d_M_after_153 ?_
          refine mm_goto d_M_after_156 ?_
          first
            | (rw [if_neg c_103] at z; exact z)
            | (rw [if_pos c_103] at z; exact z)
        · refine mm_ciN 1 d_M_after_106 rfl ?_
          refine mm_goto d_M_after_107 ?_
          refine mm_iaddN d_M_after_111 ?_
          refine mm_ist7 d_M_after_112 ?_
          refine mm_iload d_M_after_114 rfl ?_
          refine mm_ci d_M_after_116 ?_
          refine mm_icmp_neM1 d_M_after_117 (by first | omega | exact ite01_lt | exact bt8_lt31 _ _ | exact godB_lt31 _ _ _ | exact pop_lt31 _ | assumption | exact b31 (hW.gp (by omega)) | exact b31 (hW.ne (by omega)) | exact b31 (hW.op (by omega)) | exact and31 (hW.gp (by omega)) | exact and31 (hW.ne (by omega)) | exact and31 (hW.op (by omega)) | exact and31 (by assumption) | exact and31r (hW.ne (by omega)) | exact and31r (hW.gp (by omega)) | exact and31r (by decide)) ?_
          refine mm_iload d_M_after_132 rfl ?_
          refine mm_ist4 d_M_after_134 ?_
          refine mm_iload d_M_after_136 rfl ?_
          refine mm_ci d_M_after_138 ?_
          refine mm_icmp_neM1 d_M_after_139 (by first | omega | exact ite01_lt | exact bt8_lt31 _ _ | exact godB_lt31 _ _ _ | exact pop_lt31 _ | assumption | exact b31 (hW.gp (by omega)) | exact b31 (hW.ne (by omega)) | exact b31 (hW.op (by omega)) | exact and31 (hW.gp (by omega)) | exact and31 (hW.ne (by omega)) | exact and31 (hW.op (by omega)) | exact and31 (by assumption) | exact and31r (hW.ne (by omega)) | exact and31r (hW.gp (by omega)) | exact and31r (by decide)) ?_
          refine mm_iload d_M_after_149 rfl ?_
          refine mm_ist5 d_M_after_151 ?_
          refine mm_inc9N d_M_after_153 ?_
          refine mm_goto d_M_after_156 ?_
          first
            | (rw [if_neg c_103] at z; exact z)
            | (rw [if_pos c_103] at z; exact z)
    refine mm_iload d_M_after_44 rfl ?_
    refine mm_if_eqN d_M_after_46 (by first | omega | exact ite01_lt | exact bt8_lt31 _ _ | exact godB_lt31 _ _ _ | exact pop_lt31 _ | assumption | exact b31 (hW.gp (by omega)) | exact b31 (hW.ne (by omega)) | exact b31 (hW.op (by omega)) | exact and31 (hW.gp (by omega)) | exact and31 (hW.ne (by omega)) | exact and31 (hW.op (by omega)) | exact and31 (by assumption) | exact and31r (hW.ne (by omega)) | exact and31r (hW.gp (by omega)) | exact and31r (by decide)) (fun c_46 => False.elim (by omega)) (fun c_46 => ?_)
    refine mm_iload d_M_after_49 rfl ?_
    refine mm_aload d_M_after_51 rfl ?_
    refine mm_getIN d_M_after_52 rfl (sk_o_71 hM) hF.H ?_
    refine mm_s1i d_M_after_55 (sp_M_ones (by first | omega | assumption | exact hW.gp (by omega) | exact hW.ne (by omega) | exact hW.op (by omega) | exact and_lt256 (hW.gp (by omega)) | exact and_lt256 (hW.ne (by omega)) | exact and_lt256 (hW.op (by omega)) | exact and_lt256 (by assumption)) ?_)
    refine mm_s2i d_M_after_58 (sp_M_greaterN (by first | omega | exact ite01_lt | exact bt8_lt31 _ _ | exact godB_lt31 _ _ _ | exact pop_lt31 _ | assumption | exact b31 (hW.gp (by omega)) | exact b31 (hW.ne (by omega)) | exact b31 (hW.op (by omega)) | exact and31 (hW.gp (by omega)) | exact and31 (hW.ne (by omega)) | exact and31 (hW.op (by omega)) | exact and31 (by assumption) | exact and31r (hW.ne (by omega)) | exact and31r (hW.gp (by omega)) | exact and31r (by decide)) (by first | omega | exact ite01_lt | exact bt8_lt31 _ _ | exact godB_lt31 _ _ _ | exact pop_lt31 _ | assumption | exact b31 (hW.gp (by omega)) | exact b31 (hW.ne (by omega)) | exact b31 (hW.op (by omega)) | exact and31 (hW.gp (by omega)) | exact and31 (hW.ne (by omega)) | exact and31 (hW.op (by omega)) | exact and31 (by assumption) | exact and31r (hW.ne (by omega)) | exact and31r (hW.gp (by omega)) | exact and31r (by decide)) ?_)
    rw [hmx]
    refine mm_ist6 d_M_after_61 ?_
    refine mm_iload d_M_after_63 rfl ?_
    refine mm_aload d_M_after_65 rfl ?_
    refine mm_v0i d_M_after_66 (sk_o_71 hM) (sp_M_deeds hY ?_)
    refine mm_icmp_geN d_M_after_69 (by first | omega | exact ite01_lt | exact bt8_lt31 _ _ | exact godB_lt31 _ _ _ | exact pop_lt31 _ | assumption | exact b31 (hW.gp (by omega)) | exact b31 (hW.ne (by omega)) | exact b31 (hW.op (by omega)) | exact and31 (hW.gp (by omega)) | exact and31 (hW.ne (by omega)) | exact and31 (hW.op (by omega)) | exact and31 (by assumption) | exact and31r (hW.ne (by omega)) | exact and31r (hW.gp (by omega)) | exact and31r (by decide)) (by first | omega | exact ite01_lt | exact bt8_lt31 _ _ | exact godB_lt31 _ _ _ | exact pop_lt31 _ | assumption | exact b31 (hW.gp (by omega)) | exact b31 (hW.ne (by omega)) | exact b31 (hW.op (by omega)) | exact and31 (hW.gp (by omega)) | exact and31 (hW.ne (by omega)) | exact and31 (hW.op (by omega)) | exact and31 (by assumption) | exact and31r (hW.ne (by omega)) | exact and31r (hW.gp (by omega)) | exact and31r (by decide)) (fun c_69 => False.elim (by omega)) (fun c_69 => ?_)
    refine mm_aload d_M_after_72 rfl ?_
    refine mm_iload d_M_after_73 rfl ?_
    refine mm_v1i d_M_after_75 (sk_o_71 hM) (sp_M_doesDeed hS hwf hY hk (fun σ' hd μ' hS' hm' => ?_) (fun hd => ?_))
    · exact sc σ' hd μ' hS' hm'
    · refine mm_if_eqN d_M_after_78 (by decide) (fun _ => ?_) (fun z => absurd rfl z)
      exact fl k ν σ (by omega) hr (lvF_at' hr ((rn_s hr).trans hd) hk) hS hf
theorem pair_after {X : mm_X} {k : Nat} {μ : mm_M} (hJ : JJ k μ) (y1 y2 y3 : Int32) : PairI X (JJ (k + 1)) k_G_after k_M_after [.int y1, .int y2, .int y3] μ := by
  obtain ⟨c, h02, h0, m0, hv⟩ := hJ.coast y1
  obtain ⟨c', h02', h0', m0', hv'⟩ := hJ.year y2
  have hM := hJ.1
  have hw := hJ.2.2.2.up
  rcases hv' with hz | ⟨l, Y, hl, rfl, hWY, hYD, hYM⟩
  · refine pairQ (-2) hJ (d := 12) (d' := 4) (by decide) (by decide) ?_ (fun μ1 hf => n_M_after (hf.2.2.2 hM) (by rw [(hf.2.2.1 76 rfl).1]; exact m0') h02' hz (fun μ' hk => ⟨rfl, hk.fr (hf.2.2.2 hM)⟩))
    rcases hv with hx | ⟨i, D, hi, rfl, hW, hCD, hDM⟩
    · show mm_T X 12 0 0 k_G_after 0 [some (.ref 0), some (.int y1), some (.int y2), some (.int y3), none, none] [] μ _
      refine mm_aload d_G_after_0 rfl ?_
      refine mm_getP d_G_after_1 rfl (sk_o_0 hM) (sk_p_0_0 hM) ?_
      refine mm_iload d_G_after_4 rfl ?_
      refine mm_v1r d_G_after_5 (sk_o_1 hM) (sp_To_coastAt0 hM h0 h02 hx ?_)
      refine mm_astN4 d_G_after_8 ?_
      refine mm_aload d_G_after_10 rfl ?_
      refine mm_getP d_G_after_11 rfl (sk_o_0 hM) (sk_p_0_0 hM) ?_
      refine mm_iload d_G_after_14 rfl ?_
      refine mm_v1r d_G_after_15 (sk_o_1 hM) (sp_To_yearAt0 hM h0' h02' hz ?_)
      refine mm_astN5 d_G_after_18 ?_
      refine mm_aloadN d_G_after_20 rfl ?_
      refine mm_ifnullN d_G_after_22 ?_
      refine mm_ci d_G_after_30 ?_
      exact mm_ri d_G_after_32 ⟨rfl, Fr.rf, hw⟩
    · show mm_T X 12 0 0 k_G_after 0 [some (.ref 0), some (.int (nI i)), some (.int y2), some (.int y3), none, none] [] μ _
      refine mm_aload d_G_after_0 rfl ?_
      refine mm_getP d_G_after_1 rfl (sk_o_0 hM) (sk_p_0_0 hM) ?_
      refine mm_iload d_G_after_4 rfl ?_
      refine mm_v1r d_G_after_5 (sk_o_1 hM) (sp_To_coastAtI hM h0 h02 hi ?_)
      refine mm_ast4 d_G_after_8 ?_
      refine mm_aload d_G_after_10 rfl ?_
      refine mm_getP d_G_after_11 rfl (sk_o_0 hM) (sk_p_0_0 hM) ?_
      refine mm_iload d_G_after_14 rfl ?_
      refine mm_v1r d_G_after_15 (sk_o_1 hM) (sp_To_yearAt0 hM h0' h02' hz ?_)
      refine mm_astN5 d_G_after_18 ?_
      refine mm_aload d_G_after_20 rfl ?_
      refine mm_ifnull d_G_after_22 ?_
      refine mm_aloadN d_G_after_25 rfl ?_
      refine mm_ifnonnullN d_G_after_27 ?_
      refine mm_ci d_G_after_30 ?_
      exact mm_ri d_G_after_32 ⟨rfl, Fr.rf, hw⟩
  · rcases hv with hx | ⟨i, D, hi, rfl, hW, hCD, hDM⟩
    · refine pairQ (-2) hJ (d := 12) (d' := 12) (by decide) (by decide) ?_ (fun μ1 hf => ?_)
      · show mm_T X 12 0 0 k_G_after 0 [some (.ref 0), some (.int y1), some (.int (nI l)), some (.int y3), none, none] [] μ _
        refine mm_aload d_G_after_0 rfl ?_
        refine mm_getP d_G_after_1 rfl (sk_o_0 hM) (sk_p_0_0 hM) ?_
        refine mm_iload d_G_after_4 rfl ?_
        refine mm_v1r d_G_after_5 (sk_o_1 hM) (sp_To_coastAt0 hM h0 h02 hx ?_)
        refine mm_astN4 d_G_after_8 ?_
        refine mm_aload d_G_after_10 rfl ?_
        refine mm_getP d_G_after_11 rfl (sk_o_0 hM) (sk_p_0_0 hM) ?_
        refine mm_iload d_G_after_14 rfl ?_
        refine mm_v1r d_G_after_15 (sk_o_1 hM) (sp_To_yearAtI hM h0' h02' hl ?_)
        refine mm_ast5 d_G_after_18 ?_
        refine mm_aloadN d_G_after_20 rfl ?_
        refine mm_ifnullN d_G_after_22 ?_
        refine mm_ci d_G_after_30 ?_
        exact mm_ri d_G_after_32 ⟨rfl, Fr.rf, hw⟩
      · show mm_T X 12 0 0 k_M_after 0 [some (.ref 71), some (.int y1), some (.int (nI l)), some (.int y3), none, none, none, none, none, none] [] μ1 _
        replace hM := hf.2.2.2 hM
        refine mm_aload d_M_after_0 rfl ?_
        refine mm_ciN 0 d_M_after_1 rfl ?_
        refine mm_putI d_M_after_2 rfl (sk_o_71 hM) (Or.inl rfl) ?_
        refine mm_aload d_M_after_5 rfl ?_
        refine mm_iload d_M_after_6 rfl ?_
        refine mm_iload d_M_after_7 rfl ?_
        refine mm_v2i d_M_after_8 (sk_o_71 hM) (sp_M_layAll0 hM (by rw [mm_sI_off (by decide), (hf.2.2.1 76 rfl).1]; exact m0') h02' hl ((hYM.frC hf rfl).sI) hWY (by rw [mm_sI_off (by decide), (hf.2.2.1 76 rfl).1]; exact m0) h02 hx (fun μ2 g1 => ?_))
        refine mm_if_eqN d_M_after_11 (by first | omega | exact ite01_lt | exact bt8_lt31 _ _ | exact godB_lt31 _ _ _ | exact pop_lt31 _ | assumption | exact b31 (hW.gp (by omega)) | exact b31 (hW.ne (by omega)) | exact b31 (hW.op (by omega)) | exact and31 (hW.gp (by omega)) | exact and31 (hW.ne (by omega)) | exact and31 (hW.op (by omega)) | exact and31 (by assumption) | exact and31r (hW.ne (by omega)) | exact and31r (hW.gp (by omega)) | exact and31r (by decide)) (fun c_11 => ?_) (fun c_11 => False.elim (by omega))
        refine mm_ci d_M_after_23 ?_
        exact mm_ri d_M_after_25 ⟨rfl, (Fr.rf.sI rfl).trans g1⟩
    · have hn6 := hW.1
      have hw6 := hW.2.1
      obtain ⟨σe, he⟩ := lvF_some (D := D) (Y := Y) Y.1
      have hle := lvF_le D Y Y.1
      have h40 := hWY.1
      have hbd := rn_bd hW hWY hle he
      rcases rng_or y3 (a := 0) (b := 5) (by decide) (by decide) with ⟨hz, hz2⟩ | ⟨t, -, ht, rfl⟩
      · refine pairQ (-2) hJ (d := 12) (d' := 12) (by decide) (by decide) ?_ (fun μ1 hf => ?_)
        · show mm_T X 12 0 0 k_G_after 0 [some (.ref 0), some (.int (nI i)), some (.int (nI l)), some (.int y3), none, none] [] μ _
          refine mm_aload d_G_after_0 rfl ?_
          refine mm_getP d_G_after_1 rfl (sk_o_0 hM) (sk_p_0_0 hM) ?_
          refine mm_iload d_G_after_4 rfl ?_
          refine mm_v1r d_G_after_5 (sk_o_1 hM) (sp_To_coastAtI hM h0 h02 hi ?_)
          refine mm_ast4 d_G_after_8 ?_
          refine mm_aload d_G_after_10 rfl ?_
          refine mm_getP d_G_after_11 rfl (sk_o_0 hM) (sk_p_0_0 hM) ?_
          refine mm_iload d_G_after_14 rfl ?_
          refine mm_v1r d_G_after_15 (sk_o_1 hM) (sp_To_yearAtI hM h0' h02' hl ?_)
          refine mm_ast5 d_G_after_18 ?_
          refine mm_aload d_G_after_20 rfl ?_
          refine mm_ifnull d_G_after_22 ?_
          refine mm_aload d_G_after_25 rfl ?_
          refine mm_ifnonnull d_G_after_27 ?_
          refine mm_aload d_G_after_33 rfl ?_
          refine mm_getP d_G_after_34 rfl (sk_o_0 hM) (sk_p_0_3 hM) ?_
          refine mm_aload d_G_after_37 rfl ?_
          refine mm_aload d_G_after_39 rfl ?_
          refine mm_aload d_G_after_41 rfl ?_
          refine mm_getIN d_G_after_43 rfl hYD.1.1 hYD.2.1 ?_
          refine mm_v3i d_G_after_46 (sk_o_53 hM) (sp_Da_live hM (by omega) (by omega) hCD hW hYD hWY (Nat.le_refl _) (fun μ2 σ hr hS g1 => ?_))
          refine mm_pop d_G_after_49 rfl ?_
          refine mm_iload d_G_after_50 rfl ?_
          refine mm_switchOut (n := 0) d_G_after_51 (by rcases hz2 with z | z; exact Or.inl (Int32.lt_iff_toInt_lt.mp z); exact Or.inr (Int32.lt_iff_toInt_lt.mp z)) ?_
          refine mm_ci d_G_after_144 ?_
          exact mm_ri d_G_after_146 ⟨rfl, g1.DC, hw.frD g1⟩
        · show mm_T X 12 0 0 k_M_after 0 [some (.ref 71), some (.int (nI i)), some (.int (nI l)), some (.int y3), none, none, none, none, none, none] [] μ1 _
          replace hM := hf.2.2.2 hM
          replace m0 : mm_I μ1 76 0 = nI c := by rw [(hf.2.2.1 76 rfl).1]; exact m0
          replace hDM := hDM.frC hf
          refine mm_aload d_M_after_0 rfl ?_
          refine mm_ciN 0 d_M_after_1 rfl ?_
          refine mm_putI d_M_after_2 rfl (sk_o_71 hM) (Or.inl rfl) ?_
          refine mm_aload d_M_after_5 rfl ?_
          refine mm_iload d_M_after_6 rfl ?_
          refine mm_iload d_M_after_7 rfl ?_
          refine mm_v2i d_M_after_8 (sk_o_71 hM) (sp_M_layAllT hM (by rw [mm_sI_off (by decide), (hf.2.2.1 76 rfl).1]; exact m0') h02' hl ((hYM.frC hf rfl).sI) hWY (by rw [mm_sI_off (by decide)]; exact m0) h02 hi (hDM.eq (mm_sI_off (by decide))) hW (fun μ2 g1 hS hY => ?_))
          replace hM := hS.1.1
          refine mm_if_eqN d_M_after_11 (by first | omega | exact ite01_lt | exact bt8_lt31 _ _ | exact godB_lt31 _ _ _ | exact pop_lt31 _ | assumption | exact b31 (hW.gp (by omega)) | exact b31 (hW.ne (by omega)) | exact b31 (hW.op (by omega)) | exact and31 (hW.gp (by omega)) | exact and31 (hW.ne (by omega)) | exact and31 (hW.op (by omega)) | exact and31 (by assumption) | exact and31r (hW.ne (by omega)) | exact and31r (hW.gp (by omega)) | exact and31r (by decide)) (fun c_11 => False.elim (by omega)) (fun c_11 => ?_)
          refine mm_iload d_M_after_14 rfl ?_
          refine mm_ciN 0 d_M_after_15 rfl ?_
          refine mm_ciN 5 d_M_after_16 rfl ?_
          refine mm_s3i d_M_after_17 (sp_M_inB hz ?_)
          refine mm_if_neN d_M_after_20 (by first | omega | exact ite01_lt | exact bt8_lt31 _ _ | exact godB_lt31 _ _ _ | exact pop_lt31 _ | assumption | exact b31 (hW.gp (by omega)) | exact b31 (hW.ne (by omega)) | exact b31 (hW.op (by omega)) | exact and31 (hW.gp (by omega)) | exact and31 (hW.ne (by omega)) | exact and31 (hW.op (by omega)) | exact and31 (by assumption) | exact and31r (hW.ne (by omega)) | exact and31r (hW.gp (by omega)) | exact and31r (by decide)) (fun c_20 => False.elim (by omega)) (fun c_20 => ?_)
          refine mm_ci d_M_after_23 ?_
          exact mm_ri d_M_after_25 ⟨rfl, (Fr.rf.sI rfl).trans g1⟩
      · refine pairQ (afR D σe (rx D Y (mm_I μ 53 13) (lvF D Y Y.1)) t) hJ (d := 12) (d' := 12) (by decide) (by decide) ?_ (fun μ1 hf => ?_)
        · have hts : t = 0 ∨ t = 1 ∨ t = 2 ∨ t = 3 ∨ t = 4 ∨ t = 5 := by omega
          rcases hts with rfl | rfl | rfl | rfl | rfl | rfl
          · show mm_T X 12 0 0 k_G_after 0 [some (.ref 0), some (.int (nI i)), some (.int (nI l)), some (.int (nI 0)), none, none] [] μ _
            refine mm_aload d_G_after_0 rfl ?_
            refine mm_getP d_G_after_1 rfl (sk_o_0 hM) (sk_p_0_0 hM) ?_
            refine mm_iload d_G_after_4 rfl ?_
            refine mm_v1r d_G_after_5 (sk_o_1 hM) (sp_To_coastAtI hM h0 h02 hi ?_)
            refine mm_ast4 d_G_after_8 ?_
            refine mm_aload d_G_after_10 rfl ?_
            refine mm_getP d_G_after_11 rfl (sk_o_0 hM) (sk_p_0_0 hM) ?_
            refine mm_iload d_G_after_14 rfl ?_
            refine mm_v1r d_G_after_15 (sk_o_1 hM) (sp_To_yearAtI hM h0' h02' hl ?_)
            refine mm_ast5 d_G_after_18 ?_
            refine mm_aload d_G_after_20 rfl ?_
            refine mm_ifnull d_G_after_22 ?_
            refine mm_aload d_G_after_25 rfl ?_
            refine mm_ifnonnull d_G_after_27 ?_
            refine mm_aload d_G_after_33 rfl ?_
            refine mm_getP d_G_after_34 rfl (sk_o_0 hM) (sk_p_0_3 hM) ?_
            refine mm_aload d_G_after_37 rfl ?_
            refine mm_aload d_G_after_39 rfl ?_
            refine mm_aload d_G_after_41 rfl ?_
            refine mm_getIN d_G_after_43 rfl hYD.1.1 hYD.2.1 ?_
            refine mm_v3i d_G_after_46 (sk_o_53 hM) (sp_Da_live hM (by omega) (by omega) hCD hW hYD hWY (Nat.le_refl _) (fun μ2 σ hr hS g1 => ?_))
            rw [he] at hr
            cases hr
            replace hM := hS.1
            replace hCD := hS.2.2.1
            refine mm_pop d_G_after_49 rfl ?_
            refine mm_iload d_G_after_50 rfl ?_
            refine mm_switchIn (n := 0) d_G_after_51 0 (by decide) (by decide) rfl ?_
            refine mm_aload d_G_after_88 rfl ?_
            refine mm_getP d_G_after_89 rfl (sk_o_0 hM) (sk_p_0_3 hM) ?_
            refine mm_getIV d_G_after_92 rfl (sk_o_53 hM) hS.2.2.2.2.vO ?_
            exact mm_ri d_G_after_95 ⟨rfl, g1.DC, hw.frD g1⟩
          · show mm_T X 12 0 0 k_G_after 0 [some (.ref 0), some (.int (nI i)), some (.int (nI l)), some (.int (nI 1)), none, none] [] μ _
            refine mm_aload d_G_after_0 rfl ?_
            refine mm_getP d_G_after_1 rfl (sk_o_0 hM) (sk_p_0_0 hM) ?_
            refine mm_iload d_G_after_4 rfl ?_
            refine mm_v1r d_G_after_5 (sk_o_1 hM) (sp_To_coastAtI hM h0 h02 hi ?_)
            refine mm_ast4 d_G_after_8 ?_
            refine mm_aload d_G_after_10 rfl ?_
            refine mm_getP d_G_after_11 rfl (sk_o_0 hM) (sk_p_0_0 hM) ?_
            refine mm_iload d_G_after_14 rfl ?_
            refine mm_v1r d_G_after_15 (sk_o_1 hM) (sp_To_yearAtI hM h0' h02' hl ?_)
            refine mm_ast5 d_G_after_18 ?_
            refine mm_aload d_G_after_20 rfl ?_
            refine mm_ifnull d_G_after_22 ?_
            refine mm_aload d_G_after_25 rfl ?_
            refine mm_ifnonnull d_G_after_27 ?_
            refine mm_aload d_G_after_33 rfl ?_
            refine mm_getP d_G_after_34 rfl (sk_o_0 hM) (sk_p_0_3 hM) ?_
            refine mm_aload d_G_after_37 rfl ?_
            refine mm_aload d_G_after_39 rfl ?_
            refine mm_aload d_G_after_41 rfl ?_
            refine mm_getIN d_G_after_43 rfl hYD.1.1 hYD.2.1 ?_
            refine mm_v3i d_G_after_46 (sk_o_53 hM) (sp_Da_live hM (by omega) (by omega) hCD hW hYD hWY (Nat.le_refl _) (fun μ2 σ hr hS g1 => ?_))
            rw [he] at hr
            cases hr
            replace hM := hS.1
            replace hCD := hS.2.2.1
            refine mm_pop d_G_after_49 rfl ?_
            refine mm_iload d_G_after_50 rfl ?_
            refine mm_switchIn (n := 0) d_G_after_51 1 (by decide) (by decide) rfl ?_
            refine mm_aload d_G_after_96 rfl ?_
            refine mm_getP d_G_after_97 rfl (sk_o_0 hM) (sk_p_0_3 hM) ?_
            refine mm_getIV d_G_after_100 rfl (sk_o_53 hM) hS.2.2.2.2.vW ?_
            exact mm_ri d_G_after_103 ⟨rfl, g1.DC, hw.frD g1⟩
          · show mm_T X 12 0 0 k_G_after 0 [some (.ref 0), some (.int (nI i)), some (.int (nI l)), some (.int (nI 2)), none, none] [] μ _
            refine mm_aload d_G_after_0 rfl ?_
            refine mm_getP d_G_after_1 rfl (sk_o_0 hM) (sk_p_0_0 hM) ?_
            refine mm_iload d_G_after_4 rfl ?_
            refine mm_v1r d_G_after_5 (sk_o_1 hM) (sp_To_coastAtI hM h0 h02 hi ?_)
            refine mm_ast4 d_G_after_8 ?_
            refine mm_aload d_G_after_10 rfl ?_
            refine mm_getP d_G_after_11 rfl (sk_o_0 hM) (sk_p_0_0 hM) ?_
            refine mm_iload d_G_after_14 rfl ?_
            refine mm_v1r d_G_after_15 (sk_o_1 hM) (sp_To_yearAtI hM h0' h02' hl ?_)
            refine mm_ast5 d_G_after_18 ?_
            refine mm_aload d_G_after_20 rfl ?_
            refine mm_ifnull d_G_after_22 ?_
            refine mm_aload d_G_after_25 rfl ?_
            refine mm_ifnonnull d_G_after_27 ?_
            refine mm_aload d_G_after_33 rfl ?_
            refine mm_getP d_G_after_34 rfl (sk_o_0 hM) (sk_p_0_3 hM) ?_
            refine mm_aload d_G_after_37 rfl ?_
            refine mm_aload d_G_after_39 rfl ?_
            refine mm_aload d_G_after_41 rfl ?_
            refine mm_getIN d_G_after_43 rfl hYD.1.1 hYD.2.1 ?_
            refine mm_v3i d_G_after_46 (sk_o_53 hM) (sp_Da_live hM (by omega) (by omega) hCD hW hYD hWY (Nat.le_refl _) (fun μ2 σ hr hS g1 => ?_))
            rw [he] at hr
            cases hr
            replace hM := hS.1
            replace hCD := hS.2.2.1
            refine mm_pop d_G_after_49 rfl ?_
            refine mm_iload d_G_after_50 rfl ?_
            refine mm_switchIn (n := 0) d_G_after_51 2 (by decide) (by decide) rfl ?_
            refine mm_aload d_G_after_104 rfl ?_
            refine mm_getP d_G_after_105 rfl (sk_o_0 hM) (sk_p_0_3 hM) ?_
            refine mm_getIN d_G_after_108 rfl (sk_o_53 hM) hS.2.2.2.2.vM ?_
            exact mm_ri d_G_after_111 ⟨rfl, g1.DC, hw.frD g1⟩
          · show mm_T X 12 0 0 k_G_after 0 [some (.ref 0), some (.int (nI i)), some (.int (nI l)), some (.int (nI 3)), none, none] [] μ _
            refine mm_aload d_G_after_0 rfl ?_
            refine mm_getP d_G_after_1 rfl (sk_o_0 hM) (sk_p_0_0 hM) ?_
            refine mm_iload d_G_after_4 rfl ?_
            refine mm_v1r d_G_after_5 (sk_o_1 hM) (sp_To_coastAtI hM h0 h02 hi ?_)
            refine mm_ast4 d_G_after_8 ?_
            refine mm_aload d_G_after_10 rfl ?_
            refine mm_getP d_G_after_11 rfl (sk_o_0 hM) (sk_p_0_0 hM) ?_
            refine mm_iload d_G_after_14 rfl ?_
            refine mm_v1r d_G_after_15 (sk_o_1 hM) (sp_To_yearAtI hM h0' h02' hl ?_)
            refine mm_ast5 d_G_after_18 ?_
            refine mm_aload d_G_after_20 rfl ?_
            refine mm_ifnull d_G_after_22 ?_
            refine mm_aload d_G_after_25 rfl ?_
            refine mm_ifnonnull d_G_after_27 ?_
            refine mm_aload d_G_after_33 rfl ?_
            refine mm_getP d_G_after_34 rfl (sk_o_0 hM) (sk_p_0_3 hM) ?_
            refine mm_aload d_G_after_37 rfl ?_
            refine mm_aload d_G_after_39 rfl ?_
            refine mm_aload d_G_after_41 rfl ?_
            refine mm_getIN d_G_after_43 rfl hYD.1.1 hYD.2.1 ?_
            refine mm_v3i d_G_after_46 (sk_o_53 hM) (sp_Da_live hM (by omega) (by omega) hCD hW hYD hWY (Nat.le_refl _) (fun μ2 σ hr hS g1 => ?_))
            rw [he] at hr
            cases hr
            replace hM := hS.1
            replace hCD := hS.2.2.1
            refine mm_pop d_G_after_49 rfl ?_
            refine mm_iload d_G_after_50 rfl ?_
            refine mm_switchIn (n := 0) d_G_after_51 3 (by decide) (by decide) rfl ?_
            refine mm_aload d_G_after_112 rfl ?_
            refine mm_getP d_G_after_113 rfl (sk_o_0 hM) (sk_p_0_3 hM) ?_
            refine mm_v0i d_G_after_116 (sk_o_53 hM) (sp_Da_eager hS hW (fun c => by have := hbd.2 c; omega) ?_)
            exact mm_ri d_G_after_119 ⟨rfl, g1.DC, hw.frD g1⟩
          · show mm_T X 12 0 0 k_G_after 0 [some (.ref 0), some (.int (nI i)), some (.int (nI l)), some (.int (nI 4)), none, none] [] μ _
            refine mm_aload d_G_after_0 rfl ?_
            refine mm_getP d_G_after_1 rfl (sk_o_0 hM) (sk_p_0_0 hM) ?_
            refine mm_iload d_G_after_4 rfl ?_
            refine mm_v1r d_G_after_5 (sk_o_1 hM) (sp_To_coastAtI hM h0 h02 hi ?_)
            refine mm_ast4 d_G_after_8 ?_
            refine mm_aload d_G_after_10 rfl ?_
            refine mm_getP d_G_after_11 rfl (sk_o_0 hM) (sk_p_0_0 hM) ?_
            refine mm_iload d_G_after_14 rfl ?_
            refine mm_v1r d_G_after_15 (sk_o_1 hM) (sp_To_yearAtI hM h0' h02' hl ?_)
            refine mm_ast5 d_G_after_18 ?_
            refine mm_aload d_G_after_20 rfl ?_
            refine mm_ifnull d_G_after_22 ?_
            refine mm_aload d_G_after_25 rfl ?_
            refine mm_ifnonnull d_G_after_27 ?_
            refine mm_aload d_G_after_33 rfl ?_
            refine mm_getP d_G_after_34 rfl (sk_o_0 hM) (sk_p_0_3 hM) ?_
            refine mm_aload d_G_after_37 rfl ?_
            refine mm_aload d_G_after_39 rfl ?_
            refine mm_aload d_G_after_41 rfl ?_
            refine mm_getIN d_G_after_43 rfl hYD.1.1 hYD.2.1 ?_
            refine mm_v3i d_G_after_46 (sk_o_53 hM) (sp_Da_live hM (by omega) (by omega) hCD hW hYD hWY (Nat.le_refl _) (fun μ2 σ hr hS g1 => ?_))
            rw [he] at hr
            cases hr
            replace hM := hS.1
            replace hCD := hS.2.2.1
            refine mm_pop d_G_after_49 rfl ?_
            refine mm_iload d_G_after_50 rfl ?_
            refine mm_switchIn (n := 0) d_G_after_51 4 (by decide) (by decide) rfl ?_
            refine mm_aload d_G_after_120 rfl ?_
            refine mm_getP d_G_after_121 rfl (sk_o_0 hM) (sk_p_0_3 hM) ?_
            refine mm_getIN d_G_after_124 rfl (sk_o_53 hM) hS.2.2.2.2.vT ?_
            exact mm_ri d_G_after_127 ⟨rfl, g1.DC, hw.frD g1⟩
          · show mm_T X 12 0 0 k_G_after 0 [some (.ref 0), some (.int (nI i)), some (.int (nI l)), some (.int (nI 5)), none, none] [] μ _
            refine mm_aload d_G_after_0 rfl ?_
            refine mm_getP d_G_after_1 rfl (sk_o_0 hM) (sk_p_0_0 hM) ?_
            refine mm_iload d_G_after_4 rfl ?_
            refine mm_v1r d_G_after_5 (sk_o_1 hM) (sp_To_coastAtI hM h0 h02 hi ?_)
            refine mm_ast4 d_G_after_8 ?_
            refine mm_aload d_G_after_10 rfl ?_
            refine mm_getP d_G_after_11 rfl (sk_o_0 hM) (sk_p_0_0 hM) ?_
            refine mm_iload d_G_after_14 rfl ?_
            refine mm_v1r d_G_after_15 (sk_o_1 hM) (sp_To_yearAtI hM h0' h02' hl ?_)
            refine mm_ast5 d_G_after_18 ?_
            refine mm_aload d_G_after_20 rfl ?_
            refine mm_ifnull d_G_after_22 ?_
            refine mm_aload d_G_after_25 rfl ?_
            refine mm_ifnonnull d_G_after_27 ?_
            refine mm_aload d_G_after_33 rfl ?_
            refine mm_getP d_G_after_34 rfl (sk_o_0 hM) (sk_p_0_3 hM) ?_
            refine mm_aload d_G_after_37 rfl ?_
            refine mm_aload d_G_after_39 rfl ?_
            refine mm_aload d_G_after_41 rfl ?_
            refine mm_getIN d_G_after_43 rfl hYD.1.1 hYD.2.1 ?_
            refine mm_v3i d_G_after_46 (sk_o_53 hM) (sp_Da_live hM (by omega) (by omega) hCD hW hYD hWY (Nat.le_refl _) (fun μ2 σ hr hS g1 => ?_))
            rw [he] at hr
            cases hr
            replace hM := hS.1
            replace hCD := hS.2.2.1
            refine mm_pop d_G_after_49 rfl ?_
            refine mm_iload d_G_after_50 rfl ?_
            refine mm_switchIn (n := 0) d_G_after_51 5 (by decide) (by decide) rfl ?_
            refine mm_aload d_G_after_128 rfl ?_
            refine mm_v0i d_G_after_130 hCD.1.1 (sp_Co_allWorksN hCD hW ?_)
            refine mm_aload d_G_after_133 rfl ?_
            refine mm_getP d_G_after_134 rfl (sk_o_0 hM) (sk_p_0_3 hM) ?_
            refine mm_getIN d_G_after_137 rfl (sk_o_53 hM) hS.2.2.2.2.D ?_
            refine mm_ci d_G_after_140 ?_
            refine mm_inotN d_G_after_141 ?_
            refine mm_iandN d_G_after_142 ?_
            exact mm_ri d_G_after_143 ⟨rfl, g1.DC, hw.frD g1⟩
        · show mm_T X 12 0 0 k_M_after 0 [some (.ref 71), some (.int (nI i)), some (.int (nI l)), some (.int (nI t)), none, none, none, none, none, none] [] μ1 _
          replace hM := hf.2.2.2 hM
          replace m0 : mm_I μ1 76 0 = nI c := by rw [(hf.2.2.1 76 rfl).1]; exact m0
          replace hDM := hDM.frC hf
          refine mm_aload d_M_after_0 rfl ?_
          refine mm_ciN 0 d_M_after_1 rfl ?_
          refine mm_putI d_M_after_2 rfl (sk_o_71 hM) (Or.inl rfl) ?_
          refine mm_aload d_M_after_5 rfl ?_
          refine mm_iload d_M_after_6 rfl ?_
          refine mm_iload d_M_after_7 rfl ?_
          refine mm_v2i d_M_after_8 (sk_o_71 hM) (sp_M_layAllT hM (by rw [mm_sI_off (by decide), (hf.2.2.1 76 rfl).1]; exact m0') h02' hl ((hYM.frC hf rfl).sI) hWY (by rw [mm_sI_off (by decide)]; exact m0) h02 hi (hDM.eq (mm_sI_off (by decide))) hW (fun μ2 g1 hS hY => ?_))
          replace hM := hS.1.1
          refine mm_if_eqN d_M_after_11 (by first | omega | exact ite01_lt | exact bt8_lt31 _ _ | exact godB_lt31 _ _ _ | exact pop_lt31 _ | assumption | exact b31 (hW.gp (by omega)) | exact b31 (hW.ne (by omega)) | exact b31 (hW.op (by omega)) | exact and31 (hW.gp (by omega)) | exact and31 (hW.ne (by omega)) | exact and31 (hW.op (by omega)) | exact and31 (by assumption) | exact and31r (hW.ne (by omega)) | exact and31r (hW.gp (by omega)) | exact and31r (by decide)) (fun c_11 => False.elim (by omega)) (fun c_11 => ?_)
          refine mm_iload d_M_after_14 rfl ?_
          refine mm_ciN 0 d_M_after_15 rfl ?_
          refine mm_ciN 5 d_M_after_16 rfl ?_
          refine mm_s3i d_M_after_17 (sp_M_inT (by omega) (by omega) (by omega) ?_)
          refine mm_if_neN d_M_after_20 (by first | omega | exact ite01_lt | exact bt8_lt31 _ _ | exact godB_lt31 _ _ _ | exact pop_lt31 _ | assumption | exact b31 (hW.gp (by omega)) | exact b31 (hW.ne (by omega)) | exact b31 (hW.op (by omega)) | exact and31 (hW.gp (by omega)) | exact and31 (hW.ne (by omega)) | exact and31 (hW.op (by omega)) | exact and31 (by assumption) | exact and31r (hW.ne (by omega)) | exact and31r (hW.gp (by omega)) | exact and31r (by decide)) (fun c_20 => ?_) (fun c_20 => False.elim (by omega))
          refine mm_ci d_M_after_26 ?_
          refine mm_ist4 d_M_after_27 ?_
          refine mm_ci d_M_after_29 ?_
          refine mm_ist5 d_M_after_30 ?_
          refine mm_ciN 0 d_M_after_32 rfl ?_
          refine mm_ist6 d_M_after_33 ?_
          refine mm_ciN 0 d_M_after_35 rfl ?_
          refine mm_ist7 d_M_after_36 ?_
          refine mm_ciN 1 d_M_after_38 rfl ?_
          refine mm_ist8 d_M_after_39 ?_
          refine mm_ciN 0 d_M_after_41 rfl ?_
          refine mm_ist9 d_M_after_42 ?_
          exact sp_after hS hY ht he (fun μ' g => ⟨rfl, ((Fr.rf.sI rfl).trans g1).trans g⟩)
