/-! texts: the model's lines -/
theorem bd_run {u : Nat → Nat} {L p : Nat} : ∀ i n, i ≤ n → (∀ j, j < i → tK u L (ps u L p j) = 3) → bd u L n (ps u L p 0) = bd u L (n - i) (ps u L p i)
  | 0, n, _, _ => rfl
  | i + 1, n, h, hj => by
    rw [bd_run i n (by omega) (fun j hj' => hj j (by omega)), show n - i = (n - (i + 1)) + 1 by omega]
    exact if_pos (hj i (by omega))
theorem bd_stuck {u : Nat → Nat} {L p i n : Nat} (hi : i < n) (hj : ∀ j, j < i → tK u L (ps u L p j) = 3) (h : tK u L (ps u L p i) ≠ 3) : bd u L n (ps u L p 0) = some (tP u L (ps u L p i)) := by
  rw [bd_run i n (by omega) hj, show n - i = (n - i - 1) + 1 by omega]
  exact if_neg h
theorem bd_end {u : Nat → Nat} {L p n : Nat} (hj : ∀ j, j < n → tK u L (ps u L p j) = 3) : bd u L n (ps u L p 0) = if tK u L (ps u L p n) = 4 then none else some (tP u L (ps u L p n)) := by
  rw [bd_run n n (Nat.le_refl n) hj, Nat.sub_self]
  rfl
def RMs (s : Nat) (t : Nat → Nat) (ν : mm_M) : Prop := (s = 0 → RM0 t ν) ∧ (s = 1 → RM1 t ν) ∧ (s = 2 → RM2 t ν)
def MBs (s : Nat) (ν : mm_M) : Prop := (s = 0 → MB0 ν) ∧ (s = 1 → MBn 40 ν) ∧ (s = 2 → MBn 8 ν)
def MdS (s : Nat) (u : Nat → Nat) (L p : Nat) (t : Nat → Nat) (fl pl : Nat) (ν : mm_M) : Prop := Rm u L ν ∧ Tk2 u L p ν ∧ LF fl pl (tP u L p) ν ∧ MBs s ν ∧ (fl = 0 → RMs s t ν ∧ WfT s t)
theorem RMs.cg {s : Nat} {t : Nat → Nat} {μ ν : mm_M} (h : RMs s t μ) (e : mm_I ν 80 = mm_I μ 80) (e20 : mm_I ν 71 20 = mm_I μ 71 20) : RMs s t ν := ⟨fun z => ⟨by rw [e]; exact (h.1 z).1, by rw [e20]; exact (h.1 z).2.1, (h.1 z).2.2⟩, fun z => (h.2.1 z).k e, fun z => (h.2.2 z).k e⟩
theorem MBs.cg {s : Nat} {μ ν : mm_M} (h : MBs s μ) (e : mm_I ν 80 = mm_I μ 80) : MBs s ν := ⟨fun z => by have := h.1 z; unfold MB0 at *; rw [e]; exact this, fun z => (h.2.1 z).k e, fun z => (h.2.2 z).k e⟩
/-- how a line ends, told, of any sort -/
def EndS (s k : Nat) (u : Nat → Nat) (L p f0 p0 : Nat) (μ ξ : mm_M) : Prop := K5 μ ξ ∧ Tk2 u L (ps u L p (nu k)) ξ ∧ LF (ff k (vv u L p) f0 (nu k)) (pp k (vv u L p) (fun j => tP u L (ps u L p j)) f0 p0 (nu k)) (tP u L (ps u L p (nu k))) ξ ∧ (∀ j, j < nu k → tK u L (ps u L p j) = 3) ∧ MBs s ξ ∧ ∀ t, RMs s t μ → WfT s t → ¬ fu k t = true → (∀ j, j < nu k → cb k (vv u L p) j = true) → RMs s (stp k (vv u L p) t) ξ
theorem EndC.s {k : Nat} {u : Nat → Nat} {L p f0 p0 : Nat} {μ ξ : mm_M} (h : EndC k u L p f0 p0 μ ξ) : EndS 0 k u L p f0 p0 μ ξ := by
  obtain ⟨a1, a2, a3, a4, a5, a6⟩ := h
  exact ⟨a1, a2, a3, a4, ⟨fun _ => a5, fun z => absurd z (by decide), fun z => absurd z (by decide)⟩, fun t h1 h2 h3 h4 => ⟨fun _ => a6 t (h1.1 rfl) h2 h3 h4, fun z => absurd z (by decide), fun z => absurd z (by decide)⟩⟩
theorem EndG.s1 {k : Nat} {u : Nat → Nat} {L p f0 p0 : Nat} {μ ξ : mm_M} (h : EndG RM1 (MBn 40) 1 k u L p f0 p0 μ ξ) : EndS 1 k u L p f0 p0 μ ξ := by
  obtain ⟨a1, a2, a3, a4, a5, a6⟩ := h
  exact ⟨a1, a2, a3, a4, ⟨fun z => absurd z (by decide), fun _ => a5, fun z => absurd z (by decide)⟩, fun t h1 h2 h3 h4 => ⟨fun z => absurd z (by decide), fun _ => a6 t (h1.2.1 rfl) h2 h3 h4, fun z => absurd z (by decide)⟩⟩
theorem EndG.s2 {k : Nat} {u : Nat → Nat} {L p f0 p0 : Nat} {μ ξ : mm_M} (h : EndG RM2 (MBn 8) 2 k u L p f0 p0 μ ξ) : EndS 2 k u L p f0 p0 μ ξ := by
  obtain ⟨a1, a2, a3, a4, a5, a6⟩ := h
  exact ⟨a1, a2, a3, a4, ⟨fun z => absurd z (by decide), fun z => absurd z (by decide), fun _ => a5⟩, fun t h1 h2 h3 h4 => ⟨fun z => absurd z (by decide), fun z => absurd z (by decide), fun _ => a6 t (h1.2.2 rfl) h2 h3 h4⟩⟩
theorem sp_M_lines {X : mm_X} {μ : mm_M} {q : Int32 → mm_M → Prop} {s L : Nat} {u : Nat → Nat} {t0 : Nat → Nat} (hs3 : s < 3) (hS : MdS s u L 0 t0 0 0 μ) (h0 : ∀ x t' ξ, rd s u L (L + 1) 0 t0 0 0 = (1, x, t') → K5 μ ξ → mm_I ξ 71 15 = nI x → q (nI 0) ξ) (h1 : ∀ fl' pl' t' p' ξ, rd s u L (L + 1) 0 t0 0 0 = (fl', pl', t') → fl' ≠ 1 → p' ≤ L → K5 μ ξ → MdS s u L p' t' fl' pl' ξ → tK u L p' = 1 → q (nI 1) ξ) : mm_Ci X 6 0 0 k_M_lines [.ref 71, .int (nI s)] μ q := by
  show mm_T X 6 0 0 k_M_lines 0 [some (.ref 71), some (.int (nI s)), none, none, none, none] [] μ _
  have hL6 := hS.1.2.2.1
  have back : ∀ (ξ : mm_M) (l3 l4 l5 : Option Value) (x : Nat) (t' : Nat → Nat), rd s u L (L + 1) 0 t0 0 0 = (1, x, t') → K5 μ ξ → mm_I ξ 71 15 = nI x → mm_T X 6 0 0 k_M_lines 103 [some (.ref 71), some (.int (nI s)), some (.int (nI 0)), l3, l4, l5] [] ξ (fun w μ' => ∃ z, w = some (.int z) ∧ q z μ') := by
    intro ξ l3 l4 l5 x t' e k i
    refine mm_goto d_M_lines_103 ?_
    refine mm_iload d_M_lines_2 rfl ?_
    refine mm_if_eqN d_M_lines_3 (by decide) (fun _ => ?_) (fun c => absurd rfl c)
    refine mm_iload d_M_lines_106 rfl ?_
    exact mm_rz d_M_lines_107 (h0 x t' ξ e k i)
  have loop : ∀ (n p : Nat) (t : Nat → Nat) (fl pl : Nat) (ν : mm_M) (l3 l4 l5 : Option Value), L - p < n → p ≤ L → fl < 5 → fl ≠ 1 → rd s u L (L + 1) 0 t0 0 0 = rd s u L n p t fl pl → K5 μ ν → MdS s u L p t fl pl ν → mm_T X 6 0 0 k_M_lines 2 [some (.ref 71), some (.int (nI s)), some (.int (nI 1)), l3, l4, l5] [] ν (fun w μ' => ∃ z, w = some (.int z) ∧ q z μ') := by
    intro n
    induction n with
    | zero => intro p t fl pl ν l3 l4 l5 hn; exact absurd hn (Nat.not_lt_zero _)
    | succ n ih =>
      intro p t fl pl ν l3 l4 l5 hn hp hfl hf1 hr kM hSS
      have hS' := hSS
      obtain ⟨hR, hT, hF, hB, hD⟩ := hSS
      have hM := hR.1
      have hk5 := tK_lt (u := u) (L := L) (p := p)
      have hmk : mK (tK u L p) < 5 := by unfold mK; split <;> (try split) <;> omega
      rw [show rd s u L (n + 1) p t fl pl = if tK u L p = 1 then (fl, pl, t) else match lnX s u L p with | some x => (1, x, t) | none => rd s u L n (pE s u L p) (jg s u L p t fl pl).2.2 (jg s u L p t fl pl).1 (jg s u L p t fl pl).2.1 from rfl] at hr
      refine mm_iload d_M_lines_2 rfl ?_
      refine mm_if_eqN d_M_lines_3 (by decide) (fun c => absurd c (by decide)) (fun _ => ?_)
      refine mm_aload d_M_lines_6 rfl ?_
      refine mm_getIN d_M_lines_7 rfl (sk_o_71 hM) hT.2.2.1 ?_
      by_cases ht1 : tK u L p = 1
      · rw [if_pos ht1] at hr
        have e0 : mK (tK u L p) = 0 := by rw [ht1]; rfl
        rw [e0]
        refine mm_if_eqN d_M_lines_10 (by decide) (fun _ => ?_) (fun c => absurd rfl c)
        refine mm_iload d_M_lines_106 rfl ?_
        exact mm_rz d_M_lines_107 (h1 fl pl t p ν hr hf1 hp kM hS' ht1)
      · rw [if_neg ht1] at hr
        have e0 : mK (tK u L p) ≠ 0 := by unfold mK; split <;> (try split) <;> omega
        refine mm_if_eqN d_M_lines_10 (by omega) (fun c => absurd c e0) (fun _ => ?_)
        obtain ⟨g1, g2⟩ := pE_gt (s := s) ht1
        have pEl : pE s u L p ≤ L := ps_le hp _
        refine mm_aload d_M_lines_13 rfl ?_
        refine mm_getIN d_M_lines_14 rfl (sk_o_71 hM) hT.2.1 ?_
        refine mm_ist3 d_M_lines_17 ?_
        have word : ∀ (P : Prop), (mm_T X 6 0 0 k_M_lines 34 [some (.ref 71), some (.int (nI s)), some (.int (nI 1)), some (.int (nI (tP u L p))), l4, l5] [.long (lN (wF u L p))] ν (fun w μ' => ∃ z, w = some (.int z) ∧ q z μ')) → mm_T X 6 0 0 k_M_lines 18 [some (.ref 71), some (.int (nI s)), some (.int (nI 1)), some (.int (nI (tP u L p))), l4, l5] [] ν (fun w μ' => ∃ z, w = some (.int z) ∧ q z μ') := by
          intro _ hgo
          refine mm_aload d_M_lines_18 rfl ?_
          refine mm_getIN d_M_lines_19 rfl (sk_o_71 hM) hT.2.2.1 ?_
          refine mm_ciN 2 d_M_lines_22 rfl ?_
          by_cases h2 : tK u L p = 2
          · have e2 : mK (tK u L p) = 2 := by rw [h2]; rfl
            have ew : wF u L p = tW u L p := if_pos h2
            rw [ew] at hgo
            refine mm_icmp_neN d_M_lines_23 (by omega) (by decide) (fun c => absurd e2 c) (fun _ => ?_)
            refine mm_aload d_M_lines_26 rfl ?_
            refine mm_getJN d_M_lines_27 rfl (sk_o_71 hM) (hT.2.2.2.2 h2) ?_
            refine mm_goto d_M_lines_30 ?_
            exact hgo
          · have e2 : mK (tK u L p) ≠ 2 := by unfold mK; split <;> (try split) <;> omega
            have ew : wF u L p = 0 := if_neg h2
            rw [ew] at hgo
            refine mm_icmp_neN d_M_lines_23 (by omega) (by decide) (fun _ => ?_) (fun c => absurd c e2)
            refine mm_lciN 0 d_M_lines_33 rfl ?_
            exact hgo
        refine word True ?_
        refine mm_lst4 d_M_lines_34 ?_
        refine mm_aload d_M_lines_36 rfl ?_
        refine mm_ciN 1 d_M_lines_37 rfl ?_
        refine mm_putZ d_M_lines_38 rfl (by decide) (sk_o_71 hM) (Or.inl rfl) ?_
        have kG : K2 ν (mm_sI ν 71 21 (nI 1)) := K2.rf.sI (by omega)
        have hR1 := hR.k2 kG
        have hT1 : Tk2 u L p (mm_sI ν 71 21 (nI 1)) := hT.cg (fun j hj => by rw [mm_I_sI, if_neg (by omega)]) rfl
        have hF1 : LF fl pl (tP u L p) (mm_sI ν 71 21 (nI 1)) := hF.cg (Nat.le_refl _) (by rw [mm_I_sI, if_neg (by decide)]) (by rw [mm_I_sI, if_neg (by decide)])
        have hg1 : mm_I (mm_sI ν 71 21 (nI 1)) 71 21 = nI 1 := by rw [mm_I_sI, if_pos ⟨rfl, rfl⟩]
        have e80 : mm_I (mm_sI ν 71 21 (nI 1)) 80 = mm_I ν 80 := mm_sI_off (by decide)
        have e20 : mm_I (mm_sI ν 71 21 (nI 1)) 71 20 = mm_I ν 71 20 := by rw [mm_I_sI, if_neg (by decide)]
        have hB1 := hB.cg e80
        have hD1 : fl = 0 → RMs s t (mm_sI ν 71 21 (nI 1)) ∧ WfT s t := fun z => ⟨(hD z).1.cg e80 e20, (hD z).2⟩
        have kM1 : K5 μ (mm_sI ν 71 21 (nI 1)) := kM.trans kG.k5
        have st0 : ∀ (l4 l5 : Option Value) (ξ : mm_M) (x : Nat), lnX s u L p = some x → K5 (mm_sI ν 71 21 (nI 1)) ξ → mm_I ξ 71 15 = nI x → mm_T X 6 0 0 k_M_lines 77 [some (.ref 71), some (.int (nI s)), some (.int (nI 1)), some (.int (nI (tP u L p))), l4, l5] [.int (nI 0)] ξ (fun w μ' => ∃ z, w = some (.int z) ∧ q z μ') := by
          intro l4 l5 ξ x hx kx ex
          rw [hx] at hr
          refine mm_ist2 d_M_lines_77 ?_
          refine mm_iload d_M_lines_78 rfl ?_
          refine mm_if_eqN d_M_lines_79 (by decide) (fun _ => ?_) (fun c => absurd rfl c)
          refine mm_iload d_M_lines_95 rfl ?_
          refine mm_if_eqN d_M_lines_96 (by decide) (fun _ => ?_) (fun c => absurd rfl c)
          exact back ξ _ _ _ x t hr (kM1.trans kx) ex
        have stk : ∀ (l4 l5 : Option Value) (i : Nat) (ξ : mm_M), lnF s u L p < 13 → i < nu (lnF s u L p) → tK u L (ps u L p i) ≠ 3 → (∀ j, j < i → tK u L (ps u L p j) = 3) → K5 (mm_sI ν 71 21 (nI 1)) ξ → mm_I ξ 71 15 = nI (tP u L (ps u L p i)) → mm_T X 6 0 0 k_M_lines 77 [some (.ref 71), some (.int (nI s)), some (.int (nI 1)), some (.int (nI (tP u L p))), l4, l5] [.int (nI 0)] ξ (fun w μ' => ∃ z, w = some (.int z) ∧ q z μ') := fun l4 l5 i ξ h13 hi h3 hj kx ex => st0 l4 l5 ξ _ (by unfold lnX; rw [if_neg (by omega)]; exact bd_stuck hi hj h3) kx ex
        have okk : ∀ (l4 l5 : Option Value) (ξ : mm_M), lnF s u L p < 13 → EndS s (lnF s u L p) u L p (jf (lnF s u L p) t fl) (jp (lnF s u L p) t fl pl (tP u L p)) (mm_sI ν 71 21 (nI 1)) ξ → mm_T X 6 0 0 k_M_lines 77 [some (.ref 71), some (.int (nI s)), some (.int (nI 1)), some (.int (nI (tP u L p))), l4, l5] [.int (nI 1)] ξ (fun w μ' => ∃ z, w = some (.int z) ∧ q z μ') := by
          intro l4 l5 ξ h13 he
          obtain ⟨a1, a2, a3, a4, a5, a6⟩ := he
          obtain ⟨b1, b2, b3⟩ := jg_ff (s := s) (u := u) (L := L) (p := p) (t := t) (fl := fl) (pl := pl)
          have hRx : Rm u L ξ := ⟨a1.1.2.2.2 hM, by rw [a1.2.2 10 (by omega)]; exact hR1.2.1, hL6, by rw [(a1.1.2.2.1 72 rfl).1]; exact hR1.2.2.2⟩
          have hM := hRx.1
          have hk6 := tK_lt (u := u) (L := L) (p := ps u L p (nu (lnF s u L p)))
          have hpn := ps_le (u := u) hp (nu (lnF s u L p))
          have eX : lnX s u L p = if tK u L (ps u L p (nu (lnF s u L p))) = 4 then none else some (tP u L (ps u L p (nu (lnF s u L p)))) := by unfold lnX; rw [if_neg (by omega)]; exact bd_end a4
          refine mm_ist2 d_M_lines_77 ?_
          refine mm_iload d_M_lines_78 rfl ?_
          refine mm_if_eqN d_M_lines_79 (by decide) (fun c => absurd c (by decide)) (fun _ => ?_)
          refine mm_aload d_M_lines_82 rfl ?_
          refine mm_getIN d_M_lines_83 rfl (sk_o_71 hM) a2.2.2.1 ?_
          refine mm_ciN 4 d_M_lines_86 rfl ?_
          by_cases h4 : tK u L (ps u L p (nu (lnF s u L p))) = 4
          · rw [if_pos h4] at eX
            rw [eX] at hr
            have e4 : mK (tK u L (ps u L p (nu (lnF s u L p)))) = 4 := by rw [h4]; rfl
            rw [e4]
            refine mm_icmp_eqN d_M_lines_87 (by decide) (by decide) (fun _ => ?_) (fun c => absurd rfl c)
            refine mm_iload d_M_lines_95 rfl ?_
            refine mm_if_eqN d_M_lines_96 (by decide) (fun c => absurd c (by decide)) (fun _ => ?_)
            refine mm_aload d_M_lines_99 rfl ?_
            refine mm_v0v d_M_lines_100 (sk_o_71 hM) (sp_M_token hRx a2.1 (tN_le hpn) (fun ρ km tk => ?_))
            refine mm_goto d_M_lines_103 ?_
            have e80' : mm_I ρ 80 = mm_I ξ 80 := (km.1.2.2.1 80 rfl).1
            have e20' : mm_I ρ 71 20 = mm_I ξ 71 20 := km.2.2 20 (by decide) (by decide) (by decide) (by decide)
            refine ih (pE s u L p) _ _ _ ρ _ _ _ (by omega) pEl (jg_lt hfl) (jg_ne hf1) hr ((kM1.trans a1).trans km.k2.k5) ⟨hRx.km km, tk, ?_, a5.cg e80', fun z => ?_⟩
            · rw [b1, b2]
              exact a3.cg (Nat.le_of_lt (Nat.lt_of_lt_of_le (tN_gt (by omega)).1 tP_ge)) (km.2.2 16 (by decide) (by decide) (by decide) (by decide)) (km.2.2 17 (by decide) (by decide) (by decide) (by decide))
            · obtain ⟨f1, f2, f3, f4⟩ := b3 z
              obtain ⟨d1, d2⟩ := hD1 f1
              rw [f3]
              have hW := WfT_stp h13 (by rcases lnF_or (u := u) (L := L) (p := p) hs3 with y | y; omega; rw [y.2.1]; exact d2) f2 f4
              refine ⟨(a6 t d1 d2 f2 f4).cg e80' e20', ?_⟩
              rcases lnF_or (u := u) (L := L) (p := p) hs3 with y | y
              · omega
              · rw [y.2.1] at hW; exact hW
          · rw [if_neg h4] at eX
            rw [eX] at hr
            have e4 : mK (tK u L (ps u L p (nu (lnF s u L p)))) ≠ 4 := by unfold mK; split <;> (try split) <;> omega
            have hmk6 : mK (tK u L (ps u L p (nu (lnF s u L p)))) < 5 := by unfold mK; split <;> (try split) <;> omega
            refine mm_icmp_eqN d_M_lines_87 (by omega) (by decide) (fun c => absurd c e4) (fun _ => ?_)
            refine mm_aload d_M_lines_90 rfl ?_
            refine mm_v0i d_M_lines_91 (sk_o_71 hM) (sp_M_fails hM a2.2.1 ?_)
            refine mm_ist2 d_M_lines_94 ?_
            refine mm_iload d_M_lines_95 rfl ?_
            refine mm_if_eqN d_M_lines_96 (by decide) (fun _ => ?_) (fun c => absurd rfl c)
            exact back _ _ _ _ _ t hr ((kM1.trans a1).trans (K2.rf.sI (by omega)).k5) (by rw [mm_I_sI, if_pos ⟨rfl, rfl⟩])
        have hs : s = 0 ∨ s = 1 ∨ s = 2 := by omega
        refine mm_iload d_M_lines_41 rfl ?_
        rcases hs with rfl | rfl | rfl
        · refine mm_if_neN d_M_lines_42 (by decide) (fun c => absurd rfl c) (fun _ => ?_)
          refine mm_aload d_M_lines_45 rfl ?_
          refine mm_lload d_M_lines_46 rfl ?_
          refine mm_iload d_M_lines_48 rfl ?_
          refine mm_v2i d_M_lines_49 (sk_o_71 hM) (sp_M_coastLine (t := t) hR1 hT1 hp ht1 hF1 hg1 (hB1.1 rfl) (fun z => ⟨(hD1 z).1.1 rfl, (hD1 z).2⟩) (fun h13 ξ kx ex => mm_goto d_M_lines_52 (st0 _ _ ξ _ (by unfold lnX; rw [if_pos h13]) kx ex)) (fun i ξ a b c d e f => mm_goto d_M_lines_52 (stk _ _ i ξ a b c d e f)) (fun ξ a b => mm_goto d_M_lines_52 (okk _ _ ξ a b.s)))
        · refine mm_if_neN d_M_lines_42 (by decide) (fun _ => ?_) (fun c => absurd c (by decide))
          refine mm_iload d_M_lines_55 rfl ?_
          refine mm_ciN 1 d_M_lines_56 rfl ?_
          refine mm_icmp_neN d_M_lines_57 (by decide) (by decide) (fun c => absurd rfl c) (fun _ => ?_)
          refine mm_aload d_M_lines_60 rfl ?_
          refine mm_lload d_M_lines_61 rfl ?_
          refine mm_iload d_M_lines_63 rfl ?_
          refine mm_v2i d_M_lines_64 (sk_o_71 hM) (sp_M_yearLine (t := t) hR1 hT1 hp ht1 hF1 hg1 (hB1.2.1 rfl) (fun z => ⟨(hD1 z).1.2.1 rfl, (hD1 z).2⟩) (fun h13 ξ kx ex => mm_goto d_M_lines_67 (st0 _ _ ξ _ (by unfold lnX; rw [if_pos h13]) kx ex)) (fun i ξ a b c d e f => mm_goto d_M_lines_67 (stk _ _ i ξ a b c d e f)) (fun ξ a b => mm_goto d_M_lines_67 (okk _ _ ξ a b.s1)))
        · refine mm_if_neN d_M_lines_42 (by decide) (fun _ => ?_) (fun c => absurd c (by decide))
          refine mm_iload d_M_lines_55 rfl ?_
          refine mm_ciN 1 d_M_lines_56 rfl ?_
          refine mm_icmp_neN d_M_lines_57 (by decide) (by decide) (fun _ => ?_) (fun c => absurd c (by decide))
          refine mm_aload d_M_lines_70 rfl ?_
          refine mm_lload d_M_lines_71 rfl ?_
          refine mm_iload d_M_lines_73 rfl ?_
          refine mm_v2i d_M_lines_74 (sk_o_71 hM) (sp_M_logLine (t := t) hR1 hT1 hp ht1 hF1 hg1 (hB1.2.2 rfl) (fun z => ⟨(hD1 z).1.2.2 rfl, (hD1 z).2⟩) (fun h13 ξ kx ex => st0 _ _ ξ _ (by unfold lnX; rw [if_pos h13]) kx ex) (fun i ξ a b c d e f => stk _ _ i ξ a b c d e f) (fun ξ a b => okk _ _ ξ a b.s2))
  refine mm_ciN 1 d_M_lines_0 rfl ?_
  refine mm_ist2 d_M_lines_1 ?_
  exact loop (L + 1) 0 t0 0 0 μ _ _ _ (by omega) (Nat.zero_le _) (by decide) (by decide) rfl ⟨Fr.rf, rfl, fun _ _ => rfl⟩ hS
