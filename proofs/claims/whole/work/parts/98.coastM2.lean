/-! texts: the model's coast line -/
theorem ln_w0 {u : Nat → Nat} {L p : Nat} : (lnF 0 u L p = 13 ∧ ∀ k, 0 ≤ k → k < 6 → wF u L p ≠ wc k) ∨ ∃ k, 0 ≤ k ∧ k < 6 ∧ lnF 0 u L p = k ∧ wF u L p = wc k := by
  by_cases h2 : tK u L p = 2
  · have eF : lnF 0 u L p = ln0 u L p := by unfold lnF; rw [if_pos h2]; rfl
    rw [eF]
    unfold ln0
    by_cases h100 : tkW u L p 0 = true
    · rw [if_pos h100]; exact Or.inr ⟨0, by decide, by decide, rfl, (wF_wc (by decide)).mpr ⟨h2, h100⟩⟩
    · rw [if_neg h100]
      by_cases h101 : tkW u L p 1 = true
      · rw [if_pos h101]; exact Or.inr ⟨1, by decide, by decide, rfl, (wF_wc (by decide)).mpr ⟨h2, h101⟩⟩
      · rw [if_neg h101]
        by_cases h102 : tkW u L p 2 = true
        · rw [if_pos h102]; exact Or.inr ⟨2, by decide, by decide, rfl, (wF_wc (by decide)).mpr ⟨h2, h102⟩⟩
        · rw [if_neg h102]
          by_cases h103 : tkW u L p 3 = true
          · rw [if_pos h103]; exact Or.inr ⟨3, by decide, by decide, rfl, (wF_wc (by decide)).mpr ⟨h2, h103⟩⟩
          · rw [if_neg h103]
            by_cases h104 : tkW u L p 4 = true
            · rw [if_pos h104]; exact Or.inr ⟨4, by decide, by decide, rfl, (wF_wc (by decide)).mpr ⟨h2, h104⟩⟩
            · rw [if_neg h104]
              by_cases h105 : tkW u L p 5 = true
              · rw [if_pos h105]; exact Or.inr ⟨5, by decide, by decide, rfl, (wF_wc (by decide)).mpr ⟨h2, h105⟩⟩
              · rw [if_neg h105]
                refine Or.inl ⟨rfl, fun k k1 k2 e => ?_⟩
                have ht := ((wF_wc (by omega)).mp e).2
                have hk : k = 0 ∨ k = 1 ∨ k = 2 ∨ k = 3 ∨ k = 4 ∨ k = 5 := by omega
                rcases hk with rfl | rfl | rfl | rfl | rfl | rfl
                · exact h100 ht
                · exact h101 ht
                · exact h102 ht
                · exact h103 ht
                · exact h104 ht
                · exact h105 ht
  · refine Or.inl ⟨by unfold lnF; rw [if_neg h2], fun k k1 k2 e => h2 ((wF_wc (by omega)).mp e).1⟩
theorem ln_w1 {u : Nat → Nat} {L p : Nat} : (lnF 1 u L p = 13 ∧ ∀ k, 6 ≤ k → k < 11 → wF u L p ≠ wc k) ∨ ∃ k, 6 ≤ k ∧ k < 11 ∧ lnF 1 u L p = k ∧ wF u L p = wc k := by
  by_cases h2 : tK u L p = 2
  · have eF : lnF 1 u L p = ln1 u L p := by unfold lnF; rw [if_pos h2]; rfl
    rw [eF]
    unfold ln1
    by_cases h106 : tkW u L p 6 = true
    · rw [if_pos h106]; exact Or.inr ⟨6, by decide, by decide, rfl, (wF_wc (by decide)).mpr ⟨h2, h106⟩⟩
    · rw [if_neg h106]
      by_cases h107 : tkW u L p 7 = true
      · rw [if_pos h107]; exact Or.inr ⟨7, by decide, by decide, rfl, (wF_wc (by decide)).mpr ⟨h2, h107⟩⟩
      · rw [if_neg h107]
        by_cases h108 : tkW u L p 8 = true
        · rw [if_pos h108]; exact Or.inr ⟨8, by decide, by decide, rfl, (wF_wc (by decide)).mpr ⟨h2, h108⟩⟩
        · rw [if_neg h108]
          by_cases h109 : tkW u L p 9 = true
          · rw [if_pos h109]; exact Or.inr ⟨9, by decide, by decide, rfl, (wF_wc (by decide)).mpr ⟨h2, h109⟩⟩
          · rw [if_neg h109]
            by_cases h110 : tkW u L p 10 = true
            · rw [if_pos h110]; exact Or.inr ⟨10, by decide, by decide, rfl, (wF_wc (by decide)).mpr ⟨h2, h110⟩⟩
            · rw [if_neg h110]
              refine Or.inl ⟨rfl, fun k k1 k2 e => ?_⟩
              have ht := ((wF_wc (by omega)).mp e).2
              have hk : k = 6 ∨ k = 7 ∨ k = 8 ∨ k = 9 ∨ k = 10 := by omega
              rcases hk with rfl | rfl | rfl | rfl | rfl
              · exact h106 ht
              · exact h107 ht
              · exact h108 ht
              · exact h109 ht
              · exact h110 ht
  · refine Or.inl ⟨by unfold lnF; rw [if_neg h2], fun k k1 k2 e => h2 ((wF_wc (by omega)).mp e).1⟩
theorem ln_w2 {u : Nat → Nat} {L p : Nat} : (lnF 2 u L p = 13 ∧ ∀ k, 11 ≤ k → k < 13 → wF u L p ≠ wc k) ∨ ∃ k, 11 ≤ k ∧ k < 13 ∧ lnF 2 u L p = k ∧ wF u L p = wc k := by
  by_cases h2 : tK u L p = 2
  · have eF : lnF 2 u L p = ln2 u L p := by unfold lnF; rw [if_pos h2]; rfl
    rw [eF]
    unfold ln2
    by_cases h111 : tkW u L p 11 = true
    · rw [if_pos h111]; exact Or.inr ⟨11, by decide, by decide, rfl, (wF_wc (by decide)).mpr ⟨h2, h111⟩⟩
    · rw [if_neg h111]
      by_cases h112 : tkW u L p 12 = true
      · rw [if_pos h112]; exact Or.inr ⟨12, by decide, by decide, rfl, (wF_wc (by decide)).mpr ⟨h2, h112⟩⟩
      · rw [if_neg h112]
        refine Or.inl ⟨rfl, fun k k1 k2 e => ?_⟩
        have ht := ((wF_wc (by omega)).mp e).2
        have hk : k = 11 ∨ k = 12 := by omega
        rcases hk with rfl | rfl
        · exact h111 ht
        · exact h112 ht
  · refine Or.inl ⟨by unfold lnF; rw [if_neg h2], fun k k1 k2 e => h2 ((wF_wc (by omega)).mp e).1⟩
theorem EndC.base {k : Nat} {u : Nat → Nat} {L p f0 p0 : Nat} {μ ν ξ : mm_M} (h : EndC k u L p f0 p0 ν ξ) (kx : K5 μ ν) (hr : ∀ t, RM0 t μ → RM0 t ν) : EndC k u L p f0 p0 μ ξ := by
  obtain ⟨a1, a2, a3, a4, a5, a6⟩ := h
  exact ⟨⟨kx.1.trans a1.1, a1.2.1.trans kx.2.1, fun j hj => (a1.2.2 j hj).trans (kx.2.2 j hj)⟩, a2, a3, a4, a5, fun t h1 => a6 t (hr t h1)⟩
theorem K5.trans {μ ν ξ : mm_M} (h : K5 μ ν) (g : K5 ν ξ) : K5 μ ξ := ⟨h.1.trans g.1, g.2.1.trans h.2.1, fun j hj => (g.2.2 j hj).trans (h.2.2 j hj)⟩
/-- a line begins: the word's token has been taken, the next one too -/
theorem LM_0 {k o : Nat} {u : Nat → Nat} {L p f0 p0 : Nat} {μ ν : mm_M} (hR : Rm u L μ) (km : Km μ ν) (tk : Tk2 u L (tN u L p) ν) (hk : tK u L p ≠ 1) (hF : LF f0 p0 (tP u L p + 1) μ) (hg : mm_I μ 71 21 = nI 1) : LM k o u L p f0 p0 ν ν 0 := by
  have h1 := tN_gt hk
  exact ⟨K2.rf, hR.km km, tk, hF.cg (Nat.le_trans h1.1 tP_ge) (km.2.2 16 (by decide) (by decide) (by decide) (by decide)) (km.2.2 17 (by decide) (by decide) (by decide) (by decide)), by rw [km.2.2 21 (by decide) (by decide) (by decide) (by decide)]; exact hg, fun j hj => absurd hj (Nat.not_lt_zero j)⟩
theorem jf_0 {k : Nat} {t : Nat → Nat} {fl pl x : Nat} (h : ¬ fu k t = true) : jf k t fl = fl ∧ jp k t fl pl x = pl := by
  unfold jf jp
  rw [if_neg h, if_neg h]
  by_cases h0 : fl ≠ 0
  · rw [if_pos h0, if_pos h0]; exact ⟨rfl, rfl⟩
  · rw [if_neg h0, if_neg h0]; exact ⟨by omega, rfl⟩
theorem jf_c {k : Nat} {t : Nat → Nat} {fl pl x c m : Nat} (h : fl = 0 → (fu k t = true ↔ m ≤ c)) : (if fl ≠ 0 then fl else if m ≤ c then 3 else 0) = jf k t fl ∧ (if fl ≠ 0 then pl else if m ≤ c then x else pl) = jp k t fl pl x := by
  unfold jf jp
  by_cases h0 : fl ≠ 0
  · rw [if_pos h0, if_pos h0, if_pos h0, if_pos h0]; exact ⟨rfl, rfl⟩
  · rw [if_neg h0, if_neg h0, if_neg h0, if_neg h0]
    have h1 := h (by omega)
    by_cases h2 : m ≤ c
    · rw [if_pos h2, if_pos h2, if_pos (h1.mpr h2), if_pos (h1.mpr h2)]; exact ⟨rfl, rfl⟩
    · rw [if_neg h2, if_neg h2, if_neg (fun z => h2 (h1.mp z)), if_neg (fun z => h2 (h1.mp z))]; exact ⟨rfl, rfl⟩
/-- weather and patience: the numbers have been read -/
theorem sp_M_coastEnd {X : mm_X} {μ ξ : mm_M} {q : Int32 → mm_M → Prop} {u : Nat → Nat} {L p f0 p0 k w x : Nat} (hk : (k = 1 ∧ w = 33606991467799922) ∨ (k = 4 ∧ w = 8097881601010983781)) (hx : LM k 0 u L p f0 p0 μ ξ 2) (hB : MB0 μ) (hok : ∀ ξ, EndC k u L p f0 p0 μ ξ → q (nI 1) ξ) : mm_T X 5 0 0 k_M_coastLine 189 [some (.ref 71), some (.long (lN w)), none, some (.int (nI x))] [] ξ (fun w μ' => ∃ z, w = some (.int z) ∧ q z μ') := by
  have hM := hx.2.1.1
  obtain ⟨c0, c1, b0, b1, e0, e1⟩ := hB.k2 hx.1
  have v0 : mm_I ξ 81 0 = nI (vv u L p 0) := (hx.2.2.2.2.2 0 (by decide)).1
  have v1 : mm_I ξ 81 1 = nI (vv u L p 1) := (hx.2.2.2.2.2 1 (by decide)).1
  have hnu : nu k = 2 := by rcases hk with ⟨rfl, -⟩ | ⟨rfl, -⟩ <;> rfl
  have hx' : LM k 0 u L p f0 p0 μ ξ (nu k) := by rw [hnu]; exact hx
  rcases gg_01 (k := k) (v := vv u L p) 2 with ⟨g1, g2⟩ | ⟨g1, g2⟩
  · have e21 : mm_I ξ 71 21 = nI 1 := by rw [hx.2.2.2.2.1, g1]
    rcases hk with ⟨rfl, rfl⟩ | ⟨rfl, rfl⟩
    · have w0 : vv u L p 0 ≤ 7 := (cb_i.mp (g2 0 (by decide))).1
      have done : q (nI 1) (mm_sI ξ 80 (2 + vv u L p 0) (nI (vv u L p 1))) := by
        refine hok _ (EndC.mk hx' (K2.rf.k5.s8) (fun j _ => by rw [mm_sI_off (by decide)]) rfl ⟨c0, c1, b0, b1, by rw [mm_I_sI, if_neg (by omega)]; exact e0, by rw [mm_I_sI, if_neg (by omega)]; exact e1⟩ (fun t h1 h2 h3 h4 => ?_))
        rw [stp1]
        refine ⟨fun j hj => ?_, ?_, fun j hj1 hj2 => ?_⟩
        · rw [mm_I_sI]
          unfold up
          by_cases y : j = 2 + vv u L p 0
          · rw [if_pos ⟨rfl, y⟩, if_pos y]
          · rw [if_neg (fun w => y w.2), if_neg y]; exact h1.1 j hj
        · rw [mm_sI_off (by decide), up_ne (by omega)]; exact h1.2.1
        · rw [up_ne (by omega)] at hj1
          rw [up_ne (by omega)]
          exact h1.2.2 j hj1 hj2
      refine mm_aload d_M_coastLine_189 rfl ?_
      refine mm_getIV d_M_coastLine_190 rfl (sk_o_71 hM) e21 ?_
      refine mm_if_eqN d_M_coastLine_193 (by first | omega | exact ite01_lt | exact bt8_lt31 _ _ | exact godB_lt31 _ _ _ | exact pop_lt31 _ | assumption | exact b31 (hW.gp (by omega)) | exact b31 (hW.ne (by omega)) | exact b31 (hW.op (by omega)) | exact and31 (hW.gp (by omega)) | exact and31 (hW.ne (by omega)) | exact and31 (hW.op (by omega)) | exact and31 (by assumption) | exact and31r (hW.ne (by omega)) | exact and31r (hW.gp (by omega)) | exact and31r (by decide)) (fun c_193 => False.elim (by omega)) (fun c_193 => ?_)
      refine mm_aload d_M_coastLine_196 rfl ?_
      refine mm_getP d_M_coastLine_197 rfl (sk_o_71 hM) (sk_p_71_18 hM) ?_
      refine mm_lload d_M_coastLine_200 rfl ?_
      refine mm_lciN 33606991467799922 d_M_coastLine_201 rfl ?_
      refine mm_lcmp d_M_coastLine_204 ?_
      refine mm_lif_neN d_M_coastLine_205 (by decide) (by decide) (fun c_205 => False.elim (by omega)) (fun c_205 => ?_)
      refine mm_ciN 2 d_M_coastLine_208 rfl ?_
      refine mm_goto d_M_coastLine_209 ?_
      refine mm_aload d_M_coastLine_214 rfl ?_
      refine mm_getP d_M_coastLine_215 rfl (sk_o_71 hM) (sk_p_71_19 hM) ?_
      refine mm_ciN 0 d_M_coastLine_218 rfl ?_
      refine mm_ialdN d_M_coastLine_219 (sk_a_81 hM) (by omega) (by decide) v0 ?_
      refine mm_iaddN d_M_coastLine_220 ?_
      refine mm_aload d_M_coastLine_221 rfl ?_
      refine mm_getP d_M_coastLine_222 rfl (sk_o_71 hM) (sk_p_71_19 hM) ?_
      refine mm_ciN 1 d_M_coastLine_225 rfl ?_
      refine mm_ialdN d_M_coastLine_226 (sk_a_81 hM) (by omega) (by decide) v1 ?_
      refine mm_iastX d_M_coastLine_227 (sk_a_80 hM) (by omega) (by decide) ?_
      refine mm_ciN 1 d_M_coastLine_228 rfl ?_
      exact mm_rz d_M_coastLine_229 done
    · have w0 : vv u L p 0 ≤ 7 := (cb_i.mp (g2 0 (by decide))).1
      have done : q (nI 1) (mm_sI ξ 80 (10 + vv u L p 0) (nI (vv u L p 1))) := by
        refine hok _ (EndC.mk hx' (K2.rf.k5.s8) (fun j _ => by rw [mm_sI_off (by decide)]) rfl ⟨c0, c1, b0, b1, by rw [mm_I_sI, if_neg (by omega)]; exact e0, by rw [mm_I_sI, if_neg (by omega)]; exact e1⟩ (fun t h1 h2 h3 h4 => ?_))
        rw [stp4]
        refine ⟨fun j hj => ?_, ?_, fun j hj1 hj2 => ?_⟩
        · rw [mm_I_sI]
          unfold up
          by_cases y : j = 10 + vv u L p 0
          · rw [if_pos ⟨rfl, y⟩, if_pos y]
          · rw [if_neg (fun w => y w.2), if_neg y]; exact h1.1 j hj
        · rw [mm_sI_off (by decide), up_ne (by omega)]; exact h1.2.1
        · rw [up_ne (by omega)] at hj1
          rw [up_ne (by omega)]
          exact h1.2.2 j hj1 hj2
      refine mm_aload d_M_coastLine_189 rfl ?_
      refine mm_getIV d_M_coastLine_190 rfl (sk_o_71 hM) e21 ?_
      refine mm_if_eqN d_M_coastLine_193 (by first | omega | exact ite01_lt | exact bt8_lt31 _ _ | exact godB_lt31 _ _ _ | exact pop_lt31 _ | assumption | exact b31 (hW.gp (by omega)) | exact b31 (hW.ne (by omega)) | exact b31 (hW.op (by omega)) | exact and31 (hW.gp (by omega)) | exact and31 (hW.ne (by omega)) | exact and31 (hW.op (by omega)) | exact and31 (by assumption) | exact and31r (hW.ne (by omega)) | exact and31r (hW.gp (by omega)) | exact and31r (by decide)) (fun c_193 => False.elim (by omega)) (fun c_193 => ?_)
      refine mm_aload d_M_coastLine_196 rfl ?_
      refine mm_getP d_M_coastLine_197 rfl (sk_o_71 hM) (sk_p_71_18 hM) ?_
      refine mm_lload d_M_coastLine_200 rfl ?_
      refine mm_lciN 33606991467799922 d_M_coastLine_201 rfl ?_
      refine mm_lcmp d_M_coastLine_204 ?_
      refine mm_lif_neN d_M_coastLine_205 (by decide) (by decide) (fun c_205 => ?_) (fun c_205 => False.elim (by omega))
      refine mm_ciN 10 d_M_coastLine_212 rfl ?_
      refine mm_aload d_M_coastLine_214 rfl ?_
      refine mm_getP d_M_coastLine_215 rfl (sk_o_71 hM) (sk_p_71_19 hM) ?_
      refine mm_ciN 0 d_M_coastLine_218 rfl ?_
      refine mm_ialdN d_M_coastLine_219 (sk_a_81 hM) (by omega) (by decide) v0 ?_
      refine mm_iaddN d_M_coastLine_220 ?_
      refine mm_aload d_M_coastLine_221 rfl ?_
      refine mm_getP d_M_coastLine_222 rfl (sk_o_71 hM) (sk_p_71_19 hM) ?_
      refine mm_ciN 1 d_M_coastLine_225 rfl ?_
      refine mm_ialdN d_M_coastLine_226 (sk_a_81 hM) (by omega) (by decide) v1 ?_
      refine mm_iastX d_M_coastLine_227 (sk_a_80 hM) (by omega) (by decide) ?_
      refine mm_ciN 1 d_M_coastLine_228 rfl ?_
      exact mm_rz d_M_coastLine_229 done
  · have e21 : mm_I ξ 71 21 = nI 0 := by rw [hx.2.2.2.2.1, g1]
    have done : q (nI 1) ξ := hok _ (EndC.mk hx' K2.rf.k5 (fun j _ => rfl) rfl ⟨c0, c1, b0, b1, e0, e1⟩ (fun t h1 h2 h3 h4 => absurd (by rw [hnu] at h4; exact h4) g2))
    refine mm_aload d_M_coastLine_189 rfl ?_
    refine mm_getIV d_M_coastLine_190 rfl (sk_o_71 hM) e21 ?_
    refine mm_if_eqN d_M_coastLine_193 (by first | omega | exact ite01_lt | exact bt8_lt31 _ _ | exact godB_lt31 _ _ _ | exact pop_lt31 _ | assumption | exact b31 (hW.gp (by omega)) | exact b31 (hW.ne (by omega)) | exact b31 (hW.op (by omega)) | exact and31 (hW.gp (by omega)) | exact and31 (hW.ne (by omega)) | exact and31 (hW.op (by omega)) | exact and31 (by assumption) | exact and31r (hW.ne (by omega)) | exact and31r (hW.gp (by omega)) | exact and31r (by decide)) (fun c_193 => ?_) (fun c_193 => False.elim (by omega))
    refine mm_ciN 1 d_M_coastLine_228 rfl ?_
    exact mm_rz d_M_coastLine_229 done
