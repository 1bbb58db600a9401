/-! texts: a line is read, by the class -/
theorem sp_Re_readLine {X : mm_X} {μ : mm_M} {q : mm_M → Prop} {s : Nat} {u : Nat → Nat} {L p : Nat} {t : Nat → Nat} {fl pl : Nat} (hS : ClS s u L p t fl pl μ) (hs3 : s < 3) (hp : p ≤ L) (hfl : fl < 5) (hs : ∀ x ν, lnX s u L p = some x → Fr scRe μ ν → mm_P ν = mm_P μ → mm_I ν 36 8 = mm_I μ 36 8 → (∃ y, y < 5 ∧ mm_I ν 36 12 = nI y) → mm_I ν 36 3 = nI 1 → mm_I ν 36 4 = nI x → q ν) (hok : ∀ ν, lnX s u L p = none → Fr scRe μ ν → mm_P ν = mm_P μ → ClS s u L (pE s u L p) (jg s u L p t fl pl).2.2 (jg s u L p t fl pl).1 (jg s u L p t fl pl).2.1 ν → q ν) : mm_Cv X 7 0 0 k_Re_readLine [.ref 36] μ q := by
  obtain ⟨hR, hT, h9, hF, hFp, hD⟩ := hS
  have hM := hR.1
  have hL6 := hR.2.2.2.1
  have hk5 := tK_lt (u := u) (L := L) (p := p)
  show mm_T X 7 0 0 k_Re_readLine 0 [some (.ref 36), none, none, none] [] μ _
  rcases lnF_or (u := u) (L := L) (p := p) hs3 with hk | ⟨hk, hsr, hk2⟩
  · have e : lnI (lnF s u L p) = -1 := by rw [hk]; rfl
    refine mm_aload d_Re_readLine_0 rfl ?_
    refine mm_getIN d_Re_readLine_1 rfl (sk_o_36 hM) hT.2.2.1 ?_
    refine mm_ist1 d_Re_readLine_4 ?_
    refine mm_aload d_Re_readLine_5 rfl ?_
    refine mm_v0i d_Re_readLine_6 (sk_o_36 hM) (sp_Re_lineOfWord hR hT hp h9 hs3 ?_)
    rw [e]
    refine mm_ist2 d_Re_readLine_9 ?_
    refine mm_iload d_Re_readLine_10 rfl ?_
    refine mm_ci d_Re_readLine_11 ?_
    refine mm_icmp_neS d_Re_readLine_12 ?_
    refine mm_aload d_Re_readLine_15 rfl ?_
    refine mm_v0v d_Re_readLine_16 (sk_o_36 hM) (sp_Re_getStuck hM hT.2.2.1 ?_)
    exact mm_rv d_Re_readLine_19 (hs (tP u L p) _ (by unfold lnX; rw [if_pos hk]) ((Fr.rf.sI rfl).sI rfl) rfl rfl ⟨tK u L p, hk5, by rw [mm_I_sI, if_neg (by decide), mm_I_sI, if_neg (by decide)]; exact hT.2.1⟩ (by rw [mm_I_sI, if_neg (by decide), mm_I_sI, if_pos ⟨rfl, rfl⟩]) (by rw [mm_I_sI, if_pos ⟨rfl, rfl⟩]))
  · have hk13 : lnF s u L p ≠ 13 := by omega
    have e : lnI (lnF s u L p) = nI (lnF s u L p) := if_neg hk13
    have eX : lnX s u L p = bd u L (nu (lnF s u L p)) (ps u L p 0) := if_neg hk13
    have hn3 := (nu_i _ hk).2
    have stuck : ∀ (i : Nat) (ν : mm_M), i ≤ 3 → LnC u L p μ ν i → lnX s u L p = some (tP u L (ps u L p i)) → q (mm_sI (mm_sI ν 36 3 (nI 1)) 36 4 (nI (tP u L (ps u L p i)))) := by
      intro i ν hi hl hx
      obtain ⟨a1, a2, a3, a4, a5, a6, a7⟩ := hl
      exact hs _ _ hx ((a1.sI rfl).sI rfl) a2 (by rw [mm_I_sI, if_neg (by decide), mm_I_sI, if_neg (by decide)]; exact a3 8 (by decide)) ⟨tK u L (ps u L p i), tK_lt, by rw [mm_I_sI, if_neg (by decide), mm_I_sI, if_neg (by decide)]; exact a6.2.1⟩ (by rw [mm_I_sI, if_neg (by decide), mm_I_sI, if_pos ⟨rfl, rfl⟩]) (by rw [mm_I_sI, if_pos ⟨rfl, rfl⟩])
    have fin : ∀ (ν : mm_M) (l3 : Option Value), LnC u L p μ ν (nu (lnF s u L p)) → lnX s u L p = bd u L 0 (ps u L p (nu (lnF s u L p))) → mm_T X 7 0 0 k_Re_readLine 78 [some (.ref 36), some (.int (nI (tP u L p))), some (.int (nI (lnF s u L p))), l3] [] ν (fun w μ' => w = none ∧ q μ') := by
      intro ν l3 hl hx
      have hl' := hl
      obtain ⟨a1, a2, a3, a4, a5, a6, a7⟩ := hl
      have hM := a5.1
      have hk6 := tK_lt (u := u) (L := L) (p := ps u L p (nu (lnF s u L p)))
      by_cases h4 : tK u L (ps u L p (nu (lnF s u L p))) = 4
      · have hx0 : lnX s u L p = none := by rw [hx]; exact if_pos h4
        have hpn := ps_le (u := u) hp (nu (lnF s u L p))
        have done : ∀ ξ, Kt ν ξ → Tk1 u L (pE s u L p) ξ → fl ≠ 0 → q ξ := by
          intro ξ kt tk hf0
          have ej : jg s u L p t fl pl = (fl, pl, t) := if_pos hf0
          refine hok ξ hx0 (a1.trans kt.re) (kt.2.1.trans a2) ?_
          rw [ej]
          exact ⟨a5.kt kt, tk, by rw [kt.2.2 9 (by omega), a3 9 (by decide)]; exact h9, by rw [kt.2.2 3 (by omega), a3 3 (by decide)]; exact hF, by rw [kt.2.2 4 (by omega), a3 4 (by decide)]; exact hFp, fun z => absurd z hf0⟩
        refine mm_aload d_Re_readLine_78 rfl ?_
        refine mm_getIN d_Re_readLine_79 rfl (sk_o_36 hM) a6.2.1 ?_
        refine mm_ciN 4 d_Re_readLine_82 rfl ?_
        refine mm_icmp_eqN d_Re_readLine_83 (by first | omega | exact ite01_lt | exact bt8_lt31 _ _ | exact godB_lt31 _ _ _ | exact pop_lt31 _ | assumption | exact b31 (hW.gp (by omega)) | exact b31 (hW.ne (by omega)) | exact b31 (hW.op (by omega)) | exact and31 (hW.gp (by omega)) | exact and31 (hW.ne (by omega)) | exact and31 (hW.op (by omega)) | exact and31 (by assumption) | exact and31r (hW.ne (by omega)) | exact and31r (hW.gp (by omega)) | exact and31r (by decide)) (by first | omega | exact ite01_lt | exact bt8_lt31 _ _ | exact godB_lt31 _ _ _ | exact pop_lt31 _ | assumption | exact b31 (hW.gp (by omega)) | exact b31 (hW.ne (by omega)) | exact b31 (hW.op (by omega)) | exact and31 (hW.gp (by omega)) | exact and31 (hW.ne (by omega)) | exact and31 (hW.op (by omega)) | exact and31 (by assumption) | exact and31r (hW.ne (by omega)) | exact and31r (hW.gp (by omega)) | exact and31r (by decide)) (fun c_83 => ?_) (fun c_83 => False.elim (by omega))
        refine mm_aload d_Re_readLine_91 rfl ?_
        refine mm_v0v d_Re_readLine_92 (sk_o_36 hM) (sp_Re_takeToken a5 a6.1 (tN_le hpn) (fun ξ kt tk => ?_))
        replace hM := (a5.kt kt).1
        refine mm_aload d_Re_readLine_95 rfl ?_
        refine mm_getIN d_Re_readLine_96 rfl (sk_o_36 hM) (show _ = nI fl by rw [kt.2.2 3 (by omega), a3 3 (by decide)]; exact hF) ?_
        refine mm_if_neN d_Re_readLine_99 (by first | omega | exact ite01_lt | exact bt8_lt31 _ _ | exact godB_lt31 _ _ _ | exact pop_lt31 _ | assumption | exact b31 (hW.gp (by omega)) | exact b31 (hW.ne (by omega)) | exact b31 (hW.op (by omega)) | exact and31 (hW.gp (by omega)) | exact and31 (hW.ne (by omega)) | exact and31 (hW.op (by omega)) | exact and31 (by assumption) | exact and31r (hW.ne (by omega)) | exact and31r (hW.gp (by omega)) | exact and31r (by decide)) (fun c_99 => ?_) (fun c_99 => ?_)
        · exact mm_rv d_Re_readLine_108 (done ξ kt tk c_99)
        · have hf0 : fl = 0 := by omega
          obtain ⟨hC, hW⟩ := hD hf0
          have hC' : RC (srt (lnF s u L p)) t ξ := by rw [hsr]; exact hC.cg hM (fun a h1 h2 => by rw [(kt.1.2.2.1 a (by unfold sc36; simp; omega)).1]; exact a4 a h1 h2) (by rw [kt.2.2 10 (by omega)]; exact a3 10 (by decide))
          have hW' : WfT (srt (lnF s u L p)) t := by rw [hsr]; exact hW
          have hRx := a5.kt kt
          have hF' : mm_I ξ 36 3 = nI 0 := by rw [kt.2.2 3 (by omega), a3 3 (by decide), hF, hf0]
          have hF4 : mm_I ξ 36 4 = -1 := by rw [kt.2.2 4 (by omega), a3 4 (by decide), hFp, if_pos hf0]
          have h9' : mm_I ξ 36 9 = nI s := by rw [kt.2.2 9 (by omega), a3 9 (by decide)]; exact h9
          refine mm_aload d_Re_readLine_102 rfl ?_
          refine mm_iload d_Re_readLine_103 rfl ?_
          refine mm_iload d_Re_readLine_104 rfl ?_
          refine mm_v2v d_Re_readLine_105 (sk_o_36 hM) (sp_Re_judge (v := vv u L p) (x := fun j => tP u L (ps u L p j)) hM hk hC' hW' (fun j hj => ⟨by rw [(kt.1.2.2.1 51 rfl).1]; exact (a7 j hj).1, tV_lt (a7 j hj).2.2⟩) (fun j hj => by rw [(kt.1.2.2.1 52 rfl).1]; exact (a7 j hj).2.1) (fun g3 => ?_) (fun i hi g1 g2 => ?_) (fun ρ g1 g2 kr f3 f4 rc => ?_))
          · have ej : jg s u L p t fl pl = (3, tP u L p, t) := by unfold jg; rw [if_neg (by omega), if_pos g3]
            refine mm_rv d_Re_readLine_108 (hok _ hx0 (((a1.trans kt.re).sI rfl).sI rfl) (kt.2.1.trans a2) ?_)
            rw [ej]
            exact ⟨Rd.cg hRx hM rfl (by rw [mm_I_sI, if_neg (by decide), mm_I_sI, if_neg (by decide)]) (by rw [mm_sI_off (by decide), mm_sI_off (by decide)]), tk.cg (fun j h1 h2 => by rw [mm_I_sI, if_neg (by omega), mm_I_sI, if_neg (by omega)]), by rw [mm_I_sI, if_neg (by decide), mm_I_sI, if_neg (by decide)]; exact h9', by rw [mm_I_sI, if_neg (by decide), mm_I_sI, if_pos ⟨rfl, rfl⟩], by rw [mm_I_sI, if_pos ⟨rfl, rfl⟩]; rfl, fun z => absurd (show (3 : Nat) = 0 from z) (by decide)⟩
          · have ej : jg s u L p t fl pl = (2, tP u L (ps u L p i), t) := by unfold jg; rw [if_neg (by omega), if_neg g1, g2]
            refine mm_rv d_Re_readLine_108 (hok _ hx0 (((a1.trans kt.re).sI rfl).sI rfl) (kt.2.1.trans a2) ?_)
            rw [ej]
            exact ⟨Rd.cg hRx hM rfl (by rw [mm_I_sI, if_neg (by decide), mm_I_sI, if_neg (by decide)]) (by rw [mm_sI_off (by decide), mm_sI_off (by decide)]), tk.cg (fun j h1 h2 => by rw [mm_I_sI, if_neg (by omega), mm_I_sI, if_neg (by omega)]), by rw [mm_I_sI, if_neg (by decide), mm_I_sI, if_neg (by decide)]; exact h9', by rw [mm_I_sI, if_neg (by decide), mm_I_sI, if_pos ⟨rfl, rfl⟩], by rw [mm_I_sI, if_pos ⟨rfl, rfl⟩]; rfl, fun z => absurd (show (2 : Nat) = 0 from z) (by decide)⟩
          · have ej : jg s u L p t fl pl = (0, pl, stp (lnF s u L p) (vv u L p) t) := by unfold jg; rw [if_neg (by omega), if_neg g1, g2]
            refine mm_rv d_Re_readLine_108 (hok _ hx0 ((a1.trans kt.re).trans kr.1) (kr.2.1.trans (kt.2.1.trans a2)) ?_)
            rw [ej]
            have hcb : ∀ j, j < nu (lnF s u L p) → cb (lnF s u L p) (vv u L p) j = true := fun j hj => fb_all g2 j hj
            exact ⟨Rd.cg hRx (kr.1.2.2.2 hM) kr.2.1 (kr.2.2 8 (by decide) (by decide) (by decide)) (kr.1.2.2.1 2 rfl).1, tk.cg (fun j h1 h2 => kr.2.2 j (by omega) (by omega) (by omega)), by rw [kr.2.2 9 (by decide) (by decide) (by decide)]; exact h9', by rw [f3]; exact hF', by rw [f4]; exact hF4, fun _ => ⟨by rw [hsr] at rc; exact rc, by have := WfT_stp hk hW' g1 hcb; rw [hsr] at this; exact this⟩⟩
      · have hx1 : lnX s u L p = some (tP u L (ps u L p (nu (lnF s u L p)))) := by rw [hx]; exact if_neg h4
        refine mm_aload d_Re_readLine_78 rfl ?_
        refine mm_getIN d_Re_readLine_79 rfl (sk_o_36 hM) a6.2.1 ?_
        refine mm_ciN 4 d_Re_readLine_82 rfl ?_
        refine mm_icmp_eqN d_Re_readLine_83 (by first | omega | exact ite01_lt | exact bt8_lt31 _ _ | exact godB_lt31 _ _ _ | exact pop_lt31 _ | assumption | exact b31 (hW.gp (by omega)) | exact b31 (hW.ne (by omega)) | exact b31 (hW.op (by omega)) | exact and31 (hW.gp (by omega)) | exact and31 (hW.ne (by omega)) | exact and31 (hW.op (by omega)) | exact and31 (by assumption) | exact and31r (hW.ne (by omega)) | exact and31r (hW.gp (by omega)) | exact and31r (by decide)) (by first | omega | exact ite01_lt | exact bt8_lt31 _ _ | exact godB_lt31 _ _ _ | exact pop_lt31 _ | assumption | exact b31 (hW.gp (by omega)) | exact b31 (hW.ne (by omega)) | exact b31 (hW.op (by omega)) | exact and31 (hW.gp (by omega)) | exact and31 (hW.ne (by omega)) | exact and31 (hW.op (by omega)) | exact and31 (by assumption) | exact and31r (hW.ne (by omega)) | exact and31r (hW.gp (by omega)) | exact and31r (by decide)) (fun c_83 => False.elim (by omega)) (fun c_83 => ?_)
        refine mm_aload d_Re_readLine_86 rfl ?_
        refine mm_v0v d_Re_readLine_87 (sk_o_36 hM) (sp_Re_getStuck hM a6.2.2.1 ?_)
        exact mm_rv d_Re_readLine_90 (stuck _ ν hn3 hl' hx1)
    have loop : ∀ (m i : Nat) (ν : mm_M), nu (lnF s u L p) - i = m → i ≤ nu (lnF s u L p) → LnC u L p μ ν i → lnX s u L p = bd u L m (ps u L p i) → mm_T X 7 0 0 k_Re_readLine 26 [some (.ref 36), some (.int (nI (tP u L p))), some (.int (nI (lnF s u L p))), some (.int (nI i))] [] ν (fun w μ' => w = none ∧ q μ') := by
      intro m
      induction m with
      | zero =>
        intro i ν hm hi hl hx
        obtain rfl : i = nu (lnF s u L p) := by omega
        have hM := hl.2.2.2.2.1.1
        refine mm_iload d_Re_readLine_26 rfl ?_
        refine mm_gets d_Re_readLine_27 ?_
        refine mm_iload d_Re_readLine_30 rfl ?_
        refine mm_knum d_Re_readLine_31 hk ?_
        refine mm_icmp_geN d_Re_readLine_32 (by first | omega | exact ite01_lt | exact bt8_lt31 _ _ | exact godB_lt31 _ _ _ | exact pop_lt31 _ | assumption | exact b31 (hW.gp (by omega)) | exact b31 (hW.ne (by omega)) | exact b31 (hW.op (by omega)) | exact and31 (hW.gp (by omega)) | exact and31 (hW.ne (by omega)) | exact and31 (hW.op (by omega)) | exact and31 (by assumption) | exact and31r (hW.ne (by omega)) | exact and31r (hW.gp (by omega)) | exact and31r (by decide)) (by first | omega | exact ite01_lt | exact bt8_lt31 _ _ | exact godB_lt31 _ _ _ | exact pop_lt31 _ | assumption | exact b31 (hW.gp (by omega)) | exact b31 (hW.ne (by omega)) | exact b31 (hW.op (by omega)) | exact and31 (hW.gp (by omega)) | exact and31 (hW.ne (by omega)) | exact and31 (hW.op (by omega)) | exact and31 (by assumption) | exact and31r (hW.ne (by omega)) | exact and31r (hW.gp (by omega)) | exact and31r (by decide)) (fun c_32 => ?_) (fun c_32 => False.elim (by omega))
        exact fin ν _ hl hx
      | succ m ih =>
        intro i ν hm hi hl hx
        have hl' := hl
        obtain ⟨a1, a2, a3, a4, a5, a6, a7⟩ := hl
        have hM := a5.1
        have hk6 := tK_lt (u := u) (L := L) (p := ps u L p i)
        rw [show bd u L (m + 1) (ps u L p i) = if tK u L (ps u L p i) = 3 then bd u L m (tN u L (ps u L p i)) else some (tP u L (ps u L p i)) from rfl] at hx
        by_cases h3 : tK u L (ps u L p i) = 3
        · rw [if_pos h3] at hx
          have hpn := ps_le (u := u) hp i
          have hR2 : ∀ x y, Rd u L (mm_sI (mm_sI ν 51 i x) 52 i y) := fun x y => Rd.cg a5 a5.1 rfl (by rw [mm_sI_off (by decide), mm_sI_off (by decide)]) (by rw [mm_sI_off (by decide), mm_sI_off (by decide)])
          refine mm_iload d_Re_readLine_26 rfl ?_
          refine mm_gets d_Re_readLine_27 ?_
          refine mm_iload d_Re_readLine_30 rfl ?_
          refine mm_knum d_Re_readLine_31 hk ?_
          refine mm_icmp_geN d_Re_readLine_32 (by first | omega | exact ite01_lt | exact bt8_lt31 _ _ | exact godB_lt31 _ _ _ | exact pop_lt31 _ | assumption | exact b31 (hW.gp (by omega)) | exact b31 (hW.ne (by omega)) | exact b31 (hW.op (by omega)) | exact and31 (hW.gp (by omega)) | exact and31 (hW.ne (by omega)) | exact and31 (hW.op (by omega)) | exact and31 (by assumption) | exact and31r (hW.ne (by omega)) | exact and31r (hW.gp (by omega)) | exact and31r (by decide)) (by first | omega | exact ite01_lt | exact bt8_lt31 _ _ | exact godB_lt31 _ _ _ | exact pop_lt31 _ | assumption | exact b31 (hW.gp (by omega)) | exact b31 (hW.ne (by omega)) | exact b31 (hW.op (by omega)) | exact and31 (hW.gp (by omega)) | exact and31 (hW.ne (by omega)) | exact and31 (hW.op (by omega)) | exact and31 (by assumption) | exact and31r (hW.ne (by omega)) | exact and31r (hW.gp (by omega)) | exact and31r (by decide)) (fun c_32 => False.elim (by omega)) (fun c_32 => ?_)
          refine mm_aload d_Re_readLine_35 rfl ?_
          refine mm_getIN d_Re_readLine_36 rfl (sk_o_36 hM) a6.2.1 ?_
          refine mm_ciN 3 d_Re_readLine_39 rfl ?_
          refine mm_icmp_eqN d_Re_readLine_40 (by first | omega | exact ite01_lt | exact bt8_lt31 _ _ | exact godB_lt31 _ _ _ | exact pop_lt31 _ | assumption | exact b31 (hW.gp (by omega)) | exact b31 (hW.ne (by omega)) | exact b31 (hW.op (by omega)) | exact and31 (hW.gp (by omega)) | exact and31 (hW.ne (by omega)) | exact and31 (hW.op (by omega)) | exact and31 (by assumption) | exact and31r (hW.ne (by omega)) | exact and31r (hW.gp (by omega)) | exact and31r (by decide)) (by first | omega | exact ite01_lt | exact bt8_lt31 _ _ | exact godB_lt31 _ _ _ | exact pop_lt31 _ | assumption | exact b31 (hW.gp (by omega)) | exact b31 (hW.ne (by omega)) | exact b31 (hW.op (by omega)) | exact and31 (hW.gp (by omega)) | exact and31 (hW.ne (by omega)) | exact and31 (hW.op (by omega)) | exact and31 (by assumption) | exact and31r (hW.ne (by omega)) | exact and31r (hW.gp (by omega)) | exact and31r (by decide)) (fun c_40 => ?_) (fun c_40 => False.elim (by omega))
          refine mm_aload d_Re_readLine_48 rfl ?_
          refine mm_getP d_Re_readLine_49 rfl (sk_o_36 hM) (sk_p_36_5 hM) ?_
          refine mm_iload d_Re_readLine_52 rfl ?_
          refine mm_aload d_Re_readLine_53 rfl ?_
          refine mm_getIN d_Re_readLine_54 rfl (sk_o_36 hM) (a6.2.2.2 h3) ?_
          refine mm_iastX d_Re_readLine_57 (sk_a_51 hM) (by omega) (by decide) ?_
          refine mm_aload d_Re_readLine_58 rfl ?_
          refine mm_getP d_Re_readLine_59 rfl (sk_o_36 hM) (sk_p_36_6 hM) ?_
          refine mm_iload d_Re_readLine_62 rfl ?_
          refine mm_aload d_Re_readLine_63 rfl ?_
          refine mm_getIN d_Re_readLine_64 rfl (sk_o_36 hM) (by rw [mm_sI_off (by decide)]; exact a6.2.2.1) ?_
          refine mm_iastX d_Re_readLine_67 (sk_a_52 hM) (by omega) (by decide) ?_
          refine mm_aload d_Re_readLine_68 rfl ?_
          refine mm_v0v d_Re_readLine_69 (sk_o_36 hM) (sp_Re_takeToken (hR2 _ _) (by rw [mm_sI_off (by decide), mm_sI_off (by decide)]; exact a6.1) (tN_le hpn) (fun ξ kt tk => ?_))
          refine mm_inc3N d_Re_readLine_72 ?_
          refine mm_goto d_Re_readLine_75 ?_
          exact ih (i + 1) ξ (by omega) (by omega) (hl'.tok h3 rfl rfl kt tk) hx
        · rw [if_neg h3] at hx
          refine mm_iload d_Re_readLine_26 rfl ?_
          refine mm_gets d_Re_readLine_27 ?_
          refine mm_iload d_Re_readLine_30 rfl ?_
          refine mm_knum d_Re_readLine_31 hk ?_
          refine mm_icmp_geN d_Re_readLine_32 (by first | omega | exact ite01_lt | exact bt8_lt31 _ _ | exact godB_lt31 _ _ _ | exact pop_lt31 _ | assumption | exact b31 (hW.gp (by omega)) | exact b31 (hW.ne (by omega)) | exact b31 (hW.op (by omega)) | exact and31 (hW.gp (by omega)) | exact and31 (hW.ne (by omega)) | exact and31 (hW.op (by omega)) | exact and31 (by assumption) | exact and31r (hW.ne (by omega)) | exact and31r (hW.gp (by omega)) | exact and31r (by decide)) (by first | omega | exact ite01_lt | exact bt8_lt31 _ _ | exact godB_lt31 _ _ _ | exact pop_lt31 _ | assumption | exact b31 (hW.gp (by omega)) | exact b31 (hW.ne (by omega)) | exact b31 (hW.op (by omega)) | exact and31 (hW.gp (by omega)) | exact and31 (hW.ne (by omega)) | exact and31 (hW.op (by omega)) | exact and31 (by assumption) | exact and31r (hW.ne (by omega)) | exact and31r (hW.gp (by omega)) | exact and31r (by decide)) (fun c_32 => False.elim (by omega)) (fun c_32 => ?_)
          refine mm_aload d_Re_readLine_35 rfl ?_
          refine mm_getIN d_Re_readLine_36 rfl (sk_o_36 hM) a6.2.1 ?_
          refine mm_ciN 3 d_Re_readLine_39 rfl ?_
          refine mm_icmp_eqN d_Re_readLine_40 (by first | omega | exact ite01_lt | exact bt8_lt31 _ _ | exact godB_lt31 _ _ _ | exact pop_lt31 _ | assumption | exact b31 (hW.gp (by omega)) | exact b31 (hW.ne (by omega)) | exact b31 (hW.op (by omega)) | exact and31 (hW.gp (by omega)) | exact and31 (hW.ne (by omega)) | exact and31 (hW.op (by omega)) | exact and31 (by assumption) | exact and31r (hW.ne (by omega)) | exact and31r (hW.gp (by omega)) | exact and31r (by decide)) (by first | omega | exact ite01_lt | exact bt8_lt31 _ _ | exact godB_lt31 _ _ _ | exact pop_lt31 _ | assumption | exact b31 (hW.gp (by omega)) | exact b31 (hW.ne (by omega)) | exact b31 (hW.op (by omega)) | exact and31 (hW.gp (by omega)) | exact and31 (hW.ne (by omega)) | exact and31 (hW.op (by omega)) | exact and31 (by assumption) | exact and31r (hW.ne (by omega)) | exact and31r (hW.gp (by omega)) | exact and31r (by decide)) (fun c_40 => False.elim (by omega)) (fun c_40 => ?_)
          refine mm_aload d_Re_readLine_43 rfl ?_
          refine mm_v0v d_Re_readLine_44 (sk_o_36 hM) (sp_Re_getStuck hM a6.2.2.1 ?_)
          exact mm_rv d_Re_readLine_47 (stuck i ν (by omega) hl' hx)
    refine mm_aload d_Re_readLine_0 rfl ?_
    refine mm_getIN d_Re_readLine_1 rfl (sk_o_36 hM) hT.2.2.1 ?_
    refine mm_ist1 d_Re_readLine_4 ?_
    refine mm_aload d_Re_readLine_5 rfl ?_
    refine mm_v0i d_Re_readLine_6 (sk_o_36 hM) (sp_Re_lineOfWord hR hT hp h9 hs3 ?_)
    rw [e]
    refine mm_ist2 d_Re_readLine_9 ?_
    refine mm_iload d_Re_readLine_10 rfl ?_
    refine mm_ci d_Re_readLine_11 ?_
    refine mm_icmp_neM1 d_Re_readLine_12 (by first | omega | exact ite01_lt | exact bt8_lt31 _ _ | exact godB_lt31 _ _ _ | exact pop_lt31 _ | assumption | exact b31 (hW.gp (by omega)) | exact b31 (hW.ne (by omega)) | exact b31 (hW.op (by omega)) | exact and31 (hW.gp (by omega)) | exact and31 (hW.ne (by omega)) | exact and31 (hW.op (by omega)) | exact and31 (by assumption) | exact and31r (hW.ne (by omega)) | exact and31r (hW.gp (by omega)) | exact and31r (by decide)) ?_
    refine mm_aload d_Re_readLine_20 rfl ?_
    refine mm_v0v d_Re_readLine_21 (sk_o_36 hM) (sp_Re_takeToken hR hT.1 (tN_le hp) (fun ξ kt tk => ?_))
    refine mm_ciN 0 d_Re_readLine_24 rfl ?_
    refine mm_ist3 d_Re_readLine_25 ?_
    exact loop (nu (lnF s u L p)) 0 ξ (Nat.sub_zero _) (Nat.zero_le _) ⟨kt.re, kt.2.1, fun j hj => kt.2.2 j (by omega), fun a h1 h2 => (kt.1.2.2.1 a (by unfold sc36; simp; omega)).1, hR.kt kt, tk, fun j hj => absurd hj (Nat.not_lt_zero j)⟩ eX
