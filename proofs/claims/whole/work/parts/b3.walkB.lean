/-! asking: the class's walk, most -/
theorem FF_le {D : mm_D} {g ou : Nat → Nat} {m h M : Nat} (hg : ∀ x, g x < M) (s : Nat) : FF D g ou m h s ≤ M := vG_le hg _
theorem sp_As_walk {X : mm_X} {D : mm_D} {e W cr : Nat} {g ou : Nat → Nat} (hg : ∀ x, g x < 1000) (hou : ∀ c, c < dn D → bt8 cr c = 1 - ou c) (hcr : cr < 256) (hW2 : W < 2 ^ 30) : ∀ (m c h P b : Nat) (ν : mm_M) (q : mm_M → Prop), m + c = dn D → h < 256 → b ≤ 1000 → AsG D e g ν → mm_I ν 57 5 = nI W → mm_I ν 57 7 = nI cr → WI D g ou W m c P b ν → (∀ ν', WP D g ou W m c h P b ν ν' → q ν') → mm_Cv X (m + 3) 0 0 k_As_walk [.ref 57, .int (nI c), .int (nI h)] ν q := by
  intro m
  induction m with
  | zero =>
    intro c h P b ν q hm hh hb hA h5 h7 hi hq
    have hM := hA.1
    have hW := hA.2.2.2.2.1
    have hn6 := hW.1
    show mm_T X (0 + 3) 0 0 k_As_walk 0 [some (.ref 57), some (.int (nI c)), some (.int (nI h)), none, none] [] ν _
    by_cases hs : Sn W ν c h
    · have hs' : mm_I ν 62 (c * 256 + h) = nI W := by rw [Nat.mul_comm]; exact hs
      refine mm_iload d_As_walk_0 rfl ?_
      refine mm_ciN 256 d_As_walk_1 rfl ?_
      refine mm_imulN d_As_walk_4 ?_
      refine mm_iload d_As_walk_5 rfl ?_
      refine mm_iaddN d_As_walk_6 ?_
      refine mm_ist3 d_As_walk_7 ?_
      refine mm_iload d_As_walk_8 rfl ?_
      refine mm_ciN 6 d_As_walk_9 rfl ?_
      refine mm_icmp_gtN d_As_walk_11 (by first | omega | exact ite01_lt | exact bt8_lt31 _ _ | exact godB_lt31 _ _ _ | exact pop_lt31 _ | assumption | exact b31 (hW.gp (by omega)) | exact b31 (hW.ne (by omega)) | exact b31 (hW.op (by omega)) | exact and31 (hW.gp (by omega)) | exact and31 (hW.ne (by omega)) | exact and31 (hW.op (by omega)) | exact and31 (by assumption) | exact and31r (hW.ne (by omega)) | exact and31r (hW.gp (by omega)) | exact and31r (by decide)) (by first | omega | exact ite01_lt | exact bt8_lt31 _ _ | exact godB_lt31 _ _ _ | exact pop_lt31 _ | assumption | exact b31 (hW.gp (by omega)) | exact b31 (hW.ne (by omega)) | exact b31 (hW.op (by omega)) | exact and31 (hW.gp (by omega)) | exact and31 (hW.ne (by omega)) | exact and31 (hW.op (by omega)) | exact and31 (by assumption) | exact and31r (hW.ne (by omega)) | exact and31r (hW.gp (by omega)) | exact and31r (by decide)) (fun c_11 => False.elim (by omega)) (fun c_11 => ?_)
      refine mm_aload d_As_walk_14 rfl ?_
      refine mm_getP d_As_walk_15 rfl (sk_o_57 hM) (sk_p_57_4 hM) ?_
      refine mm_iload d_As_walk_18 rfl ?_
      refine mm_ialdN d_As_walk_19 (sk_a_62 hM) (by omega) (by decide) hs' ?_
      refine mm_aload d_As_walk_20 rfl ?_
      refine mm_getIN d_As_walk_21 rfl (sk_o_57 hM) h5 ?_
      refine mm_icmp_neN d_As_walk_24 (by first | omega | exact ite01_lt | exact bt8_lt31 _ _ | exact godB_lt31 _ _ _ | exact pop_lt31 _ | assumption | exact b31 (hW.gp (by omega)) | exact b31 (hW.ne (by omega)) | exact b31 (hW.op (by omega)) | exact and31 (hW.gp (by omega)) | exact and31 (hW.ne (by omega)) | exact and31 (hW.op (by omega)) | exact and31 (by assumption) | exact and31r (hW.ne (by omega)) | exact and31r (hW.gp (by omega)) | exact and31r (by decide)) (by first | omega | exact ite01_lt | exact bt8_lt31 _ _ | exact godB_lt31 _ _ _ | exact pop_lt31 _ | assumption | exact b31 (hW.gp (by omega)) | exact b31 (hW.ne (by omega)) | exact b31 (hW.op (by omega)) | exact and31 (hW.gp (by omega)) | exact and31 (hW.ne (by omega)) | exact and31 (hW.op (by omega)) | exact and31 (by assumption) | exact and31r (hW.ne (by omega)) | exact and31r (hW.gp (by omega)) | exact and31r (by decide)) (fun c_24 => False.elim (by omega)) (fun c_24 => ?_)
      exact mm_rv d_As_walk_27 (hq ν (WP.seen hm hh hi hs))
    · obtain ⟨z, hz, ez⟩ := hi.2.2.2 (c * 256 + h) (by omega)
      have hzW : z ≠ W := fun y => hs (by unfold Sn; rw [Nat.mul_comm, ez, y])
      have hA1 : AsG D e g (mm_sI ν 62 (256 * c + h) (nI W)) := hA.kw (Kw.rf.s (by omega))
      have hb1 : mm_I (mm_sI ν 62 (256 * c + h) (nI W)) 57 8 = bI b := by rw [mm_sI_off (by decide)]; exact hi.1
      have hCD := hA1.2.2.2.1
      have hP := hA1.2.2.1
      refine mm_iload d_As_walk_0 rfl ?_
      refine mm_ciN 256 d_As_walk_1 rfl ?_
      refine mm_imulN d_As_walk_4 ?_
      refine mm_iload d_As_walk_5 rfl ?_
      refine mm_iaddN d_As_walk_6 ?_
      refine mm_ist3 d_As_walk_7 ?_
      refine mm_iload d_As_walk_8 rfl ?_
      refine mm_ciN 6 d_As_walk_9 rfl ?_
      refine mm_icmp_gtN d_As_walk_11 (by first | omega | exact ite01_lt | exact bt8_lt31 _ _ | exact godB_lt31 _ _ _ | exact pop_lt31 _ | assumption | exact b31 (hW.gp (by omega)) | exact b31 (hW.ne (by omega)) | exact b31 (hW.op (by omega)) | exact and31 (hW.gp (by omega)) | exact and31 (hW.ne (by omega)) | exact and31 (hW.op (by omega)) | exact and31 (by assumption) | exact and31r (hW.ne (by omega)) | exact and31r (hW.gp (by omega)) | exact and31r (by decide)) (by first | omega | exact ite01_lt | exact bt8_lt31 _ _ | exact godB_lt31 _ _ _ | exact pop_lt31 _ | assumption | exact b31 (hW.gp (by omega)) | exact b31 (hW.ne (by omega)) | exact b31 (hW.op (by omega)) | exact and31 (hW.gp (by omega)) | exact and31 (hW.ne (by omega)) | exact and31 (hW.op (by omega)) | exact and31 (by assumption) | exact and31r (hW.ne (by omega)) | exact and31r (hW.gp (by omega)) | exact and31r (by decide)) (fun c_11 => False.elim (by omega)) (fun c_11 => ?_)
      refine mm_aload d_As_walk_14 rfl ?_
      refine mm_getP d_As_walk_15 rfl (sk_o_57 hM) (sk_p_57_4 hM) ?_
      refine mm_iload d_As_walk_18 rfl ?_
      refine mm_ialdN d_As_walk_19 (sk_a_62 hM) (by omega) (by decide) ez ?_
      refine mm_aload d_As_walk_20 rfl ?_
      refine mm_getIN d_As_walk_21 rfl (sk_o_57 hM) h5 ?_
      refine mm_icmp_neN d_As_walk_24 (by first | omega | exact ite01_lt | exact bt8_lt31 _ _ | exact godB_lt31 _ _ _ | exact pop_lt31 _ | assumption | exact b31 (hW.gp (by omega)) | exact b31 (hW.ne (by omega)) | exact b31 (hW.op (by omega)) | exact and31 (hW.gp (by omega)) | exact and31 (hW.ne (by omega)) | exact and31 (hW.op (by omega)) | exact and31 (by assumption) | exact and31r (hW.ne (by omega)) | exact and31r (hW.gp (by omega)) | exact and31r (by decide)) (by first | omega | exact ite01_lt | exact bt8_lt31 _ _ | exact godB_lt31 _ _ _ | exact pop_lt31 _ | assumption | exact b31 (hW.gp (by omega)) | exact b31 (hW.ne (by omega)) | exact b31 (hW.op (by omega)) | exact and31 (hW.gp (by omega)) | exact and31 (hW.ne (by omega)) | exact and31 (hW.op (by omega)) | exact and31 (by assumption) | exact and31r (hW.ne (by omega)) | exact and31r (hW.gp (by omega)) | exact and31r (by decide)) (fun c_24 => ?_) (fun c_24 => False.elim (by omega))
      refine mm_aload d_As_walk_28 rfl ?_
      refine mm_getP d_As_walk_29 rfl (sk_o_57 hM) (sk_p_57_4 hM) ?_
      refine mm_iload d_As_walk_32 rfl ?_
      refine mm_aload d_As_walk_33 rfl ?_
      refine mm_getIN d_As_walk_34 rfl (sk_o_57 hM) h5 ?_
      refine mm_iastX d_As_walk_37 (sk_a_62 hM) (by omega) (by decide) ?_
      rw [Nat.mul_comm c 256]
      refine mm_iload d_As_walk_38 rfl ?_
      refine mm_aload d_As_walk_39 rfl ?_
      refine mm_getP d_As_walk_40 rfl (sk_o_57 hM) hP ?_
      refine mm_getIN d_As_walk_43 rfl hCD.1.1 hCD.n ?_
      refine mm_icmp_ltN d_As_walk_46 (by first | omega | exact ite01_lt | exact bt8_lt31 _ _ | exact godB_lt31 _ _ _ | exact pop_lt31 _ | assumption | exact b31 (hW.gp (by omega)) | exact b31 (hW.ne (by omega)) | exact b31 (hW.op (by omega)) | exact and31 (hW.gp (by omega)) | exact and31 (hW.ne (by omega)) | exact and31 (hW.op (by omega)) | exact and31 (by assumption) | exact and31r (hW.ne (by omega)) | exact and31r (hW.gp (by omega)) | exact and31r (by decide)) (by first | omega | exact ite01_lt | exact bt8_lt31 _ _ | exact godB_lt31 _ _ _ | exact pop_lt31 _ | assumption | exact b31 (hW.gp (by omega)) | exact b31 (hW.ne (by omega)) | exact b31 (hW.op (by omega)) | exact and31 (hW.gp (by omega)) | exact and31 (hW.ne (by omega)) | exact and31 (hW.op (by omega)) | exact and31 (by assumption) | exact and31r (hW.ne (by omega)) | exact and31r (hW.gp (by omega)) | exact and31r (by decide)) (fun c_46 => False.elim (by omega)) (fun c_46 => ?_)
      refine mm_aload d_As_walk_49 rfl ?_
      refine mm_iload d_As_walk_50 rfl ?_
      refine mm_v1v d_As_walk_51 (sk_o_57 hM) (sp_As_arrive hA1 hh hb1 (hg h) hb (fun c1 => mm_rv d_As_walk_54 (hq _ (WP.leaf hn6 (by omega) hh hi (fun _ => rfl) (fun c0 => absurd c1 c0)))) (fun c0 => mm_rv d_As_walk_54 (hq _ (WP.leaf hn6 (by omega) hh hi (fun c1 => absurd c1 c0) (fun _ => rfl))))) (hdd := by omega)
  | succ m ih =>
    intro c h P b ν q hm hh hb hA h5 h7 hi hq
    have hM := hA.1
    have hW := hA.2.2.2.2.1
    have hn6 := hW.1
    show mm_T X (m + 1 + 3) 0 0 k_As_walk 0 [some (.ref 57), some (.int (nI c)), some (.int (nI h)), none, none] [] ν _
    by_cases hs : Sn W ν c h
    · have hs' : mm_I ν 62 (c * 256 + h) = nI W := by rw [Nat.mul_comm]; exact hs
      refine mm_iload d_As_walk_0 rfl ?_
      refine mm_ciN 256 d_As_walk_1 rfl ?_
      refine mm_imulN d_As_walk_4 ?_
      refine mm_iload d_As_walk_5 rfl ?_
      refine mm_iaddN d_As_walk_6 ?_
      refine mm_ist3 d_As_walk_7 ?_
      refine mm_iload d_As_walk_8 rfl ?_
      refine mm_ciN 6 d_As_walk_9 rfl ?_
      refine mm_icmp_gtN d_As_walk_11 (by first | omega | exact ite01_lt | exact bt8_lt31 _ _ | exact godB_lt31 _ _ _ | exact pop_lt31 _ | assumption | exact b31 (hW.gp (by omega)) | exact b31 (hW.ne (by omega)) | exact b31 (hW.op (by omega)) | exact and31 (hW.gp (by omega)) | exact and31 (hW.ne (by omega)) | exact and31 (hW.op (by omega)) | exact and31 (by assumption) | exact and31r (hW.ne (by omega)) | exact and31r (hW.gp (by omega)) | exact and31r (by decide)) (by first | omega | exact ite01_lt | exact bt8_lt31 _ _ | exact godB_lt31 _ _ _ | exact pop_lt31 _ | assumption | exact b31 (hW.gp (by omega)) | exact b31 (hW.ne (by omega)) | exact b31 (hW.op (by omega)) | exact and31 (hW.gp (by omega)) | exact and31 (hW.ne (by omega)) | exact and31 (hW.op (by omega)) | exact and31 (by assumption) | exact and31r (hW.ne (by omega)) | exact and31r (hW.gp (by omega)) | exact and31r (by decide)) (fun c_11 => False.elim (by omega)) (fun c_11 => ?_)
      refine mm_aload d_As_walk_14 rfl ?_
      refine mm_getP d_As_walk_15 rfl (sk_o_57 hM) (sk_p_57_4 hM) ?_
      refine mm_iload d_As_walk_18 rfl ?_
      refine mm_ialdN d_As_walk_19 (sk_a_62 hM) (by omega) (by decide) hs' ?_
      refine mm_aload d_As_walk_20 rfl ?_
      refine mm_getIN d_As_walk_21 rfl (sk_o_57 hM) h5 ?_
      refine mm_icmp_neN d_As_walk_24 (by first | omega | exact ite01_lt | exact bt8_lt31 _ _ | exact godB_lt31 _ _ _ | exact pop_lt31 _ | assumption | exact b31 (hW.gp (by omega)) | exact b31 (hW.ne (by omega)) | exact b31 (hW.op (by omega)) | exact and31 (hW.gp (by omega)) | exact and31 (hW.ne (by omega)) | exact and31 (hW.op (by omega)) | exact and31 (by assumption) | exact and31r (hW.ne (by omega)) | exact and31r (hW.gp (by omega)) | exact and31r (by decide)) (by first | omega | exact ite01_lt | exact bt8_lt31 _ _ | exact godB_lt31 _ _ _ | exact pop_lt31 _ | assumption | exact b31 (hW.gp (by omega)) | exact b31 (hW.ne (by omega)) | exact b31 (hW.op (by omega)) | exact and31 (hW.gp (by omega)) | exact and31 (hW.ne (by omega)) | exact and31 (hW.op (by omega)) | exact and31 (by assumption) | exact and31r (hW.ne (by omega)) | exact and31r (hW.gp (by omega)) | exact and31r (by decide)) (fun c_24 => False.elim (by omega)) (fun c_24 => ?_)
      exact mm_rv d_As_walk_27 (hq ν (WP.seen hm hh hi hs))
    · obtain ⟨z, hz, ez⟩ := hi.2.2.2 (c * 256 + h) (by omega)
      have hzW : z ≠ W := fun y => hs (by unfold Sn; rw [Nat.mul_comm, ez, y])
      have hA1 : AsG D e g (mm_sI ν 62 (256 * c + h) (nI W)) := hA.kw (Kw.rf.s (by omega))
      have hCD := hA1.2.2.2.1
      have hP := hA1.2.2.1
      have hl0 := LW.init (h := h) hn6 hm hh hi
      have hc : c < dn D := by omega
      have h3 := hW.2.2.2.2.1 c hc
      have hgp := hW.gp (j := c) (by omega)
      have ec : dn D - (m + 1) = c := by omega
      have hb' : ∀ k, (fo (FF D g ou (m + 1) h) b k).1 ≤ 1000 := fun k => fo_le hb (FF_le hg) k
      refine mm_iload d_As_walk_0 rfl ?_
      refine mm_ciN 256 d_As_walk_1 rfl ?_
      refine mm_imulN d_As_walk_4 ?_
      refine mm_iload d_As_walk_5 rfl ?_
      refine mm_iaddN d_As_walk_6 ?_
      refine mm_ist3 d_As_walk_7 ?_
      refine mm_iload d_As_walk_8 rfl ?_
      refine mm_ciN 6 d_As_walk_9 rfl ?_
      refine mm_icmp_gtN d_As_walk_11 (by first | omega | exact ite01_lt | exact bt8_lt31 _ _ | exact godB_lt31 _ _ _ | exact pop_lt31 _ | assumption | exact b31 (hW.gp (by omega)) | exact b31 (hW.ne (by omega)) | exact b31 (hW.op (by omega)) | exact and31 (hW.gp (by omega)) | exact and31 (hW.ne (by omega)) | exact and31 (hW.op (by omega)) | exact and31 (by assumption) | exact and31r (hW.ne (by omega)) | exact and31r (hW.gp (by omega)) | exact and31r (by decide)) (by first | omega | exact ite01_lt | exact bt8_lt31 _ _ | exact godB_lt31 _ _ _ | exact pop_lt31 _ | assumption | exact b31 (hW.gp (by omega)) | exact b31 (hW.ne (by omega)) | exact b31 (hW.op (by omega)) | exact and31 (hW.gp (by omega)) | exact and31 (hW.ne (by omega)) | exact and31 (hW.op (by omega)) | exact and31 (by assumption) | exact and31r (hW.ne (by omega)) | exact and31r (hW.gp (by omega)) | exact and31r (by decide)) (fun c_11 => False.elim (by omega)) (fun c_11 => ?_)
      refine mm_aload d_As_walk_14 rfl ?_
      refine mm_getP d_As_walk_15 rfl (sk_o_57 hM) (sk_p_57_4 hM) ?_
      refine mm_iload d_As_walk_18 rfl ?_
      refine mm_ialdN d_As_walk_19 (sk_a_62 hM) (by omega) (by decide) ez ?_
      refine mm_aload d_As_walk_20 rfl ?_
      refine mm_getIN d_As_walk_21 rfl (sk_o_57 hM) h5 ?_
      refine mm_icmp_neN d_As_walk_24 (by first | omega | exact ite01_lt | exact bt8_lt31 _ _ | exact godB_lt31 _ _ _ | exact pop_lt31 _ | assumption | exact b31 (hW.gp (by omega)) | exact b31 (hW.ne (by omega)) | exact b31 (hW.op (by omega)) | exact and31 (hW.gp (by omega)) | exact and31 (hW.ne (by omega)) | exact and31 (hW.op (by omega)) | exact and31 (by assumption) | exact and31r (hW.ne (by omega)) | exact and31r (hW.gp (by omega)) | exact and31r (by decide)) (by first | omega | exact ite01_lt | exact bt8_lt31 _ _ | exact godB_lt31 _ _ _ | exact pop_lt31 _ | assumption | exact b31 (hW.gp (by omega)) | exact b31 (hW.ne (by omega)) | exact b31 (hW.op (by omega)) | exact and31 (hW.gp (by omega)) | exact and31 (hW.ne (by omega)) | exact and31 (hW.op (by omega)) | exact and31 (by assumption) | exact and31r (hW.ne (by omega)) | exact and31r (hW.gp (by omega)) | exact and31r (by decide)) (fun c_24 => ?_) (fun c_24 => False.elim (by omega))
      refine mm_aload d_As_walk_28 rfl ?_
      refine mm_getP d_As_walk_29 rfl (sk_o_57 hM) (sk_p_57_4 hM) ?_
      refine mm_iload d_As_walk_32 rfl ?_
      refine mm_aload d_As_walk_33 rfl ?_
      refine mm_getIN d_As_walk_34 rfl (sk_o_57 hM) h5 ?_
      refine mm_iastX d_As_walk_37 (sk_a_62 hM) (by omega) (by decide) ?_
      rw [Nat.mul_comm c 256]
      refine mm_iload d_As_walk_38 rfl ?_
      refine mm_aload d_As_walk_39 rfl ?_
      refine mm_getP d_As_walk_40 rfl (sk_o_57 hM) hP ?_
      refine mm_getIN d_As_walk_43 rfl hCD.1.1 hCD.n ?_
      refine mm_icmp_ltN d_As_walk_46 (by first | omega | exact ite01_lt | exact bt8_lt31 _ _ | exact godB_lt31 _ _ _ | exact pop_lt31 _ | assumption | exact b31 (hW.gp (by omega)) | exact b31 (hW.ne (by omega)) | exact b31 (hW.op (by omega)) | exact and31 (hW.gp (by omega)) | exact and31 (hW.ne (by omega)) | exact and31 (hW.op (by omega)) | exact and31 (by assumption) | exact and31r (hW.ne (by omega)) | exact and31r (hW.gp (by omega)) | exact and31r (by decide)) (by first | omega | exact ite01_lt | exact bt8_lt31 _ _ | exact godB_lt31 _ _ _ | exact pop_lt31 _ | assumption | exact b31 (hW.gp (by omega)) | exact b31 (hW.ne (by omega)) | exact b31 (hW.op (by omega)) | exact and31 (hW.gp (by omega)) | exact and31 (hW.ne (by omega)) | exact and31 (hW.op (by omega)) | exact and31 (by assumption) | exact and31r (hW.ne (by omega)) | exact and31r (hW.gp (by omega)) | exact and31r (by decide)) (fun c_46 => ?_) (fun c_46 => False.elim (by omega))
      refine mm_ciN 0 d_As_walk_55 rfl ?_
      refine mm_ist4 d_As_walk_56 ?_
      refine mm_up (P := fun w => ∀ ξ, LW D g ou W m c h P b ν (popK (dgp D c) w) ξ → mm_T X (m + 1 + 3) 0 0 k_As_walk 58 [some (.ref 57), some (.int (nI c)), some (.int (nI h)), some (.int (nI (256 * c + h))), some (.int (nI w))] [] ξ _) 8 ?_ ?_ _ hl0
      · intro ξ hl
        rw [popK_8, h3] at hl
        have hAx := hA.kw hl.1
        have hM := hAx.1
        have hpre := LW.pre hm (by decide) hi.2.1 hl
        rw [if_pos rfl] at hpre
        have kx : Kw ν (mm_sI ξ 60 c (nI 8)) := hl.1.s (by omega)
        refine mm_iload d_As_walk_58 rfl ?_
        refine mm_ciN 8 d_As_walk_60 rfl ?_
        refine mm_icmp_geN d_As_walk_62 (by first | omega | exact ite01_lt | exact bt8_lt31 _ _ | exact godB_lt31 _ _ _ | exact pop_lt31 _ | assumption | exact b31 (hW.gp (by omega)) | exact b31 (hW.ne (by omega)) | exact b31 (hW.op (by omega)) | exact and31 (hW.gp (by omega)) | exact and31 (hW.ne (by omega)) | exact and31 (hW.op (by omega)) | exact and31 (by assumption) | exact and31r (hW.ne (by omega)) | exact and31r (hW.gp (by omega)) | exact and31r (by decide)) (by first | omega | exact ite01_lt | exact bt8_lt31 _ _ | exact godB_lt31 _ _ _ | exact pop_lt31 _ | assumption | exact b31 (hW.gp (by omega)) | exact b31 (hW.ne (by omega)) | exact b31 (hW.op (by omega)) | exact and31 (hW.gp (by omega)) | exact and31 (hW.ne (by omega)) | exact and31 (hW.op (by omega)) | exact and31 (by assumption) | exact and31r (hW.ne (by omega)) | exact and31r (hW.gp (by omega)) | exact and31r (by decide)) (fun c_62 => ?_) (fun c_62 => False.elim (by omega))
        refine mm_aload d_As_walk_120 rfl ?_
        refine mm_getP d_As_walk_121 rfl (sk_o_57 hM) (sk_p_57_2 hM) ?_
        refine mm_iload d_As_walk_124 rfl ?_
        refine mm_ciN 8 d_As_walk_125 rfl ?_
        refine mm_iastX d_As_walk_127 (sk_a_60 hM) (by omega) (by decide) ?_
        refine mm_aload d_As_walk_128 rfl ?_
        refine mm_iload d_As_walk_129 rfl ?_
        refine mm_ciN 1 d_As_walk_130 rfl ?_
        refine mm_iaddN d_As_walk_131 ?_
        refine mm_iload d_As_walk_132 rfl ?_
        refine mm_v2v d_As_walk_133 (sk_o_57 hM) (ih (c + 1) h (4 * P + 3) _ _ _ (by omega) hh (hb' _) (hA.kw kx) ((kx.2.2 5 (by decide)).trans h5) ((kx.2.2 7 (by decide)).trans h7) hpre (fun ν' hp => ?_)) (hdd := by omega)
        exact mm_rv d_As_walk_136 (hq ν' (LW.fin hn6 hm hh hi.2.2.1 (LW.adv hn6 hm hl hp (fun s hs => hbF_d3 hs))))
      · intro w hw IH ξ hl
        have hAx := hA.kw hl.1
        have hM := hAx.1
        have hCD := hAx.2.2.2.1
        have hP := hAx.2.2.1
        have e7 := (hl.1.2.2 7 (by decide)).trans h7
        have hpk : popK (dgp D c) (w + 1) = popK (dgp D c) w + bt8 (dgp D c) w := rfl
        have hgB : godB D c w = bt8 (dgp D c) w := if_pos hc
        refine mm_iload d_As_walk_58 rfl ?_
        refine mm_ciN 8 d_As_walk_60 rfl ?_
        refine mm_icmp_geN d_As_walk_62 (by first | omega | exact ite01_lt | exact bt8_lt31 _ _ | exact godB_lt31 _ _ _ | exact pop_lt31 _ | assumption | exact b31 (hW.gp (by omega)) | exact b31 (hW.ne (by omega)) | exact b31 (hW.op (by omega)) | exact and31 (hW.gp (by omega)) | exact and31 (hW.ne (by omega)) | exact and31 (hW.op (by omega)) | exact and31 (by assumption) | exact and31r (hW.ne (by omega)) | exact and31r (hW.gp (by omega)) | exact and31r (by decide)) (by first | omega | exact ite01_lt | exact bt8_lt31 _ _ | exact godB_lt31 _ _ _ | exact pop_lt31 _ | assumption | exact b31 (hW.gp (by omega)) | exact b31 (hW.ne (by omega)) | exact b31 (hW.op (by omega)) | exact and31 (hW.gp (by omega)) | exact and31 (hW.ne (by omega)) | exact and31 (hW.op (by omega)) | exact and31 (by assumption) | exact and31r (hW.ne (by omega)) | exact and31r (hW.gp (by omega)) | exact and31r (by decide)) (fun c_62 => False.elim (by omega)) (fun c_62 => ?_)
        refine mm_aload d_As_walk_65 rfl ?_
        refine mm_getIN d_As_walk_66 rfl (sk_o_57 hM) e7 ?_
        refine mm_iload d_As_walk_69 rfl ?_
        refine mm_s2i d_As_walk_70 (sp_has (by first | omega | assumption | exact hW.gp (by omega) | exact hW.ne (by omega) | exact hW.op (by omega) | exact and_lt256 (hW.gp (by omega)) | exact and_lt256 (hW.ne (by omega)) | exact and_lt256 (hW.op (by omega)) | exact and_lt256 (by assumption)) (by omega) ?_) (hdd := by omega)
        refine mm_if_eqN d_As_walk_73 (by first | omega | exact ite01_lt | exact bt8_lt31 _ _ | exact godB_lt31 _ _ _ | exact pop_lt31 _ | assumption | exact b31 (hW.gp (by omega)) | exact b31 (hW.ne (by omega)) | exact b31 (hW.op (by omega)) | exact and31 (hW.gp (by omega)) | exact and31 (hW.ne (by omega)) | exact and31 (hW.op (by omega)) | exact and31 (by assumption) | exact and31r (hW.ne (by omega)) | exact and31r (hW.gp (by omega)) | exact and31r (by decide)) (fun c_73 => ?_) (fun c_73 => ?_)
        · refine mm_inc4N d_As_walk_114 ?_
          refine mm_goto d_As_walk_117 ?_
          first
            | (refine IH _ ?_; rw [hpk, hw1]; exact LW.adv hn6 hm hl hp hst)
            | (refine IH _ ?_; rw [hpk, show bt8 (dgp D c) w = 0 by rw [← hgB]; exact c_86]; exact hl)
            | (refine IH _ ?_; rw [hpk]; rcases bt8_01 (dgp D c) w with y | y; (rw [y]; exact hl); (rw [y]; obtain ⟨k1, k2⟩ := kth_w _ hgp h3 w hw y; exact hl.skip (fun s hs => hbF_dn k2 hs (by rw [ec]; have := hou c hc; omega))))
        · refine mm_aload d_As_walk_76 rfl ?_
          refine mm_getP d_As_walk_77 rfl (sk_o_57 hM) hP ?_
          refine mm_iload d_As_walk_80 rfl ?_
          refine mm_iload d_As_walk_81 rfl ?_
          refine mm_v2i d_As_walk_83 hCD.1.1 (sp_Co_isGodparent hCD hW (by omega) (by omega) ?_) (hdd := by omega)
          refine mm_if_eqN d_As_walk_86 (by first | omega | exact ite01_lt | exact bt8_lt31 _ _ | exact godB_lt31 _ _ _ | exact pop_lt31 _ | assumption | exact b31 (hW.gp (by omega)) | exact b31 (hW.ne (by omega)) | exact b31 (hW.op (by omega)) | exact and31 (hW.gp (by omega)) | exact and31 (hW.ne (by omega)) | exact and31 (hW.op (by omega)) | exact and31 (by assumption) | exact and31r (hW.ne (by omega)) | exact and31r (hW.gp (by omega)) | exact and31r (by decide)) (fun c_86 => ?_) (fun c_86 => ?_)
          · refine mm_inc4N d_As_walk_114 ?_
            refine mm_goto d_As_walk_117 ?_
            first
              | (refine IH _ ?_; rw [hpk, hw1]; exact LW.adv hn6 hm hl hp hst)
              | (refine IH _ ?_; rw [hpk, show bt8 (dgp D c) w = 0 by rw [← hgB]; exact c_86]; exact hl)
              | (refine IH _ ?_; rw [hpk]; rcases bt8_01 (dgp D c) w with y | y; (rw [y]; exact hl); (rw [y]; obtain ⟨k1, k2⟩ := kth_w _ hgp h3 w hw y; exact hl.skip (fun s hs => hbF_dn k2 hs (by rw [ec]; have := hou c hc; omega))))
          · refine mm_aload d_As_walk_89 rfl ?_
            refine mm_getP d_As_walk_90 rfl (sk_o_57 hM) (sk_p_57_2 hM) ?_
            refine mm_iload d_As_walk_93 rfl ?_
            refine mm_iload d_As_walk_94 rfl ?_
            refine mm_iastX d_As_walk_96 (sk_a_60 hM) (by omega) (by decide) ?_
            refine mm_aload d_As_walk_97 rfl ?_
            refine mm_iload d_As_walk_98 rfl ?_
            refine mm_ciN 1 d_As_walk_99 rfl ?_
            refine mm_iaddN d_As_walk_100 ?_
            refine mm_aload d_As_walk_101 rfl ?_
            refine mm_getP d_As_walk_102 rfl (sk_o_57 hM) hP ?_
            refine mm_iload d_As_walk_105 rfl ?_
            refine mm_iload d_As_walk_106 rfl ?_
            have hw1 : bt8 (dgp D c) w = 1 := by rcases bt8_01 (dgp D c) w with y | y; exact absurd (by rw [hgB]; exact y) c_86; exact y
            obtain ⟨k1, k2⟩ := kth_w _ hgp h3 w hw hw1
            have hpre := LW.pre hm (by omega) hi.2.1 hl
            rw [if_neg (by omega), k1] at hpre
            have kx : Kw ν (mm_sI ξ 60 c (nI w)) := hl.1.s (by omega)
            have ho : ou (dn D - (m + 1)) = 0 := by rw [ec]; have := hou c hc; omega
            have hst : ∀ s, s < 4 ^ m → hbF D ou (m + 1) h (popK (dgp D c) w * 4 ^ m + s) = hbF D ou m (comesN D h w) s := fun s hs => by rw [hbF_d k2 hs ho, ec, k1]
            refine mm_v2i d_As_walk_108 hCD.1.1 (sp_Co_hereOnceComes (hA.kw kx).2.2.2.1 (by omega) ?_) (hdd := by omega)
            refine mm_v2v d_As_walk_111 (sk_o_57 hM) (ih (c + 1) (comesN D h w) (4 * P + popK (dgp D c) w) _ _ _ (by omega) (comesN_lt hh hw) (hb' _) (hA.kw kx) ((kx.2.2 5 (by decide)).trans h5) ((kx.2.2 7 (by decide)).trans h7) hpre (fun ν' hp => ?_)) (hdd := by omega)
            refine mm_inc4N d_As_walk_114 ?_
            refine mm_goto d_As_walk_117 ?_
            first
              | (refine IH _ ?_; rw [hpk, hw1]; exact LW.adv hn6 hm hl hp hst)
              | (refine IH _ ?_; rw [hpk, show bt8 (dgp D c) w = 0 by rw [← hgB]; exact c_86]; exact hl)
              | (refine IH _ ?_; rw [hpk]; rcases bt8_01 (dgp D c) w with y | y; (rw [y]; exact hl); (rw [y]; obtain ⟨k1, k2⟩ := kth_w _ hgp h3 w hw y; exact hl.skip (fun s hs => hbF_dn k2 hs (by rw [ec]; have := hou c hc; omega))))
