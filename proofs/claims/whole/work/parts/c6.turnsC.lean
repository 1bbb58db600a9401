/-! headland: the class -/
theorem plI_lt {D : mm_D} {tk z c acc M : Nat} {F : Nat → Nat → Nat} (ha : acc < M) (hF : ∀ c w, F c w < M) (w : Nat) : plI D tk z F c acc w < M := by
  rcases (plI_ok (D := D) (tk := tk) (z := z) (c := c) (acc := acc) (F := F) w).1 with e | ⟨w', -, -, -, e⟩
  · rw [e]; exact ha
  · rw [e]; exact hF _ _
theorem plO_lt {D : mm_D} {tk z base M : Nat} {F : Nat → Nat → Nat} (ha : base < M) (hF : ∀ c w, F c w < M) (c : Nat) : plO D tk z F base c < M := by
  rcases (plO_ok (D := D) (tk := tk) (z := z) (base := base) (F := F) c).1 with e | ⟨c', w', -, -, -, -, e⟩
  · rw [e]; exact ha
  · rw [e]; exact hF _ _
theorem plI_tk {D : mm_D} {tk z c acc : Nat} {F : Nat → Nat → Nat} (h : bt8 tk c ≠ 0) : ∀ w, plI D tk z F c acc w = acc
  | 0 => rfl
  | w + 1 => by
    unfold plI
    rw [if_neg (fun y => h y.1)]
    exact plI_tk h w
theorem sp_As_playOn {X : mm_X} {D : mm_D} {e : Nat} {g : Nat → Nat} {ν : mm_M} (hA : AsG D e g ν) (hg : ∀ x, g x < 1000) : ∀ (r tk h z : Nat) (q : Int32 → mm_M → Prop), r ≤ 3 → tk < 64 → h < 256 → (z = 0 ∨ z = 1) → q (nI (pl D g r tk h z)) ν → mm_Ci X (r + 3) 0 0 k_As_playOn [.ref 57, .int (nI r), .int (nI tk), .int (nI h), .int (nI z)] ν q := by
  have hM := hA.1
  have hCD := hA.2.2.2.1
  have hP := hA.2.2.1
  have hW := hA.2.2.2.2.1
  have hn6 := hW.1
  intro r
  induction r with
  | zero =>
    intro tk h z q hr htk hh hz hq
    show mm_T X (0 + 3) 0 0 k_As_playOn 0 [some (.ref 57), some (.int (nI 0)), some (.int (nI tk)), some (.int (nI h)), some (.int (nI z)), none, none, none, none] [] ν _
    refine mm_iload d_As_playOn_0 rfl ?_
    refine mm_if_gtN d_As_playOn_1 (by first | omega | exact ite01_lt | exact bt8_lt31 _ _ | exact godB_lt31 _ _ _ | exact pop_lt31 _ | assumption | exact b31 (hW.gp (by omega)) | exact b31 (hW.ne (by omega)) | exact b31 (hW.op (by omega)) | exact and31 (hW.gp (by omega)) | exact and31 (hW.ne (by omega)) | exact and31 (hW.op (by omega)) | exact and31 (by assumption) | exact and31r (hW.ne (by omega)) | exact and31r (hW.gp (by omega)) | exact and31r (by decide)) (fun c_1 => False.elim (by omega)) (fun c_1 => ?_)
    refine mm_aload d_As_playOn_4 rfl ?_
    refine mm_getP d_As_playOn_5 rfl (sk_o_57 hM) (sk_p_57_3 hM) ?_
    refine mm_iload d_As_playOn_8 rfl ?_
    refine mm_ialdN d_As_playOn_9 (sk_a_61 hM) (by omega) (by decide) (hA.2.2.2.2.2 h hh) ?_
    exact mm_ri d_As_playOn_10 hq
  | succ r ih =>
    intro tk h z q hr htk hh hz hq
    show mm_T X (r + 1 + 3) 0 0 k_As_playOn 0 [some (.ref 57), some (.int (nI (r + 1))), some (.int (nI tk)), some (.int (nI h)), some (.int (nI z)), none, none, none, none] [] ν _
    have epl : pl D g (r + 1) tk h z = plO D tk z (fun c w => pl D g r (tk ||| 2 ^ c) (comesN D h w) (1 - z)) (pl D g r tk h (1 - z)) (dn D) := rfl
    rw [epl] at hq
    have hb := pl_lt (D := D) hg r tk h (1 - z)
    have hF : ∀ c w, (fun c w => pl D g r (tk ||| 2 ^ c) (comesN D h w) (1 - z)) c w < 1000 := fun c w => pl_lt hg r _ _ _
    obtain ⟨F, hFe⟩ : ∃ F, (fun c w => pl D g r (tk ||| 2 ^ c) (comesN D h w) (1 - z)) = F := ⟨_, rfl⟩
    have hFv : ∀ c w, pl D g r (tk ||| 2 ^ c) (comesN D h w) (1 - z) = F c w := fun c w => by rw [← hFe]
    rw [hFe] at hq hF
    generalize hbe : pl D g r tk h (1 - z) = base at hq hb
    rcases hz with rfl | rfl
    · refine mm_iload d_As_playOn_0 rfl ?_
      refine mm_if_gtN d_As_playOn_1 (by first | omega | exact ite01_lt | exact bt8_lt31 _ _ | exact godB_lt31 _ _ _ | exact pop_lt31 _ | assumption | exact b31 (hW.gp (by omega)) | exact b31 (hW.ne (by omega)) | exact b31 (hW.op (by omega)) | exact and31 (hW.gp (by omega)) | exact and31 (hW.ne (by omega)) | exact and31 (hW.op (by omega)) | exact and31 (by assumption) | exact and31r (hW.ne (by omega)) | exact and31r (hW.gp (by omega)) | exact and31r (by decide)) (fun c_1 => ?_) (fun c_1 => False.elim (by omega))
      refine mm_aload d_As_playOn_11 rfl ?_
      refine mm_iload d_As_playOn_12 rfl ?_
      refine mm_ciN 1 d_As_playOn_13 rfl ?_
      refine mm_isubN d_As_playOn_14 (by omega) ?_
      refine mm_iload d_As_playOn_15 rfl ?_
      refine mm_iload d_As_playOn_16 rfl ?_
      refine mm_iload d_As_playOn_17 rfl ?_
      refine mm_if_neN d_As_playOn_19 (by first | omega | exact ite01_lt | exact bt8_lt31 _ _ | exact godB_lt31 _ _ _ | exact pop_lt31 _ | assumption | exact b31 (hW.gp (by omega)) | exact b31 (hW.ne (by omega)) | exact b31 (hW.op (by omega)) | exact and31 (hW.gp (by omega)) | exact and31 (hW.ne (by omega)) | exact and31 (hW.op (by omega)) | exact and31 (by assumption) | exact and31r (hW.ne (by omega)) | exact and31r (hW.gp (by omega)) | exact and31r (by decide)) (fun c_19 => False.elim (by omega)) (fun c_19 => ?_)
      refine mm_ciN 1 d_As_playOn_22 rfl ?_
      refine mm_goto d_As_playOn_23 ?_
      refine mm_v4i d_As_playOn_27 (sk_o_57 hM) (ih tk h 1 _ (by omega) htk hh (Or.inr rfl) ?_) (hdd := by omega)
      rw [show pl D g r tk h 1 = base from hbe]
      refine mm_ist5 d_As_playOn_30 ?_
      refine mm_ciN 0 d_As_playOn_32 rfl ?_
      refine mm_ist6 d_As_playOn_33 ?_
      refine mm_up (P := fun c => ∀ (l7 l8 : Option Value), mm_T X (r + 1 + 3) 0 0 k_As_playOn 35 [some (.ref 57), some (.int (nI (r + 1))), some (.int (nI tk)), some (.int (nI h)), some (.int (nI 0)), some (.int (nI (plO D tk 0 F base c))), some (.int (nI c)), l7, l8] [] ν _) (dn D) ?_ ?_ none none
      · intro l7 l8
        refine mm_iload d_As_playOn_35 rfl ?_
        refine mm_aload d_As_playOn_37 rfl ?_
        refine mm_getP d_As_playOn_38 rfl (sk_o_57 hM) hP ?_
        refine mm_getIN d_As_playOn_41 rfl hCD.1.1 hCD.n ?_
        refine mm_icmp_geN d_As_playOn_44 (by first | omega | exact ite01_lt | exact bt8_lt31 _ _ | exact godB_lt31 _ _ _ | exact pop_lt31 _ | assumption | exact b31 (hW.gp (by omega)) | exact b31 (hW.ne (by omega)) | exact b31 (hW.op (by omega)) | exact and31 (hW.gp (by omega)) | exact and31 (hW.ne (by omega)) | exact and31 (hW.op (by omega)) | exact and31 (by assumption) | exact and31r (hW.ne (by omega)) | exact and31r (hW.gp (by omega)) | exact and31r (by decide)) (by first | omega | exact ite01_lt | exact bt8_lt31 _ _ | exact godB_lt31 _ _ _ | exact pop_lt31 _ | assumption | exact b31 (hW.gp (by omega)) | exact b31 (hW.ne (by omega)) | exact b31 (hW.op (by omega)) | exact and31 (hW.gp (by omega)) | exact and31 (hW.ne (by omega)) | exact and31 (hW.op (by omega)) | exact and31 (by assumption) | exact and31r (hW.ne (by omega)) | exact and31r (hW.gp (by omega)) | exact and31r (by decide)) (fun c_44 => ?_) (fun c_44 => False.elim (by omega))
        refine mm_iload d_As_playOn_151 rfl ?_
        exact mm_ri d_As_playOn_153 hq
      · intro c hc IH l7 l8
        have hcl := plO_lt (D := D) (tk := tk) (z := 0) hb hF c
        by_cases ht : bt8 tk c = 0
        · refine mm_iload d_As_playOn_35 rfl ?_
          refine mm_aload d_As_playOn_37 rfl ?_
          refine mm_getP d_As_playOn_38 rfl (sk_o_57 hM) hP ?_
          refine mm_getIN d_As_playOn_41 rfl hCD.1.1 hCD.n ?_
          refine mm_icmp_geN d_As_playOn_44 (by first | omega | exact ite01_lt | exact bt8_lt31 _ _ | exact godB_lt31 _ _ _ | exact pop_lt31 _ | assumption | exact b31 (hW.gp (by omega)) | exact b31 (hW.ne (by omega)) | exact b31 (hW.op (by omega)) | exact and31 (hW.gp (by omega)) | exact and31 (hW.ne (by omega)) | exact and31 (hW.op (by omega)) | exact and31 (by assumption) | exact and31r (hW.ne (by omega)) | exact and31r (hW.gp (by omega)) | exact and31r (by decide)) (by first | omega | exact ite01_lt | exact bt8_lt31 _ _ | exact godB_lt31 _ _ _ | exact pop_lt31 _ | assumption | exact b31 (hW.gp (by omega)) | exact b31 (hW.ne (by omega)) | exact b31 (hW.op (by omega)) | exact and31 (hW.gp (by omega)) | exact and31 (hW.ne (by omega)) | exact and31 (hW.op (by omega)) | exact and31 (by assumption) | exact and31r (hW.ne (by omega)) | exact and31r (hW.gp (by omega)) | exact and31r (by decide)) (fun c_44 => False.elim (by omega)) (fun c_44 => ?_)
          refine mm_ciN 0 d_As_playOn_47 rfl ?_
          refine mm_ist7 d_As_playOn_48 ?_
          refine mm_up (P := fun w => ∀ (l8 : Option Value), mm_T X (r + 1 + 3) 0 0 k_As_playOn 50 [some (.ref 57), some (.int (nI (r + 1))), some (.int (nI tk)), some (.int (nI h)), some (.int (nI 0)), some (.int (nI (plI D tk 0 F c (plO D tk 0 F base c) w))), some (.int (nI c)), some (.int (nI w)), l8] [] ν _) 8 ?_ ?_ l8
          · intro l8
            refine mm_iload d_As_playOn_50 rfl ?_
            refine mm_ciN 8 d_As_playOn_52 rfl ?_
            refine mm_icmp_geN d_As_playOn_54 (by first | omega | exact ite01_lt | exact bt8_lt31 _ _ | exact godB_lt31 _ _ _ | exact pop_lt31 _ | assumption | exact b31 (hW.gp (by omega)) | exact b31 (hW.ne (by omega)) | exact b31 (hW.op (by omega)) | exact and31 (hW.gp (by omega)) | exact and31 (hW.ne (by omega)) | exact and31 (hW.op (by omega)) | exact and31 (by assumption) | exact and31r (hW.ne (by omega)) | exact and31r (hW.gp (by omega)) | exact and31r (by decide)) (by first | omega | exact ite01_lt | exact bt8_lt31 _ _ | exact godB_lt31 _ _ _ | exact pop_lt31 _ | assumption | exact b31 (hW.gp (by omega)) | exact b31 (hW.ne (by omega)) | exact b31 (hW.op (by omega)) | exact and31 (hW.gp (by omega)) | exact and31 (hW.ne (by omega)) | exact and31 (hW.op (by omega)) | exact and31 (by assumption) | exact and31r (hW.ne (by omega)) | exact and31r (hW.gp (by omega)) | exact and31r (by decide)) (fun c_54 => ?_) (fun c_54 => False.elim (by omega))
            refine mm_inc6N d_As_playOn_145 ?_
            refine mm_goto d_As_playOn_148 ?_
            exact IH _ _
          · intro w hw IH2 l8
            have hil := plI_lt (D := D) (tk := tk) (z := 0) (c := c) hcl hF w
            have hfl := hF c w
            have es : plI D tk 0 F c (plO D tk 0 F base c) (w + 1) = if bt8 tk c = 0 ∧ godB D c w ≠ 0 then opt 0 (plI D tk 0 F c (plO D tk 0 F base c) w) (F c w) else plI D tk 0 F c (plO D tk 0 F base c) w := rfl
            have eo : ∀ a b, opt 0 a b = min a b := fun a b => (if_pos rfl)
            have hcc : tk ||| 2 ^ c < 64 := or_lt64 htk (p2_lt (by omega))
            refine mm_iload d_As_playOn_50 rfl ?_
            refine mm_ciN 8 d_As_playOn_52 rfl ?_
            refine mm_icmp_geN d_As_playOn_54 (by first | omega | exact ite01_lt | exact bt8_lt31 _ _ | exact godB_lt31 _ _ _ | exact pop_lt31 _ | assumption | exact b31 (hW.gp (by omega)) | exact b31 (hW.ne (by omega)) | exact b31 (hW.op (by omega)) | exact and31 (hW.gp (by omega)) | exact and31 (hW.ne (by omega)) | exact and31 (hW.op (by omega)) | exact and31 (by assumption) | exact and31r (hW.ne (by omega)) | exact and31r (hW.gp (by omega)) | exact and31r (by decide)) (by first | omega | exact ite01_lt | exact bt8_lt31 _ _ | exact godB_lt31 _ _ _ | exact pop_lt31 _ | assumption | exact b31 (hW.gp (by omega)) | exact b31 (hW.ne (by omega)) | exact b31 (hW.op (by omega)) | exact and31 (hW.gp (by omega)) | exact and31 (hW.ne (by omega)) | exact and31 (hW.op (by omega)) | exact and31 (by assumption) | exact and31r (hW.ne (by omega)) | exact and31r (hW.gp (by omega)) | exact and31r (by decide)) (fun c_54 => False.elim (by omega)) (fun c_54 => ?_)
            refine mm_iload d_As_playOn_57 rfl ?_
            refine mm_iload d_As_playOn_58 rfl ?_
            refine mm_s2i d_As_playOn_60 (sp_has (by first | omega | assumption | exact hW.gp (by omega) | exact hW.ne (by omega) | exact hW.op (by omega) | exact and_lt256 (hW.gp (by omega)) | exact and_lt256 (hW.ne (by omega)) | exact and_lt256 (hW.op (by omega)) | exact and_lt256 (by assumption)) (by omega) ?_) (hdd := by omega)
            refine mm_if_neN d_As_playOn_63 (by first | omega | exact ite01_lt | exact bt8_lt31 _ _ | exact godB_lt31 _ _ _ | exact pop_lt31 _ | assumption | exact b31 (hW.gp (by omega)) | exact b31 (hW.ne (by omega)) | exact b31 (hW.op (by omega)) | exact and31 (hW.gp (by omega)) | exact and31 (hW.ne (by omega)) | exact and31 (hW.op (by omega)) | exact and31 (by assumption) | exact and31r (hW.ne (by omega)) | exact and31r (hW.gp (by omega)) | exact and31r (by decide)) (fun c_63 => False.elim (by omega)) (fun c_63 => ?_)
            refine mm_aload d_As_playOn_66 rfl ?_
            refine mm_getP d_As_playOn_67 rfl (sk_o_57 hM) hP ?_
            refine mm_iload d_As_playOn_70 rfl ?_
            refine mm_iload d_As_playOn_72 rfl ?_
            refine mm_v2i d_As_playOn_74 hCD.1.1 (sp_Co_isGodparent hCD hW (by omega) (by omega) ?_) (hdd := by omega)
            refine mm_if_eqN d_As_playOn_77 (by first | omega | exact ite01_lt | exact bt8_lt31 _ _ | exact godB_lt31 _ _ _ | exact pop_lt31 _ | assumption | exact b31 (hW.gp (by omega)) | exact b31 (hW.ne (by omega)) | exact b31 (hW.op (by omega)) | exact and31 (hW.gp (by omega)) | exact and31 (hW.ne (by omega)) | exact and31 (hW.op (by omega)) | exact and31 (by assumption) | exact and31r (hW.ne (by omega)) | exact and31r (hW.gp (by omega)) | exact and31r (by decide)) (fun c_77 => ?_) (fun c_77 => ?_)
            · refine mm_inc7N d_As_playOn_139 ?_
              refine mm_goto d_As_playOn_142 ?_
              first | (rw [es, if_neg (fun y => y.2 c_77)] at IH2; exact IH2 _) | (rw [es, if_pos ⟨ht, c_77⟩, eo] at IH2; exact IH2 _)
            · refine mm_aload d_As_playOn_80 rfl ?_
              refine mm_iload d_As_playOn_81 rfl ?_
              refine mm_ciN 1 d_As_playOn_82 rfl ?_
              refine mm_isubN d_As_playOn_83 (by omega) ?_
              refine mm_iload d_As_playOn_84 rfl ?_
              refine mm_ciN 1 d_As_playOn_85 rfl ?_
              refine mm_iload d_As_playOn_86 rfl ?_
              refine mm_ishl1N d_As_playOn_88 (by omega) ?_
              refine mm_iorN d_As_playOn_89 ?_
              refine mm_aload d_As_playOn_90 rfl ?_
              refine mm_getP d_As_playOn_91 rfl (sk_o_57 hM) hP ?_
              refine mm_iload d_As_playOn_94 rfl ?_
              refine mm_iload d_As_playOn_95 rfl ?_
              refine mm_v2i d_As_playOn_97 hCD.1.1 (sp_Co_hereOnceComes hCD (by omega) ?_) (hdd := by omega)
              refine mm_iload d_As_playOn_100 rfl ?_
              refine mm_if_neN d_As_playOn_102 (by first | omega | exact ite01_lt | exact bt8_lt31 _ _ | exact godB_lt31 _ _ _ | exact pop_lt31 _ | assumption | exact b31 (hW.gp (by omega)) | exact b31 (hW.ne (by omega)) | exact b31 (hW.op (by omega)) | exact and31 (hW.gp (by omega)) | exact and31 (hW.ne (by omega)) | exact and31 (hW.op (by omega)) | exact and31 (by assumption) | exact and31r (hW.ne (by omega)) | exact and31r (hW.gp (by omega)) | exact and31r (by decide)) (fun c_102 => False.elim (by omega)) (fun c_102 => ?_)
              refine mm_ciN 1 d_As_playOn_105 rfl ?_
              refine mm_goto d_As_playOn_106 ?_
              refine mm_v4i d_As_playOn_110 (sk_o_57 hM) (ih (tk ||| 2 ^ c) (comesN D h w) 1 _ (by omega) hcc (comesN_lt hh hw) (Or.inr rfl) ?_) (hdd := by omega)
              rw [show pl D g r (tk ||| 2 ^ c) (comesN D h w) 1 = F c w from hFv c w]
              refine mm_ist8 d_As_playOn_113 ?_
              refine mm_iload d_As_playOn_115 rfl ?_
              refine mm_if_eqN d_As_playOn_117 (by first | omega | exact ite01_lt | exact bt8_lt31 _ _ | exact godB_lt31 _ _ _ | exact pop_lt31 _ | assumption | exact b31 (hW.gp (by omega)) | exact b31 (hW.ne (by omega)) | exact b31 (hW.op (by omega)) | exact and31 (hW.gp (by omega)) | exact and31 (hW.ne (by omega)) | exact and31 (hW.op (by omega)) | exact and31 (by assumption) | exact and31r (hW.ne (by omega)) | exact and31r (hW.gp (by omega)) | exact and31r (by decide)) (fun c_117 => ?_) (fun c_117 => False.elim (by omega))
              refine mm_iload d_As_playOn_130 rfl ?_
              refine mm_iload d_As_playOn_132 rfl ?_
              refine mm_mminN d_As_playOn_134 (by first | omega | exact ite01_lt | exact bt8_lt31 _ _ | exact godB_lt31 _ _ _ | exact pop_lt31 _ | assumption | exact b31 (hW.gp (by omega)) | exact b31 (hW.ne (by omega)) | exact b31 (hW.op (by omega)) | exact and31 (hW.gp (by omega)) | exact and31 (hW.ne (by omega)) | exact and31 (hW.op (by omega)) | exact and31 (by assumption) | exact and31r (hW.ne (by omega)) | exact and31r (hW.gp (by omega)) | exact and31r (by decide)) (by first | omega | exact ite01_lt | exact bt8_lt31 _ _ | exact godB_lt31 _ _ _ | exact pop_lt31 _ | assumption | exact b31 (hW.gp (by omega)) | exact b31 (hW.ne (by omega)) | exact b31 (hW.op (by omega)) | exact and31 (hW.gp (by omega)) | exact and31 (hW.ne (by omega)) | exact and31 (hW.op (by omega)) | exact and31 (by assumption) | exact and31r (hW.ne (by omega)) | exact and31r (hW.gp (by omega)) | exact and31r (by decide)) (by omega) (Nat.le_of_ble_eq_true rfl) ?_
              refine mm_ist5 d_As_playOn_137 ?_
              refine mm_inc7N d_As_playOn_139 ?_
              refine mm_goto d_As_playOn_142 ?_
              first | (rw [es, if_neg (fun y => y.2 c_77)] at IH2; exact IH2 _) | (rw [es, if_pos ⟨ht, c_77⟩, eo] at IH2; exact IH2 _)
        · have es : plO D tk 0 F base (c + 1) = plO D tk 0 F base c := plI_tk ht 8
          rw [es] at IH
          refine mm_iload d_As_playOn_35 rfl ?_
          refine mm_aload d_As_playOn_37 rfl ?_
          refine mm_getP d_As_playOn_38 rfl (sk_o_57 hM) hP ?_
          refine mm_getIN d_As_playOn_41 rfl hCD.1.1 hCD.n ?_
          refine mm_icmp_geN d_As_playOn_44 (by first | omega | exact ite01_lt | exact bt8_lt31 _ _ | exact godB_lt31 _ _ _ | exact pop_lt31 _ | assumption | exact b31 (hW.gp (by omega)) | exact b31 (hW.ne (by omega)) | exact b31 (hW.op (by omega)) | exact and31 (hW.gp (by omega)) | exact and31 (hW.ne (by omega)) | exact and31 (hW.op (by omega)) | exact and31 (by assumption) | exact and31r (hW.ne (by omega)) | exact and31r (hW.gp (by omega)) | exact and31r (by decide)) (by first | omega | exact ite01_lt | exact bt8_lt31 _ _ | exact godB_lt31 _ _ _ | exact pop_lt31 _ | assumption | exact b31 (hW.gp (by omega)) | exact b31 (hW.ne (by omega)) | exact b31 (hW.op (by omega)) | exact and31 (hW.gp (by omega)) | exact and31 (hW.ne (by omega)) | exact and31 (hW.op (by omega)) | exact and31 (by assumption) | exact and31r (hW.ne (by omega)) | exact and31r (hW.gp (by omega)) | exact and31r (by decide)) (fun c_44 => False.elim (by omega)) (fun c_44 => ?_)
          refine mm_ciN 0 d_As_playOn_47 rfl ?_
          refine mm_ist7 d_As_playOn_48 ?_
          refine mm_iload d_As_playOn_50 rfl ?_
          refine mm_ciN 8 d_As_playOn_52 rfl ?_
          refine mm_icmp_geN d_As_playOn_54 (by first | omega | exact ite01_lt | exact bt8_lt31 _ _ | exact godB_lt31 _ _ _ | exact pop_lt31 _ | assumption | exact b31 (hW.gp (by omega)) | exact b31 (hW.ne (by omega)) | exact b31 (hW.op (by omega)) | exact and31 (hW.gp (by omega)) | exact and31 (hW.ne (by omega)) | exact and31 (hW.op (by omega)) | exact and31 (by assumption) | exact and31r (hW.ne (by omega)) | exact and31r (hW.gp (by omega)) | exact and31r (by decide)) (by first | omega | exact ite01_lt | exact bt8_lt31 _ _ | exact godB_lt31 _ _ _ | exact pop_lt31 _ | assumption | exact b31 (hW.gp (by omega)) | exact b31 (hW.ne (by omega)) | exact b31 (hW.op (by omega)) | exact and31 (hW.gp (by omega)) | exact and31 (hW.ne (by omega)) | exact and31 (hW.op (by omega)) | exact and31 (by assumption) | exact and31r (hW.ne (by omega)) | exact and31r (hW.gp (by omega)) | exact and31r (by decide)) (fun c_54 => False.elim (by omega)) (fun c_54 => ?_)
          refine mm_iload d_As_playOn_57 rfl ?_
          refine mm_iload d_As_playOn_58 rfl ?_
          refine mm_s2i d_As_playOn_60 (sp_has (by first | omega | assumption | exact hW.gp (by omega) | exact hW.ne (by omega) | exact hW.op (by omega) | exact and_lt256 (hW.gp (by omega)) | exact and_lt256 (hW.ne (by omega)) | exact and_lt256 (hW.op (by omega)) | exact and_lt256 (by assumption)) (by omega) ?_) (hdd := by omega)
          refine mm_if_neN d_As_playOn_63 (by first | omega | exact ite01_lt | exact bt8_lt31 _ _ | exact godB_lt31 _ _ _ | exact pop_lt31 _ | assumption | exact b31 (hW.gp (by omega)) | exact b31 (hW.ne (by omega)) | exact b31 (hW.op (by omega)) | exact and31 (hW.gp (by omega)) | exact and31 (hW.ne (by omega)) | exact and31 (hW.op (by omega)) | exact and31 (by assumption) | exact and31r (hW.ne (by omega)) | exact and31r (hW.gp (by omega)) | exact and31r (by decide)) (fun c_63 => ?_) (fun c_63 => False.elim (by omega))
          refine mm_inc6N d_As_playOn_145 ?_
          refine mm_goto d_As_playOn_148 ?_
          exact IH _ _
    · refine mm_iload d_As_playOn_0 rfl ?_
      refine mm_if_gtN d_As_playOn_1 (by first | omega | exact ite01_lt | exact bt8_lt31 _ _ | exact godB_lt31 _ _ _ | exact pop_lt31 _ | assumption | exact b31 (hW.gp (by omega)) | exact b31 (hW.ne (by omega)) | exact b31 (hW.op (by omega)) | exact and31 (hW.gp (by omega)) | exact and31 (hW.ne (by omega)) | exact and31 (hW.op (by omega)) | exact and31 (by assumption) | exact and31r (hW.ne (by omega)) | exact and31r (hW.gp (by omega)) | exact and31r (by decide)) (fun c_1 => ?_) (fun c_1 => False.elim (by omega))
      refine mm_aload d_As_playOn_11 rfl ?_
      refine mm_iload d_As_playOn_12 rfl ?_
      refine mm_ciN 1 d_As_playOn_13 rfl ?_
      refine mm_isubN d_As_playOn_14 (by omega) ?_
      refine mm_iload d_As_playOn_15 rfl ?_
      refine mm_iload d_As_playOn_16 rfl ?_
      refine mm_iload d_As_playOn_17 rfl ?_
      refine mm_if_neN d_As_playOn_19 (by first | omega | exact ite01_lt | exact bt8_lt31 _ _ | exact godB_lt31 _ _ _ | exact pop_lt31 _ | assumption | exact b31 (hW.gp (by omega)) | exact b31 (hW.ne (by omega)) | exact b31 (hW.op (by omega)) | exact and31 (hW.gp (by omega)) | exact and31 (hW.ne (by omega)) | exact and31 (hW.op (by omega)) | exact and31 (by assumption) | exact and31r (hW.ne (by omega)) | exact and31r (hW.gp (by omega)) | exact and31r (by decide)) (fun c_19 => ?_) (fun c_19 => False.elim (by omega))
      refine mm_ciN 0 d_As_playOn_26 rfl ?_
      refine mm_v4i d_As_playOn_27 (sk_o_57 hM) (ih tk h 0 _ (by omega) htk hh (Or.inl rfl) ?_) (hdd := by omega)
      rw [show pl D g r tk h 0 = base from hbe]
      refine mm_ist5 d_As_playOn_30 ?_
      refine mm_ciN 0 d_As_playOn_32 rfl ?_
      refine mm_ist6 d_As_playOn_33 ?_
      refine mm_up (P := fun c => ∀ (l7 l8 : Option Value), mm_T X (r + 1 + 3) 0 0 k_As_playOn 35 [some (.ref 57), some (.int (nI (r + 1))), some (.int (nI tk)), some (.int (nI h)), some (.int (nI 1)), some (.int (nI (plO D tk 1 F base c))), some (.int (nI c)), l7, l8] [] ν _) (dn D) ?_ ?_ none none
      · intro l7 l8
        refine mm_iload d_As_playOn_35 rfl ?_
        refine mm_aload d_As_playOn_37 rfl ?_
        refine mm_getP d_As_playOn_38 rfl (sk_o_57 hM) hP ?_
        refine mm_getIN d_As_playOn_41 rfl hCD.1.1 hCD.n ?_
        refine mm_icmp_geN d_As_playOn_44 (by first | omega | exact ite01_lt | exact bt8_lt31 _ _ | exact godB_lt31 _ _ _ | exact pop_lt31 _ | assumption | exact b31 (hW.gp (by omega)) | exact b31 (hW.ne (by omega)) | exact b31 (hW.op (by omega)) | exact and31 (hW.gp (by omega)) | exact and31 (hW.ne (by omega)) | exact and31 (hW.op (by omega)) | exact and31 (by assumption) | exact and31r (hW.ne (by omega)) | exact and31r (hW.gp (by omega)) | exact and31r (by decide)) (by first | omega | exact ite01_lt | exact bt8_lt31 _ _ | exact godB_lt31 _ _ _ | exact pop_lt31 _ | assumption | exact b31 (hW.gp (by omega)) | exact b31 (hW.ne (by omega)) | exact b31 (hW.op (by omega)) | exact and31 (hW.gp (by omega)) | exact and31 (hW.ne (by omega)) | exact and31 (hW.op (by omega)) | exact and31 (by assumption) | exact and31r (hW.ne (by omega)) | exact and31r (hW.gp (by omega)) | exact and31r (by decide)) (fun c_44 => ?_) (fun c_44 => False.elim (by omega))
        refine mm_iload d_As_playOn_151 rfl ?_
        exact mm_ri d_As_playOn_153 hq
      · intro c hc IH l7 l8
        have hcl := plO_lt (D := D) (tk := tk) (z := 1) hb hF c
        by_cases ht : bt8 tk c = 0
        · refine mm_iload d_As_playOn_35 rfl ?_
          refine mm_aload d_As_playOn_37 rfl ?_
          refine mm_getP d_As_playOn_38 rfl (sk_o_57 hM) hP ?_
          refine mm_getIN d_As_playOn_41 rfl hCD.1.1 hCD.n ?_
          refine mm_icmp_geN d_As_playOn_44 (by first | omega | exact ite01_lt | exact bt8_lt31 _ _ | exact godB_lt31 _ _ _ | exact pop_lt31 _ | assumption | exact b31 (hW.gp (by omega)) | exact b31 (hW.ne (by omega)) | exact b31 (hW.op (by omega)) | exact and31 (hW.gp (by omega)) | exact and31 (hW.ne (by omega)) | exact and31 (hW.op (by omega)) | exact and31 (by assumption) | exact and31r (hW.ne (by omega)) | exact and31r (hW.gp (by omega)) | exact and31r (by decide)) (by first | omega | exact ite01_lt | exact bt8_lt31 _ _ | exact godB_lt31 _ _ _ | exact pop_lt31 _ | assumption | exact b31 (hW.gp (by omega)) | exact b31 (hW.ne (by omega)) | exact b31 (hW.op (by omega)) | exact and31 (hW.gp (by omega)) | exact and31 (hW.ne (by omega)) | exact and31 (hW.op (by omega)) | exact and31 (by assumption) | exact and31r (hW.ne (by omega)) | exact and31r (hW.gp (by omega)) | exact and31r (by decide)) (fun c_44 => False.elim (by omega)) (fun c_44 => ?_)
          refine mm_ciN 0 d_As_playOn_47 rfl ?_
          refine mm_ist7 d_As_playOn_48 ?_
          refine mm_up (P := fun w => ∀ (l8 : Option Value), mm_T X (r + 1 + 3) 0 0 k_As_playOn 50 [some (.ref 57), some (.int (nI (r + 1))), some (.int (nI tk)), some (.int (nI h)), some (.int (nI 1)), some (.int (nI (plI D tk 1 F c (plO D tk 1 F base c) w))), some (.int (nI c)), some (.int (nI w)), l8] [] ν _) 8 ?_ ?_ l8
          · intro l8
            refine mm_iload d_As_playOn_50 rfl ?_
            refine mm_ciN 8 d_As_playOn_52 rfl ?_
            refine mm_icmp_geN d_As_playOn_54 (by first | omega | exact ite01_lt | exact bt8_lt31 _ _ | exact godB_lt31 _ _ _ | exact pop_lt31 _ | assumption | exact b31 (hW.gp (by omega)) | exact b31 (hW.ne (by omega)) | exact b31 (hW.op (by omega)) | exact and31 (hW.gp (by omega)) | exact and31 (hW.ne (by omega)) | exact and31 (hW.op (by omega)) | exact and31 (by assumption) | exact and31r (hW.ne (by omega)) | exact and31r (hW.gp (by omega)) | exact and31r (by decide)) (by first | omega | exact ite01_lt | exact bt8_lt31 _ _ | exact godB_lt31 _ _ _ | exact pop_lt31 _ | assumption | exact b31 (hW.gp (by omega)) | exact b31 (hW.ne (by omega)) | exact b31 (hW.op (by omega)) | exact and31 (hW.gp (by omega)) | exact and31 (hW.ne (by omega)) | exact and31 (hW.op (by omega)) | exact and31 (by assumption) | exact and31r (hW.ne (by omega)) | exact and31r (hW.gp (by omega)) | exact and31r (by decide)) (fun c_54 => ?_) (fun c_54 => False.elim (by omega))
            refine mm_inc6N d_As_playOn_145 ?_
            refine mm_goto d_As_playOn_148 ?_
            exact IH _ _
          · intro w hw IH2 l8
            have hil := plI_lt (D := D) (tk := tk) (z := 1) (c := c) hcl hF w
            have hfl := hF c w
            have es : plI D tk 1 F c (plO D tk 1 F base c) (w + 1) = if bt8 tk c = 0 ∧ godB D c w ≠ 0 then opt 1 (plI D tk 1 F c (plO D tk 1 F base c) w) (F c w) else plI D tk 1 F c (plO D tk 1 F base c) w := rfl
            have eo : ∀ a b, opt 1 a b = max a b := fun a b => (if_neg (by decide))
            have hcc : tk ||| 2 ^ c < 64 := or_lt64 htk (p2_lt (by omega))
            refine mm_iload d_As_playOn_50 rfl ?_
            refine mm_ciN 8 d_As_playOn_52 rfl ?_
            refine mm_icmp_geN d_As_playOn_54 (by first | omega | exact ite01_lt | exact bt8_lt31 _ _ | exact godB_lt31 _ _ _ | exact pop_lt31 _ | assumption | exact b31 (hW.gp (by omega)) | exact b31 (hW.ne (by omega)) | exact b31 (hW.op (by omega)) | exact and31 (hW.gp (by omega)) | exact and31 (hW.ne (by omega)) | exact and31 (hW.op (by omega)) | exact and31 (by assumption) | exact and31r (hW.ne (by omega)) | exact and31r (hW.gp (by omega)) | exact and31r (by decide)) (by first | omega | exact ite01_lt | exact bt8_lt31 _ _ | exact godB_lt31 _ _ _ | exact pop_lt31 _ | assumption | exact b31 (hW.gp (by omega)) | exact b31 (hW.ne (by omega)) | exact b31 (hW.op (by omega)) | exact and31 (hW.gp (by omega)) | exact and31 (hW.ne (by omega)) | exact and31 (hW.op (by omega)) | exact and31 (by assumption) | exact and31r (hW.ne (by omega)) | exact and31r (hW.gp (by omega)) | exact and31r (by decide)) (fun c_54 => False.elim (by omega)) (fun c_54 => ?_)
            refine mm_iload d_As_playOn_57 rfl ?_
            refine mm_iload d_As_playOn_58 rfl ?_
            refine mm_s2i d_As_playOn_60 (sp_has (by first | omega | assumption | exact hW.gp (by omega) | exact hW.ne (by omega) | exact hW.op (by omega) | exact and_lt256 (hW.gp (by omega)) | exact and_lt256 (hW.ne (by omega)) | exact and_lt256 (hW.op (by omega)) | exact and_lt256 (by assumption)) (by omega) ?_) (hdd := by omega)
            refine mm_if_neN d_As_playOn_63 (by first | omega | exact ite01_lt | exact bt8_lt31 _ _ | exact godB_lt31 _ _ _ | exact pop_lt31 _ | assumption | exact b31 (hW.gp (by omega)) | exact b31 (hW.ne (by omega)) | exact b31 (hW.op (by omega)) | exact and31 (hW.gp (by omega)) | exact and31 (hW.ne (by omega)) | exact and31 (hW.op (by omega)) | exact and31 (by assumption) | exact and31r (hW.ne (by omega)) | exact and31r (hW.gp (by omega)) | exact and31r (by decide)) (fun c_63 => False.elim (by omega)) (fun c_63 => ?_)
            refine mm_aload d_As_playOn_66 rfl ?_
            refine mm_getP d_As_playOn_67 rfl (sk_o_57 hM) hP ?_
            refine mm_iload d_As_playOn_70 rfl ?_
            refine mm_iload d_As_playOn_72 rfl ?_
            refine mm_v2i d_As_playOn_74 hCD.1.1 (sp_Co_isGodparent hCD hW (by omega) (by omega) ?_) (hdd := by omega)
            refine mm_if_eqN d_As_playOn_77 (by first | omega | exact ite01_lt | exact bt8_lt31 _ _ | exact godB_lt31 _ _ _ | exact pop_lt31 _ | assumption | exact b31 (hW.gp (by omega)) | exact b31 (hW.ne (by omega)) | exact b31 (hW.op (by omega)) | exact and31 (hW.gp (by omega)) | exact and31 (hW.ne (by omega)) | exact and31 (hW.op (by omega)) | exact and31 (by assumption) | exact and31r (hW.ne (by omega)) | exact and31r (hW.gp (by omega)) | exact and31r (by decide)) (fun c_77 => ?_) (fun c_77 => ?_)
            · refine mm_inc7N d_As_playOn_139 ?_
              refine mm_goto d_As_playOn_142 ?_
              first | (rw [es, if_neg (fun y => y.2 c_77)] at IH2; exact IH2 _) | (rw [es, if_pos ⟨ht, c_77⟩, eo] at IH2; exact IH2 _)
            · refine mm_aload d_As_playOn_80 rfl ?_
              refine mm_iload d_As_playOn_81 rfl ?_
              refine mm_ciN 1 d_As_playOn_82 rfl ?_
              refine mm_isubN d_As_playOn_83 (by omega) ?_
              refine mm_iload d_As_playOn_84 rfl ?_
              refine mm_ciN 1 d_As_playOn_85 rfl ?_
              refine mm_iload d_As_playOn_86 rfl ?_
              refine mm_ishl1N d_As_playOn_88 (by omega) ?_
              refine mm_iorN d_As_playOn_89 ?_
              refine mm_aload d_As_playOn_90 rfl ?_
              refine mm_getP d_As_playOn_91 rfl (sk_o_57 hM) hP ?_
              refine mm_iload d_As_playOn_94 rfl ?_
              refine mm_iload d_As_playOn_95 rfl ?_
              refine mm_v2i d_As_playOn_97 hCD.1.1 (sp_Co_hereOnceComes hCD (by omega) ?_) (hdd := by omega)
              refine mm_iload d_As_playOn_100 rfl ?_
              refine mm_if_neN d_As_playOn_102 (by first | omega | exact ite01_lt | exact bt8_lt31 _ _ | exact godB_lt31 _ _ _ | exact pop_lt31 _ | assumption | exact b31 (hW.gp (by omega)) | exact b31 (hW.ne (by omega)) | exact b31 (hW.op (by omega)) | exact and31 (hW.gp (by omega)) | exact and31 (hW.ne (by omega)) | exact and31 (hW.op (by omega)) | exact and31 (by assumption) | exact and31r (hW.ne (by omega)) | exact and31r (hW.gp (by omega)) | exact and31r (by decide)) (fun c_102 => ?_) (fun c_102 => False.elim (by omega))
              refine mm_ciN 0 d_As_playOn_109 rfl ?_
              refine mm_v4i d_As_playOn_110 (sk_o_57 hM) (ih (tk ||| 2 ^ c) (comesN D h w) 0 _ (by omega) hcc (comesN_lt hh hw) (Or.inl rfl) ?_) (hdd := by omega)
              rw [show pl D g r (tk ||| 2 ^ c) (comesN D h w) 0 = F c w from hFv c w]
              refine mm_ist8 d_As_playOn_113 ?_
              refine mm_iload d_As_playOn_115 rfl ?_
              refine mm_if_eqN d_As_playOn_117 (by first | omega | exact ite01_lt | exact bt8_lt31 _ _ | exact godB_lt31 _ _ _ | exact pop_lt31 _ | assumption | exact b31 (hW.gp (by omega)) | exact b31 (hW.ne (by omega)) | exact b31 (hW.op (by omega)) | exact and31 (hW.gp (by omega)) | exact and31 (hW.ne (by omega)) | exact and31 (hW.op (by omega)) | exact and31 (by assumption) | exact and31r (hW.ne (by omega)) | exact and31r (hW.gp (by omega)) | exact and31r (by decide)) (fun c_117 => False.elim (by omega)) (fun c_117 => ?_)
              refine mm_iload d_As_playOn_120 rfl ?_
              refine mm_iload d_As_playOn_122 rfl ?_
              refine mm_mmaxN d_As_playOn_124 (by first | omega | exact ite01_lt | exact bt8_lt31 _ _ | exact godB_lt31 _ _ _ | exact pop_lt31 _ | assumption | exact b31 (hW.gp (by omega)) | exact b31 (hW.ne (by omega)) | exact b31 (hW.op (by omega)) | exact and31 (hW.gp (by omega)) | exact and31 (hW.ne (by omega)) | exact and31 (hW.op (by omega)) | exact and31 (by assumption) | exact and31r (hW.ne (by omega)) | exact and31r (hW.gp (by omega)) | exact and31r (by decide)) (by first | omega | exact ite01_lt | exact bt8_lt31 _ _ | exact godB_lt31 _ _ _ | exact pop_lt31 _ | assumption | exact b31 (hW.gp (by omega)) | exact b31 (hW.ne (by omega)) | exact b31 (hW.op (by omega)) | exact and31 (hW.gp (by omega)) | exact and31 (hW.ne (by omega)) | exact and31 (hW.op (by omega)) | exact and31 (by assumption) | exact and31r (hW.ne (by omega)) | exact and31r (hW.gp (by omega)) | exact and31r (by decide)) (by omega) (Nat.le_of_ble_eq_true rfl) ?_
              refine mm_goto d_As_playOn_127 ?_
              refine mm_ist5 d_As_playOn_137 ?_
              refine mm_inc7N d_As_playOn_139 ?_
              refine mm_goto d_As_playOn_142 ?_
              first | (rw [es, if_neg (fun y => y.2 c_77)] at IH2; exact IH2 _) | (rw [es, if_pos ⟨ht, c_77⟩, eo] at IH2; exact IH2 _)
        · have es : plO D tk 1 F base (c + 1) = plO D tk 1 F base c := plI_tk ht 8
          rw [es] at IH
          refine mm_iload d_As_playOn_35 rfl ?_
          refine mm_aload d_As_playOn_37 rfl ?_
          refine mm_getP d_As_playOn_38 rfl (sk_o_57 hM) hP ?_
          refine mm_getIN d_As_playOn_41 rfl hCD.1.1 hCD.n ?_
          refine mm_icmp_geN d_As_playOn_44 (by first | omega | exact ite01_lt | exact bt8_lt31 _ _ | exact godB_lt31 _ _ _ | exact pop_lt31 _ | assumption | exact b31 (hW.gp (by omega)) | exact b31 (hW.ne (by omega)) | exact b31 (hW.op (by omega)) | exact and31 (hW.gp (by omega)) | exact and31 (hW.ne (by omega)) | exact and31 (hW.op (by omega)) | exact and31 (by assumption) | exact and31r (hW.ne (by omega)) | exact and31r (hW.gp (by omega)) | exact and31r (by decide)) (by first | omega | exact ite01_lt | exact bt8_lt31 _ _ | exact godB_lt31 _ _ _ | exact pop_lt31 _ | assumption | exact b31 (hW.gp (by omega)) | exact b31 (hW.ne (by omega)) | exact b31 (hW.op (by omega)) | exact and31 (hW.gp (by omega)) | exact and31 (hW.ne (by omega)) | exact and31 (hW.op (by omega)) | exact and31 (by assumption) | exact and31r (hW.ne (by omega)) | exact and31r (hW.gp (by omega)) | exact and31r (by decide)) (fun c_44 => False.elim (by omega)) (fun c_44 => ?_)
          refine mm_ciN 0 d_As_playOn_47 rfl ?_
          refine mm_ist7 d_As_playOn_48 ?_
          refine mm_iload d_As_playOn_50 rfl ?_
          refine mm_ciN 8 d_As_playOn_52 rfl ?_
          refine mm_icmp_geN d_As_playOn_54 (by first | omega | exact ite01_lt | exact bt8_lt31 _ _ | exact godB_lt31 _ _ _ | exact pop_lt31 _ | assumption | exact b31 (hW.gp (by omega)) | exact b31 (hW.ne (by omega)) | exact b31 (hW.op (by omega)) | exact and31 (hW.gp (by omega)) | exact and31 (hW.ne (by omega)) | exact and31 (hW.op (by omega)) | exact and31 (by assumption) | exact and31r (hW.ne (by omega)) | exact and31r (hW.gp (by omega)) | exact and31r (by decide)) (by first | omega | exact ite01_lt | exact bt8_lt31 _ _ | exact godB_lt31 _ _ _ | exact pop_lt31 _ | assumption | exact b31 (hW.gp (by omega)) | exact b31 (hW.ne (by omega)) | exact b31 (hW.op (by omega)) | exact and31 (hW.gp (by omega)) | exact and31 (hW.ne (by omega)) | exact and31 (hW.op (by omega)) | exact and31 (by assumption) | exact and31r (hW.ne (by omega)) | exact and31r (hW.gp (by omega)) | exact and31r (by decide)) (fun c_54 => False.elim (by omega)) (fun c_54 => ?_)
          refine mm_iload d_As_playOn_57 rfl ?_
          refine mm_iload d_As_playOn_58 rfl ?_
          refine mm_s2i d_As_playOn_60 (sp_has (by first | omega | assumption | exact hW.gp (by omega) | exact hW.ne (by omega) | exact hW.op (by omega) | exact and_lt256 (hW.gp (by omega)) | exact and_lt256 (hW.ne (by omega)) | exact and_lt256 (hW.op (by omega)) | exact and_lt256 (by assumption)) (by omega) ?_) (hdd := by omega)
          refine mm_if_neN d_As_playOn_63 (by first | omega | exact ite01_lt | exact bt8_lt31 _ _ | exact godB_lt31 _ _ _ | exact pop_lt31 _ | assumption | exact b31 (hW.gp (by omega)) | exact b31 (hW.ne (by omega)) | exact b31 (hW.op (by omega)) | exact and31 (hW.gp (by omega)) | exact and31 (hW.ne (by omega)) | exact and31 (hW.op (by omega)) | exact and31 (by assumption) | exact and31r (hW.ne (by omega)) | exact and31r (hW.gp (by omega)) | exact and31r (by decide)) (fun c_63 => ?_) (fun c_63 => False.elim (by omega))
          refine mm_inc6N d_As_playOn_145 ?_
          refine mm_goto d_As_playOn_148 ?_
          exact IH _ _
theorem sp_As_outcome {X : mm_X} {μ : mm_M} {q : Int32 → mm_M → Prop} {D : mm_D} {e n : Nat} (hM : SK μ) (he : e < 2) (hC0 : CoD μ (4 + 7 * e) D) (hW : WfD D) (hn : n ≤ 3) (h : ∀ ν, Fr scB μ ν → mm_I ν 57 = mm_I μ 57 → AsG D e (gN D (nI 0)) ν → q (nI (pl D (gN D (nI 0)) n 0 0 1)) ν) : mm_Ci X 8 0 0 k_As_outcome [.ref 57, .ref (4 + 7 * e), .int (nI n)] μ q := by
  show mm_T X 8 0 0 k_As_outcome 0 [some (.ref 57), some (.ref (4 + 7 * e)), some (.int (nI n))] [] μ _
  refine mm_aload d_As_outcome_0 rfl ?_
  refine mm_aload d_As_outcome_1 rfl ?_
  refine mm_ciN 0 d_As_outcome_2 rfl ?_
  refine mm_v2v d_As_outcome_3 (sk_o_57 hM) (sp_As_begin hM he hC0 hW (fun ν f e57 hA => ?_))
  refine mm_aload d_As_outcome_6 rfl ?_
  refine mm_iload d_As_outcome_7 rfl ?_
  refine mm_ciN 0 d_As_outcome_8 rfl ?_
  refine mm_ciN 0 d_As_outcome_9 rfl ?_
  refine mm_ciN 1 d_As_outcome_10 rfl ?_
  refine mm_v4i d_As_outcome_11 (sk_o_57 hA.1) (sp_As_playOn hA (fun x => Nat.lt_trans (gN_lt hW _ x) (by decide)) n 0 0 1 _ hn (by decide) (by decide) (Or.inr rfl) ?_) (hdd := by omega)
  exact mm_ri d_As_outcome_14 (h ν f e57 hA)
/-- what the first does first -/
def chF (D : mm_D) (v : Nat) : Nat := if v = 18 then 99 else 10 * (v / 3) + kthN (dgp D (v / 3)) (v % 3)
theorem popK_mono {s w w' : Nat} (h : w ≤ w') : popK s w ≤ popK s w' := by
  induction w' with
  | zero => rw [show w = 0 by omega]; exact Nat.le_refl _
  | succ w' ih =>
    by_cases e : w = w' + 1
    · rw [e]; exact Nat.le_refl _
    · have := ih (by omega)
      show popK s w ≤ popK s w' + bt8 s w'
      omega
def PP (D : mm_D) (g : Nat → Nat) (r goal c w : Nat) : Prop := godB D c w ≠ 0 ∧ pl D g r (2 ^ c) (comesN D 0 w) 0 = goal
theorem open_eq {D : mm_D} (hW : WfD D) {g : Nat → Nat} {r goal v c w : Nat} (hv : v < 19) (hmin : ∀ c w, c < dn D → w < 8 → PP D g r goal c w → v ≤ 3 * c + popK (dgp D c) w) (hat : v < 18 → v / 3 < dn D ∧ PP D g r goal (v / 3) (kthN (dgp D (v / 3)) (v % 3))) (hc : c < dn D) (hw : w < 8) (hP : PP D g r goal c w) (hb : ∀ c' w', (c' < c ∧ w' < 8 ∨ c' = c ∧ w' < w) → ¬ PP D g r goal c' w') : 10 * c + w = chF D v := by
  have hn6 := hW.1
  have h1 := hmin c w hc hw hP
  have hg1 : bt8 (dgp D c) w = 1 := by
    have e : godB D c w = bt8 (dgp D c) w := if_pos hc
    have := bt8_01 (dgp D c) w
    have := hP.1
    omega
  obtain ⟨k1, k2⟩ := kth_w _ (hW.gp (j := c) (by omega)) (hW.2.2.2.2.1 c hc) w hw hg1
  have hv18 : v < 18 := by omega
  obtain ⟨a1, a2⟩ := hat hv18
  obtain ⟨q1, q2, q3⟩ := kthN_ok _ (hW.gp (j := v / 3) (by omega)) (hW.2.2.2.2.1 _ a1) (v % 3) (by omega)
  unfold chF
  rw [if_neg (by omega)]
  have hcc : v / 3 ≤ c := by omega
  by_cases e : v / 3 = c
  · rw [e] at a2 q1 q2 q3 ⊢
    have hle : v % 3 ≤ popK (dgp D c) w := by omega
    by_cases e2 : v % 3 = popK (dgp D c) w
    · rw [e2, k1]
    · refine absurd a2 (hb c _ (Or.inr ⟨rfl, Nat.not_le.mp fun y => ?_⟩))
      have := popK_mono (s := dgp D c) y
      omega
  · exact absurd a2 (hb _ _ (Or.inl ⟨by omega, q1⟩))
theorem sp_As_opening {X : mm_X} {μ : mm_M} {q : Int32 → mm_M → Prop} {D : mm_D} {e r v : Nat} (hM : SK μ) (he : e < 2) (hC0 : CoD μ (4 + 7 * e) D) (hW : WfD D) (hn : r + 1 ≤ 3) (hv : v < 19) (hmin : ∀ c w, c < dn D → w < 8 → PP D (gN D (nI 0)) r (pl D (gN D (nI 0)) (r + 1) 0 0 1) c w → v ≤ 3 * c + popK (dgp D c) w) (hat : v < 18 → v / 3 < dn D ∧ PP D (gN D (nI 0)) r (pl D (gN D (nI 0)) (r + 1) 0 0 1) (v / 3) (kthN (dgp D (v / 3)) (v % 3))) (h : ∀ ν, Fr scB μ ν → mm_I ν 57 = mm_I μ 57 → q (nI (chF D v)) ν) : mm_Ci X 9 0 0 k_As_opening [.ref 57, .ref (4 + 7 * e), .int (nI (r + 1))] μ q := by
  show mm_T X 9 0 0 k_As_opening 0 [some (.ref 57), some (.ref (4 + 7 * e)), some (.int (nI (r + 1))), none, none, none] [] μ _
  have hn6 := hW.1
  refine mm_aload d_As_opening_0 rfl ?_
  refine mm_aload d_As_opening_1 rfl ?_
  refine mm_iload d_As_opening_2 rfl ?_
  refine mm_v2i d_As_opening_3 (sk_o_57 hM) (sp_As_outcome hM he hC0 hW hn (fun ν f e57 hA => ?_))
  have hg : ∀ x, gN D (nI 0) x < 1000 := fun x => Nat.lt_trans (gN_lt hW _ x) (by decide)
  have hgl := pl_lt (D := D) hg (r + 1) 0 0 1
  generalize pl D (gN D (nI 0)) (r + 1) 0 0 1 = goal at hmin hat hgl ⊢
  have hM := hA.1
  have hCD := hA.2.2.2.1
  have hP := hA.2.2.1
  have hq := h ν f e57
  refine mm_ist3 d_As_opening_6 ?_
  refine mm_ciN 0 d_As_opening_7 rfl ?_
  refine mm_ist4 d_As_opening_8 ?_
  refine mm_up (P := fun c => ∀ (l5 : Option Value), (∀ c' w', c' < c → w' < 8 → ¬ PP D (gN D (nI 0)) r goal c' w') → mm_T X 9 0 0 k_As_opening 10 [some (.ref 57), some (.ref (4 + 7 * e)), some (.int (nI (r + 1))), some (.int (nI goal)), some (.int (nI c)), l5] [] ν (fun v μ' => ∃ r, v = some (.int r) ∧ q r μ')) (dn D) ?_ ?_ none (fun c' w' y => absurd y (Nat.not_lt_zero c'))
  · intro l5 hb
    have e18 : chF D v = 99 := by
      unfold chF
      by_cases y : v < 18
      · obtain ⟨a1, a2⟩ := hat y
        exact absurd a2 (hb _ _ a1 (kthN_ok _ (hW.gp (j := v / 3) (by omega)) (hW.2.2.2.2.1 _ a1) (v % 3) (by omega)).1)
      · rw [if_pos (by omega)]
    rw [e18] at hq
    refine mm_iload d_As_opening_10 rfl ?_
    refine mm_aload d_As_opening_12 rfl ?_
    refine mm_getP d_As_opening_13 rfl (sk_o_57 hM) hP ?_
    refine mm_getIN d_As_opening_16 rfl hCD.1.1 hCD.n ?_
    refine mm_icmp_geN d_As_opening_19 (by first | omega | exact ite01_lt | exact bt8_lt31 _ _ | exact godB_lt31 _ _ _ | exact pop_lt31 _ | assumption | exact b31 (hW.gp (by omega)) | exact b31 (hW.ne (by omega)) | exact b31 (hW.op (by omega)) | exact and31 (hW.gp (by omega)) | exact and31 (hW.ne (by omega)) | exact and31 (hW.op (by omega)) | exact and31 (by assumption) | exact and31r (hW.ne (by omega)) | exact and31r (hW.gp (by omega)) | exact and31r (by decide)) (by first | omega | exact ite01_lt | exact bt8_lt31 _ _ | exact godB_lt31 _ _ _ | exact pop_lt31 _ | assumption | exact b31 (hW.gp (by omega)) | exact b31 (hW.ne (by omega)) | exact b31 (hW.op (by omega)) | exact and31 (hW.gp (by omega)) | exact and31 (hW.ne (by omega)) | exact and31 (hW.op (by omega)) | exact and31 (by assumption) | exact and31r (hW.ne (by omega)) | exact and31r (hW.gp (by omega)) | exact and31r (by decide)) (fun c_19 => ?_) (fun c_19 => False.elim (by omega))
    refine mm_ciN 99 d_As_opening_93 rfl ?_
    exact mm_ri d_As_opening_95 hq
  · intro c hc IH l5 hb
    refine mm_iload d_As_opening_10 rfl ?_
    refine mm_aload d_As_opening_12 rfl ?_
    refine mm_getP d_As_opening_13 rfl (sk_o_57 hM) hP ?_
    refine mm_getIN d_As_opening_16 rfl hCD.1.1 hCD.n ?_
    refine mm_icmp_geN d_As_opening_19 (by first | omega | exact ite01_lt | exact bt8_lt31 _ _ | exact godB_lt31 _ _ _ | exact pop_lt31 _ | assumption | exact b31 (hW.gp (by omega)) | exact b31 (hW.ne (by omega)) | exact b31 (hW.op (by omega)) | exact and31 (hW.gp (by omega)) | exact and31 (hW.ne (by omega)) | exact and31 (hW.op (by omega)) | exact and31 (by assumption) | exact and31r (hW.ne (by omega)) | exact and31r (hW.gp (by omega)) | exact and31r (by decide)) (by first | omega | exact ite01_lt | exact bt8_lt31 _ _ | exact godB_lt31 _ _ _ | exact pop_lt31 _ | assumption | exact b31 (hW.gp (by omega)) | exact b31 (hW.ne (by omega)) | exact b31 (hW.op (by omega)) | exact and31 (hW.gp (by omega)) | exact and31 (hW.ne (by omega)) | exact and31 (hW.op (by omega)) | exact and31 (by assumption) | exact and31r (hW.ne (by omega)) | exact and31r (hW.gp (by omega)) | exact and31r (by decide)) (fun c_19 => False.elim (by omega)) (fun c_19 => ?_)
    refine mm_ciN 0 d_As_opening_22 rfl ?_
    refine mm_ist5 d_As_opening_23 ?_
    refine mm_up (P := fun w => (∀ w', w' < w → ¬ PP D (gN D (nI 0)) r goal c w') → mm_T X 9 0 0 k_As_opening 25 [some (.ref 57), some (.ref (4 + 7 * e)), some (.int (nI (r + 1))), some (.int (nI goal)), some (.int (nI c)), some (.int (nI w))] [] ν (fun v μ' => ∃ r, v = some (.int r) ∧ q r μ')) 8 ?_ ?_ (fun w' y => absurd y (Nat.not_lt_zero w'))
    · intro hb2
      refine mm_iload d_As_opening_25 rfl ?_
      refine mm_ciN 8 d_As_opening_27 rfl ?_
      refine mm_icmp_geN d_As_opening_29 (by first | omega | exact ite01_lt | exact bt8_lt31 _ _ | exact godB_lt31 _ _ _ | exact pop_lt31 _ | assumption | exact b31 (hW.gp (by omega)) | exact b31 (hW.ne (by omega)) | exact b31 (hW.op (by omega)) | exact and31 (hW.gp (by omega)) | exact and31 (hW.ne (by omega)) | exact and31 (hW.op (by omega)) | exact and31 (by assumption) | exact and31r (hW.ne (by omega)) | exact and31r (hW.gp (by omega)) | exact and31r (by decide)) (by first | omega | exact ite01_lt | exact bt8_lt31 _ _ | exact godB_lt31 _ _ _ | exact pop_lt31 _ | assumption | exact b31 (hW.gp (by omega)) | exact b31 (hW.ne (by omega)) | exact b31 (hW.op (by omega)) | exact and31 (hW.gp (by omega)) | exact and31 (hW.ne (by omega)) | exact and31 (hW.op (by omega)) | exact and31 (by assumption) | exact and31r (hW.ne (by omega)) | exact and31r (hW.gp (by omega)) | exact and31r (by decide)) (fun c_29 => ?_) (fun c_29 => False.elim (by omega))
      refine mm_inc4N d_As_opening_87 ?_
      refine mm_goto d_As_opening_90 ?_
      exact IH _ (fun c' w' y1 y2 => by by_cases y : c' = c; (rw [y]; exact hb2 w' y2); exact hb c' w' (by omega) y2)
    · intro w hw IH2 hb2
      have p64 : 2 ^ c < 64 := p2_lt (by omega)
      have hpl := pl_lt (D := D) hg r (2 ^ c) (comesN D 0 w) 0
      have nx : (¬ PP D (gN D (nI 0)) r goal c w) → ∀ w', w' < w + 1 → ¬ PP D (gN D (nI 0)) r goal c w' := fun y w' y2 => by
        by_cases y3 : w' = w
        · rw [y3]; exact y
        · exact hb2 w' (by omega)
      refine mm_iload d_As_opening_25 rfl ?_
      refine mm_ciN 8 d_As_opening_27 rfl ?_
      refine mm_icmp_geN d_As_opening_29 (by first | omega | exact ite01_lt | exact bt8_lt31 _ _ | exact godB_lt31 _ _ _ | exact pop_lt31 _ | assumption | exact b31 (hW.gp (by omega)) | exact b31 (hW.ne (by omega)) | exact b31 (hW.op (by omega)) | exact and31 (hW.gp (by omega)) | exact and31 (hW.ne (by omega)) | exact and31 (hW.op (by omega)) | exact and31 (by assumption) | exact and31r (hW.ne (by omega)) | exact and31r (hW.gp (by omega)) | exact and31r (by decide)) (by first | omega | exact ite01_lt | exact bt8_lt31 _ _ | exact godB_lt31 _ _ _ | exact pop_lt31 _ | assumption | exact b31 (hW.gp (by omega)) | exact b31 (hW.ne (by omega)) | exact b31 (hW.op (by omega)) | exact and31 (hW.gp (by omega)) | exact and31 (hW.ne (by omega)) | exact and31 (hW.op (by omega)) | exact and31 (by assumption) | exact and31r (hW.ne (by omega)) | exact and31r (hW.gp (by omega)) | exact and31r (by decide)) (fun c_29 => False.elim (by omega)) (fun c_29 => ?_)
      refine mm_aload d_As_opening_32 rfl ?_
      refine mm_getP d_As_opening_33 rfl (sk_o_57 hM) hP ?_
      refine mm_iload d_As_opening_36 rfl ?_
      refine mm_iload d_As_opening_38 rfl ?_
      refine mm_v2i d_As_opening_40 hCD.1.1 (sp_Co_isGodparent hCD hW (by omega) (by omega) ?_)
      refine mm_if_eqN d_As_opening_43 (by first | omega | exact ite01_lt | exact bt8_lt31 _ _ | exact godB_lt31 _ _ _ | exact pop_lt31 _ | assumption | exact b31 (hW.gp (by omega)) | exact b31 (hW.ne (by omega)) | exact b31 (hW.op (by omega)) | exact and31 (hW.gp (by omega)) | exact and31 (hW.ne (by omega)) | exact and31 (hW.op (by omega)) | exact and31 (by assumption) | exact and31r (hW.ne (by omega)) | exact and31r (hW.gp (by omega)) | exact and31r (by decide)) (fun c_43 => ?_) (fun c_43 => ?_)
      · refine mm_inc5N d_As_opening_81 ?_
        refine mm_goto d_As_opening_84 ?_
        first | exact IH2 (nx (fun y => y.1 c_43)) | exact IH2 (nx (fun y => c_69 y.2))
      · refine mm_aload d_As_opening_46 rfl ?_
        refine mm_iload d_As_opening_47 rfl ?_
        refine mm_ciN 1 d_As_opening_48 rfl ?_
        refine mm_isubN d_As_opening_49 (by omega) ?_
        refine mm_ciN 1 d_As_opening_50 rfl ?_
        refine mm_iload d_As_opening_51 rfl ?_
        refine mm_ishl1N d_As_opening_53 (by omega) ?_
        refine mm_aload d_As_opening_54 rfl ?_
        refine mm_getP d_As_opening_55 rfl (sk_o_57 hM) hP ?_
        refine mm_ciN 0 d_As_opening_58 rfl ?_
        refine mm_iload d_As_opening_59 rfl ?_
        refine mm_v2i d_As_opening_61 hCD.1.1 (sp_Co_hereOnceComes hCD (by omega) ?_)
        refine mm_ciN 0 d_As_opening_64 rfl ?_
        refine mm_v4i d_As_opening_65 (sk_o_57 hM) (sp_As_playOn hA hg r (2 ^ c) (comesN D 0 w) 0 _ (by omega) p64 (comesN_lt (by decide) hw) (Or.inl rfl) ?_) (hdd := by omega)
        refine mm_iload d_As_opening_68 rfl ?_
        refine mm_icmp_neN d_As_opening_69 (by first | omega | exact ite01_lt | exact bt8_lt31 _ _ | exact godB_lt31 _ _ _ | exact pop_lt31 _ | assumption | exact b31 (hW.gp (by omega)) | exact b31 (hW.ne (by omega)) | exact b31 (hW.op (by omega)) | exact and31 (hW.gp (by omega)) | exact and31 (hW.ne (by omega)) | exact and31 (hW.op (by omega)) | exact and31 (by assumption) | exact and31r (hW.ne (by omega)) | exact and31r (hW.gp (by omega)) | exact and31r (by decide)) (by first | omega | exact ite01_lt | exact bt8_lt31 _ _ | exact godB_lt31 _ _ _ | exact pop_lt31 _ | assumption | exact b31 (hW.gp (by omega)) | exact b31 (hW.ne (by omega)) | exact b31 (hW.op (by omega)) | exact and31 (hW.gp (by omega)) | exact and31 (hW.ne (by omega)) | exact and31 (hW.op (by omega)) | exact and31 (by assumption) | exact and31r (hW.ne (by omega)) | exact and31r (hW.gp (by omega)) | exact and31r (by decide)) (fun c_69 => ?_) (fun c_69 => ?_)
        · refine mm_inc5N d_As_opening_81 ?_
          refine mm_goto d_As_opening_84 ?_
          first | exact IH2 (nx (fun y => y.1 c_43)) | exact IH2 (nx (fun y => c_69 y.2))
        · refine mm_ciN 10 d_As_opening_72 rfl ?_
          refine mm_iload d_As_opening_74 rfl ?_
          refine mm_imulN d_As_opening_76 ?_
          refine mm_iload d_As_opening_77 rfl ?_
          refine mm_iaddN d_As_opening_79 ?_
          exact mm_ri d_As_opening_80 (by rw [open_eq hW hv hmin hat hc hw ⟨c_43, c_69⟩ (fun c' w' y => y.elim (fun y => hb c' w' y.1 y.2) (fun y => by rw [y.1]; exact hb2 w' y.2))]; exact hq)
