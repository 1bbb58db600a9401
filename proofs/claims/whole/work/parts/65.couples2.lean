/-! clan: couples on both sides, and the pair -/
theorem or64 {a b : Nat} (h : a < 64) (h' : b < 64) : a ||| b < 64 := Nat.or_lt_two_pow (n := 6) h h'
theorem two_lt64 {o : Nat} (h : o < 6) : 2 ^ o < 64 := Nat.pow_lt_pow_right (a := 2) (by decide) h
theorem sp_cf {X : mm_X} {μ : mm_M} {a : Nat} {D : mm_D} (hCD : CoD μ a D) (hW : WfD D) : ∀ (r c T : Nat) (q : Int32 → mm_M → Prop), r ≤ 6 → dn D ≤ c + r → c ≤ 6 → T < 64 → q (nI (cf D r c T)) μ → mm_Ci X (r + 2) 0 0 k_Cr_mostCouplesFrom [.ref a, .int (nI c), .int (nI T)] μ q := by
  have hn6 := hW.1
  intro r
  induction r with
  | zero =>
    intro c T q hr6 hr hc hT h
    show mm_T X (0 + 2) 0 0 k_Cr_mostCouplesFrom 0 [some (.ref a), some (.int (nI c)), some (.int (nI T)), none, none] [] μ _
    refine mm_iload d_Cr_mostCouplesFrom_0 rfl ?_
    refine mm_aload d_Cr_mostCouplesFrom_1 rfl ?_
    refine mm_getIN d_Cr_mostCouplesFrom_2 rfl hCD.1.1 hCD.n ?_
    refine mm_icmp_ltN d_Cr_mostCouplesFrom_5 (by first | omega | exact ite01_lt | exact bt8_lt31 _ _ | exact godB_lt31 _ _ _ | exact pop_lt31 _ | assumption | exact b31 (hW.gp (by omega)) | exact b31 (hW.ne (by omega)) | exact b31 (hW.op (by omega)) | exact and31 (hW.gp (by omega)) | exact and31 (hW.ne (by omega)) | exact and31 (hW.op (by omega)) | exact and31 (by assumption) | exact and31r (hW.ne (by omega)) | exact and31r (hW.gp (by omega)) | exact and31r (by decide)) (by first | omega | exact ite01_lt | exact bt8_lt31 _ _ | exact godB_lt31 _ _ _ | exact pop_lt31 _ | assumption | exact b31 (hW.gp (by omega)) | exact b31 (hW.ne (by omega)) | exact b31 (hW.op (by omega)) | exact and31 (hW.gp (by omega)) | exact and31 (hW.ne (by omega)) | exact and31 (hW.op (by omega)) | exact and31 (by assumption) | exact and31r (hW.ne (by omega)) | exact and31r (hW.gp (by omega)) | exact and31r (by decide)) (fun c_5 => False.elim (by omega)) (fun c_5 => ?_)
    refine mm_ciN 0 d_Cr_mostCouplesFrom_8 rfl ?_
    exact mm_ri d_Cr_mostCouplesFrom_9 h
  | succ r ih =>
    intro c T q hr6 hr hc hT h
    show mm_T X (r + 1 + 2) 0 0 k_Cr_mostCouplesFrom 0 [some (.ref a), some (.int (nI c)), some (.int (nI T)), none, none] [] μ _
    by_cases hcd : dn D ≤ c
    · rw [show cf D (r + 1) c T = 0 from if_pos hcd] at h
      refine mm_iload d_Cr_mostCouplesFrom_0 rfl ?_
      refine mm_aload d_Cr_mostCouplesFrom_1 rfl ?_
      refine mm_getIN d_Cr_mostCouplesFrom_2 rfl hCD.1.1 hCD.n ?_
      refine mm_icmp_ltN d_Cr_mostCouplesFrom_5 (by first | omega | exact ite01_lt | exact bt8_lt31 _ _ | exact godB_lt31 _ _ _ | exact pop_lt31 _ | assumption | exact b31 (hW.gp (by omega)) | exact b31 (hW.ne (by omega)) | exact b31 (hW.op (by omega)) | exact and31 (hW.gp (by omega)) | exact and31 (hW.ne (by omega)) | exact and31 (hW.op (by omega)) | exact and31 (by assumption) | exact and31r (hW.ne (by omega)) | exact and31r (hW.gp (by omega)) | exact and31r (by decide)) (by first | omega | exact ite01_lt | exact bt8_lt31 _ _ | exact godB_lt31 _ _ _ | exact pop_lt31 _ | assumption | exact b31 (hW.gp (by omega)) | exact b31 (hW.ne (by omega)) | exact b31 (hW.op (by omega)) | exact and31 (hW.gp (by omega)) | exact and31 (hW.ne (by omega)) | exact and31 (hW.op (by omega)) | exact and31 (by assumption) | exact and31r (hW.ne (by omega)) | exact and31r (hW.gp (by omega)) | exact and31r (by decide)) (fun c_5 => False.elim (by omega)) (fun c_5 => ?_)
      refine mm_ciN 0 d_Cr_mostCouplesFrom_8 rfl ?_
      exact mm_ri d_Cr_mostCouplesFrom_9 h
    · rw [show cf D (r + 1) c T = cfI D (fun T' => cf D r (c + 1) T') c T (cf D r (c + 1) T) (dn D - (c + 1)) from if_neg hcd] at h
      have hcl := cf_le D r (c + 1)
      have hil := fun j => cfI_le (D := D) (f := fun T' => cf D r (c + 1) T') (c := c) (T := T) (hcl T) hcl j
      by_cases hb : bt8 T c = 0
      · refine mm_iload d_Cr_mostCouplesFrom_0 rfl ?_
        refine mm_aload d_Cr_mostCouplesFrom_1 rfl ?_
        refine mm_getIN d_Cr_mostCouplesFrom_2 rfl hCD.1.1 hCD.n ?_
        refine mm_icmp_ltN d_Cr_mostCouplesFrom_5 (by first | omega | exact ite01_lt | exact bt8_lt31 _ _ | exact godB_lt31 _ _ _ | exact pop_lt31 _ | assumption | exact b31 (hW.gp (by omega)) | exact b31 (hW.ne (by omega)) | exact b31 (hW.op (by omega)) | exact and31 (hW.gp (by omega)) | exact and31 (hW.ne (by omega)) | exact and31 (hW.op (by omega)) | exact and31 (by assumption) | exact and31r (hW.ne (by omega)) | exact and31r (hW.gp (by omega)) | exact and31r (by decide)) (by first | omega | exact ite01_lt | exact bt8_lt31 _ _ | exact godB_lt31 _ _ _ | exact pop_lt31 _ | assumption | exact b31 (hW.gp (by omega)) | exact b31 (hW.ne (by omega)) | exact b31 (hW.op (by omega)) | exact and31 (hW.gp (by omega)) | exact and31 (hW.ne (by omega)) | exact and31 (hW.op (by omega)) | exact and31 (by assumption) | exact and31r (hW.ne (by omega)) | exact and31r (hW.gp (by omega)) | exact and31r (by decide)) (fun c_5 => ?_) (fun c_5 => False.elim (by omega))
        refine mm_aload d_Cr_mostCouplesFrom_10 rfl ?_
        refine mm_iload d_Cr_mostCouplesFrom_11 rfl ?_
        refine mm_ciN 1 d_Cr_mostCouplesFrom_12 rfl ?_
        refine mm_iaddN d_Cr_mostCouplesFrom_13 ?_
        refine mm_iload d_Cr_mostCouplesFrom_14 rfl ?_
        refine mm_s3i d_Cr_mostCouplesFrom_15 (ih (c + 1) T _ (by omega) (by omega) (by omega) hT ?_) (hdd := by omega)
        refine mm_ist3 d_Cr_mostCouplesFrom_18 ?_
        refine mm_iload d_Cr_mostCouplesFrom_19 rfl ?_
        refine mm_ciN 1 d_Cr_mostCouplesFrom_20 rfl ?_
        refine mm_iaddN d_Cr_mostCouplesFrom_21 ?_
        refine mm_ist4 d_Cr_mostCouplesFrom_22 ?_
        refine mm_up (P := fun j => mm_T X _ 0 0 k_Cr_mostCouplesFrom 24 [some (.ref a), some (.int (nI c)), some (.int (nI T)), some (.int (nI (cfI D (fun T' => cf D r (c + 1) T') c T (cf D r (c + 1) T) j))), some (.int (nI (c + 1 + j)))] [] μ _) (dn D - (c + 1)) ?_ (fun j hj ih2 => ?_)
        · refine mm_iload d_Cr_mostCouplesFrom_24 rfl ?_
          refine mm_aload d_Cr_mostCouplesFrom_26 rfl ?_
          refine mm_getIN d_Cr_mostCouplesFrom_27 rfl hCD.1.1 hCD.n ?_
          refine mm_icmp_geN d_Cr_mostCouplesFrom_30 (by first | omega | exact ite01_lt | exact bt8_lt31 _ _ | exact godB_lt31 _ _ _ | exact pop_lt31 _ | assumption | exact b31 (hW.gp (by omega)) | exact b31 (hW.ne (by omega)) | exact b31 (hW.op (by omega)) | exact and31 (hW.gp (by omega)) | exact and31 (hW.ne (by omega)) | exact and31 (hW.op (by omega)) | exact and31 (by assumption) | exact and31r (hW.ne (by omega)) | exact and31r (hW.gp (by omega)) | exact and31r (by decide)) (by first | omega | exact ite01_lt | exact bt8_lt31 _ _ | exact godB_lt31 _ _ _ | exact pop_lt31 _ | assumption | exact b31 (hW.gp (by omega)) | exact b31 (hW.ne (by omega)) | exact b31 (hW.op (by omega)) | exact and31 (hW.gp (by omega)) | exact and31 (hW.ne (by omega)) | exact and31 (hW.op (by omega)) | exact and31 (by assumption) | exact and31r (hW.ne (by omega)) | exact and31r (hW.gp (by omega)) | exact and31r (by decide)) (fun c_30 => ?_) (fun c_30 => False.elim (by omega))
          refine mm_iload d_Cr_mostCouplesFrom_86 rfl ?_
          exact mm_ri d_Cr_mostCouplesFrom_87 h
        · have hij := hil j
          have hcj := hcl (T ||| 2 ^ (c + 1 + j))
          have hpp := pop_le (dgp D c &&& dgp D (c + 1 + j))
          have hoj := two_lt64 (show c + 1 + j < 6 by omega)
          have hTj := or64 hT hoj
          have z := ih2
          refine mm_iload d_Cr_mostCouplesFrom_24 rfl ?_
          refine mm_aload d_Cr_mostCouplesFrom_26 rfl ?_
          refine mm_getIN d_Cr_mostCouplesFrom_27 rfl hCD.1.1 hCD.n ?_
          refine mm_icmp_geN d_Cr_mostCouplesFrom_30 (by first | omega | exact ite01_lt | exact bt8_lt31 _ _ | exact godB_lt31 _ _ _ | exact pop_lt31 _ | assumption | exact b31 (hW.gp (by omega)) | exact b31 (hW.ne (by omega)) | exact b31 (hW.op (by omega)) | exact and31 (hW.gp (by omega)) | exact and31 (hW.ne (by omega)) | exact and31 (hW.op (by omega)) | exact and31 (by assumption) | exact and31r (hW.ne (by omega)) | exact and31r (hW.gp (by omega)) | exact and31r (by decide)) (by first | omega | exact ite01_lt | exact bt8_lt31 _ _ | exact godB_lt31 _ _ _ | exact pop_lt31 _ | assumption | exact b31 (hW.gp (by omega)) | exact b31 (hW.ne (by omega)) | exact b31 (hW.op (by omega)) | exact and31 (hW.gp (by omega)) | exact and31 (hW.ne (by omega)) | exact and31 (hW.op (by omega)) | exact and31 (by assumption) | exact and31r (hW.ne (by omega)) | exact and31r (hW.gp (by omega)) | exact and31r (by decide)) (fun c_30 => False.elim (by omega)) (fun c_30 => ?_)
          refine mm_iload d_Cr_mostCouplesFrom_33 rfl ?_
          refine mm_iload d_Cr_mostCouplesFrom_34 rfl ?_
          refine mm_s2i d_Cr_mostCouplesFrom_35 (sp_has (by first | omega | assumption | exact hW.gp (by omega) | exact hW.ne (by omega) | exact hW.op (by omega) | exact and_lt256 (hW.gp (by omega)) | exact and_lt256 (hW.ne (by omega)) | exact and_lt256 (hW.op (by omega)) | exact and_lt256 (by assumption)) (by omega) ?_) (hdd := by omega)
          refine mm_if_neN d_Cr_mostCouplesFrom_38 (by first | omega | exact ite01_lt | exact bt8_lt31 _ _ | exact godB_lt31 _ _ _ | exact pop_lt31 _ | assumption | exact b31 (hW.gp (by omega)) | exact b31 (hW.ne (by omega)) | exact b31 (hW.op (by omega)) | exact and31 (hW.gp (by omega)) | exact and31 (hW.ne (by omega)) | exact and31 (hW.op (by omega)) | exact and31 (by assumption) | exact and31r (hW.ne (by omega)) | exact and31r (hW.gp (by omega)) | exact and31r (by decide)) (fun c_38 => False.elim (by omega)) (fun c_38 => ?_)
          refine mm_iload d_Cr_mostCouplesFrom_41 rfl ?_
          refine mm_iload d_Cr_mostCouplesFrom_42 rfl ?_
          refine mm_s2i d_Cr_mostCouplesFrom_44 (sp_has (by first | omega | assumption | exact hW.gp (by omega) | exact hW.ne (by omega) | exact hW.op (by omega) | exact and_lt256 (hW.gp (by omega)) | exact and_lt256 (hW.ne (by omega)) | exact and_lt256 (hW.op (by omega)) | exact and_lt256 (by assumption)) (by omega) ?_) (hdd := by omega)
          refine mm_if_neN d_Cr_mostCouplesFrom_47 (by first | omega | exact ite01_lt | exact bt8_lt31 _ _ | exact godB_lt31 _ _ _ | exact pop_lt31 _ | assumption | exact b31 (hW.gp (by omega)) | exact b31 (hW.ne (by omega)) | exact b31 (hW.op (by omega)) | exact and31 (hW.gp (by omega)) | exact and31 (hW.ne (by omega)) | exact and31 (hW.op (by omega)) | exact and31 (by assumption) | exact and31r (hW.ne (by omega)) | exact and31r (hW.gp (by omega)) | exact and31r (by decide)) (fun c_47 => ?_) (fun c_47 => ?_)
          · refine mm_inc4N d_Cr_mostCouplesFrom_80 ?_
            refine mm_goto d_Cr_mostCouplesFrom_83 ?_
            first
              | (rw [show cfI D (fun T' => cf D r (c + 1) T') c T (cf D r (c + 1) T) (j + 1) = cfI D (fun T' => cf D r (c + 1) T') c T (cf D r (c + 1) T) j from if_neg (fun e => c_47 e.2.1)] at z; exact z)
              | (rw [show cfI D (fun T' => cf D r (c + 1) T') c T (cf D r (c + 1) T) (j + 1) = cfI D (fun T' => cf D r (c + 1) T') c T (cf D r (c + 1) T) j from if_neg (fun e => c_57 e.2.2)] at z; exact z)
              | (rw [show cfI D (fun T' => cf D r (c + 1) T') c T (cf D r (c + 1) T) (j + 1) = max (cfI D (fun T' => cf D r (c + 1) T') c T (cf D r (c + 1) T) j) (1 + cf D r (c + 1) (T ||| 2 ^ (c + 1 + j))) from if_pos ⟨hb, c_47, c_57⟩] at z; exact z)
          · refine mm_aload d_Cr_mostCouplesFrom_50 rfl ?_
            refine mm_iload d_Cr_mostCouplesFrom_51 rfl ?_
            refine mm_iload d_Cr_mostCouplesFrom_52 rfl ?_
            refine mm_s3i d_Cr_mostCouplesFrom_54 (sp_Cr_shared hCD hW (by omega) (by omega) ?_) (hdd := by omega)
            refine mm_if_neN d_Cr_mostCouplesFrom_57 (by first | omega | exact ite01_lt | exact bt8_lt31 _ _ | exact godB_lt31 _ _ _ | exact pop_lt31 _ | assumption | exact b31 (hW.gp (by omega)) | exact b31 (hW.ne (by omega)) | exact b31 (hW.op (by omega)) | exact and31 (hW.gp (by omega)) | exact and31 (hW.ne (by omega)) | exact and31 (hW.op (by omega)) | exact and31 (by assumption) | exact and31r (hW.ne (by omega)) | exact and31r (hW.gp (by omega)) | exact and31r (by decide)) (fun c_57 => ?_) (fun c_57 => ?_)
            · refine mm_inc4N d_Cr_mostCouplesFrom_80 ?_
              refine mm_goto d_Cr_mostCouplesFrom_83 ?_
              first
                | (rw [show cfI D (fun T' => cf D r (c + 1) T') c T (cf D r (c + 1) T) (j + 1) = cfI D (fun T' => cf D r (c + 1) T') c T (cf D r (c + 1) T) j from if_neg (fun e => c_47 e.2.1)] at z; exact z)
                | (rw [show cfI D (fun T' => cf D r (c + 1) T') c T (cf D r (c + 1) T) (j + 1) = cfI D (fun T' => cf D r (c + 1) T') c T (cf D r (c + 1) T) j from if_neg (fun e => c_57 e.2.2)] at z; exact z)
                | (rw [show cfI D (fun T' => cf D r (c + 1) T') c T (cf D r (c + 1) T) (j + 1) = max (cfI D (fun T' => cf D r (c + 1) T') c T (cf D r (c + 1) T) j) (1 + cf D r (c + 1) (T ||| 2 ^ (c + 1 + j))) from if_pos ⟨hb, c_47, c_57⟩] at z; exact z)
            · refine mm_iload d_Cr_mostCouplesFrom_60 rfl ?_
              refine mm_ciN 1 d_Cr_mostCouplesFrom_61 rfl ?_
              refine mm_aload d_Cr_mostCouplesFrom_62 rfl ?_
              refine mm_iload d_Cr_mostCouplesFrom_63 rfl ?_
              refine mm_ciN 1 d_Cr_mostCouplesFrom_64 rfl ?_
              refine mm_iaddN d_Cr_mostCouplesFrom_65 ?_
              refine mm_iload d_Cr_mostCouplesFrom_66 rfl ?_
              refine mm_ciN 1 d_Cr_mostCouplesFrom_67 rfl ?_
              refine mm_iload d_Cr_mostCouplesFrom_68 rfl ?_
              refine mm_ishl1N d_Cr_mostCouplesFrom_70 (by omega) ?_
              refine mm_iorN d_Cr_mostCouplesFrom_71 ?_
              refine mm_s3i d_Cr_mostCouplesFrom_72 (ih (c + 1) (T ||| 2 ^ (c + 1 + j)) _ (by omega) (by omega) (by omega) hTj ?_) (hdd := by omega)
              refine mm_iaddN d_Cr_mostCouplesFrom_75 ?_
              refine mm_mmaxN d_Cr_mostCouplesFrom_76 (by first | omega | exact ite01_lt | exact bt8_lt31 _ _ | exact godB_lt31 _ _ _ | exact pop_lt31 _ | assumption | exact b31 (hW.gp (by omega)) | exact b31 (hW.ne (by omega)) | exact b31 (hW.op (by omega)) | exact and31 (hW.gp (by omega)) | exact and31 (hW.ne (by omega)) | exact and31 (hW.op (by omega)) | exact and31 (by assumption) | exact and31r (hW.ne (by omega)) | exact and31r (hW.gp (by omega)) | exact and31r (by decide)) (by first | omega | exact ite01_lt | exact bt8_lt31 _ _ | exact godB_lt31 _ _ _ | exact pop_lt31 _ | assumption | exact b31 (hW.gp (by omega)) | exact b31 (hW.ne (by omega)) | exact b31 (hW.op (by omega)) | exact and31 (hW.gp (by omega)) | exact and31 (hW.ne (by omega)) | exact and31 (hW.op (by omega)) | exact and31 (by assumption) | exact and31r (hW.ne (by omega)) | exact and31r (hW.gp (by omega)) | exact and31r (by decide)) (by omega) (Nat.le_of_ble_eq_true rfl) ?_
              refine mm_ist3 d_Cr_mostCouplesFrom_79 ?_
              refine mm_inc4N d_Cr_mostCouplesFrom_80 ?_
              refine mm_goto d_Cr_mostCouplesFrom_83 ?_
              first
                | (rw [show cfI D (fun T' => cf D r (c + 1) T') c T (cf D r (c + 1) T) (j + 1) = cfI D (fun T' => cf D r (c + 1) T') c T (cf D r (c + 1) T) j from if_neg (fun e => c_47 e.2.1)] at z; exact z)
                | (rw [show cfI D (fun T' => cf D r (c + 1) T') c T (cf D r (c + 1) T) (j + 1) = cfI D (fun T' => cf D r (c + 1) T') c T (cf D r (c + 1) T) j from if_neg (fun e => c_57 e.2.2)] at z; exact z)
                | (rw [show cfI D (fun T' => cf D r (c + 1) T') c T (cf D r (c + 1) T) (j + 1) = max (cfI D (fun T' => cf D r (c + 1) T') c T (cf D r (c + 1) T) j) (1 + cf D r (c + 1) (T ||| 2 ^ (c + 1 + j))) from if_pos ⟨hb, c_47, c_57⟩] at z; exact z)
      · rw [cfI_t hb] at h
        refine mm_iload d_Cr_mostCouplesFrom_0 rfl ?_
        refine mm_aload d_Cr_mostCouplesFrom_1 rfl ?_
        refine mm_getIN d_Cr_mostCouplesFrom_2 rfl hCD.1.1 hCD.n ?_
        refine mm_icmp_ltN d_Cr_mostCouplesFrom_5 (by first | omega | exact ite01_lt | exact bt8_lt31 _ _ | exact godB_lt31 _ _ _ | exact pop_lt31 _ | assumption | exact b31 (hW.gp (by omega)) | exact b31 (hW.ne (by omega)) | exact b31 (hW.op (by omega)) | exact and31 (hW.gp (by omega)) | exact and31 (hW.ne (by omega)) | exact and31 (hW.op (by omega)) | exact and31 (by assumption) | exact and31r (hW.ne (by omega)) | exact and31r (hW.gp (by omega)) | exact and31r (by decide)) (by first | omega | exact ite01_lt | exact bt8_lt31 _ _ | exact godB_lt31 _ _ _ | exact pop_lt31 _ | assumption | exact b31 (hW.gp (by omega)) | exact b31 (hW.ne (by omega)) | exact b31 (hW.op (by omega)) | exact and31 (hW.gp (by omega)) | exact and31 (hW.ne (by omega)) | exact and31 (hW.op (by omega)) | exact and31 (by assumption) | exact and31r (hW.ne (by omega)) | exact and31r (hW.gp (by omega)) | exact and31r (by decide)) (fun c_5 => ?_) (fun c_5 => False.elim (by omega))
        refine mm_aload d_Cr_mostCouplesFrom_10 rfl ?_
        refine mm_iload d_Cr_mostCouplesFrom_11 rfl ?_
        refine mm_ciN 1 d_Cr_mostCouplesFrom_12 rfl ?_
        refine mm_iaddN d_Cr_mostCouplesFrom_13 ?_
        refine mm_iload d_Cr_mostCouplesFrom_14 rfl ?_
        refine mm_s3i d_Cr_mostCouplesFrom_15 (ih (c + 1) T _ (by omega) (by omega) (by omega) hT ?_) (hdd := by omega)
        refine mm_ist3 d_Cr_mostCouplesFrom_18 ?_
        refine mm_iload d_Cr_mostCouplesFrom_19 rfl ?_
        refine mm_ciN 1 d_Cr_mostCouplesFrom_20 rfl ?_
        refine mm_iaddN d_Cr_mostCouplesFrom_21 ?_
        refine mm_ist4 d_Cr_mostCouplesFrom_22 ?_
        refine mm_iload d_Cr_mostCouplesFrom_24 rfl ?_
        refine mm_aload d_Cr_mostCouplesFrom_26 rfl ?_
        refine mm_getIN d_Cr_mostCouplesFrom_27 rfl hCD.1.1 hCD.n ?_
        refine mm_icmp_geN d_Cr_mostCouplesFrom_30 (by first | omega | exact ite01_lt | exact bt8_lt31 _ _ | exact godB_lt31 _ _ _ | exact pop_lt31 _ | assumption | exact b31 (hW.gp (by omega)) | exact b31 (hW.ne (by omega)) | exact b31 (hW.op (by omega)) | exact and31 (hW.gp (by omega)) | exact and31 (hW.ne (by omega)) | exact and31 (hW.op (by omega)) | exact and31 (by assumption) | exact and31r (hW.ne (by omega)) | exact and31r (hW.gp (by omega)) | exact and31r (by decide)) (by first | omega | exact ite01_lt | exact bt8_lt31 _ _ | exact godB_lt31 _ _ _ | exact pop_lt31 _ | assumption | exact b31 (hW.gp (by omega)) | exact b31 (hW.ne (by omega)) | exact b31 (hW.op (by omega)) | exact and31 (hW.gp (by omega)) | exact and31 (hW.ne (by omega)) | exact and31 (hW.op (by omega)) | exact and31 (by assumption) | exact and31r (hW.ne (by omega)) | exact and31r (hW.gp (by omega)) | exact and31r (by decide)) (fun c_30 => ?_) (fun c_30 => ?_)
        · refine mm_iload d_Cr_mostCouplesFrom_86 rfl ?_
          exact mm_ri d_Cr_mostCouplesFrom_87 h
        · refine mm_iload d_Cr_mostCouplesFrom_33 rfl ?_
          refine mm_iload d_Cr_mostCouplesFrom_34 rfl ?_
          refine mm_s2i d_Cr_mostCouplesFrom_35 (sp_has (by first | omega | assumption | exact hW.gp (by omega) | exact hW.ne (by omega) | exact hW.op (by omega) | exact and_lt256 (hW.gp (by omega)) | exact and_lt256 (hW.ne (by omega)) | exact and_lt256 (hW.op (by omega)) | exact and_lt256 (by assumption)) (by omega) ?_) (hdd := by omega)
          refine mm_if_neN d_Cr_mostCouplesFrom_38 (by first | omega | exact ite01_lt | exact bt8_lt31 _ _ | exact godB_lt31 _ _ _ | exact pop_lt31 _ | assumption | exact b31 (hW.gp (by omega)) | exact b31 (hW.ne (by omega)) | exact b31 (hW.op (by omega)) | exact and31 (hW.gp (by omega)) | exact and31 (hW.ne (by omega)) | exact and31 (hW.op (by omega)) | exact and31 (by assumption) | exact and31r (hW.ne (by omega)) | exact and31r (hW.gp (by omega)) | exact and31r (by decide)) (fun c_38 => ?_) (fun c_38 => False.elim (by omega))
          refine mm_iload d_Cr_mostCouplesFrom_86 rfl ?_
          exact mm_ri d_Cr_mostCouplesFrom_87 h
theorem sp_Cr_mostCouples {X : mm_X} {μ : mm_M} {q : Int32 → mm_M → Prop} {a : Nat} {D : mm_D} (hCD : CoD μ a D) (hW : WfD D) (h : q (nI (cf D 6 0 0)) μ) : mm_Ci X 9 0 0 k_Cr_mostCouples [.ref a] μ q := by
  show mm_T X 9 0 0 k_Cr_mostCouples 0 [some (.ref a)] [] μ _
  have hn6 := hW.1
  refine mm_aload d_Cr_mostCouples_0 rfl ?_
  refine mm_ciN 0 d_Cr_mostCouples_1 rfl ?_
  refine mm_ciN 0 d_Cr_mostCouples_2 rfl ?_
  refine mm_s3i d_Cr_mostCouples_3 (sp_cf hCD hW 6 0 0 _ (by decide) (by omega) (by decide) (by decide) ?_)
  exact mm_ri d_Cr_mostCouples_6 h
theorem Hd.sI {ν : mm_M} {k : Nat} {D : mm_D} {b j : Nat} {x : Int32} (h : Hd ν k D) (hb : b ≠ 71) (hb7 : b ≠ 77) : Hd (mm_sI ν b j x) k D := ⟨h.1, h.2.1, by rw [mm_sI_off (fun e => hb e.symm)]; exact h.2.2.1, by rw [mm_sI_off (fun e => hb e.symm)]; exact h.2.2.2.1, by rw [mm_sI_off (fun e => hb e.symm)]; exact h.2.2.2.2.1, h.2.2.2.2.2.1.eq (mm_sI_off (fun e => hb7 e.symm)), h.2.2.2.2.2.2⟩
theorem sp_M_shares {X : mm_X} {μ : mm_M} {q : Int32 → mm_M → Prop} {k a b : Nat} {D : mm_D} (hH : Hd μ k D) (ha : a < 6) (hb : b < 6) (h : q (nI (if dgp D a &&& dgp D b ≠ 0 then 1 else 0)) μ) : mm_Ci X 2 0 0 k_M_shares [.ref 71, .int (nI a), .int (nI b)] μ q := by
  show mm_T X 2 0 0 k_M_shares 0 [some (.ref 71), some (.int (nI a)), some (.int (nI b))] [] μ _
  have hM := hH.1
  have hW := hH.wf
  refine mm_aload d_M_shares_0 rfl ?_
  refine mm_iload d_M_shares_1 rfl ?_
  refine mm_v1i d_M_shares_2 (sk_o_71 hM) (sp_M_gods hH (by omega) ?_)
  refine mm_aload d_M_shares_5 rfl ?_
  refine mm_iload d_M_shares_6 rfl ?_
  refine mm_v1i d_M_shares_7 (sk_o_71 hM) (sp_M_gods hH (by omega) ?_)
  refine mm_iandN d_M_shares_10 ?_
  refine mm_if_eqN d_M_shares_11 (by first | omega | exact ite01_lt | exact bt8_lt31 _ _ | exact godB_lt31 _ _ _ | exact pop_lt31 _ | assumption | exact b31 (hW.gp (by omega)) | exact b31 (hW.ne (by omega)) | exact b31 (hW.op (by omega)) | exact and31 (hW.gp (by omega)) | exact and31 (hW.ne (by omega)) | exact and31 (hW.op (by omega)) | exact and31 (by assumption) | exact and31r (hW.ne (by omega)) | exact and31r (hW.gp (by omega)) | exact and31r (by decide)) (fun c_11 => ?_) (fun c_11 => ?_)
  · refine mm_ciN 0 d_M_shares_18 rfl ?_
    exact mm_rz d_M_shares_19 (by first | (rw [if_neg (fun z => z c_11)] at h; exact h) | (rw [if_pos c_11] at h; exact h))
  · refine mm_ciN 1 d_M_shares_14 rfl ?_
    refine mm_goto d_M_shares_15 ?_
    exact mm_rz d_M_shares_19 (by first | (rw [if_neg (fun z => z c_11)] at h; exact h) | (rw [if_pos c_11] at h; exact h))
theorem min_lt {s a : Nat} (ha : a < 32) (h : bt8 s a ≠ 0) : s &&& (2 ^ a ^^^ 4294967295) < s := by
  rcases Nat.lt_or_ge (s &&& (2 ^ a ^^^ 4294967295)) s with z | z
  · exact z
  · have e : s &&& (2 ^ a ^^^ 4294967295) = s := Nat.le_antisymm Nat.and_le_left z
    have := (bt8_min s a a ha ha).mp (by rw [e]; exact h)
    exact absurd rfl this.2
theorem mp_le (D : mm_D) (s : Nat) : mp D s ≤ 6 := cf_le D 6 0 _
theorem dpB_le {D : mm_D} {s a m0 : Nat} (h : m0 ≤ 7) : ∀ b, dpB D s a m0 b ≤ 7
  | 0 => h
  | b + 1 => by
    have h1 := dpB_le (D := D) (s := s) (a := a) h b
    have h2 := mp_le D (s &&& (2 ^ a ^^^ 4294967295) &&& (2 ^ b ^^^ 4294967295))
    unfold dpB
    split <;> omega
theorem dpA_le (D : mm_D) (s : Nat) : ∀ a, dpA D s a ≤ 7
  | 0 => Nat.zero_le _
  | a + 1 => dpB_le (dpA_le D s a) a
theorem sp_M_couples {X : mm_X} {μ : mm_M} {q : Int32 → mm_M → Prop} {k : Nat} {D : mm_D} (hH : Hd μ k D) (h : ∀ μ', Fr scM μ μ' → q (nI (cf D 6 0 0)) μ') : mm_Ci X 4 0 0 k_M_couples [.ref 71] μ q := by
  show mm_T X 4 0 0 k_M_couples 0 [some (.ref 71), none, none, none, none, none] [] μ _
  have hM := hH.1
  have hW := hH.wf
  have hn6 := hW.1
  have hal := all_lt hW
  have hal2 := one_le_two_pow (dn D)
  have h64 : 2 ^ dn D ≤ 64 := Nat.pow_le_pow_right (n := 2) (by decide) hn6
  refine mm_ciN 0 d_M_couples_0 rfl ?_
  refine mm_ist1 d_M_couples_1 ?_
  refine mm_up (P := fun s => ∀ ν, (Fr scM μ ν ∧ Hd ν k D ∧ ∀ t, t < s → mm_I ν 89 t = nI (mp D t)) → ∀ l2 l3 l4 l5 : Option Value, mm_T X _ 0 0 k_M_couples 2 [some (.ref 71), some (.int (nI s)), l2, l3, l4, l5] [] ν _) (2 ^ dn D) ?_ ?_ μ ⟨Fr.rf, hH, fun t ht => absurd ht (Nat.not_lt_zero t)⟩ none none none none
  · intro ν hI l2 l3 l4 l5
    obtain ⟨hf, hH, hT⟩ := hI
    have hM := hH.1
    refine mm_iload d_M_couples_2 rfl ?_
    refine mm_ciN 1 d_M_couples_3 rfl ?_
    refine mm_aload d_M_couples_4 rfl ?_
    refine mm_getIN d_M_couples_5 rfl (sk_o_71 hM) hH.n ?_
    refine mm_ishl1N d_M_couples_8 (by omega) ?_
    refine mm_icmp_geN d_M_couples_9 (by first | omega | exact ite01_lt | exact bt8_lt31 _ _ | exact godB_lt31 _ _ _ | exact pop_lt31 _ | assumption | exact b31 (hW.gp (by omega)) | exact b31 (hW.ne (by omega)) | exact b31 (hW.op (by omega)) | exact and31 (hW.gp (by omega)) | exact and31 (hW.ne (by omega)) | exact and31 (hW.op (by omega)) | exact and31 (by assumption) | exact and31r (hW.ne (by omega)) | exact and31r (hW.gp (by omega)) | exact and31r (by decide)) (by first | omega | exact ite01_lt | exact bt8_lt31 _ _ | exact godB_lt31 _ _ _ | exact pop_lt31 _ | assumption | exact b31 (hW.gp (by omega)) | exact b31 (hW.ne (by omega)) | exact b31 (hW.op (by omega)) | exact and31 (hW.gp (by omega)) | exact and31 (hW.ne (by omega)) | exact and31 (hW.op (by omega)) | exact and31 (by assumption) | exact and31r (hW.ne (by omega)) | exact and31r (hW.gp (by omega)) | exact and31r (by decide)) (fun c_9 => ?_) (fun c_9 => False.elim (by omega))
    refine mm_aload d_M_couples_127 rfl ?_
    refine mm_getP d_M_couples_128 rfl (sk_o_71 hM) (sk_p_71_45 hM) ?_
    refine mm_ciN 1 d_M_couples_131 rfl ?_
    refine mm_aload d_M_couples_132 rfl ?_
    refine mm_getIN d_M_couples_133 rfl (sk_o_71 hM) hH.n ?_
    refine mm_ishl1N d_M_couples_136 (by omega) ?_
    refine mm_ciN 1 d_M_couples_137 rfl ?_
    refine mm_isubN d_M_couples_138 (by omega) ?_
    refine mm_ialdN d_M_couples_139 (sk_a_89 hM) (by omega) (by decide) (hT _ (by omega)) ?_
    exact mm_ri d_M_couples_140 (by rw [mp_full hW]; exact h ν hf)
  · intro s hs ih ν hI l2 l3 l4 l5
    obtain ⟨hf, hH, hT⟩ := hI
    have hM := hH.1
    have hs64 : s < 64 := by omega
    refine mm_iload d_M_couples_2 rfl ?_
    refine mm_ciN 1 d_M_couples_3 rfl ?_
    refine mm_aload d_M_couples_4 rfl ?_
    refine mm_getIN d_M_couples_5 rfl (sk_o_71 hM) hH.n ?_
    refine mm_ishl1N d_M_couples_8 (by omega) ?_
    refine mm_icmp_geN d_M_couples_9 (by first | omega | exact ite01_lt | exact bt8_lt31 _ _ | exact godB_lt31 _ _ _ | exact pop_lt31 _ | assumption | exact b31 (hW.gp (by omega)) | exact b31 (hW.ne (by omega)) | exact b31 (hW.op (by omega)) | exact and31 (hW.gp (by omega)) | exact and31 (hW.ne (by omega)) | exact and31 (hW.op (by omega)) | exact and31 (by assumption) | exact and31r (hW.ne (by omega)) | exact and31r (hW.gp (by omega)) | exact and31r (by decide)) (by first | omega | exact ite01_lt | exact bt8_lt31 _ _ | exact godB_lt31 _ _ _ | exact pop_lt31 _ | assumption | exact b31 (hW.gp (by omega)) | exact b31 (hW.ne (by omega)) | exact b31 (hW.op (by omega)) | exact and31 (hW.gp (by omega)) | exact and31 (hW.ne (by omega)) | exact and31 (hW.op (by omega)) | exact and31 (by assumption) | exact and31r (hW.ne (by omega)) | exact and31r (hW.gp (by omega)) | exact and31r (by decide)) (fun c_9 => False.elim (by omega)) (fun c_9 => ?_)
    refine mm_ciN 0 d_M_couples_12 rfl ?_
    refine mm_ist2 d_M_couples_13 ?_
    refine mm_ciN 0 d_M_couples_14 rfl ?_
    refine mm_ist3 d_M_couples_15 ?_
    refine mm_up (P := fun a => ∀ l4 l5 : Option Value, mm_T X _ 0 0 k_M_couples 16 [some (.ref 71), some (.int (nI s)), some (.int (nI (dpA D s a))), some (.int (nI a)), l4, l5] [] ν _) (dn D) ?_ (fun a ha ih2 => ?_) _ _
    · intro l4 l5
      rw [dpA_mp hW hs64]
      refine mm_iload d_M_couples_16 rfl ?_
      refine mm_aload d_M_couples_17 rfl ?_
      refine mm_getIN d_M_couples_18 rfl (sk_o_71 hM) hH.n ?_
      refine mm_icmp_geN d_M_couples_21 (by first | omega | exact ite01_lt | exact bt8_lt31 _ _ | exact godB_lt31 _ _ _ | exact pop_lt31 _ | assumption | exact b31 (hW.gp (by omega)) | exact b31 (hW.ne (by omega)) | exact b31 (hW.op (by omega)) | exact and31 (hW.gp (by omega)) | exact and31 (hW.ne (by omega)) | exact and31 (hW.op (by omega)) | exact and31 (by assumption) | exact and31r (hW.ne (by omega)) | exact and31r (hW.gp (by omega)) | exact and31r (by decide)) (by first | omega | exact ite01_lt | exact bt8_lt31 _ _ | exact godB_lt31 _ _ _ | exact pop_lt31 _ | assumption | exact b31 (hW.gp (by omega)) | exact b31 (hW.ne (by omega)) | exact b31 (hW.op (by omega)) | exact and31 (hW.gp (by omega)) | exact and31 (hW.ne (by omega)) | exact and31 (hW.op (by omega)) | exact and31 (by assumption) | exact and31r (hW.ne (by omega)) | exact and31r (hW.gp (by omega)) | exact and31r (by decide)) (fun c_21 => ?_) (fun c_21 => False.elim (by omega))
      refine mm_aload d_M_couples_114 rfl ?_
      refine mm_getP d_M_couples_115 rfl (sk_o_71 hM) (sk_p_71_45 hM) ?_
      refine mm_iload d_M_couples_118 rfl ?_
      refine mm_iload d_M_couples_119 rfl ?_
      refine mm_iastX d_M_couples_120 (sk_a_89 hM) (by omega) (by decide) ?_
      refine mm_inc1N d_M_couples_121 ?_
      refine mm_goto d_M_couples_124 ?_
      refine ih _ ⟨hf.sI rfl, hH.sI (by decide) (by decide), fun t ht => ?_⟩ _ _ _ _
      rw [mm_I_sI]
      by_cases e : t = s
      · rw [if_pos ⟨rfl, e⟩, e]
      · rw [if_neg (fun z => e z.2)]; exact hT t (by omega)
    · intro l4 l5
      have hA7 := dpA_le D s a
      replace ih2 : ∀ l4 l5 : Option Value, mm_T X 4 0 0 k_M_couples 16 [some (.ref 71), some (.int (nI s)), some (.int (nI (dpB D s a (dpA D s a) a))), some (.int (nI (a + 1))), l4, l5] [] ν (fun v μ' => ∃ r, v = some (.int r) ∧ q r μ') := ih2
      generalize dpA D s a = m0 at *
      refine mm_iload d_M_couples_16 rfl ?_
      refine mm_aload d_M_couples_17 rfl ?_
      refine mm_getIN d_M_couples_18 rfl (sk_o_71 hM) hH.n ?_
      refine mm_icmp_geN d_M_couples_21 (by first | omega | exact ite01_lt | exact bt8_lt31 _ _ | exact godB_lt31 _ _ _ | exact pop_lt31 _ | assumption | exact b31 (hW.gp (by omega)) | exact b31 (hW.ne (by omega)) | exact b31 (hW.op (by omega)) | exact and31 (hW.gp (by omega)) | exact and31 (hW.ne (by omega)) | exact and31 (hW.op (by omega)) | exact and31 (by assumption) | exact and31r (hW.ne (by omega)) | exact and31r (hW.gp (by omega)) | exact and31r (by decide)) (by first | omega | exact ite01_lt | exact bt8_lt31 _ _ | exact godB_lt31 _ _ _ | exact pop_lt31 _ | assumption | exact b31 (hW.gp (by omega)) | exact b31 (hW.ne (by omega)) | exact b31 (hW.op (by omega)) | exact and31 (hW.gp (by omega)) | exact and31 (hW.ne (by omega)) | exact and31 (hW.op (by omega)) | exact and31 (by assumption) | exact and31r (hW.ne (by omega)) | exact and31r (hW.gp (by omega)) | exact and31r (by decide)) (fun c_21 => False.elim (by omega)) (fun c_21 => ?_)
      refine mm_ciN 0 d_M_couples_24 rfl ?_
      refine mm_ist4 d_M_couples_25 ?_
      refine mm_up (P := fun b => ∀ l5 : Option Value, mm_T X _ 0 0 k_M_couples 27 [some (.ref 71), some (.int (nI s)), some (.int (nI (dpB D s a m0 b))), some (.int (nI a)), some (.int (nI b)), l5] [] ν _) a ?_ (fun b hb ih3 => ?_) _
      · intro l5
        refine mm_iload d_M_couples_27 rfl ?_
        refine mm_iload d_M_couples_29 rfl ?_
        refine mm_icmp_geN d_M_couples_30 (by first | omega | exact ite01_lt | exact bt8_lt31 _ _ | exact godB_lt31 _ _ _ | exact pop_lt31 _ | assumption | exact b31 (hW.gp (by omega)) | exact b31 (hW.ne (by omega)) | exact b31 (hW.op (by omega)) | exact and31 (hW.gp (by omega)) | exact and31 (hW.ne (by omega)) | exact and31 (hW.op (by omega)) | exact and31 (by assumption) | exact and31r (hW.ne (by omega)) | exact and31r (hW.gp (by omega)) | exact and31r (by decide)) (by first | omega | exact ite01_lt | exact bt8_lt31 _ _ | exact godB_lt31 _ _ _ | exact pop_lt31 _ | assumption | exact b31 (hW.gp (by omega)) | exact b31 (hW.ne (by omega)) | exact b31 (hW.op (by omega)) | exact and31 (hW.gp (by omega)) | exact and31 (hW.ne (by omega)) | exact and31 (hW.op (by omega)) | exact and31 (by assumption) | exact and31r (hW.ne (by omega)) | exact and31r (hW.gp (by omega)) | exact and31r (by decide)) (fun c_30 => ?_) (fun c_30 => False.elim (by omega))
        refine mm_inc3N d_M_couples_108 ?_
        refine mm_goto d_M_couples_111 ?_
        exact ih2 _ _
      · intro l5
        have hB7 := dpB_le (D := D) (s := s) (a := a) hA7 b
        have hm6 := mp_le D (s &&& (2 ^ a ^^^ 4294967295) &&& (2 ^ b ^^^ 4294967295))
        have hlt : s &&& (2 ^ a ^^^ 4294967295) &&& (2 ^ b ^^^ 4294967295) ≤ s := Nat.le_trans Nat.and_le_left Nat.and_le_left
        by_cases hsh : dgp D a &&& dgp D b = 0
        · refine mm_iload d_M_couples_27 rfl ?_
          refine mm_iload d_M_couples_29 rfl ?_
          refine mm_icmp_geN d_M_couples_30 (by first | omega | exact ite01_lt | exact bt8_lt31 _ _ | exact godB_lt31 _ _ _ | exact pop_lt31 _ | assumption | exact b31 (hW.gp (by omega)) | exact b31 (hW.ne (by omega)) | exact b31 (hW.op (by omega)) | exact and31 (hW.gp (by omega)) | exact and31 (hW.ne (by omega)) | exact and31 (hW.op (by omega)) | exact and31 (by assumption) | exact and31r (hW.ne (by omega)) | exact and31r (hW.gp (by omega)) | exact and31r (by decide)) (by first | omega | exact ite01_lt | exact bt8_lt31 _ _ | exact godB_lt31 _ _ _ | exact pop_lt31 _ | assumption | exact b31 (hW.gp (by omega)) | exact b31 (hW.ne (by omega)) | exact b31 (hW.op (by omega)) | exact and31 (hW.gp (by omega)) | exact and31 (hW.ne (by omega)) | exact and31 (hW.op (by omega)) | exact and31 (by assumption) | exact and31r (hW.ne (by omega)) | exact and31r (hW.gp (by omega)) | exact and31r (by decide)) (fun c_30 => False.elim (by omega)) (fun c_30 => ?_)
          refine mm_iload d_M_couples_33 rfl ?_
          refine mm_iload d_M_couples_34 rfl ?_
          refine mm_s2i d_M_couples_35 (sp_M_has (by first | omega | assumption | exact hW.gp (by omega) | exact hW.ne (by omega) | exact hW.op (by omega) | exact and_lt256 (hW.gp (by omega)) | exact and_lt256 (hW.ne (by omega)) | exact and_lt256 (hW.op (by omega)) | exact and_lt256 (by assumption)) (by omega) ?_)
          refine mm_if_eqN d_M_couples_38 (by first | omega | exact ite01_lt | exact bt8_lt31 _ _ | exact godB_lt31 _ _ _ | exact pop_lt31 _ | assumption | exact b31 (hW.gp (by omega)) | exact b31 (hW.ne (by omega)) | exact b31 (hW.op (by omega)) | exact and31 (hW.gp (by omega)) | exact and31 (hW.ne (by omega)) | exact and31 (hW.op (by omega)) | exact and31 (by assumption) | exact and31r (hW.ne (by omega)) | exact and31r (hW.gp (by omega)) | exact and31r (by decide)) (fun c_38 => ?_) (fun c_38 => ?_)
          · refine mm_ciN 0 d_M_couples_64 rfl ?_
            refine mm_ist5 d_M_couples_65 ?_
            refine mm_iload d_M_couples_67 rfl ?_
            refine mm_if_eqN d_M_couples_69 (by first | omega | exact ite01_lt | exact bt8_lt31 _ _ | exact godB_lt31 _ _ _ | exact pop_lt31 _ | assumption | exact b31 (hW.gp (by omega)) | exact b31 (hW.ne (by omega)) | exact b31 (hW.op (by omega)) | exact and31 (hW.gp (by omega)) | exact and31 (hW.ne (by omega)) | exact and31 (hW.op (by omega)) | exact and31 (by assumption) | exact and31r (hW.ne (by omega)) | exact and31r (hW.gp (by omega)) | exact and31r (by decide)) (fun c_69 => ?_) (fun c_69 => False.elim (by omega))
            refine mm_iload d_M_couples_100 rfl ?_
            refine mm_ist2 d_M_couples_101 ?_
            refine mm_inc4N d_M_couples_102 ?_
            refine mm_goto d_M_couples_105 ?_
            first
              | (have z := ih3; rw [show dpB D s a m0 (b + 1) = max (dpB D s a m0 b) (1 + mp D (s &&& (2 ^ a ^^^ 4294967295) &&& (2 ^ b ^^^ 4294967295))) from if_pos ⟨c_38, c_47, hsh⟩] at z; exact z _)
              | (have z := ih3; rw [show dpB D s a m0 (b + 1) = dpB D s a m0 b from if_neg (by omega)] at z; exact z _)
          · refine mm_iload d_M_couples_41 rfl ?_
            refine mm_iload d_M_couples_42 rfl ?_
            refine mm_s2i d_M_couples_44 (sp_M_has (by first | omega | assumption | exact hW.gp (by omega) | exact hW.ne (by omega) | exact hW.op (by omega) | exact and_lt256 (hW.gp (by omega)) | exact and_lt256 (hW.ne (by omega)) | exact and_lt256 (hW.op (by omega)) | exact and_lt256 (by assumption)) (by omega) ?_)
            refine mm_if_eqN d_M_couples_47 (by first | omega | exact ite01_lt | exact bt8_lt31 _ _ | exact godB_lt31 _ _ _ | exact pop_lt31 _ | assumption | exact b31 (hW.gp (by omega)) | exact b31 (hW.ne (by omega)) | exact b31 (hW.op (by omega)) | exact and31 (hW.gp (by omega)) | exact and31 (hW.ne (by omega)) | exact and31 (hW.op (by omega)) | exact and31 (by assumption) | exact and31r (hW.ne (by omega)) | exact and31r (hW.gp (by omega)) | exact and31r (by decide)) (fun c_47 => ?_) (fun c_47 => ?_)
            · refine mm_ciN 0 d_M_couples_64 rfl ?_
              refine mm_ist5 d_M_couples_65 ?_
              refine mm_iload d_M_couples_67 rfl ?_
              refine mm_if_eqN d_M_couples_69 (by first | omega | exact ite01_lt | exact bt8_lt31 _ _ | exact godB_lt31 _ _ _ | exact pop_lt31 _ | assumption | exact b31 (hW.gp (by omega)) | exact b31 (hW.ne (by omega)) | exact b31 (hW.op (by omega)) | exact and31 (hW.gp (by omega)) | exact and31 (hW.ne (by omega)) | exact and31 (hW.op (by omega)) | exact and31 (by assumption) | exact and31r (hW.ne (by omega)) | exact and31r (hW.gp (by omega)) | exact and31r (by decide)) (fun c_69 => ?_) (fun c_69 => False.elim (by omega))
              refine mm_iload d_M_couples_100 rfl ?_
              refine mm_ist2 d_M_couples_101 ?_
              refine mm_inc4N d_M_couples_102 ?_
              refine mm_goto d_M_couples_105 ?_
              first
                | (have z := ih3; rw [show dpB D s a m0 (b + 1) = max (dpB D s a m0 b) (1 + mp D (s &&& (2 ^ a ^^^ 4294967295) &&& (2 ^ b ^^^ 4294967295))) from if_pos ⟨c_38, c_47, hsh⟩] at z; exact z _)
                | (have z := ih3; rw [show dpB D s a m0 (b + 1) = dpB D s a m0 b from if_neg (by omega)] at z; exact z _)
            · refine mm_aload d_M_couples_50 rfl ?_
              refine mm_iload d_M_couples_51 rfl ?_
              refine mm_iload d_M_couples_52 rfl ?_
              refine mm_v2i d_M_couples_54 (sk_o_71 hM) (sp_M_shares hH (by omega) (by omega) ?_)
              rw [if_neg (fun z => z hsh)]
              refine mm_if_neN d_M_couples_57 (by first | omega | exact ite01_lt | exact bt8_lt31 _ _ | exact godB_lt31 _ _ _ | exact pop_lt31 _ | assumption | exact b31 (hW.gp (by omega)) | exact b31 (hW.ne (by omega)) | exact b31 (hW.op (by omega)) | exact and31 (hW.gp (by omega)) | exact and31 (hW.ne (by omega)) | exact and31 (hW.op (by omega)) | exact and31 (by assumption) | exact and31r (hW.ne (by omega)) | exact and31r (hW.gp (by omega)) | exact and31r (by decide)) (fun c_57 => False.elim (by omega)) (fun c_57 => ?_)
              refine mm_ciN 1 d_M_couples_60 rfl ?_
              refine mm_goto d_M_couples_61 ?_
              refine mm_ist5 d_M_couples_65 ?_
              refine mm_iload d_M_couples_67 rfl ?_
              refine mm_if_eqN d_M_couples_69 (by first | omega | exact ite01_lt | exact bt8_lt31 _ _ | exact godB_lt31 _ _ _ | exact pop_lt31 _ | assumption | exact b31 (hW.gp (by omega)) | exact b31 (hW.ne (by omega)) | exact b31 (hW.op (by omega)) | exact and31 (hW.gp (by omega)) | exact and31 (hW.ne (by omega)) | exact and31 (hW.op (by omega)) | exact and31 (by assumption) | exact and31r (hW.ne (by omega)) | exact and31r (hW.gp (by omega)) | exact and31r (by decide)) (fun c_69 => False.elim (by omega)) (fun c_69 => ?_)
              refine mm_iload d_M_couples_72 rfl ?_
              refine mm_ciN 1 d_M_couples_73 rfl ?_
              refine mm_aload d_M_couples_74 rfl ?_
              refine mm_getP d_M_couples_75 rfl (sk_o_71 hM) (sk_p_71_45 hM) ?_
              refine mm_iload d_M_couples_78 rfl ?_
              refine mm_ciN 1 d_M_couples_79 rfl ?_
              refine mm_iload d_M_couples_80 rfl ?_
              refine mm_ishl1N d_M_couples_81 (by omega) ?_
              refine mm_ci d_M_couples_82 ?_
              refine mm_inotN d_M_couples_83 ?_
              refine mm_iandN d_M_couples_84 ?_
              refine mm_ciN 1 d_M_couples_85 rfl ?_
              refine mm_iload d_M_couples_86 rfl ?_
              refine mm_ishl1N d_M_couples_88 (by omega) ?_
              refine mm_ci d_M_couples_89 ?_
              refine mm_inotN d_M_couples_90 ?_
              refine mm_iandN d_M_couples_91 ?_
              have hts : s &&& (2 ^ a ^^^ 4294967295) &&& (2 ^ b ^^^ 4294967295) < s := Nat.lt_of_le_of_lt Nat.and_le_left (min_lt (by omega) c_38)
              refine mm_ialdN d_M_couples_92 (sk_a_89 hM) (by omega) (by decide) (hT _ hts) ?_
              refine mm_iaddN d_M_couples_93 ?_
              refine mm_s2i d_M_couples_94 (sp_M_greaterN (by first | omega | exact ite01_lt | exact bt8_lt31 _ _ | exact godB_lt31 _ _ _ | exact pop_lt31 _ | assumption | exact b31 (hW.gp (by omega)) | exact b31 (hW.ne (by omega)) | exact b31 (hW.op (by omega)) | exact and31 (hW.gp (by omega)) | exact and31 (hW.ne (by omega)) | exact and31 (hW.op (by omega)) | exact and31 (by assumption) | exact and31r (hW.ne (by omega)) | exact and31r (hW.gp (by omega)) | exact and31r (by decide)) (by first | omega | exact ite01_lt | exact bt8_lt31 _ _ | exact godB_lt31 _ _ _ | exact pop_lt31 _ | assumption | exact b31 (hW.gp (by omega)) | exact b31 (hW.ne (by omega)) | exact b31 (hW.op (by omega)) | exact and31 (hW.gp (by omega)) | exact and31 (hW.ne (by omega)) | exact and31 (hW.op (by omega)) | exact and31 (by assumption) | exact and31r (hW.ne (by omega)) | exact and31r (hW.gp (by omega)) | exact and31r (by decide)) ?_)
              refine mm_goto d_M_couples_97 ?_
              refine mm_ist2 d_M_couples_101 ?_
              refine mm_inc4N d_M_couples_102 ?_
              refine mm_goto d_M_couples_105 ?_
              first
                | (have z := ih3; rw [show dpB D s a m0 (b + 1) = max (dpB D s a m0 b) (1 + mp D (s &&& (2 ^ a ^^^ 4294967295) &&& (2 ^ b ^^^ 4294967295))) from if_pos ⟨c_38, c_47, hsh⟩] at z; exact z _)
                | (have z := ih3; rw [show dpB D s a m0 (b + 1) = dpB D s a m0 b from if_neg (by omega)] at z; exact z _)
        · refine mm_iload d_M_couples_27 rfl ?_
          refine mm_iload d_M_couples_29 rfl ?_
          refine mm_icmp_geN d_M_couples_30 (by first | omega | exact ite01_lt | exact bt8_lt31 _ _ | exact godB_lt31 _ _ _ | exact pop_lt31 _ | assumption | exact b31 (hW.gp (by omega)) | exact b31 (hW.ne (by omega)) | exact b31 (hW.op (by omega)) | exact and31 (hW.gp (by omega)) | exact and31 (hW.ne (by omega)) | exact and31 (hW.op (by omega)) | exact and31 (by assumption) | exact and31r (hW.ne (by omega)) | exact and31r (hW.gp (by omega)) | exact and31r (by decide)) (by first | omega | exact ite01_lt | exact bt8_lt31 _ _ | exact godB_lt31 _ _ _ | exact pop_lt31 _ | assumption | exact b31 (hW.gp (by omega)) | exact b31 (hW.ne (by omega)) | exact b31 (hW.op (by omega)) | exact and31 (hW.gp (by omega)) | exact and31 (hW.ne (by omega)) | exact and31 (hW.op (by omega)) | exact and31 (by assumption) | exact and31r (hW.ne (by omega)) | exact and31r (hW.gp (by omega)) | exact and31r (by decide)) (fun c_30 => False.elim (by omega)) (fun c_30 => ?_)
          refine mm_iload d_M_couples_33 rfl ?_
          refine mm_iload d_M_couples_34 rfl ?_
          refine mm_s2i d_M_couples_35 (sp_M_has (by first | omega | assumption | exact hW.gp (by omega) | exact hW.ne (by omega) | exact hW.op (by omega) | exact and_lt256 (hW.gp (by omega)) | exact and_lt256 (hW.ne (by omega)) | exact and_lt256 (hW.op (by omega)) | exact and_lt256 (by assumption)) (by omega) ?_)
          refine mm_if_eqN d_M_couples_38 (by first | omega | exact ite01_lt | exact bt8_lt31 _ _ | exact godB_lt31 _ _ _ | exact pop_lt31 _ | assumption | exact b31 (hW.gp (by omega)) | exact b31 (hW.ne (by omega)) | exact b31 (hW.op (by omega)) | exact and31 (hW.gp (by omega)) | exact and31 (hW.ne (by omega)) | exact and31 (hW.op (by omega)) | exact and31 (by assumption) | exact and31r (hW.ne (by omega)) | exact and31r (hW.gp (by omega)) | exact and31r (by decide)) (fun c_38 => ?_) (fun c_38 => ?_)
          · refine mm_ciN 0 d_M_couples_64 rfl ?_
            refine mm_ist5 d_M_couples_65 ?_
            refine mm_iload d_M_couples_67 rfl ?_
            refine mm_if_eqN d_M_couples_69 (by first | omega | exact ite01_lt | exact bt8_lt31 _ _ | exact godB_lt31 _ _ _ | exact pop_lt31 _ | assumption | exact b31 (hW.gp (by omega)) | exact b31 (hW.ne (by omega)) | exact b31 (hW.op (by omega)) | exact and31 (hW.gp (by omega)) | exact and31 (hW.ne (by omega)) | exact and31 (hW.op (by omega)) | exact and31 (by assumption) | exact and31r (hW.ne (by omega)) | exact and31r (hW.gp (by omega)) | exact and31r (by decide)) (fun c_69 => ?_) (fun c_69 => False.elim (by omega))
            refine mm_iload d_M_couples_100 rfl ?_
            refine mm_ist2 d_M_couples_101 ?_
            refine mm_inc4N d_M_couples_102 ?_
            refine mm_goto d_M_couples_105 ?_
            have z := ih3
            rw [show dpB D s a m0 (b + 1) = dpB D s a m0 b from if_neg (fun e => hsh e.2.2)] at z
            exact z _
          · refine mm_iload d_M_couples_41 rfl ?_
            refine mm_iload d_M_couples_42 rfl ?_
            refine mm_s2i d_M_couples_44 (sp_M_has (by first | omega | assumption | exact hW.gp (by omega) | exact hW.ne (by omega) | exact hW.op (by omega) | exact and_lt256 (hW.gp (by omega)) | exact and_lt256 (hW.ne (by omega)) | exact and_lt256 (hW.op (by omega)) | exact and_lt256 (by assumption)) (by omega) ?_)
            refine mm_if_eqN d_M_couples_47 (by first | omega | exact ite01_lt | exact bt8_lt31 _ _ | exact godB_lt31 _ _ _ | exact pop_lt31 _ | assumption | exact b31 (hW.gp (by omega)) | exact b31 (hW.ne (by omega)) | exact b31 (hW.op (by omega)) | exact and31 (hW.gp (by omega)) | exact and31 (hW.ne (by omega)) | exact and31 (hW.op (by omega)) | exact and31 (by assumption) | exact and31r (hW.ne (by omega)) | exact and31r (hW.gp (by omega)) | exact and31r (by decide)) (fun c_47 => ?_) (fun c_47 => ?_)
            · refine mm_ciN 0 d_M_couples_64 rfl ?_
              refine mm_ist5 d_M_couples_65 ?_
              refine mm_iload d_M_couples_67 rfl ?_
              refine mm_if_eqN d_M_couples_69 (by first | omega | exact ite01_lt | exact bt8_lt31 _ _ | exact godB_lt31 _ _ _ | exact pop_lt31 _ | assumption | exact b31 (hW.gp (by omega)) | exact b31 (hW.ne (by omega)) | exact b31 (hW.op (by omega)) | exact and31 (hW.gp (by omega)) | exact and31 (hW.ne (by omega)) | exact and31 (hW.op (by omega)) | exact and31 (by assumption) | exact and31r (hW.ne (by omega)) | exact and31r (hW.gp (by omega)) | exact and31r (by decide)) (fun c_69 => ?_) (fun c_69 => False.elim (by omega))
              refine mm_iload d_M_couples_100 rfl ?_
              refine mm_ist2 d_M_couples_101 ?_
              refine mm_inc4N d_M_couples_102 ?_
              refine mm_goto d_M_couples_105 ?_
              have z := ih3
              rw [show dpB D s a m0 (b + 1) = dpB D s a m0 b from if_neg (fun e => hsh e.2.2)] at z
              exact z _
            · refine mm_aload d_M_couples_50 rfl ?_
              refine mm_iload d_M_couples_51 rfl ?_
              refine mm_iload d_M_couples_52 rfl ?_
              refine mm_v2i d_M_couples_54 (sk_o_71 hM) (sp_M_shares hH (by omega) (by omega) ?_)
              rw [if_pos hsh]
              refine mm_if_neN d_M_couples_57 (by first | omega | exact ite01_lt | exact bt8_lt31 _ _ | exact godB_lt31 _ _ _ | exact pop_lt31 _ | assumption | exact b31 (hW.gp (by omega)) | exact b31 (hW.ne (by omega)) | exact b31 (hW.op (by omega)) | exact and31 (hW.gp (by omega)) | exact and31 (hW.ne (by omega)) | exact and31 (hW.op (by omega)) | exact and31 (by assumption) | exact and31r (hW.ne (by omega)) | exact and31r (hW.gp (by omega)) | exact and31r (by decide)) (fun c_57 => ?_) (fun c_57 => False.elim (by omega))
              refine mm_ciN 0 d_M_couples_64 rfl ?_
              refine mm_ist5 d_M_couples_65 ?_
              refine mm_iload d_M_couples_67 rfl ?_
              refine mm_if_eqN d_M_couples_69 (by first | omega | exact ite01_lt | exact bt8_lt31 _ _ | exact godB_lt31 _ _ _ | exact pop_lt31 _ | assumption | exact b31 (hW.gp (by omega)) | exact b31 (hW.ne (by omega)) | exact b31 (hW.op (by omega)) | exact and31 (hW.gp (by omega)) | exact and31 (hW.ne (by omega)) | exact and31 (hW.op (by omega)) | exact and31 (by assumption) | exact and31r (hW.ne (by omega)) | exact and31r (hW.gp (by omega)) | exact and31r (by decide)) (fun c_69 => ?_) (fun c_69 => False.elim (by omega))
              refine mm_iload d_M_couples_100 rfl ?_
              refine mm_ist2 d_M_couples_101 ?_
              refine mm_inc4N d_M_couples_102 ?_
              refine mm_goto d_M_couples_105 ?_
              have z := ih3
              rw [show dpB D s a m0 (b + 1) = dpB D s a m0 b from if_neg (fun e => hsh e.2.2)] at z
              exact z _
theorem raftK_lt64 {D : mm_D} (hW : WfD D) : raftK D (2 ^ dn D) < 256 := by
  have h := raftK_le D (2 ^ dn D)
  have h64 : 2 ^ dn D ≤ 64 := Nat.pow_le_pow_right (n := 2) (by decide) hW.1
  omega
theorem pair_clan {X : mm_X} {k : Nat} {μ : mm_M} (hJ : JJ k μ) (y1 y2 : Int32) : PairI X (JJ (k + 1)) k_G_clan k_M_clan [.int y1, .int y2] μ := by
  obtain ⟨c, h02, h0, m0, hv⟩ := hJ.coast y1
  have hM := hJ.1
  have hw := hJ.2.2.2.up
  rcases hv with hx | ⟨i, D, hi, rfl, hW, hCD, hDM⟩
  · exact pairQ (-2) hJ (d := 2) (d' := 4) (by decide) (by decide) (n_G_clan hM h0 h02 hx ⟨rfl, Fr.rf, hw⟩) (fun μ1 hf => n_M_clan (hf.2.2.2 hM) (by rw [(hf.2.2.1 76 rfl).1]; exact m0) h02 hx (fun μ' hk => ⟨rfl, hk.fr (hf.2.2.2 hM)⟩))
  have hn6 := hW.1
  have hw6 := hW.2.1
  have hrl := raftK_lt64 hW
  have hcl := calmK_lt D 256 (by decide)
  by_cases hn : y2 < 0
  · refine pairQ (-2) hJ (d := 12) (d' := 12) (by decide) (by decide) ?_ (fun μ1 hf => ?_)
    · show mm_T X 12 0 0 k_G_clan 0 [some (.ref 0), some (.int (nI i)), some (.int y2), none] [] μ _
      refine mm_aload d_G_clan_0 rfl ?_
      refine mm_getP d_G_clan_1 rfl (sk_o_0 hM) (sk_p_0_0 hM) ?_
      refine mm_iload d_G_clan_4 rfl ?_
      refine mm_v1r d_G_clan_5 (sk_o_1 hM) (sp_To_coastAtI hM h0 h02 hi ?_)
      refine mm_ast3 d_G_clan_8 ?_
      refine mm_aload d_G_clan_9 rfl ?_
      refine mm_ifnonnull d_G_clan_10 ?_
      refine mm_iload d_G_clan_16 rfl ?_
      refine mm_switchOut (n := 0) d_G_clan_17 (Or.inl (Int32.lt_iff_toInt_lt.mp hn)) ?_
      refine mm_iload d_G_clan_110 rfl ?_
      refine mm_ciN 10 d_G_clan_111 rfl ?_
      refine mm_icmp_lt d_G_clan_113 (fun c_113 => ?_) (fun c_113 => False.elim (c_113 (Int32.lt_trans hn (by decide))))
      refine mm_ci d_G_clan_138 ?_
      exact mm_ri d_G_clan_140 ⟨rfl, Fr.rf, hw⟩
    · show mm_T X 12 0 0 k_M_clan 0 [some (.ref 71), some (.int (nI i)), some (.int y2)] [] μ1 _
      replace hM := hf.2.2.2 hM
      replace m0 : mm_I μ1 76 0 = nI c := by rw [(hf.2.2.1 76 rfl).1]; exact m0
      replace hDM := hDM.frC hf
      refine mm_aload d_M_clan_0 rfl ?_
      refine mm_ciN 0 d_M_clan_1 rfl ?_
      refine mm_putI d_M_clan_2 rfl (sk_o_71 hM) (Or.inl rfl) ?_
      refine mm_aload d_M_clan_5 rfl ?_
      refine mm_iload d_M_clan_6 rfl ?_
      refine mm_v1i d_M_clan_7 (sk_o_71 hM) (sp_M_handN hM (by first | exact m0 | (rw [mm_sI_off (by decide)]; exact m0)) h02 hi (by first | exact hDM | exact hDM.eq (mm_sI_off (by decide))) hW (fun μ2 g1 hH hZ => ?_))
      replace hM := hH.1
      refine mm_if_neN d_M_clan_10 (by first | omega | exact ite01_lt | exact bt8_lt31 _ _ | exact godB_lt31 _ _ _ | exact pop_lt31 _ | assumption | exact b31 (hW.gp (by omega)) | exact b31 (hW.ne (by omega)) | exact b31 (hW.op (by omega)) | exact and31 (hW.gp (by omega)) | exact and31 (hW.ne (by omega)) | exact and31 (hW.op (by omega)) | exact and31 (by assumption) | exact and31r (hW.ne (by omega)) | exact and31r (hW.gp (by omega)) | exact and31r (by decide)) (fun c_10 => ?_) (fun c_10 => False.elim (by omega))
      refine mm_iload d_M_clan_16 rfl ?_
      refine mm_ciN 10 d_M_clan_17 rfl ?_
      refine mm_icmp_lt d_M_clan_19 (fun c_19 => ?_) (fun c_19 => False.elim (c_19 (Int32.lt_trans hn (by decide))))
      refine mm_iload d_M_clan_47 rfl ?_
      refine mm_switchOut (n := 0) d_M_clan_48 (Or.inl (Int32.lt_iff_toInt_lt.mp hn)) ?_
      refine mm_ci d_M_clan_142 ?_
      exact mm_ri d_M_clan_144 ⟨rfl, (Fr.rf.sI rfl).trans g1⟩
  · obtain ⟨t, ht, rfl⟩ := nI_of hn
    by_cases h10 : 10 ≤ t
    · by_cases hch : t - 10 < dn D
      · refine pairQ (nI (clR D (2 ^ (t - 10)) 6)) hJ (d := 12) (d' := 12) (by decide) (by decide) ?_ (fun μ1 hf => ?_)
        · show mm_T X 12 0 0 k_G_clan 0 [some (.ref 0), some (.int (nI i)), some (.int (nI t)), none] [] μ _
          refine mm_aload d_G_clan_0 rfl ?_
          refine mm_getP d_G_clan_1 rfl (sk_o_0 hM) (sk_p_0_0 hM) ?_
          refine mm_iload d_G_clan_4 rfl ?_
          refine mm_v1r d_G_clan_5 (sk_o_1 hM) (sp_To_coastAtI hM h0 h02 hi ?_)
          refine mm_ast3 d_G_clan_8 ?_
          refine mm_aload d_G_clan_9 rfl ?_
          refine mm_ifnonnull d_G_clan_10 ?_
          refine mm_iload d_G_clan_16 rfl ?_
          refine mm_switchOut (n := 0) d_G_clan_17 (Or.inr (by rw [nI_toInt ht]; omega)) ?_
          refine mm_iload d_G_clan_110 rfl ?_
          refine mm_ciN 10 d_G_clan_111 rfl ?_
          refine mm_icmp_ltN d_G_clan_113 (by first | omega | exact ite01_lt | exact bt8_lt31 _ _ | exact godB_lt31 _ _ _ | exact pop_lt31 _ | assumption | exact b31 (hW.gp (by omega)) | exact b31 (hW.ne (by omega)) | exact b31 (hW.op (by omega)) | exact and31 (hW.gp (by omega)) | exact and31 (hW.ne (by omega)) | exact and31 (hW.op (by omega)) | exact and31 (by assumption) | exact and31r (hW.ne (by omega)) | exact and31r (hW.gp (by omega)) | exact and31r (by decide)) (by first | omega | exact ite01_lt | exact bt8_lt31 _ _ | exact godB_lt31 _ _ _ | exact pop_lt31 _ | assumption | exact b31 (hW.gp (by omega)) | exact b31 (hW.ne (by omega)) | exact b31 (hW.op (by omega)) | exact and31 (hW.gp (by omega)) | exact and31 (hW.ne (by omega)) | exact and31 (hW.op (by omega)) | exact and31 (by assumption) | exact and31r (hW.ne (by omega)) | exact and31r (hW.gp (by omega)) | exact and31r (by decide)) (fun c_113 => False.elim (by omega)) (fun c_113 => ?_)
          refine mm_aload d_G_clan_116 rfl ?_
          refine mm_iload d_G_clan_117 rfl ?_
          refine mm_ciN 10 d_G_clan_118 rfl ?_
          refine mm_isubN d_G_clan_120 (by omega) ?_
          refine mm_v1i d_G_clan_121 hCD.1.1 (sp_Co_hasChildT hCD hW hch ?_)
          refine mm_if_eqN d_G_clan_124 (by first | omega | exact ite01_lt | exact bt8_lt31 _ _ | exact godB_lt31 _ _ _ | exact pop_lt31 _ | assumption | exact b31 (hW.gp (by omega)) | exact b31 (hW.ne (by omega)) | exact b31 (hW.op (by omega)) | exact and31 (hW.gp (by omega)) | exact and31 (hW.ne (by omega)) | exact and31 (hW.op (by omega)) | exact and31 (by assumption) | exact and31r (hW.ne (by omega)) | exact and31r (hW.gp (by omega)) | exact and31r (by decide)) (fun c_124 => False.elim (by omega)) (fun c_124 => ?_)
          refine mm_aload d_G_clan_127 rfl ?_
          refine mm_iload d_G_clan_128 rfl ?_
          refine mm_ciN 10 d_G_clan_129 rfl ?_
          refine mm_isubN d_G_clan_131 (by omega) ?_
          refine mm_s2i d_G_clan_132 (sp_Cr_clanOf hCD hW (by omega) ?_)
          refine mm_goto d_G_clan_135 ?_
          exact mm_ri d_G_clan_140 ⟨rfl, Fr.rf, hw⟩
        · show mm_T X 12 0 0 k_M_clan 0 [some (.ref 71), some (.int (nI i)), some (.int (nI t))] [] μ1 _
          replace hM := hf.2.2.2 hM
          replace m0 : mm_I μ1 76 0 = nI c := by rw [(hf.2.2.1 76 rfl).1]; exact m0
          replace hDM := hDM.frC hf
          refine mm_aload d_M_clan_0 rfl ?_
          refine mm_ciN 0 d_M_clan_1 rfl ?_
          refine mm_putI d_M_clan_2 rfl (sk_o_71 hM) (Or.inl rfl) ?_
          refine mm_aload d_M_clan_5 rfl ?_
          refine mm_iload d_M_clan_6 rfl ?_
          refine mm_v1i d_M_clan_7 (sk_o_71 hM) (sp_M_handN hM (by first | exact m0 | (rw [mm_sI_off (by decide)]; exact m0)) h02 hi (by first | exact hDM | exact hDM.eq (mm_sI_off (by decide))) hW (fun μ2 g1 hH hZ => ?_))
          replace hM := hH.1
          refine mm_if_neN d_M_clan_10 (by first | omega | exact ite01_lt | exact bt8_lt31 _ _ | exact godB_lt31 _ _ _ | exact pop_lt31 _ | assumption | exact b31 (hW.gp (by omega)) | exact b31 (hW.ne (by omega)) | exact b31 (hW.op (by omega)) | exact and31 (hW.gp (by omega)) | exact and31 (hW.ne (by omega)) | exact and31 (hW.op (by omega)) | exact and31 (by assumption) | exact and31r (hW.ne (by omega)) | exact and31r (hW.gp (by omega)) | exact and31r (by decide)) (fun c_10 => ?_) (fun c_10 => False.elim (by omega))
          refine mm_iload d_M_clan_16 rfl ?_
          refine mm_ciN 10 d_M_clan_17 rfl ?_
          refine mm_icmp_ltN d_M_clan_19 (by first | omega | exact ite01_lt | exact bt8_lt31 _ _ | exact godB_lt31 _ _ _ | exact pop_lt31 _ | assumption | exact b31 (hW.gp (by omega)) | exact b31 (hW.ne (by omega)) | exact b31 (hW.op (by omega)) | exact and31 (hW.gp (by omega)) | exact and31 (hW.ne (by omega)) | exact and31 (hW.op (by omega)) | exact and31 (by assumption) | exact and31r (hW.ne (by omega)) | exact and31r (hW.gp (by omega)) | exact and31r (by decide)) (by first | omega | exact ite01_lt | exact bt8_lt31 _ _ | exact godB_lt31 _ _ _ | exact pop_lt31 _ | assumption | exact b31 (hW.gp (by omega)) | exact b31 (hW.ne (by omega)) | exact b31 (hW.op (by omega)) | exact and31 (hW.gp (by omega)) | exact and31 (hW.ne (by omega)) | exact and31 (hW.op (by omega)) | exact and31 (by assumption) | exact and31r (hW.ne (by omega)) | exact and31r (hW.gp (by omega)) | exact and31r (by decide)) (fun c_19 => False.elim (by omega)) (fun c_19 => ?_)
          refine mm_aload d_M_clan_22 rfl ?_
          refine mm_iload d_M_clan_23 rfl ?_
          refine mm_ciN 10 d_M_clan_24 rfl ?_
          refine mm_isubN d_M_clan_26 (by omega) ?_
          refine mm_v1i d_M_clan_27 (sk_o_71 hM) (sp_M_isChildT hH hch ?_)
          refine mm_if_eqN d_M_clan_30 (by first | omega | exact ite01_lt | exact bt8_lt31 _ _ | exact godB_lt31 _ _ _ | exact pop_lt31 _ | assumption | exact b31 (hW.gp (by omega)) | exact b31 (hW.ne (by omega)) | exact b31 (hW.op (by omega)) | exact and31 (hW.gp (by omega)) | exact and31 (hW.ne (by omega)) | exact and31 (hW.op (by omega)) | exact and31 (by assumption) | exact and31r (hW.ne (by omega)) | exact and31r (hW.gp (by omega)) | exact and31r (by decide)) (fun c_30 => False.elim (by omega)) (fun c_30 => ?_)
          refine mm_aload d_M_clan_33 rfl ?_
          refine mm_iload d_M_clan_34 rfl ?_
          refine mm_ciN 10 d_M_clan_35 rfl ?_
          refine mm_isubN d_M_clan_37 (by omega) ?_
          refine mm_v1i d_M_clan_38 (sk_o_71 hM) (sp_M_clanOf hH (by omega) ?_)
          refine mm_goto d_M_clan_41 ?_
          exact mm_ri d_M_clan_46 ⟨rfl, (Fr.rf.sI rfl).trans g1⟩
      · refine pairQ (-2) hJ (d := 12) (d' := 12) (by decide) (by decide) ?_ (fun μ1 hf => ?_)
        · show mm_T X 12 0 0 k_G_clan 0 [some (.ref 0), some (.int (nI i)), some (.int (nI t)), none] [] μ _
          refine mm_aload d_G_clan_0 rfl ?_
          refine mm_getP d_G_clan_1 rfl (sk_o_0 hM) (sk_p_0_0 hM) ?_
          refine mm_iload d_G_clan_4 rfl ?_
          refine mm_v1r d_G_clan_5 (sk_o_1 hM) (sp_To_coastAtI hM h0 h02 hi ?_)
          refine mm_ast3 d_G_clan_8 ?_
          refine mm_aload d_G_clan_9 rfl ?_
          refine mm_ifnonnull d_G_clan_10 ?_
          refine mm_iload d_G_clan_16 rfl ?_
          refine mm_switchOut (n := 0) d_G_clan_17 (Or.inr (by rw [nI_toInt ht]; omega)) ?_
          refine mm_iload d_G_clan_110 rfl ?_
          refine mm_ciN 10 d_G_clan_111 rfl ?_
          refine mm_icmp_ltN d_G_clan_113 (by first | omega | exact ite01_lt | exact bt8_lt31 _ _ | exact godB_lt31 _ _ _ | exact pop_lt31 _ | assumption | exact b31 (hW.gp (by omega)) | exact b31 (hW.ne (by omega)) | exact b31 (hW.op (by omega)) | exact and31 (hW.gp (by omega)) | exact and31 (hW.ne (by omega)) | exact and31 (hW.op (by omega)) | exact and31 (by assumption) | exact and31r (hW.ne (by omega)) | exact and31r (hW.gp (by omega)) | exact and31r (by decide)) (by first | omega | exact ite01_lt | exact bt8_lt31 _ _ | exact godB_lt31 _ _ _ | exact pop_lt31 _ | assumption | exact b31 (hW.gp (by omega)) | exact b31 (hW.ne (by omega)) | exact b31 (hW.op (by omega)) | exact and31 (hW.gp (by omega)) | exact and31 (hW.ne (by omega)) | exact and31 (hW.op (by omega)) | exact and31 (by assumption) | exact and31r (hW.ne (by omega)) | exact and31r (hW.gp (by omega)) | exact and31r (by decide)) (fun c_113 => False.elim (by omega)) (fun c_113 => ?_)
          refine mm_aload d_G_clan_116 rfl ?_
          refine mm_iload d_G_clan_117 rfl ?_
          refine mm_ciN 10 d_G_clan_118 rfl ?_
          refine mm_isubN d_G_clan_120 (by omega) ?_
          refine mm_v1i d_G_clan_121 hCD.1.1 (sp_Co_hasChildN hCD (by omega) hW ?_)
          rw [if_neg hch]
          refine mm_if_eqN d_G_clan_124 (by first | omega | exact ite01_lt | exact bt8_lt31 _ _ | exact godB_lt31 _ _ _ | exact pop_lt31 _ | assumption | exact b31 (hW.gp (by omega)) | exact b31 (hW.ne (by omega)) | exact b31 (hW.op (by omega)) | exact and31 (hW.gp (by omega)) | exact and31 (hW.ne (by omega)) | exact and31 (hW.op (by omega)) | exact and31 (by assumption) | exact and31r (hW.ne (by omega)) | exact and31r (hW.gp (by omega)) | exact and31r (by decide)) (fun c_124 => ?_) (fun c_124 => False.elim (by omega))
          refine mm_ci d_G_clan_138 ?_
          exact mm_ri d_G_clan_140 ⟨rfl, Fr.rf, hw⟩
        · show mm_T X 12 0 0 k_M_clan 0 [some (.ref 71), some (.int (nI i)), some (.int (nI t))] [] μ1 _
          replace hM := hf.2.2.2 hM
          replace m0 : mm_I μ1 76 0 = nI c := by rw [(hf.2.2.1 76 rfl).1]; exact m0
          replace hDM := hDM.frC hf
          refine mm_aload d_M_clan_0 rfl ?_
          refine mm_ciN 0 d_M_clan_1 rfl ?_
          refine mm_putI d_M_clan_2 rfl (sk_o_71 hM) (Or.inl rfl) ?_
          refine mm_aload d_M_clan_5 rfl ?_
          refine mm_iload d_M_clan_6 rfl ?_
          refine mm_v1i d_M_clan_7 (sk_o_71 hM) (sp_M_handN hM (by first | exact m0 | (rw [mm_sI_off (by decide)]; exact m0)) h02 hi (by first | exact hDM | exact hDM.eq (mm_sI_off (by decide))) hW (fun μ2 g1 hH hZ => ?_))
          replace hM := hH.1
          refine mm_if_neN d_M_clan_10 (by first | omega | exact ite01_lt | exact bt8_lt31 _ _ | exact godB_lt31 _ _ _ | exact pop_lt31 _ | assumption | exact b31 (hW.gp (by omega)) | exact b31 (hW.ne (by omega)) | exact b31 (hW.op (by omega)) | exact and31 (hW.gp (by omega)) | exact and31 (hW.ne (by omega)) | exact and31 (hW.op (by omega)) | exact and31 (by assumption) | exact and31r (hW.ne (by omega)) | exact and31r (hW.gp (by omega)) | exact and31r (by decide)) (fun c_10 => ?_) (fun c_10 => False.elim (by omega))
          refine mm_iload d_M_clan_16 rfl ?_
          refine mm_ciN 10 d_M_clan_17 rfl ?_
          refine mm_icmp_ltN d_M_clan_19 (by first | omega | exact ite01_lt | exact bt8_lt31 _ _ | exact godB_lt31 _ _ _ | exact pop_lt31 _ | assumption | exact b31 (hW.gp (by omega)) | exact b31 (hW.ne (by omega)) | exact b31 (hW.op (by omega)) | exact and31 (hW.gp (by omega)) | exact and31 (hW.ne (by omega)) | exact and31 (hW.op (by omega)) | exact and31 (by assumption) | exact and31r (hW.ne (by omega)) | exact and31r (hW.gp (by omega)) | exact and31r (by decide)) (by first | omega | exact ite01_lt | exact bt8_lt31 _ _ | exact godB_lt31 _ _ _ | exact pop_lt31 _ | assumption | exact b31 (hW.gp (by omega)) | exact b31 (hW.ne (by omega)) | exact b31 (hW.op (by omega)) | exact and31 (hW.gp (by omega)) | exact and31 (hW.ne (by omega)) | exact and31 (hW.op (by omega)) | exact and31 (by assumption) | exact and31r (hW.ne (by omega)) | exact and31r (hW.gp (by omega)) | exact and31r (by decide)) (fun c_19 => False.elim (by omega)) (fun c_19 => ?_)
          refine mm_aload d_M_clan_22 rfl ?_
          refine mm_iload d_M_clan_23 rfl ?_
          refine mm_ciN 10 d_M_clan_24 rfl ?_
          refine mm_isubN d_M_clan_26 (by omega) ?_
          refine mm_v1i d_M_clan_27 (sk_o_71 hM) (sp_M_isChildN hH (by omega) ?_)
          rw [if_neg hch]
          refine mm_if_eqN d_M_clan_30 (by first | omega | exact ite01_lt | exact bt8_lt31 _ _ | exact godB_lt31 _ _ _ | exact pop_lt31 _ | assumption | exact b31 (hW.gp (by omega)) | exact b31 (hW.ne (by omega)) | exact b31 (hW.op (by omega)) | exact and31 (hW.gp (by omega)) | exact and31 (hW.ne (by omega)) | exact and31 (hW.op (by omega)) | exact and31 (by assumption) | exact and31r (hW.ne (by omega)) | exact and31r (hW.gp (by omega)) | exact and31r (by decide)) (fun c_30 => ?_) (fun c_30 => False.elim (by omega))
          refine mm_ci d_M_clan_44 ?_
          exact mm_ri d_M_clan_46 ⟨rfl, (Fr.rf.sI rfl).trans g1⟩
    · by_cases h8 : 8 ≤ t
      · refine pairQ (-2) hJ (d := 12) (d' := 12) (by decide) (by decide) ?_ (fun μ1 hf => ?_)
        · show mm_T X 12 0 0 k_G_clan 0 [some (.ref 0), some (.int (nI i)), some (.int (nI t)), none] [] μ _
          refine mm_aload d_G_clan_0 rfl ?_
          refine mm_getP d_G_clan_1 rfl (sk_o_0 hM) (sk_p_0_0 hM) ?_
          refine mm_iload d_G_clan_4 rfl ?_
          refine mm_v1r d_G_clan_5 (sk_o_1 hM) (sp_To_coastAtI hM h0 h02 hi ?_)
          refine mm_ast3 d_G_clan_8 ?_
          refine mm_aload d_G_clan_9 rfl ?_
          refine mm_ifnonnull d_G_clan_10 ?_
          refine mm_iload d_G_clan_16 rfl ?_
          refine mm_switchOut (n := 0) d_G_clan_17 (Or.inr (by rw [nI_toInt ht]; omega)) ?_
          refine mm_iload d_G_clan_110 rfl ?_
          refine mm_ciN 10 d_G_clan_111 rfl ?_
          refine mm_icmp_ltN d_G_clan_113 (by first | omega | exact ite01_lt | exact bt8_lt31 _ _ | exact godB_lt31 _ _ _ | exact pop_lt31 _ | assumption | exact b31 (hW.gp (by omega)) | exact b31 (hW.ne (by omega)) | exact b31 (hW.op (by omega)) | exact and31 (hW.gp (by omega)) | exact and31 (hW.ne (by omega)) | exact and31 (hW.op (by omega)) | exact and31 (by assumption) | exact and31r (hW.ne (by omega)) | exact and31r (hW.gp (by omega)) | exact and31r (by decide)) (by first | omega | exact ite01_lt | exact bt8_lt31 _ _ | exact godB_lt31 _ _ _ | exact pop_lt31 _ | assumption | exact b31 (hW.gp (by omega)) | exact b31 (hW.ne (by omega)) | exact b31 (hW.op (by omega)) | exact and31 (hW.gp (by omega)) | exact and31 (hW.ne (by omega)) | exact and31 (hW.op (by omega)) | exact and31 (by assumption) | exact and31r (hW.ne (by omega)) | exact and31r (hW.gp (by omega)) | exact and31r (by decide)) (fun c_113 => ?_) (fun c_113 => False.elim (by omega))
          refine mm_ci d_G_clan_138 ?_
          exact mm_ri d_G_clan_140 ⟨rfl, Fr.rf, hw⟩
        · show mm_T X 12 0 0 k_M_clan 0 [some (.ref 71), some (.int (nI i)), some (.int (nI t))] [] μ1 _
          replace hM := hf.2.2.2 hM
          replace m0 : mm_I μ1 76 0 = nI c := by rw [(hf.2.2.1 76 rfl).1]; exact m0
          replace hDM := hDM.frC hf
          refine mm_aload d_M_clan_0 rfl ?_
          refine mm_ciN 0 d_M_clan_1 rfl ?_
          refine mm_putI d_M_clan_2 rfl (sk_o_71 hM) (Or.inl rfl) ?_
          refine mm_aload d_M_clan_5 rfl ?_
          refine mm_iload d_M_clan_6 rfl ?_
          refine mm_v1i d_M_clan_7 (sk_o_71 hM) (sp_M_handN hM (by first | exact m0 | (rw [mm_sI_off (by decide)]; exact m0)) h02 hi (by first | exact hDM | exact hDM.eq (mm_sI_off (by decide))) hW (fun μ2 g1 hH hZ => ?_))
          replace hM := hH.1
          refine mm_if_neN d_M_clan_10 (by first | omega | exact ite01_lt | exact bt8_lt31 _ _ | exact godB_lt31 _ _ _ | exact pop_lt31 _ | assumption | exact b31 (hW.gp (by omega)) | exact b31 (hW.ne (by omega)) | exact b31 (hW.op (by omega)) | exact and31 (hW.gp (by omega)) | exact and31 (hW.ne (by omega)) | exact and31 (hW.op (by omega)) | exact and31 (by assumption) | exact and31r (hW.ne (by omega)) | exact and31r (hW.gp (by omega)) | exact and31r (by decide)) (fun c_10 => ?_) (fun c_10 => False.elim (by omega))
          refine mm_iload d_M_clan_16 rfl ?_
          refine mm_ciN 10 d_M_clan_17 rfl ?_
          refine mm_icmp_ltN d_M_clan_19 (by first | omega | exact ite01_lt | exact bt8_lt31 _ _ | exact godB_lt31 _ _ _ | exact pop_lt31 _ | assumption | exact b31 (hW.gp (by omega)) | exact b31 (hW.ne (by omega)) | exact b31 (hW.op (by omega)) | exact and31 (hW.gp (by omega)) | exact and31 (hW.ne (by omega)) | exact and31 (hW.op (by omega)) | exact and31 (by assumption) | exact and31r (hW.ne (by omega)) | exact and31r (hW.gp (by omega)) | exact and31r (by decide)) (by first | omega | exact ite01_lt | exact bt8_lt31 _ _ | exact godB_lt31 _ _ _ | exact pop_lt31 _ | assumption | exact b31 (hW.gp (by omega)) | exact b31 (hW.ne (by omega)) | exact b31 (hW.op (by omega)) | exact and31 (hW.gp (by omega)) | exact and31 (hW.ne (by omega)) | exact and31 (hW.op (by omega)) | exact and31 (by assumption) | exact and31r (hW.ne (by omega)) | exact and31r (hW.gp (by omega)) | exact and31r (by decide)) (fun c_19 => ?_) (fun c_19 => False.elim (by omega))
          refine mm_iload d_M_clan_47 rfl ?_
          refine mm_switchOut (n := 0) d_M_clan_48 (Or.inr (by rw [nI_toInt ht]; omega)) ?_
          refine mm_ci d_M_clan_142 ?_
          exact mm_ri d_M_clan_144 ⟨rfl, (Fr.rf.sI rfl).trans g1⟩
      · have hts : t = 0 ∨ t = 1 ∨ t = 2 ∨ t = 3 ∨ t = 4 ∨ t = 5 ∨ t = 6 ∨ t = 7 := by omega
        rcases hts with rfl | rfl | rfl | rfl | rfl | rfl | rfl | rfl
        · refine pairQ (nI (clansK D (dn D))) hJ (d := 12) (d' := 12) (by decide) (by decide) ?_ (fun μ1 hf => ?_)
          · show mm_T X 12 0 0 k_G_clan 0 [some (.ref 0), some (.int (nI i)), some (.int (nI 0)), none] [] μ _
            refine mm_aload d_G_clan_0 rfl ?_
            refine mm_getP d_G_clan_1 rfl (sk_o_0 hM) (sk_p_0_0 hM) ?_
            refine mm_iload d_G_clan_4 rfl ?_
            refine mm_v1r d_G_clan_5 (sk_o_1 hM) (sp_To_coastAtI hM h0 h02 hi ?_)
            refine mm_ast3 d_G_clan_8 ?_
            refine mm_aload d_G_clan_9 rfl ?_
            refine mm_ifnonnull d_G_clan_10 ?_
            refine mm_iload d_G_clan_16 rfl ?_
            refine mm_switchIn (n := 0) d_G_clan_17 0 (by decide) (by decide) rfl ?_
            refine mm_aload d_G_clan_64 rfl ?_
            refine mm_s1i d_G_clan_65 (sp_Cr_howManyClans hCD hW ?_)
            exact mm_ri d_G_clan_68 ⟨rfl, Fr.rf, hw⟩
          · show mm_T X 12 0 0 k_M_clan 0 [some (.ref 71), some (.int (nI i)), some (.int (nI 0))] [] μ1 _
            replace hM := hf.2.2.2 hM
            replace m0 : mm_I μ1 76 0 = nI c := by rw [(hf.2.2.1 76 rfl).1]; exact m0
            replace hDM := hDM.frC hf
            refine mm_aload d_M_clan_0 rfl ?_
            refine mm_ciN 0 d_M_clan_1 rfl ?_
            refine mm_putI d_M_clan_2 rfl (sk_o_71 hM) (Or.inl rfl) ?_
            refine mm_aload d_M_clan_5 rfl ?_
            refine mm_iload d_M_clan_6 rfl ?_
            refine mm_v1i d_M_clan_7 (sk_o_71 hM) (sp_M_handN hM (by first | exact m0 | (rw [mm_sI_off (by decide)]; exact m0)) h02 hi (by first | exact hDM | exact hDM.eq (mm_sI_off (by decide))) hW (fun μ2 g1 hH hZ => ?_))
            replace hM := hH.1
            refine mm_if_neN d_M_clan_10 (by first | omega | exact ite01_lt | exact bt8_lt31 _ _ | exact godB_lt31 _ _ _ | exact pop_lt31 _ | assumption | exact b31 (hW.gp (by omega)) | exact b31 (hW.ne (by omega)) | exact b31 (hW.op (by omega)) | exact and31 (hW.gp (by omega)) | exact and31 (hW.ne (by omega)) | exact and31 (hW.op (by omega)) | exact and31 (by assumption) | exact and31r (hW.ne (by omega)) | exact and31r (hW.gp (by omega)) | exact and31r (by decide)) (fun c_10 => ?_) (fun c_10 => False.elim (by omega))
            refine mm_iload d_M_clan_16 rfl ?_
            refine mm_ciN 10 d_M_clan_17 rfl ?_
            refine mm_icmp_ltN d_M_clan_19 (by first | omega | exact ite01_lt | exact bt8_lt31 _ _ | exact godB_lt31 _ _ _ | exact pop_lt31 _ | assumption | exact b31 (hW.gp (by omega)) | exact b31 (hW.ne (by omega)) | exact b31 (hW.op (by omega)) | exact and31 (hW.gp (by omega)) | exact and31 (hW.ne (by omega)) | exact and31 (hW.op (by omega)) | exact and31 (by assumption) | exact and31r (hW.ne (by omega)) | exact and31r (hW.gp (by omega)) | exact and31r (by decide)) (by first | omega | exact ite01_lt | exact bt8_lt31 _ _ | exact godB_lt31 _ _ _ | exact pop_lt31 _ | assumption | exact b31 (hW.gp (by omega)) | exact b31 (hW.ne (by omega)) | exact b31 (hW.op (by omega)) | exact and31 (hW.gp (by omega)) | exact and31 (hW.ne (by omega)) | exact and31 (hW.op (by omega)) | exact and31 (by assumption) | exact and31r (hW.ne (by omega)) | exact and31r (hW.gp (by omega)) | exact and31r (by decide)) (fun c_19 => ?_) (fun c_19 => False.elim (by omega))
            refine mm_iload d_M_clan_47 rfl ?_
            refine mm_switchIn (n := 0) d_M_clan_48 0 (by decide) (by decide) rfl ?_
            refine mm_aload d_M_clan_96 rfl ?_
            refine mm_v0i d_M_clan_97 (sk_o_71 hM) (sp_M_clans hH ?_)
            exact mm_ri d_M_clan_100 ⟨rfl, ((Fr.rf.sI rfl).trans g1)⟩
        · refine pairQ (nI (sumN (fun a => sumN (twT D a) a) (dn D))) hJ (d := 12) (d' := 12) (by decide) (by decide) ?_ (fun μ1 hf => ?_)
          · show mm_T X 12 0 0 k_G_clan 0 [some (.ref 0), some (.int (nI i)), some (.int (nI 1)), none] [] μ _
            refine mm_aload d_G_clan_0 rfl ?_
            refine mm_getP d_G_clan_1 rfl (sk_o_0 hM) (sk_p_0_0 hM) ?_
            refine mm_iload d_G_clan_4 rfl ?_
            refine mm_v1r d_G_clan_5 (sk_o_1 hM) (sp_To_coastAtI hM h0 h02 hi ?_)
            refine mm_ast3 d_G_clan_8 ?_
            refine mm_aload d_G_clan_9 rfl ?_
            refine mm_ifnonnull d_G_clan_10 ?_
            refine mm_iload d_G_clan_16 rfl ?_
            refine mm_switchIn (n := 0) d_G_clan_17 1 (by decide) (by decide) rfl ?_
            refine mm_aload d_G_clan_69 rfl ?_
            refine mm_s1i d_G_clan_70 (sp_Cr_twins hCD hW ?_)
            exact mm_ri d_G_clan_73 ⟨rfl, Fr.rf, hw⟩
          · show mm_T X 12 0 0 k_M_clan 0 [some (.ref 71), some (.int (nI i)), some (.int (nI 1))] [] μ1 _
            replace hM := hf.2.2.2 hM
            replace m0 : mm_I μ1 76 0 = nI c := by rw [(hf.2.2.1 76 rfl).1]; exact m0
            replace hDM := hDM.frC hf
            refine mm_aload d_M_clan_0 rfl ?_
            refine mm_ciN 0 d_M_clan_1 rfl ?_
            refine mm_putI d_M_clan_2 rfl (sk_o_71 hM) (Or.inl rfl) ?_
            refine mm_aload d_M_clan_5 rfl ?_
            refine mm_iload d_M_clan_6 rfl ?_
            refine mm_v1i d_M_clan_7 (sk_o_71 hM) (sp_M_handN hM (by first | exact m0 | (rw [mm_sI_off (by decide)]; exact m0)) h02 hi (by first | exact hDM | exact hDM.eq (mm_sI_off (by decide))) hW (fun μ2 g1 hH hZ => ?_))
            replace hM := hH.1
            refine mm_if_neN d_M_clan_10 (by first | omega | exact ite01_lt | exact bt8_lt31 _ _ | exact godB_lt31 _ _ _ | exact pop_lt31 _ | assumption | exact b31 (hW.gp (by omega)) | exact b31 (hW.ne (by omega)) | exact b31 (hW.op (by omega)) | exact and31 (hW.gp (by omega)) | exact and31 (hW.ne (by omega)) | exact and31 (hW.op (by omega)) | exact and31 (by assumption) | exact and31r (hW.ne (by omega)) | exact and31r (hW.gp (by omega)) | exact and31r (by decide)) (fun c_10 => ?_) (fun c_10 => False.elim (by omega))
            refine mm_iload d_M_clan_16 rfl ?_
            refine mm_ciN 10 d_M_clan_17 rfl ?_
            refine mm_icmp_ltN d_M_clan_19 (by first | omega | exact ite01_lt | exact bt8_lt31 _ _ | exact godB_lt31 _ _ _ | exact pop_lt31 _ | assumption | exact b31 (hW.gp (by omega)) | exact b31 (hW.ne (by omega)) | exact b31 (hW.op (by omega)) | exact and31 (hW.gp (by omega)) | exact and31 (hW.ne (by omega)) | exact and31 (hW.op (by omega)) | exact and31 (by assumption) | exact and31r (hW.ne (by omega)) | exact and31r (hW.gp (by omega)) | exact and31r (by decide)) (by first | omega | exact ite01_lt | exact bt8_lt31 _ _ | exact godB_lt31 _ _ _ | exact pop_lt31 _ | assumption | exact b31 (hW.gp (by omega)) | exact b31 (hW.ne (by omega)) | exact b31 (hW.op (by omega)) | exact and31 (hW.gp (by omega)) | exact and31 (hW.ne (by omega)) | exact and31 (hW.op (by omega)) | exact and31 (by assumption) | exact and31r (hW.ne (by omega)) | exact and31r (hW.gp (by omega)) | exact and31r (by decide)) (fun c_19 => ?_) (fun c_19 => False.elim (by omega))
            refine mm_iload d_M_clan_47 rfl ?_
            refine mm_switchIn (n := 0) d_M_clan_48 1 (by decide) (by decide) rfl ?_
            refine mm_aload d_M_clan_101 rfl ?_
            refine mm_v0i d_M_clan_102 (sk_o_71 hM) (sp_M_twins hH ?_)
            exact mm_ri d_M_clan_105 ⟨rfl, ((Fr.rf.sI rfl).trans g1)⟩
        · refine pairQ (nI (pop (raftK D (2 ^ dn D)))) hJ (d := 12) (d' := 12) (by decide) (by decide) ?_ (fun μ1 hf => ?_)
          · show mm_T X 12 0 0 k_G_clan 0 [some (.ref 0), some (.int (nI i)), some (.int (nI 2)), none] [] μ _
            refine mm_aload d_G_clan_0 rfl ?_
            refine mm_getP d_G_clan_1 rfl (sk_o_0 hM) (sk_p_0_0 hM) ?_
            refine mm_iload d_G_clan_4 rfl ?_
            refine mm_v1r d_G_clan_5 (sk_o_1 hM) (sp_To_coastAtI hM h0 h02 hi ?_)
            refine mm_ast3 d_G_clan_8 ?_
            refine mm_aload d_G_clan_9 rfl ?_
            refine mm_ifnonnull d_G_clan_10 ?_
            refine mm_iload d_G_clan_16 rfl ?_
            refine mm_switchIn (n := 0) d_G_clan_17 2 (by decide) (by decide) rfl ?_
            refine mm_aload d_G_clan_74 rfl ?_
            refine mm_s1i d_G_clan_75 (sp_Cr_largestRaft hCD hW ?_)
            refine mm_s1i d_G_clan_78 (sp_Int_bitCount (by first | omega | assumption | exact hW.gp (by omega) | exact hW.ne (by omega) | exact hW.op (by omega) | exact and_lt256 (hW.gp (by omega)) | exact and_lt256 (hW.ne (by omega)) | exact and_lt256 (hW.op (by omega)) | exact and_lt256 (by assumption)) ?_)
            exact mm_ri d_G_clan_81 ⟨rfl, Fr.rf, hw⟩
          · show mm_T X 12 0 0 k_M_clan 0 [some (.ref 71), some (.int (nI i)), some (.int (nI 2))] [] μ1 _
            replace hM := hf.2.2.2 hM
            replace m0 : mm_I μ1 76 0 = nI c := by rw [(hf.2.2.1 76 rfl).1]; exact m0
            replace hDM := hDM.frC hf
            refine mm_aload d_M_clan_0 rfl ?_
            refine mm_ciN 0 d_M_clan_1 rfl ?_
            refine mm_putI d_M_clan_2 rfl (sk_o_71 hM) (Or.inl rfl) ?_
            refine mm_aload d_M_clan_5 rfl ?_
            refine mm_iload d_M_clan_6 rfl ?_
            refine mm_v1i d_M_clan_7 (sk_o_71 hM) (sp_M_handN hM (by first | exact m0 | (rw [mm_sI_off (by decide)]; exact m0)) h02 hi (by first | exact hDM | exact hDM.eq (mm_sI_off (by decide))) hW (fun μ2 g1 hH hZ => ?_))
            replace hM := hH.1
            refine mm_if_neN d_M_clan_10 (by first | omega | exact ite01_lt | exact bt8_lt31 _ _ | exact godB_lt31 _ _ _ | exact pop_lt31 _ | assumption | exact b31 (hW.gp (by omega)) | exact b31 (hW.ne (by omega)) | exact b31 (hW.op (by omega)) | exact and31 (hW.gp (by omega)) | exact and31 (hW.ne (by omega)) | exact and31 (hW.op (by omega)) | exact and31 (by assumption) | exact and31r (hW.ne (by omega)) | exact and31r (hW.gp (by omega)) | exact and31r (by decide)) (fun c_10 => ?_) (fun c_10 => False.elim (by omega))
            refine mm_iload d_M_clan_16 rfl ?_
            refine mm_ciN 10 d_M_clan_17 rfl ?_
            refine mm_icmp_ltN d_M_clan_19 (by first | omega | exact ite01_lt | exact bt8_lt31 _ _ | exact godB_lt31 _ _ _ | exact pop_lt31 _ | assumption | exact b31 (hW.gp (by omega)) | exact b31 (hW.ne (by omega)) | exact b31 (hW.op (by omega)) | exact and31 (hW.gp (by omega)) | exact and31 (hW.ne (by omega)) | exact and31 (hW.op (by omega)) | exact and31 (by assumption) | exact and31r (hW.ne (by omega)) | exact and31r (hW.gp (by omega)) | exact and31r (by decide)) (by first | omega | exact ite01_lt | exact bt8_lt31 _ _ | exact godB_lt31 _ _ _ | exact pop_lt31 _ | assumption | exact b31 (hW.gp (by omega)) | exact b31 (hW.ne (by omega)) | exact b31 (hW.op (by omega)) | exact and31 (hW.gp (by omega)) | exact and31 (hW.ne (by omega)) | exact and31 (hW.op (by omega)) | exact and31 (by assumption) | exact and31r (hW.ne (by omega)) | exact and31r (hW.gp (by omega)) | exact and31r (by decide)) (fun c_19 => ?_) (fun c_19 => False.elim (by omega))
            refine mm_iload d_M_clan_47 rfl ?_
            refine mm_switchIn (n := 0) d_M_clan_48 2 (by decide) (by decide) rfl ?_
            refine mm_aload d_M_clan_106 rfl ?_
            refine mm_v0i d_M_clan_107 (sk_o_71 hM) (sp_M_raft hH ?_)
            refine mm_s1i d_M_clan_110 (sp_M_ones (by first | omega | assumption | exact hW.gp (by omega) | exact hW.ne (by omega) | exact hW.op (by omega) | exact and_lt256 (hW.gp (by omega)) | exact and_lt256 (hW.ne (by omega)) | exact and_lt256 (hW.op (by omega)) | exact and_lt256 (by assumption)) ?_)
            exact mm_ri d_M_clan_113 ⟨rfl, ((Fr.rf.sI rfl).trans g1)⟩
        · refine pairQ (nI (raftK D (2 ^ dn D))) hJ (d := 12) (d' := 12) (by decide) (by decide) ?_ (fun μ1 hf => ?_)
          · show mm_T X 12 0 0 k_G_clan 0 [some (.ref 0), some (.int (nI i)), some (.int (nI 3)), none] [] μ _
            refine mm_aload d_G_clan_0 rfl ?_
            refine mm_getP d_G_clan_1 rfl (sk_o_0 hM) (sk_p_0_0 hM) ?_
            refine mm_iload d_G_clan_4 rfl ?_
            refine mm_v1r d_G_clan_5 (sk_o_1 hM) (sp_To_coastAtI hM h0 h02 hi ?_)
            refine mm_ast3 d_G_clan_8 ?_
            refine mm_aload d_G_clan_9 rfl ?_
            refine mm_ifnonnull d_G_clan_10 ?_
            refine mm_iload d_G_clan_16 rfl ?_
            refine mm_switchIn (n := 0) d_G_clan_17 3 (by decide) (by decide) rfl ?_
            refine mm_aload d_G_clan_82 rfl ?_
            refine mm_s1i d_G_clan_83 (sp_Cr_largestRaft hCD hW ?_)
            exact mm_ri d_G_clan_86 ⟨rfl, Fr.rf, hw⟩
          · show mm_T X 12 0 0 k_M_clan 0 [some (.ref 71), some (.int (nI i)), some (.int (nI 3))] [] μ1 _
            replace hM := hf.2.2.2 hM
            replace m0 : mm_I μ1 76 0 = nI c := by rw [(hf.2.2.1 76 rfl).1]; exact m0
            replace hDM := hDM.frC hf
            refine mm_aload d_M_clan_0 rfl ?_
            refine mm_ciN 0 d_M_clan_1 rfl ?_
            refine mm_putI d_M_clan_2 rfl (sk_o_71 hM) (Or.inl rfl) ?_
            refine mm_aload d_M_clan_5 rfl ?_
            refine mm_iload d_M_clan_6 rfl ?_
            refine mm_v1i d_M_clan_7 (sk_o_71 hM) (sp_M_handN hM (by first | exact m0 | (rw [mm_sI_off (by decide)]; exact m0)) h02 hi (by first | exact hDM | exact hDM.eq (mm_sI_off (by decide))) hW (fun μ2 g1 hH hZ => ?_))
            replace hM := hH.1
            refine mm_if_neN d_M_clan_10 (by first | omega | exact ite01_lt | exact bt8_lt31 _ _ | exact godB_lt31 _ _ _ | exact pop_lt31 _ | assumption | exact b31 (hW.gp (by omega)) | exact b31 (hW.ne (by omega)) | exact b31 (hW.op (by omega)) | exact and31 (hW.gp (by omega)) | exact and31 (hW.ne (by omega)) | exact and31 (hW.op (by omega)) | exact and31 (by assumption) | exact and31r (hW.ne (by omega)) | exact and31r (hW.gp (by omega)) | exact and31r (by decide)) (fun c_10 => ?_) (fun c_10 => False.elim (by omega))
            refine mm_iload d_M_clan_16 rfl ?_
            refine mm_ciN 10 d_M_clan_17 rfl ?_
            refine mm_icmp_ltN d_M_clan_19 (by first | omega | exact ite01_lt | exact bt8_lt31 _ _ | exact godB_lt31 _ _ _ | exact pop_lt31 _ | assumption | exact b31 (hW.gp (by omega)) | exact b31 (hW.ne (by omega)) | exact b31 (hW.op (by omega)) | exact and31 (hW.gp (by omega)) | exact and31 (hW.ne (by omega)) | exact and31 (hW.op (by omega)) | exact and31 (by assumption) | exact and31r (hW.ne (by omega)) | exact and31r (hW.gp (by omega)) | exact and31r (by decide)) (by first | omega | exact ite01_lt | exact bt8_lt31 _ _ | exact godB_lt31 _ _ _ | exact pop_lt31 _ | assumption | exact b31 (hW.gp (by omega)) | exact b31 (hW.ne (by omega)) | exact b31 (hW.op (by omega)) | exact and31 (hW.gp (by omega)) | exact and31 (hW.ne (by omega)) | exact and31 (hW.op (by omega)) | exact and31 (by assumption) | exact and31r (hW.ne (by omega)) | exact and31r (hW.gp (by omega)) | exact and31r (by decide)) (fun c_19 => ?_) (fun c_19 => False.elim (by omega))
            refine mm_iload d_M_clan_47 rfl ?_
            refine mm_switchIn (n := 0) d_M_clan_48 3 (by decide) (by decide) rfl ?_
            refine mm_aload d_M_clan_114 rfl ?_
            refine mm_v0i d_M_clan_115 (sk_o_71 hM) (sp_M_raft hH ?_)
            exact mm_ri d_M_clan_118 ⟨rfl, ((Fr.rf.sI rfl).trans g1)⟩
        · refine pairQ (nI (cf D 6 0 0)) hJ (d := 12) (d' := 12) (by decide) (by decide) ?_ (fun μ1 hf => ?_)
          · show mm_T X 12 0 0 k_G_clan 0 [some (.ref 0), some (.int (nI i)), some (.int (nI 4)), none] [] μ _
            refine mm_aload d_G_clan_0 rfl ?_
            refine mm_getP d_G_clan_1 rfl (sk_o_0 hM) (sk_p_0_0 hM) ?_
            refine mm_iload d_G_clan_4 rfl ?_
            refine mm_v1r d_G_clan_5 (sk_o_1 hM) (sp_To_coastAtI hM h0 h02 hi ?_)
            refine mm_ast3 d_G_clan_8 ?_
            refine mm_aload d_G_clan_9 rfl ?_
            refine mm_ifnonnull d_G_clan_10 ?_
            refine mm_iload d_G_clan_16 rfl ?_
            refine mm_switchIn (n := 0) d_G_clan_17 4 (by decide) (by decide) rfl ?_
            refine mm_aload d_G_clan_87 rfl ?_
            refine mm_s1i d_G_clan_88 (sp_Cr_mostCouples hCD hW ?_)
            exact mm_ri d_G_clan_91 ⟨rfl, Fr.rf, hw⟩
          · show mm_T X 12 0 0 k_M_clan 0 [some (.ref 71), some (.int (nI i)), some (.int (nI 4))] [] μ1 _
            replace hM := hf.2.2.2 hM
            replace m0 : mm_I μ1 76 0 = nI c := by rw [(hf.2.2.1 76 rfl).1]; exact m0
            replace hDM := hDM.frC hf
            refine mm_aload d_M_clan_0 rfl ?_
            refine mm_ciN 0 d_M_clan_1 rfl ?_
            refine mm_putI d_M_clan_2 rfl (sk_o_71 hM) (Or.inl rfl) ?_
            refine mm_aload d_M_clan_5 rfl ?_
            refine mm_iload d_M_clan_6 rfl ?_
            refine mm_v1i d_M_clan_7 (sk_o_71 hM) (sp_M_handN hM (by first | exact m0 | (rw [mm_sI_off (by decide)]; exact m0)) h02 hi (by first | exact hDM | exact hDM.eq (mm_sI_off (by decide))) hW (fun μ2 g1 hH hZ => ?_))
            replace hM := hH.1
            refine mm_if_neN d_M_clan_10 (by first | omega | exact ite01_lt | exact bt8_lt31 _ _ | exact godB_lt31 _ _ _ | exact pop_lt31 _ | assumption | exact b31 (hW.gp (by omega)) | exact b31 (hW.ne (by omega)) | exact b31 (hW.op (by omega)) | exact and31 (hW.gp (by omega)) | exact and31 (hW.ne (by omega)) | exact and31 (hW.op (by omega)) | exact and31 (by assumption) | exact and31r (hW.ne (by omega)) | exact and31r (hW.gp (by omega)) | exact and31r (by decide)) (fun c_10 => ?_) (fun c_10 => False.elim (by omega))
            refine mm_iload d_M_clan_16 rfl ?_
            refine mm_ciN 10 d_M_clan_17 rfl ?_
            refine mm_icmp_ltN d_M_clan_19 (by first | omega | exact ite01_lt | exact bt8_lt31 _ _ | exact godB_lt31 _ _ _ | exact pop_lt31 _ | assumption | exact b31 (hW.gp (by omega)) | exact b31 (hW.ne (by omega)) | exact b31 (hW.op (by omega)) | exact and31 (hW.gp (by omega)) | exact and31 (hW.ne (by omega)) | exact and31 (hW.op (by omega)) | exact and31 (by assumption) | exact and31r (hW.ne (by omega)) | exact and31r (hW.gp (by omega)) | exact and31r (by decide)) (by first | omega | exact ite01_lt | exact bt8_lt31 _ _ | exact godB_lt31 _ _ _ | exact pop_lt31 _ | assumption | exact b31 (hW.gp (by omega)) | exact b31 (hW.ne (by omega)) | exact b31 (hW.op (by omega)) | exact and31 (hW.gp (by omega)) | exact and31 (hW.ne (by omega)) | exact and31 (hW.op (by omega)) | exact and31 (by assumption) | exact and31r (hW.ne (by omega)) | exact and31r (hW.gp (by omega)) | exact and31r (by decide)) (fun c_19 => ?_) (fun c_19 => False.elim (by omega))
            refine mm_iload d_M_clan_47 rfl ?_
            refine mm_switchIn (n := 0) d_M_clan_48 4 (by decide) (by decide) rfl ?_
            refine mm_aload d_M_clan_119 rfl ?_
            refine mm_v0i d_M_clan_120 (sk_o_71 hM) (sp_M_couples hH (fun μ3 g3 => ?_))
            exact mm_ri d_M_clan_123 ⟨rfl, ((Fr.rf.sI rfl).trans g1).trans g3⟩
        · refine pairQ (nI (rivK D 8 / 2)) hJ (d := 12) (d' := 12) (by decide) (by decide) ?_ (fun μ1 hf => ?_)
          · show mm_T X 12 0 0 k_G_clan 0 [some (.ref 0), some (.int (nI i)), some (.int (nI 5)), none] [] μ _
            refine mm_aload d_G_clan_0 rfl ?_
            refine mm_getP d_G_clan_1 rfl (sk_o_0 hM) (sk_p_0_0 hM) ?_
            refine mm_iload d_G_clan_4 rfl ?_
            refine mm_v1r d_G_clan_5 (sk_o_1 hM) (sp_To_coastAtI hM h0 h02 hi ?_)
            refine mm_ast3 d_G_clan_8 ?_
            refine mm_aload d_G_clan_9 rfl ?_
            refine mm_ifnonnull d_G_clan_10 ?_
            refine mm_iload d_G_clan_16 rfl ?_
            refine mm_switchIn (n := 0) d_G_clan_17 5 (by decide) (by decide) rfl ?_
            refine mm_aload d_G_clan_92 rfl ?_
            refine mm_s1i d_G_clan_93 (sp_Sk_rivals hCD hW ?_)
            exact mm_ri d_G_clan_96 ⟨rfl, Fr.rf, hw⟩
          · show mm_T X 12 0 0 k_M_clan 0 [some (.ref 71), some (.int (nI i)), some (.int (nI 5))] [] μ1 _
            replace hM := hf.2.2.2 hM
            replace m0 : mm_I μ1 76 0 = nI c := by rw [(hf.2.2.1 76 rfl).1]; exact m0
            replace hDM := hDM.frC hf
            refine mm_aload d_M_clan_0 rfl ?_
            refine mm_ciN 0 d_M_clan_1 rfl ?_
            refine mm_putI d_M_clan_2 rfl (sk_o_71 hM) (Or.inl rfl) ?_
            refine mm_aload d_M_clan_5 rfl ?_
            refine mm_iload d_M_clan_6 rfl ?_
            refine mm_v1i d_M_clan_7 (sk_o_71 hM) (sp_M_handN hM (by first | exact m0 | (rw [mm_sI_off (by decide)]; exact m0)) h02 hi (by first | exact hDM | exact hDM.eq (mm_sI_off (by decide))) hW (fun μ2 g1 hH hZ => ?_))
            replace hM := hH.1
            refine mm_if_neN d_M_clan_10 (by first | omega | exact ite01_lt | exact bt8_lt31 _ _ | exact godB_lt31 _ _ _ | exact pop_lt31 _ | assumption | exact b31 (hW.gp (by omega)) | exact b31 (hW.ne (by omega)) | exact b31 (hW.op (by omega)) | exact and31 (hW.gp (by omega)) | exact and31 (hW.ne (by omega)) | exact and31 (hW.op (by omega)) | exact and31 (by assumption) | exact and31r (hW.ne (by omega)) | exact and31r (hW.gp (by omega)) | exact and31r (by decide)) (fun c_10 => ?_) (fun c_10 => False.elim (by omega))
            refine mm_iload d_M_clan_16 rfl ?_
            refine mm_ciN 10 d_M_clan_17 rfl ?_
            refine mm_icmp_ltN d_M_clan_19 (by first | omega | exact ite01_lt | exact bt8_lt31 _ _ | exact godB_lt31 _ _ _ | exact pop_lt31 _ | assumption | exact b31 (hW.gp (by omega)) | exact b31 (hW.ne (by omega)) | exact b31 (hW.op (by omega)) | exact and31 (hW.gp (by omega)) | exact and31 (hW.ne (by omega)) | exact and31 (hW.op (by omega)) | exact and31 (by assumption) | exact and31r (hW.ne (by omega)) | exact and31r (hW.gp (by omega)) | exact and31r (by decide)) (by first | omega | exact ite01_lt | exact bt8_lt31 _ _ | exact godB_lt31 _ _ _ | exact pop_lt31 _ | assumption | exact b31 (hW.gp (by omega)) | exact b31 (hW.ne (by omega)) | exact b31 (hW.op (by omega)) | exact and31 (hW.gp (by omega)) | exact and31 (hW.ne (by omega)) | exact and31 (hW.op (by omega)) | exact and31 (by assumption) | exact and31r (hW.ne (by omega)) | exact and31r (hW.gp (by omega)) | exact and31r (by decide)) (fun c_19 => ?_) (fun c_19 => False.elim (by omega))
            refine mm_iload d_M_clan_47 rfl ?_
            refine mm_switchIn (n := 0) d_M_clan_48 5 (by decide) (by decide) rfl ?_
            refine mm_aload d_M_clan_124 rfl ?_
            refine mm_v0i d_M_clan_125 (sk_o_71 hM) (sp_M_rivals hH ?_)
            exact mm_ri d_M_clan_128 ⟨rfl, ((Fr.rf.sI rfl).trans g1)⟩
        · refine pairQ (nI (pop (calmK D 256))) hJ (d := 12) (d' := 12) (by decide) (by decide) ?_ (fun μ1 hf => ?_)
          · show mm_T X 12 0 0 k_G_clan 0 [some (.ref 0), some (.int (nI i)), some (.int (nI 6)), none] [] μ _
            refine mm_aload d_G_clan_0 rfl ?_
            refine mm_getP d_G_clan_1 rfl (sk_o_0 hM) (sk_p_0_0 hM) ?_
            refine mm_iload d_G_clan_4 rfl ?_
            refine mm_v1r d_G_clan_5 (sk_o_1 hM) (sp_To_coastAtI hM h0 h02 hi ?_)
            refine mm_ast3 d_G_clan_8 ?_
            refine mm_aload d_G_clan_9 rfl ?_
            refine mm_ifnonnull d_G_clan_10 ?_
            refine mm_iload d_G_clan_16 rfl ?_
            refine mm_switchIn (n := 0) d_G_clan_17 6 (by decide) (by decide) rfl ?_
            refine mm_aload d_G_clan_97 rfl ?_
            refine mm_s1i d_G_clan_98 (sp_Sk_largestCalm hCD hW ?_)
            refine mm_s1i d_G_clan_101 (sp_Int_bitCount (by first | omega | assumption | exact hW.gp (by omega) | exact hW.ne (by omega) | exact hW.op (by omega) | exact and_lt256 (hW.gp (by omega)) | exact and_lt256 (hW.ne (by omega)) | exact and_lt256 (hW.op (by omega)) | exact and_lt256 (by assumption)) ?_)
            exact mm_ri d_G_clan_104 ⟨rfl, Fr.rf, hw⟩
          · show mm_T X 12 0 0 k_M_clan 0 [some (.ref 71), some (.int (nI i)), some (.int (nI 6))] [] μ1 _
            replace hM := hf.2.2.2 hM
            replace m0 : mm_I μ1 76 0 = nI c := by rw [(hf.2.2.1 76 rfl).1]; exact m0
            replace hDM := hDM.frC hf
            refine mm_aload d_M_clan_0 rfl ?_
            refine mm_ciN 0 d_M_clan_1 rfl ?_
            refine mm_putI d_M_clan_2 rfl (sk_o_71 hM) (Or.inl rfl) ?_
            refine mm_aload d_M_clan_5 rfl ?_
            refine mm_iload d_M_clan_6 rfl ?_
            refine mm_v1i d_M_clan_7 (sk_o_71 hM) (sp_M_handN hM (by first | exact m0 | (rw [mm_sI_off (by decide)]; exact m0)) h02 hi (by first | exact hDM | exact hDM.eq (mm_sI_off (by decide))) hW (fun μ2 g1 hH hZ => ?_))
            replace hM := hH.1
            refine mm_if_neN d_M_clan_10 (by first | omega | exact ite01_lt | exact bt8_lt31 _ _ | exact godB_lt31 _ _ _ | exact pop_lt31 _ | assumption | exact b31 (hW.gp (by omega)) | exact b31 (hW.ne (by omega)) | exact b31 (hW.op (by omega)) | exact and31 (hW.gp (by omega)) | exact and31 (hW.ne (by omega)) | exact and31 (hW.op (by omega)) | exact and31 (by assumption) | exact and31r (hW.ne (by omega)) | exact and31r (hW.gp (by omega)) | exact and31r (by decide)) (fun c_10 => ?_) (fun c_10 => False.elim (by omega))
            refine mm_iload d_M_clan_16 rfl ?_
            refine mm_ciN 10 d_M_clan_17 rfl ?_
            refine mm_icmp_ltN d_M_clan_19 (by first | omega | exact ite01_lt | exact bt8_lt31 _ _ | exact godB_lt31 _ _ _ | exact pop_lt31 _ | assumption | exact b31 (hW.gp (by omega)) | exact b31 (hW.ne (by omega)) | exact b31 (hW.op (by omega)) | exact and31 (hW.gp (by omega)) | exact and31 (hW.ne (by omega)) | exact and31 (hW.op (by omega)) | exact and31 (by assumption) | exact and31r (hW.ne (by omega)) | exact and31r (hW.gp (by omega)) | exact and31r (by decide)) (by first | omega | exact ite01_lt | exact bt8_lt31 _ _ | exact godB_lt31 _ _ _ | exact pop_lt31 _ | assumption | exact b31 (hW.gp (by omega)) | exact b31 (hW.ne (by omega)) | exact b31 (hW.op (by omega)) | exact and31 (hW.gp (by omega)) | exact and31 (hW.ne (by omega)) | exact and31 (hW.op (by omega)) | exact and31 (by assumption) | exact and31r (hW.ne (by omega)) | exact and31r (hW.gp (by omega)) | exact and31r (by decide)) (fun c_19 => ?_) (fun c_19 => False.elim (by omega))
            refine mm_iload d_M_clan_47 rfl ?_
            refine mm_switchIn (n := 0) d_M_clan_48 6 (by decide) (by decide) rfl ?_
            refine mm_aload d_M_clan_129 rfl ?_
            refine mm_v0i d_M_clan_130 (sk_o_71 hM) (sp_M_calm hH ?_)
            refine mm_s1i d_M_clan_133 (sp_M_ones (by first | omega | assumption | exact hW.gp (by omega) | exact hW.ne (by omega) | exact hW.op (by omega) | exact and_lt256 (hW.gp (by omega)) | exact and_lt256 (hW.ne (by omega)) | exact and_lt256 (hW.op (by omega)) | exact and_lt256 (by assumption)) ?_)
            exact mm_ri d_M_clan_136 ⟨rfl, ((Fr.rf.sI rfl).trans g1)⟩
        · refine pairQ (nI (calmK D 256)) hJ (d := 12) (d' := 12) (by decide) (by decide) ?_ (fun μ1 hf => ?_)
          · show mm_T X 12 0 0 k_G_clan 0 [some (.ref 0), some (.int (nI i)), some (.int (nI 7)), none] [] μ _
            refine mm_aload d_G_clan_0 rfl ?_
            refine mm_getP d_G_clan_1 rfl (sk_o_0 hM) (sk_p_0_0 hM) ?_
            refine mm_iload d_G_clan_4 rfl ?_
            refine mm_v1r d_G_clan_5 (sk_o_1 hM) (sp_To_coastAtI hM h0 h02 hi ?_)
            refine mm_ast3 d_G_clan_8 ?_
            refine mm_aload d_G_clan_9 rfl ?_
            refine mm_ifnonnull d_G_clan_10 ?_
            refine mm_iload d_G_clan_16 rfl ?_
            refine mm_switchIn (n := 0) d_G_clan_17 7 (by decide) (by decide) rfl ?_
            refine mm_aload d_G_clan_105 rfl ?_
            refine mm_s1i d_G_clan_106 (sp_Sk_largestCalm hCD hW ?_)
            exact mm_ri d_G_clan_109 ⟨rfl, Fr.rf, hw⟩
          · show mm_T X 12 0 0 k_M_clan 0 [some (.ref 71), some (.int (nI i)), some (.int (nI 7))] [] μ1 _
            replace hM := hf.2.2.2 hM
            replace m0 : mm_I μ1 76 0 = nI c := by rw [(hf.2.2.1 76 rfl).1]; exact m0
            replace hDM := hDM.frC hf
            refine mm_aload d_M_clan_0 rfl ?_
            refine mm_ciN 0 d_M_clan_1 rfl ?_
            refine mm_putI d_M_clan_2 rfl (sk_o_71 hM) (Or.inl rfl) ?_
            refine mm_aload d_M_clan_5 rfl ?_
            refine mm_iload d_M_clan_6 rfl ?_
            refine mm_v1i d_M_clan_7 (sk_o_71 hM) (sp_M_handN hM (by first | exact m0 | (rw [mm_sI_off (by decide)]; exact m0)) h02 hi (by first | exact hDM | exact hDM.eq (mm_sI_off (by decide))) hW (fun μ2 g1 hH hZ => ?_))
            replace hM := hH.1
            refine mm_if_neN d_M_clan_10 (by first | omega | exact ite01_lt | exact bt8_lt31 _ _ | exact godB_lt31 _ _ _ | exact pop_lt31 _ | assumption | exact b31 (hW.gp (by omega)) | exact b31 (hW.ne (by omega)) | exact b31 (hW.op (by omega)) | exact and31 (hW.gp (by omega)) | exact and31 (hW.ne (by omega)) | exact and31 (hW.op (by omega)) | exact and31 (by assumption) | exact and31r (hW.ne (by omega)) | exact and31r (hW.gp (by omega)) | exact and31r (by decide)) (fun c_10 => ?_) (fun c_10 => False.elim (by omega))
            refine mm_iload d_M_clan_16 rfl ?_
            refine mm_ciN 10 d_M_clan_17 rfl ?_
            refine mm_icmp_ltN d_M_clan_19 (by first | omega | exact ite01_lt | exact bt8_lt31 _ _ | exact godB_lt31 _ _ _ | exact pop_lt31 _ | assumption | exact b31 (hW.gp (by omega)) | exact b31 (hW.ne (by omega)) | exact b31 (hW.op (by omega)) | exact and31 (hW.gp (by omega)) | exact and31 (hW.ne (by omega)) | exact and31 (hW.op (by omega)) | exact and31 (by assumption) | exact and31r (hW.ne (by omega)) | exact and31r (hW.gp (by omega)) | exact and31r (by decide)) (by first | omega | exact ite01_lt | exact bt8_lt31 _ _ | exact godB_lt31 _ _ _ | exact pop_lt31 _ | assumption | exact b31 (hW.gp (by omega)) | exact b31 (hW.ne (by omega)) | exact b31 (hW.op (by omega)) | exact and31 (hW.gp (by omega)) | exact and31 (hW.ne (by omega)) | exact and31 (hW.op (by omega)) | exact and31 (by assumption) | exact and31r (hW.ne (by omega)) | exact and31r (hW.gp (by omega)) | exact and31r (by decide)) (fun c_19 => ?_) (fun c_19 => False.elim (by omega))
            refine mm_iload d_M_clan_47 rfl ?_
            refine mm_switchIn (n := 0) d_M_clan_48 7 (by decide) (by decide) rfl ?_
            refine mm_aload d_M_clan_137 rfl ?_
            refine mm_v0i d_M_clan_138 (sk_o_71 hM) (sp_M_calm hH ?_)
            exact mm_ri d_M_clan_141 ⟨rfl, ((Fr.rf.sI rfl).trans g1)⟩
