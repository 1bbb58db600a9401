/-! pairs: coast, fault, count -/
theorem ite01_lt {p : Prop} [Decidable p] : (if p then 1 else 0 : Nat) < 2 ^ 31 := by split <;> decide
def lookR (D : mm_D) (t : Nat) : Int32 :=
  match t / 10 with
  | 0 => if t = 0 then nI (dn D) else if t = 1 then nI (dw D) else -1
  | 1 => if t % 10 < 8 then nI (dch D (t % 10)) else -1
  | 2 => if t % 10 < 8 then nI (dpa D (t % 10)) else -1
  | 3 => if t % 10 < 8 then nI (dop D (t % 10)) else -1
  | 4 => if t % 10 < dn D then nI (dgp D (t % 10)) else -1
  | 5 => if t % 10 < dw D then nI (dwo D (t % 10)) else -1
  | _ => if t % 10 < dw D then nI (dne D (t % 10)) else -1
theorem div10_neg {y : Int32} (h : y < 0) : (y / nI 10).toInt ≤ 0 := by
  have h1 : y.toInt < 0 := Int32.lt_iff_toInt_lt.mp h
  have h2 := Int32.le_toInt y
  rw [Int32.toInt_div]
  have e : (nI 10).toInt = 10 := rfl
  rw [e]
  obtain ⟨m, hm⟩ : ∃ m : Nat, y.toInt = -(m : Int) := ⟨y.toInt.natAbs, by omega⟩
  rw [hm, Int.neg_tdiv, Int.tdiv_eq_ediv_of_nonneg (by omega)]
  have h3 : (m : Int) ≤ 2 ^ 31 := by omega
  rw [Int.bmod_eq_of_le (by omega) (by omega)]
  omega
theorem div10_big {y : Int32} (h : nI 69 < y) : 7 ≤ (y / nI 10).toInt := by
  have h1 : (nI 69).toInt < y.toInt := Int32.lt_iff_toInt_lt.mp h
  have e0 : (nI 69).toInt = 69 := rfl
  rw [lg_idiv_nonneg (by omega) (by decide)]
  have e : (nI 10).toInt = 10 := rfl
  rw [e]
  omega

theorem sp_Co_look {X : mm_X} {μ : mm_M} {q : Int32 → mm_M → Prop} {a t : Nat} {D : mm_D} (hCD : CoD μ a D) (hW : WfD D) (ht : t ≤ 69) (h : q (lookR D t) μ) : mm_Ci X 1 0 0 k_Co_look [.ref a, .int (nI t)] μ q := by
  show mm_T X 1 0 0 k_Co_look 0 [some (.ref a), some (.int (nI t)), none] [] μ _
  have hn6 := hW.1
  have hw6 := hW.2.1
  unfold lookR at h
  have h7 : t / 10 = 0 ∨ t / 10 = 1 ∨ t / 10 = 2 ∨ t / 10 = 3 ∨ t / 10 = 4 ∨ t / 10 = 5 ∨ t / 10 = 6 := by omega
  rcases h7 with e | e | e | e | e | e | e <;> simp only [e] at h
  · refine mm_iload d_Co_look_0 rfl ?_
    refine mm_if_neN d_Co_look_1 (by first | omega | exact ite01_lt | exact bt8_lt31 _ _ | exact godB_lt31 _ _ _ | exact pop_lt31 _ | assumption | exact b31 (hW.gp (by omega)) | exact b31 (hW.ne (by omega)) | exact b31 (hW.op (by omega)) | exact and31 (hW.gp (by omega)) | exact and31 (hW.ne (by omega)) | exact and31 (hW.op (by omega)) | exact and31 (by assumption) | exact and31r (hW.ne (by omega)) | exact and31r (hW.gp (by omega)) | exact and31r (by decide)) (fun c_1 => ?_) (fun c_1 => ?_)
    · refine mm_iload d_Co_look_9 rfl ?_
      refine mm_ciN 1 d_Co_look_10 rfl ?_
      refine mm_icmp_neN d_Co_look_11 (by first | omega | exact ite01_lt | exact bt8_lt31 _ _ | exact godB_lt31 _ _ _ | exact pop_lt31 _ | assumption | exact b31 (hW.gp (by omega)) | exact b31 (hW.ne (by omega)) | exact b31 (hW.op (by omega)) | exact and31 (hW.gp (by omega)) | exact and31 (hW.ne (by omega)) | exact and31 (hW.op (by omega)) | exact and31 (by assumption) | exact and31r (hW.ne (by omega)) | exact and31r (hW.gp (by omega)) | exact and31r (by decide)) (by first | omega | exact ite01_lt | exact bt8_lt31 _ _ | exact godB_lt31 _ _ _ | exact pop_lt31 _ | assumption | exact b31 (hW.gp (by omega)) | exact b31 (hW.ne (by omega)) | exact b31 (hW.op (by omega)) | exact and31 (hW.gp (by omega)) | exact and31 (hW.ne (by omega)) | exact and31 (hW.op (by omega)) | exact and31 (by assumption) | exact and31r (hW.ne (by omega)) | exact and31r (hW.gp (by omega)) | exact and31r (by decide)) (fun c_11 => ?_) (fun c_11 => ?_)
      · refine mm_iload d_Co_look_19 rfl ?_
        refine mm_ciN 10 d_Co_look_20 rfl ?_
        refine mm_icmp_ltN d_Co_look_22 (by first | omega | exact ite01_lt | exact bt8_lt31 _ _ | exact godB_lt31 _ _ _ | exact pop_lt31 _ | assumption | exact b31 (hW.gp (by omega)) | exact b31 (hW.ne (by omega)) | exact b31 (hW.op (by omega)) | exact and31 (hW.gp (by omega)) | exact and31 (hW.ne (by omega)) | exact and31 (hW.op (by omega)) | exact and31 (by assumption) | exact and31r (hW.ne (by omega)) | exact and31r (hW.gp (by omega)) | exact and31r (by decide)) (by first | omega | exact ite01_lt | exact bt8_lt31 _ _ | exact godB_lt31 _ _ _ | exact pop_lt31 _ | assumption | exact b31 (hW.gp (by omega)) | exact b31 (hW.ne (by omega)) | exact b31 (hW.op (by omega)) | exact and31 (hW.gp (by omega)) | exact and31 (hW.ne (by omega)) | exact and31 (hW.op (by omega)) | exact and31 (by assumption) | exact and31r (hW.ne (by omega)) | exact and31r (hW.gp (by omega)) | exact and31r (by decide)) (fun c_22 => ?_) (fun c_22 => False.elim (by omega))
        refine mm_ci d_Co_look_31 ?_
        exact mm_ri d_Co_look_32 (by first | (rw [if_pos c_1] at h; exact h) | (rw [if_neg c_1, if_pos c_11] at h; exact h) | (rw [if_neg c_1, if_neg c_11] at h; exact h))
      · refine mm_aload d_Co_look_14 rfl ?_
        refine mm_getIN d_Co_look_15 rfl hCD.1.1 hCD.w ?_
        exact mm_ri d_Co_look_18 (by first | (rw [if_pos c_1] at h; exact h) | (rw [if_neg c_1, if_pos c_11] at h; exact h) | (rw [if_neg c_1, if_neg c_11] at h; exact h))
    · refine mm_aload d_Co_look_4 rfl ?_
      refine mm_getIN d_Co_look_5 rfl hCD.1.1 hCD.n ?_
      exact mm_ri d_Co_look_8 (by first | (rw [if_pos c_1] at h; exact h) | (rw [if_neg c_1, if_pos c_11] at h; exact h) | (rw [if_neg c_1, if_neg c_11] at h; exact h))
  · by_cases h8 : t % 10 < 8
    · rw [if_pos h8] at h
      refine mm_iload d_Co_look_0 rfl ?_
      refine mm_if_neN d_Co_look_1 (by first | omega | exact ite01_lt | exact bt8_lt31 _ _ | exact godB_lt31 _ _ _ | exact pop_lt31 _ | assumption | exact b31 (hW.gp (by omega)) | exact b31 (hW.ne (by omega)) | exact b31 (hW.op (by omega)) | exact and31 (hW.gp (by omega)) | exact and31 (hW.ne (by omega)) | exact and31 (hW.op (by omega)) | exact and31 (by assumption) | exact and31r (hW.ne (by omega)) | exact and31r (hW.gp (by omega)) | exact and31r (by decide)) (fun c_1 => ?_) (fun c_1 => False.elim (by omega))
      refine mm_iload d_Co_look_9 rfl ?_
      refine mm_ciN 1 d_Co_look_10 rfl ?_
      refine mm_icmp_neN d_Co_look_11 (by first | omega | exact ite01_lt | exact bt8_lt31 _ _ | exact godB_lt31 _ _ _ | exact pop_lt31 _ | assumption | exact b31 (hW.gp (by omega)) | exact b31 (hW.ne (by omega)) | exact b31 (hW.op (by omega)) | exact and31 (hW.gp (by omega)) | exact and31 (hW.ne (by omega)) | exact and31 (hW.op (by omega)) | exact and31 (by assumption) | exact and31r (hW.ne (by omega)) | exact and31r (hW.gp (by omega)) | exact and31r (by decide)) (by first | omega | exact ite01_lt | exact bt8_lt31 _ _ | exact godB_lt31 _ _ _ | exact pop_lt31 _ | assumption | exact b31 (hW.gp (by omega)) | exact b31 (hW.ne (by omega)) | exact b31 (hW.op (by omega)) | exact and31 (hW.gp (by omega)) | exact and31 (hW.ne (by omega)) | exact and31 (hW.op (by omega)) | exact and31 (by assumption) | exact and31r (hW.ne (by omega)) | exact and31r (hW.gp (by omega)) | exact and31r (by decide)) (fun c_11 => ?_) (fun c_11 => False.elim (by omega))
      refine mm_iload d_Co_look_19 rfl ?_
      refine mm_ciN 10 d_Co_look_20 rfl ?_
      refine mm_icmp_ltN d_Co_look_22 (by first | omega | exact ite01_lt | exact bt8_lt31 _ _ | exact godB_lt31 _ _ _ | exact pop_lt31 _ | assumption | exact b31 (hW.gp (by omega)) | exact b31 (hW.ne (by omega)) | exact b31 (hW.op (by omega)) | exact and31 (hW.gp (by omega)) | exact and31 (hW.ne (by omega)) | exact and31 (hW.op (by omega)) | exact and31 (by assumption) | exact and31r (hW.ne (by omega)) | exact and31r (hW.gp (by omega)) | exact and31r (by decide)) (by first | omega | exact ite01_lt | exact bt8_lt31 _ _ | exact godB_lt31 _ _ _ | exact pop_lt31 _ | assumption | exact b31 (hW.gp (by omega)) | exact b31 (hW.ne (by omega)) | exact b31 (hW.op (by omega)) | exact and31 (hW.gp (by omega)) | exact and31 (hW.ne (by omega)) | exact and31 (hW.op (by omega)) | exact and31 (by assumption) | exact and31r (hW.ne (by omega)) | exact and31r (hW.gp (by omega)) | exact and31r (by decide)) (fun c_22 => False.elim (by omega)) (fun c_22 => ?_)
      refine mm_iload d_Co_look_25 rfl ?_
      refine mm_ciN 69 d_Co_look_26 rfl ?_
      refine mm_icmp_leN d_Co_look_28 (by first | omega | exact ite01_lt | exact bt8_lt31 _ _ | exact godB_lt31 _ _ _ | exact pop_lt31 _ | assumption | exact b31 (hW.gp (by omega)) | exact b31 (hW.ne (by omega)) | exact b31 (hW.op (by omega)) | exact and31 (hW.gp (by omega)) | exact and31 (hW.ne (by omega)) | exact and31 (hW.op (by omega)) | exact and31 (by assumption) | exact and31r (hW.ne (by omega)) | exact and31r (hW.gp (by omega)) | exact and31r (by decide)) (by first | omega | exact ite01_lt | exact bt8_lt31 _ _ | exact godB_lt31 _ _ _ | exact pop_lt31 _ | assumption | exact b31 (hW.gp (by omega)) | exact b31 (hW.ne (by omega)) | exact b31 (hW.op (by omega)) | exact and31 (hW.gp (by omega)) | exact and31 (hW.ne (by omega)) | exact and31 (hW.op (by omega)) | exact and31 (by assumption) | exact and31r (hW.ne (by omega)) | exact and31r (hW.gp (by omega)) | exact and31r (by decide)) (fun c_28 => ?_) (fun c_28 => False.elim (by omega))
      refine mm_iload d_Co_look_33 rfl ?_
      refine mm_ciN 10 d_Co_look_34 rfl ?_
      refine mm_iremN d_Co_look_36 (by first | omega | exact ite01_lt | exact bt8_lt31 _ _ | exact godB_lt31 _ _ _ | exact pop_lt31 _ | assumption | exact b31 (hW.gp (by omega)) | exact b31 (hW.ne (by omega)) | exact b31 (hW.op (by omega)) | exact and31 (hW.gp (by omega)) | exact and31 (hW.ne (by omega)) | exact and31 (hW.op (by omega)) | exact and31 (by assumption) | exact and31r (hW.ne (by omega)) | exact and31r (hW.gp (by omega)) | exact and31r (by decide)) (by omega) (by omega) ?_
      refine mm_ist2 d_Co_look_37 ?_
      refine mm_iload d_Co_look_38 rfl ?_
      refine mm_ciN 10 d_Co_look_39 rfl ?_
      refine mm_idivN d_Co_look_41 (by first | omega | exact ite01_lt | exact bt8_lt31 _ _ | exact godB_lt31 _ _ _ | exact pop_lt31 _ | assumption | exact b31 (hW.gp (by omega)) | exact b31 (hW.ne (by omega)) | exact b31 (hW.op (by omega)) | exact and31 (hW.gp (by omega)) | exact and31 (hW.ne (by omega)) | exact and31 (hW.op (by omega)) | exact and31 (by assumption) | exact and31r (hW.ne (by omega)) | exact and31r (hW.gp (by omega)) | exact and31r (by decide)) (by omega) (by omega) ?_
      rw [e]
      refine mm_switchIn (n := 0) d_Co_look_42 0 (by decide) (by decide) rfl ?_
      refine mm_iload d_Co_look_76 rfl ?_
      refine mm_s1i d_Co_look_77 (sp_G_isWeatherN (by omega) ?_)
      rw [if_pos h8]
      refine mm_if_eqN d_Co_look_80 (by first | omega | exact ite01_lt | exact bt8_lt31 _ _ | exact godB_lt31 _ _ _ | exact pop_lt31 _ | assumption | exact b31 (hW.gp (by omega)) | exact b31 (hW.ne (by omega)) | exact b31 (hW.op (by omega)) | exact and31 (hW.gp (by omega)) | exact and31 (hW.ne (by omega)) | exact and31 (hW.op (by omega)) | exact and31 (by assumption) | exact and31r (hW.ne (by omega)) | exact and31r (hW.gp (by omega)) | exact and31r (by decide)) (fun c_80 => False.elim (by omega)) (fun c_80 => ?_)
      refine mm_aload d_Co_look_83 rfl ?_
      refine mm_getP d_Co_look_84 rfl hCD.1.1 (CoS_p0 hCD.1) ?_
      refine mm_iload d_Co_look_87 rfl ?_
      refine mm_ialdN d_Co_look_88 (CoS_a0 hCD.1) (by omega) (by decide) (hCD.f0 (by omega)) ?_
      refine mm_goto d_Co_look_89 ?_
      exact mm_ri d_Co_look_93 h
    · rw [if_neg h8] at h
      refine mm_iload d_Co_look_0 rfl ?_
      refine mm_if_neN d_Co_look_1 (by first | omega | exact ite01_lt | exact bt8_lt31 _ _ | exact godB_lt31 _ _ _ | exact pop_lt31 _ | assumption | exact b31 (hW.gp (by omega)) | exact b31 (hW.ne (by omega)) | exact b31 (hW.op (by omega)) | exact and31 (hW.gp (by omega)) | exact and31 (hW.ne (by omega)) | exact and31 (hW.op (by omega)) | exact and31 (by assumption) | exact and31r (hW.ne (by omega)) | exact and31r (hW.gp (by omega)) | exact and31r (by decide)) (fun c_1 => ?_) (fun c_1 => False.elim (by omega))
      refine mm_iload d_Co_look_9 rfl ?_
      refine mm_ciN 1 d_Co_look_10 rfl ?_
      refine mm_icmp_neN d_Co_look_11 (by first | omega | exact ite01_lt | exact bt8_lt31 _ _ | exact godB_lt31 _ _ _ | exact pop_lt31 _ | assumption | exact b31 (hW.gp (by omega)) | exact b31 (hW.ne (by omega)) | exact b31 (hW.op (by omega)) | exact and31 (hW.gp (by omega)) | exact and31 (hW.ne (by omega)) | exact and31 (hW.op (by omega)) | exact and31 (by assumption) | exact and31r (hW.ne (by omega)) | exact and31r (hW.gp (by omega)) | exact and31r (by decide)) (by first | omega | exact ite01_lt | exact bt8_lt31 _ _ | exact godB_lt31 _ _ _ | exact pop_lt31 _ | assumption | exact b31 (hW.gp (by omega)) | exact b31 (hW.ne (by omega)) | exact b31 (hW.op (by omega)) | exact and31 (hW.gp (by omega)) | exact and31 (hW.ne (by omega)) | exact and31 (hW.op (by omega)) | exact and31 (by assumption) | exact and31r (hW.ne (by omega)) | exact and31r (hW.gp (by omega)) | exact and31r (by decide)) (fun c_11 => ?_) (fun c_11 => False.elim (by omega))
      refine mm_iload d_Co_look_19 rfl ?_
      refine mm_ciN 10 d_Co_look_20 rfl ?_
      refine mm_icmp_ltN d_Co_look_22 (by first | omega | exact ite01_lt | exact bt8_lt31 _ _ | exact godB_lt31 _ _ _ | exact pop_lt31 _ | assumption | exact b31 (hW.gp (by omega)) | exact b31 (hW.ne (by omega)) | exact b31 (hW.op (by omega)) | exact and31 (hW.gp (by omega)) | exact and31 (hW.ne (by omega)) | exact and31 (hW.op (by omega)) | exact and31 (by assumption) | exact and31r (hW.ne (by omega)) | exact and31r (hW.gp (by omega)) | exact and31r (by decide)) (by first | omega | exact ite01_lt | exact bt8_lt31 _ _ | exact godB_lt31 _ _ _ | exact pop_lt31 _ | assumption | exact b31 (hW.gp (by omega)) | exact b31 (hW.ne (by omega)) | exact b31 (hW.op (by omega)) | exact and31 (hW.gp (by omega)) | exact and31 (hW.ne (by omega)) | exact and31 (hW.op (by omega)) | exact and31 (by assumption) | exact and31r (hW.ne (by omega)) | exact and31r (hW.gp (by omega)) | exact and31r (by decide)) (fun c_22 => False.elim (by omega)) (fun c_22 => ?_)
      refine mm_iload d_Co_look_25 rfl ?_
      refine mm_ciN 69 d_Co_look_26 rfl ?_
      refine mm_icmp_leN d_Co_look_28 (by first | omega | exact ite01_lt | exact bt8_lt31 _ _ | exact godB_lt31 _ _ _ | exact pop_lt31 _ | assumption | exact b31 (hW.gp (by omega)) | exact b31 (hW.ne (by omega)) | exact b31 (hW.op (by omega)) | exact and31 (hW.gp (by omega)) | exact and31 (hW.ne (by omega)) | exact and31 (hW.op (by omega)) | exact and31 (by assumption) | exact and31r (hW.ne (by omega)) | exact and31r (hW.gp (by omega)) | exact and31r (by decide)) (by first | omega | exact ite01_lt | exact bt8_lt31 _ _ | exact godB_lt31 _ _ _ | exact pop_lt31 _ | assumption | exact b31 (hW.gp (by omega)) | exact b31 (hW.ne (by omega)) | exact b31 (hW.op (by omega)) | exact and31 (hW.gp (by omega)) | exact and31 (hW.ne (by omega)) | exact and31 (hW.op (by omega)) | exact and31 (by assumption) | exact and31r (hW.ne (by omega)) | exact and31r (hW.gp (by omega)) | exact and31r (by decide)) (fun c_28 => ?_) (fun c_28 => False.elim (by omega))
      refine mm_iload d_Co_look_33 rfl ?_
      refine mm_ciN 10 d_Co_look_34 rfl ?_
      refine mm_iremN d_Co_look_36 (by first | omega | exact ite01_lt | exact bt8_lt31 _ _ | exact godB_lt31 _ _ _ | exact pop_lt31 _ | assumption | exact b31 (hW.gp (by omega)) | exact b31 (hW.ne (by omega)) | exact b31 (hW.op (by omega)) | exact and31 (hW.gp (by omega)) | exact and31 (hW.ne (by omega)) | exact and31 (hW.op (by omega)) | exact and31 (by assumption) | exact and31r (hW.ne (by omega)) | exact and31r (hW.gp (by omega)) | exact and31r (by decide)) (by omega) (by omega) ?_
      refine mm_ist2 d_Co_look_37 ?_
      refine mm_iload d_Co_look_38 rfl ?_
      refine mm_ciN 10 d_Co_look_39 rfl ?_
      refine mm_idivN d_Co_look_41 (by first | omega | exact ite01_lt | exact bt8_lt31 _ _ | exact godB_lt31 _ _ _ | exact pop_lt31 _ | assumption | exact b31 (hW.gp (by omega)) | exact b31 (hW.ne (by omega)) | exact b31 (hW.op (by omega)) | exact and31 (hW.gp (by omega)) | exact and31 (hW.ne (by omega)) | exact and31 (hW.op (by omega)) | exact and31 (by assumption) | exact and31r (hW.ne (by omega)) | exact and31r (hW.gp (by omega)) | exact and31r (by decide)) (by omega) (by omega) ?_
      rw [e]
      refine mm_switchIn (n := 0) d_Co_look_42 0 (by decide) (by decide) rfl ?_
      refine mm_iload d_Co_look_76 rfl ?_
      refine mm_s1i d_Co_look_77 (sp_G_isWeatherN (by omega) ?_)
      rw [if_neg h8]
      refine mm_if_eqN d_Co_look_80 (by first | omega | exact ite01_lt | exact bt8_lt31 _ _ | exact godB_lt31 _ _ _ | exact pop_lt31 _ | assumption | exact b31 (hW.gp (by omega)) | exact b31 (hW.ne (by omega)) | exact b31 (hW.op (by omega)) | exact and31 (hW.gp (by omega)) | exact and31 (hW.ne (by omega)) | exact and31 (hW.op (by omega)) | exact and31 (by assumption) | exact and31r (hW.ne (by omega)) | exact and31r (hW.gp (by omega)) | exact and31r (by decide)) (fun c_80 => ?_) (fun c_80 => False.elim (by omega))
      refine mm_ci d_Co_look_92 ?_
      exact mm_ri d_Co_look_93 h
  · by_cases h8 : t % 10 < 8
    · rw [if_pos h8] at h
      refine mm_iload d_Co_look_0 rfl ?_
      refine mm_if_neN d_Co_look_1 (by first | omega | exact ite01_lt | exact bt8_lt31 _ _ | exact godB_lt31 _ _ _ | exact pop_lt31 _ | assumption | exact b31 (hW.gp (by omega)) | exact b31 (hW.ne (by omega)) | exact b31 (hW.op (by omega)) | exact and31 (hW.gp (by omega)) | exact and31 (hW.ne (by omega)) | exact and31 (hW.op (by omega)) | exact and31 (by assumption) | exact and31r (hW.ne (by omega)) | exact and31r (hW.gp (by omega)) | exact and31r (by decide)) (fun c_1 => ?_) (fun c_1 => False.elim (by omega))
      refine mm_iload d_Co_look_9 rfl ?_
      refine mm_ciN 1 d_Co_look_10 rfl ?_
      refine mm_icmp_neN d_Co_look_11 (by first | omega | exact ite01_lt | exact bt8_lt31 _ _ | exact godB_lt31 _ _ _ | exact pop_lt31 _ | assumption | exact b31 (hW.gp (by omega)) | exact b31 (hW.ne (by omega)) | exact b31 (hW.op (by omega)) | exact and31 (hW.gp (by omega)) | exact and31 (hW.ne (by omega)) | exact and31 (hW.op (by omega)) | exact and31 (by assumption) | exact and31r (hW.ne (by omega)) | exact and31r (hW.gp (by omega)) | exact and31r (by decide)) (by first | omega | exact ite01_lt | exact bt8_lt31 _ _ | exact godB_lt31 _ _ _ | exact pop_lt31 _ | assumption | exact b31 (hW.gp (by omega)) | exact b31 (hW.ne (by omega)) | exact b31 (hW.op (by omega)) | exact and31 (hW.gp (by omega)) | exact and31 (hW.ne (by omega)) | exact and31 (hW.op (by omega)) | exact and31 (by assumption) | exact and31r (hW.ne (by omega)) | exact and31r (hW.gp (by omega)) | exact and31r (by decide)) (fun c_11 => ?_) (fun c_11 => False.elim (by omega))
      refine mm_iload d_Co_look_19 rfl ?_
      refine mm_ciN 10 d_Co_look_20 rfl ?_
      refine mm_icmp_ltN d_Co_look_22 (by first | omega | exact ite01_lt | exact bt8_lt31 _ _ | exact godB_lt31 _ _ _ | exact pop_lt31 _ | assumption | exact b31 (hW.gp (by omega)) | exact b31 (hW.ne (by omega)) | exact b31 (hW.op (by omega)) | exact and31 (hW.gp (by omega)) | exact and31 (hW.ne (by omega)) | exact and31 (hW.op (by omega)) | exact and31 (by assumption) | exact and31r (hW.ne (by omega)) | exact and31r (hW.gp (by omega)) | exact and31r (by decide)) (by first | omega | exact ite01_lt | exact bt8_lt31 _ _ | exact godB_lt31 _ _ _ | exact pop_lt31 _ | assumption | exact b31 (hW.gp (by omega)) | exact b31 (hW.ne (by omega)) | exact b31 (hW.op (by omega)) | exact and31 (hW.gp (by omega)) | exact and31 (hW.ne (by omega)) | exact and31 (hW.op (by omega)) | exact and31 (by assumption) | exact and31r (hW.ne (by omega)) | exact and31r (hW.gp (by omega)) | exact and31r (by decide)) (fun c_22 => False.elim (by omega)) (fun c_22 => ?_)
      refine mm_iload d_Co_look_25 rfl ?_
      refine mm_ciN 69 d_Co_look_26 rfl ?_
      refine mm_icmp_leN d_Co_look_28 (by first | omega | exact ite01_lt | exact bt8_lt31 _ _ | exact godB_lt31 _ _ _ | exact pop_lt31 _ | assumption | exact b31 (hW.gp (by omega)) | exact b31 (hW.ne (by omega)) | exact b31 (hW.op (by omega)) | exact and31 (hW.gp (by omega)) | exact and31 (hW.ne (by omega)) | exact and31 (hW.op (by omega)) | exact and31 (by assumption) | exact and31r (hW.ne (by omega)) | exact and31r (hW.gp (by omega)) | exact and31r (by decide)) (by first | omega | exact ite01_lt | exact bt8_lt31 _ _ | exact godB_lt31 _ _ _ | exact pop_lt31 _ | assumption | exact b31 (hW.gp (by omega)) | exact b31 (hW.ne (by omega)) | exact b31 (hW.op (by omega)) | exact and31 (hW.gp (by omega)) | exact and31 (hW.ne (by omega)) | exact and31 (hW.op (by omega)) | exact and31 (by assumption) | exact and31r (hW.ne (by omega)) | exact and31r (hW.gp (by omega)) | exact and31r (by decide)) (fun c_28 => ?_) (fun c_28 => False.elim (by omega))
      refine mm_iload d_Co_look_33 rfl ?_
      refine mm_ciN 10 d_Co_look_34 rfl ?_
      refine mm_iremN d_Co_look_36 (by first | omega | exact ite01_lt | exact bt8_lt31 _ _ | exact godB_lt31 _ _ _ | exact pop_lt31 _ | assumption | exact b31 (hW.gp (by omega)) | exact b31 (hW.ne (by omega)) | exact b31 (hW.op (by omega)) | exact and31 (hW.gp (by omega)) | exact and31 (hW.ne (by omega)) | exact and31 (hW.op (by omega)) | exact and31 (by assumption) | exact and31r (hW.ne (by omega)) | exact and31r (hW.gp (by omega)) | exact and31r (by decide)) (by omega) (by omega) ?_
      refine mm_ist2 d_Co_look_37 ?_
      refine mm_iload d_Co_look_38 rfl ?_
      refine mm_ciN 10 d_Co_look_39 rfl ?_
      refine mm_idivN d_Co_look_41 (by first | omega | exact ite01_lt | exact bt8_lt31 _ _ | exact godB_lt31 _ _ _ | exact pop_lt31 _ | assumption | exact b31 (hW.gp (by omega)) | exact b31 (hW.ne (by omega)) | exact b31 (hW.op (by omega)) | exact and31 (hW.gp (by omega)) | exact and31 (hW.ne (by omega)) | exact and31 (hW.op (by omega)) | exact and31 (by assumption) | exact and31r (hW.ne (by omega)) | exact and31r (hW.gp (by omega)) | exact and31r (by decide)) (by omega) (by omega) ?_
      rw [e]
      refine mm_switchIn (n := 0) d_Co_look_42 1 (by decide) (by decide) rfl ?_
      refine mm_iload d_Co_look_94 rfl ?_
      refine mm_s1i d_Co_look_95 (sp_G_isWeatherN (by omega) ?_)
      rw [if_pos h8]
      refine mm_if_eqN d_Co_look_98 (by first | omega | exact ite01_lt | exact bt8_lt31 _ _ | exact godB_lt31 _ _ _ | exact pop_lt31 _ | assumption | exact b31 (hW.gp (by omega)) | exact b31 (hW.ne (by omega)) | exact b31 (hW.op (by omega)) | exact and31 (hW.gp (by omega)) | exact and31 (hW.ne (by omega)) | exact and31 (hW.op (by omega)) | exact and31 (by assumption) | exact and31r (hW.ne (by omega)) | exact and31r (hW.gp (by omega)) | exact and31r (by decide)) (fun c_98 => False.elim (by omega)) (fun c_98 => ?_)
      refine mm_aload d_Co_look_101 rfl ?_
      refine mm_getP d_Co_look_102 rfl hCD.1.1 (CoS_p1 hCD.1) ?_
      refine mm_iload d_Co_look_105 rfl ?_
      refine mm_ialdN d_Co_look_106 (CoS_a1 hCD.1) (by omega) (by decide) (hCD.f1 (by omega)) ?_
      refine mm_goto d_Co_look_107 ?_
      exact mm_ri d_Co_look_111 h
    · rw [if_neg h8] at h
      refine mm_iload d_Co_look_0 rfl ?_
      refine mm_if_neN d_Co_look_1 (by first | omega | exact ite01_lt | exact bt8_lt31 _ _ | exact godB_lt31 _ _ _ | exact pop_lt31 _ | assumption | exact b31 (hW.gp (by omega)) | exact b31 (hW.ne (by omega)) | exact b31 (hW.op (by omega)) | exact and31 (hW.gp (by omega)) | exact and31 (hW.ne (by omega)) | exact and31 (hW.op (by omega)) | exact and31 (by assumption) | exact and31r (hW.ne (by omega)) | exact and31r (hW.gp (by omega)) | exact and31r (by decide)) (fun c_1 => ?_) (fun c_1 => False.elim (by omega))
      refine mm_iload d_Co_look_9 rfl ?_
      refine mm_ciN 1 d_Co_look_10 rfl ?_
      refine mm_icmp_neN d_Co_look_11 (by first | omega | exact ite01_lt | exact bt8_lt31 _ _ | exact godB_lt31 _ _ _ | exact pop_lt31 _ | assumption | exact b31 (hW.gp (by omega)) | exact b31 (hW.ne (by omega)) | exact b31 (hW.op (by omega)) | exact and31 (hW.gp (by omega)) | exact and31 (hW.ne (by omega)) | exact and31 (hW.op (by omega)) | exact and31 (by assumption) | exact and31r (hW.ne (by omega)) | exact and31r (hW.gp (by omega)) | exact and31r (by decide)) (by first | omega | exact ite01_lt | exact bt8_lt31 _ _ | exact godB_lt31 _ _ _ | exact pop_lt31 _ | assumption | exact b31 (hW.gp (by omega)) | exact b31 (hW.ne (by omega)) | exact b31 (hW.op (by omega)) | exact and31 (hW.gp (by omega)) | exact and31 (hW.ne (by omega)) | exact and31 (hW.op (by omega)) | exact and31 (by assumption) | exact and31r (hW.ne (by omega)) | exact and31r (hW.gp (by omega)) | exact and31r (by decide)) (fun c_11 => ?_) (fun c_11 => False.elim (by omega))
      refine mm_iload d_Co_look_19 rfl ?_
      refine mm_ciN 10 d_Co_look_20 rfl ?_
      refine mm_icmp_ltN d_Co_look_22 (by first | omega | exact ite01_lt | exact bt8_lt31 _ _ | exact godB_lt31 _ _ _ | exact pop_lt31 _ | assumption | exact b31 (hW.gp (by omega)) | exact b31 (hW.ne (by omega)) | exact b31 (hW.op (by omega)) | exact and31 (hW.gp (by omega)) | exact and31 (hW.ne (by omega)) | exact and31 (hW.op (by omega)) | exact and31 (by assumption) | exact and31r (hW.ne (by omega)) | exact and31r (hW.gp (by omega)) | exact and31r (by decide)) (by first | omega | exact ite01_lt | exact bt8_lt31 _ _ | exact godB_lt31 _ _ _ | exact pop_lt31 _ | assumption | exact b31 (hW.gp (by omega)) | exact b31 (hW.ne (by omega)) | exact b31 (hW.op (by omega)) | exact and31 (hW.gp (by omega)) | exact and31 (hW.ne (by omega)) | exact and31 (hW.op (by omega)) | exact and31 (by assumption) | exact and31r (hW.ne (by omega)) | exact and31r (hW.gp (by omega)) | exact and31r (by decide)) (fun c_22 => False.elim (by omega)) (fun c_22 => ?_)
      refine mm_iload d_Co_look_25 rfl ?_
      refine mm_ciN 69 d_Co_look_26 rfl ?_
      refine mm_icmp_leN d_Co_look_28 (by first | omega | exact ite01_lt | exact bt8_lt31 _ _ | exact godB_lt31 _ _ _ | exact pop_lt31 _ | assumption | exact b31 (hW.gp (by omega)) | exact b31 (hW.ne (by omega)) | exact b31 (hW.op (by omega)) | exact and31 (hW.gp (by omega)) | exact and31 (hW.ne (by omega)) | exact and31 (hW.op (by omega)) | exact and31 (by assumption) | exact and31r (hW.ne (by omega)) | exact and31r (hW.gp (by omega)) | exact and31r (by decide)) (by first | omega | exact ite01_lt | exact bt8_lt31 _ _ | exact godB_lt31 _ _ _ | exact pop_lt31 _ | assumption | exact b31 (hW.gp (by omega)) | exact b31 (hW.ne (by omega)) | exact b31 (hW.op (by omega)) | exact and31 (hW.gp (by omega)) | exact and31 (hW.ne (by omega)) | exact and31 (hW.op (by omega)) | exact and31 (by assumption) | exact and31r (hW.ne (by omega)) | exact and31r (hW.gp (by omega)) | exact and31r (by decide)) (fun c_28 => ?_) (fun c_28 => False.elim (by omega))
      refine mm_iload d_Co_look_33 rfl ?_
      refine mm_ciN 10 d_Co_look_34 rfl ?_
      refine mm_iremN d_Co_look_36 (by first | omega | exact ite01_lt | exact bt8_lt31 _ _ | exact godB_lt31 _ _ _ | exact pop_lt31 _ | assumption | exact b31 (hW.gp (by omega)) | exact b31 (hW.ne (by omega)) | exact b31 (hW.op (by omega)) | exact and31 (hW.gp (by omega)) | exact and31 (hW.ne (by omega)) | exact and31 (hW.op (by omega)) | exact and31 (by assumption) | exact and31r (hW.ne (by omega)) | exact and31r (hW.gp (by omega)) | exact and31r (by decide)) (by omega) (by omega) ?_
      refine mm_ist2 d_Co_look_37 ?_
      refine mm_iload d_Co_look_38 rfl ?_
      refine mm_ciN 10 d_Co_look_39 rfl ?_
      refine mm_idivN d_Co_look_41 (by first | omega | exact ite01_lt | exact bt8_lt31 _ _ | exact godB_lt31 _ _ _ | exact pop_lt31 _ | assumption | exact b31 (hW.gp (by omega)) | exact b31 (hW.ne (by omega)) | exact b31 (hW.op (by omega)) | exact and31 (hW.gp (by omega)) | exact and31 (hW.ne (by omega)) | exact and31 (hW.op (by omega)) | exact and31 (by assumption) | exact and31r (hW.ne (by omega)) | exact and31r (hW.gp (by omega)) | exact and31r (by decide)) (by omega) (by omega) ?_
      rw [e]
      refine mm_switchIn (n := 0) d_Co_look_42 1 (by decide) (by decide) rfl ?_
      refine mm_iload d_Co_look_94 rfl ?_
      refine mm_s1i d_Co_look_95 (sp_G_isWeatherN (by omega) ?_)
      rw [if_neg h8]
      refine mm_if_eqN d_Co_look_98 (by first | omega | exact ite01_lt | exact bt8_lt31 _ _ | exact godB_lt31 _ _ _ | exact pop_lt31 _ | assumption | exact b31 (hW.gp (by omega)) | exact b31 (hW.ne (by omega)) | exact b31 (hW.op (by omega)) | exact and31 (hW.gp (by omega)) | exact and31 (hW.ne (by omega)) | exact and31 (hW.op (by omega)) | exact and31 (by assumption) | exact and31r (hW.ne (by omega)) | exact and31r (hW.gp (by omega)) | exact and31r (by decide)) (fun c_98 => ?_) (fun c_98 => False.elim (by omega))
      refine mm_ci d_Co_look_110 ?_
      exact mm_ri d_Co_look_111 h
  · by_cases h8 : t % 10 < 8
    · rw [if_pos h8] at h
      refine mm_iload d_Co_look_0 rfl ?_
      refine mm_if_neN d_Co_look_1 (by first | omega | exact ite01_lt | exact bt8_lt31 _ _ | exact godB_lt31 _ _ _ | exact pop_lt31 _ | assumption | exact b31 (hW.gp (by omega)) | exact b31 (hW.ne (by omega)) | exact b31 (hW.op (by omega)) | exact and31 (hW.gp (by omega)) | exact and31 (hW.ne (by omega)) | exact and31 (hW.op (by omega)) | exact and31 (by assumption) | exact and31r (hW.ne (by omega)) | exact and31r (hW.gp (by omega)) | exact and31r (by decide)) (fun c_1 => ?_) (fun c_1 => False.elim (by omega))
      refine mm_iload d_Co_look_9 rfl ?_
      refine mm_ciN 1 d_Co_look_10 rfl ?_
      refine mm_icmp_neN d_Co_look_11 (by first | omega | exact ite01_lt | exact bt8_lt31 _ _ | exact godB_lt31 _ _ _ | exact pop_lt31 _ | assumption | exact b31 (hW.gp (by omega)) | exact b31 (hW.ne (by omega)) | exact b31 (hW.op (by omega)) | exact and31 (hW.gp (by omega)) | exact and31 (hW.ne (by omega)) | exact and31 (hW.op (by omega)) | exact and31 (by assumption) | exact and31r (hW.ne (by omega)) | exact and31r (hW.gp (by omega)) | exact and31r (by decide)) (by first | omega | exact ite01_lt | exact bt8_lt31 _ _ | exact godB_lt31 _ _ _ | exact pop_lt31 _ | assumption | exact b31 (hW.gp (by omega)) | exact b31 (hW.ne (by omega)) | exact b31 (hW.op (by omega)) | exact and31 (hW.gp (by omega)) | exact and31 (hW.ne (by omega)) | exact and31 (hW.op (by omega)) | exact and31 (by assumption) | exact and31r (hW.ne (by omega)) | exact and31r (hW.gp (by omega)) | exact and31r (by decide)) (fun c_11 => ?_) (fun c_11 => False.elim (by omega))
      refine mm_iload d_Co_look_19 rfl ?_
      refine mm_ciN 10 d_Co_look_20 rfl ?_
      refine mm_icmp_ltN d_Co_look_22 (by first | omega | exact ite01_lt | exact bt8_lt31 _ _ | exact godB_lt31 _ _ _ | exact pop_lt31 _ | assumption | exact b31 (hW.gp (by omega)) | exact b31 (hW.ne (by omega)) | exact b31 (hW.op (by omega)) | exact and31 (hW.gp (by omega)) | exact and31 (hW.ne (by omega)) | exact and31 (hW.op (by omega)) | exact and31 (by assumption) | exact and31r (hW.ne (by omega)) | exact and31r (hW.gp (by omega)) | exact and31r (by decide)) (by first | omega | exact ite01_lt | exact bt8_lt31 _ _ | exact godB_lt31 _ _ _ | exact pop_lt31 _ | assumption | exact b31 (hW.gp (by omega)) | exact b31 (hW.ne (by omega)) | exact b31 (hW.op (by omega)) | exact and31 (hW.gp (by omega)) | exact and31 (hW.ne (by omega)) | exact and31 (hW.op (by omega)) | exact and31 (by assumption) | exact and31r (hW.ne (by omega)) | exact and31r (hW.gp (by omega)) | exact and31r (by decide)) (fun c_22 => False.elim (by omega)) (fun c_22 => ?_)
      refine mm_iload d_Co_look_25 rfl ?_
      refine mm_ciN 69 d_Co_look_26 rfl ?_
      refine mm_icmp_leN d_Co_look_28 (by first | omega | exact ite01_lt | exact bt8_lt31 _ _ | exact godB_lt31 _ _ _ | exact pop_lt31 _ | assumption | exact b31 (hW.gp (by omega)) | exact b31 (hW.ne (by omega)) | exact b31 (hW.op (by omega)) | exact and31 (hW.gp (by omega)) | exact and31 (hW.ne (by omega)) | exact and31 (hW.op (by omega)) | exact and31 (by assumption) | exact and31r (hW.ne (by omega)) | exact and31r (hW.gp (by omega)) | exact and31r (by decide)) (by first | omega | exact ite01_lt | exact bt8_lt31 _ _ | exact godB_lt31 _ _ _ | exact pop_lt31 _ | assumption | exact b31 (hW.gp (by omega)) | exact b31 (hW.ne (by omega)) | exact b31 (hW.op (by omega)) | exact and31 (hW.gp (by omega)) | exact and31 (hW.ne (by omega)) | exact and31 (hW.op (by omega)) | exact and31 (by assumption) | exact and31r (hW.ne (by omega)) | exact and31r (hW.gp (by omega)) | exact and31r (by decide)) (fun c_28 => ?_) (fun c_28 => False.elim (by omega))
      refine mm_iload d_Co_look_33 rfl ?_
      refine mm_ciN 10 d_Co_look_34 rfl ?_
      refine mm_iremN d_Co_look_36 (by first | omega | exact ite01_lt | exact bt8_lt31 _ _ | exact godB_lt31 _ _ _ | exact pop_lt31 _ | assumption | exact b31 (hW.gp (by omega)) | exact b31 (hW.ne (by omega)) | exact b31 (hW.op (by omega)) | exact and31 (hW.gp (by omega)) | exact and31 (hW.ne (by omega)) | exact and31 (hW.op (by omega)) | exact and31 (by assumption) | exact and31r (hW.ne (by omega)) | exact and31r (hW.gp (by omega)) | exact and31r (by decide)) (by omega) (by omega) ?_
      refine mm_ist2 d_Co_look_37 ?_
      refine mm_iload d_Co_look_38 rfl ?_
      refine mm_ciN 10 d_Co_look_39 rfl ?_
      refine mm_idivN d_Co_look_41 (by first | omega | exact ite01_lt | exact bt8_lt31 _ _ | exact godB_lt31 _ _ _ | exact pop_lt31 _ | assumption | exact b31 (hW.gp (by omega)) | exact b31 (hW.ne (by omega)) | exact b31 (hW.op (by omega)) | exact and31 (hW.gp (by omega)) | exact and31 (hW.ne (by omega)) | exact and31 (hW.op (by omega)) | exact and31 (by assumption) | exact and31r (hW.ne (by omega)) | exact and31r (hW.gp (by omega)) | exact and31r (by decide)) (by omega) (by omega) ?_
      rw [e]
      refine mm_switchIn (n := 0) d_Co_look_42 2 (by decide) (by decide) rfl ?_
      refine mm_iload d_Co_look_112 rfl ?_
      refine mm_s1i d_Co_look_113 (sp_G_isWeatherN (by omega) ?_)
      rw [if_pos h8]
      refine mm_if_eqN d_Co_look_116 (by first | omega | exact ite01_lt | exact bt8_lt31 _ _ | exact godB_lt31 _ _ _ | exact pop_lt31 _ | assumption | exact b31 (hW.gp (by omega)) | exact b31 (hW.ne (by omega)) | exact b31 (hW.op (by omega)) | exact and31 (hW.gp (by omega)) | exact and31 (hW.ne (by omega)) | exact and31 (hW.op (by omega)) | exact and31 (by assumption) | exact and31r (hW.ne (by omega)) | exact and31r (hW.gp (by omega)) | exact and31r (by decide)) (fun c_116 => False.elim (by omega)) (fun c_116 => ?_)
      refine mm_aload d_Co_look_119 rfl ?_
      refine mm_getP d_Co_look_120 rfl hCD.1.1 (CoS_p2 hCD.1) ?_
      refine mm_iload d_Co_look_123 rfl ?_
      refine mm_ialdN d_Co_look_124 (CoS_a2 hCD.1) (by omega) (by decide) (hCD.f2 (by omega)) ?_
      refine mm_goto d_Co_look_125 ?_
      exact mm_ri d_Co_look_129 h
    · rw [if_neg h8] at h
      refine mm_iload d_Co_look_0 rfl ?_
      refine mm_if_neN d_Co_look_1 (by first | omega | exact ite01_lt | exact bt8_lt31 _ _ | exact godB_lt31 _ _ _ | exact pop_lt31 _ | assumption | exact b31 (hW.gp (by omega)) | exact b31 (hW.ne (by omega)) | exact b31 (hW.op (by omega)) | exact and31 (hW.gp (by omega)) | exact and31 (hW.ne (by omega)) | exact and31 (hW.op (by omega)) | exact and31 (by assumption) | exact and31r (hW.ne (by omega)) | exact and31r (hW.gp (by omega)) | exact and31r (by decide)) (fun c_1 => ?_) (fun c_1 => False.elim (by omega))
      refine mm_iload d_Co_look_9 rfl ?_
      refine mm_ciN 1 d_Co_look_10 rfl ?_
      refine mm_icmp_neN d_Co_look_11 (by first | omega | exact ite01_lt | exact bt8_lt31 _ _ | exact godB_lt31 _ _ _ | exact pop_lt31 _ | assumption | exact b31 (hW.gp (by omega)) | exact b31 (hW.ne (by omega)) | exact b31 (hW.op (by omega)) | exact and31 (hW.gp (by omega)) | exact and31 (hW.ne (by omega)) | exact and31 (hW.op (by omega)) | exact and31 (by assumption) | exact and31r (hW.ne (by omega)) | exact and31r (hW.gp (by omega)) | exact and31r (by decide)) (by first | omega | exact ite01_lt | exact bt8_lt31 _ _ | exact godB_lt31 _ _ _ | exact pop_lt31 _ | assumption | exact b31 (hW.gp (by omega)) | exact b31 (hW.ne (by omega)) | exact b31 (hW.op (by omega)) | exact and31 (hW.gp (by omega)) | exact and31 (hW.ne (by omega)) | exact and31 (hW.op (by omega)) | exact and31 (by assumption) | exact and31r (hW.ne (by omega)) | exact and31r (hW.gp (by omega)) | exact and31r (by decide)) (fun c_11 => ?_) (fun c_11 => False.elim (by omega))
      refine mm_iload d_Co_look_19 rfl ?_
      refine mm_ciN 10 d_Co_look_20 rfl ?_
      refine mm_icmp_ltN d_Co_look_22 (by first | omega | exact ite01_lt | exact bt8_lt31 _ _ | exact godB_lt31 _ _ _ | exact pop_lt31 _ | assumption | exact b31 (hW.gp (by omega)) | exact b31 (hW.ne (by omega)) | exact b31 (hW.op (by omega)) | exact and31 (hW.gp (by omega)) | exact and31 (hW.ne (by omega)) | exact and31 (hW.op (by omega)) | exact and31 (by assumption) | exact and31r (hW.ne (by omega)) | exact and31r (hW.gp (by omega)) | exact and31r (by decide)) (by first | omega | exact ite01_lt | exact bt8_lt31 _ _ | exact godB_lt31 _ _ _ | exact pop_lt31 _ | assumption | exact b31 (hW.gp (by omega)) | exact b31 (hW.ne (by omega)) | exact b31 (hW.op (by omega)) | exact and31 (hW.gp (by omega)) | exact and31 (hW.ne (by omega)) | exact and31 (hW.op (by omega)) | exact and31 (by assumption) | exact and31r (hW.ne (by omega)) | exact and31r (hW.gp (by omega)) | exact and31r (by decide)) (fun c_22 => False.elim (by omega)) (fun c_22 => ?_)
      refine mm_iload d_Co_look_25 rfl ?_
      refine mm_ciN 69 d_Co_look_26 rfl ?_
      refine mm_icmp_leN d_Co_look_28 (by first | omega | exact ite01_lt | exact bt8_lt31 _ _ | exact godB_lt31 _ _ _ | exact pop_lt31 _ | assumption | exact b31 (hW.gp (by omega)) | exact b31 (hW.ne (by omega)) | exact b31 (hW.op (by omega)) | exact and31 (hW.gp (by omega)) | exact and31 (hW.ne (by omega)) | exact and31 (hW.op (by omega)) | exact and31 (by assumption) | exact and31r (hW.ne (by omega)) | exact and31r (hW.gp (by omega)) | exact and31r (by decide)) (by first | omega | exact ite01_lt | exact bt8_lt31 _ _ | exact godB_lt31 _ _ _ | exact pop_lt31 _ | assumption | exact b31 (hW.gp (by omega)) | exact b31 (hW.ne (by omega)) | exact b31 (hW.op (by omega)) | exact and31 (hW.gp (by omega)) | exact and31 (hW.ne (by omega)) | exact and31 (hW.op (by omega)) | exact and31 (by assumption) | exact and31r (hW.ne (by omega)) | exact and31r (hW.gp (by omega)) | exact and31r (by decide)) (fun c_28 => ?_) (fun c_28 => False.elim (by omega))
      refine mm_iload d_Co_look_33 rfl ?_
      refine mm_ciN 10 d_Co_look_34 rfl ?_
      refine mm_iremN d_Co_look_36 (by first | omega | exact ite01_lt | exact bt8_lt31 _ _ | exact godB_lt31 _ _ _ | exact pop_lt31 _ | assumption | exact b31 (hW.gp (by omega)) | exact b31 (hW.ne (by omega)) | exact b31 (hW.op (by omega)) | exact and31 (hW.gp (by omega)) | exact and31 (hW.ne (by omega)) | exact and31 (hW.op (by omega)) | exact and31 (by assumption) | exact and31r (hW.ne (by omega)) | exact and31r (hW.gp (by omega)) | exact and31r (by decide)) (by omega) (by omega) ?_
      refine mm_ist2 d_Co_look_37 ?_
      refine mm_iload d_Co_look_38 rfl ?_
      refine mm_ciN 10 d_Co_look_39 rfl ?_
      refine mm_idivN d_Co_look_41 (by first | omega | exact ite01_lt | exact bt8_lt31 _ _ | exact godB_lt31 _ _ _ | exact pop_lt31 _ | assumption | exact b31 (hW.gp (by omega)) | exact b31 (hW.ne (by omega)) | exact b31 (hW.op (by omega)) | exact and31 (hW.gp (by omega)) | exact and31 (hW.ne (by omega)) | exact and31 (hW.op (by omega)) | exact and31 (by assumption) | exact and31r (hW.ne (by omega)) | exact and31r (hW.gp (by omega)) | exact and31r (by decide)) (by omega) (by omega) ?_
      rw [e]
      refine mm_switchIn (n := 0) d_Co_look_42 2 (by decide) (by decide) rfl ?_
      refine mm_iload d_Co_look_112 rfl ?_
      refine mm_s1i d_Co_look_113 (sp_G_isWeatherN (by omega) ?_)
      rw [if_neg h8]
      refine mm_if_eqN d_Co_look_116 (by first | omega | exact ite01_lt | exact bt8_lt31 _ _ | exact godB_lt31 _ _ _ | exact pop_lt31 _ | assumption | exact b31 (hW.gp (by omega)) | exact b31 (hW.ne (by omega)) | exact b31 (hW.op (by omega)) | exact and31 (hW.gp (by omega)) | exact and31 (hW.ne (by omega)) | exact and31 (hW.op (by omega)) | exact and31 (by assumption) | exact and31r (hW.ne (by omega)) | exact and31r (hW.gp (by omega)) | exact and31r (by decide)) (fun c_116 => ?_) (fun c_116 => False.elim (by omega))
      refine mm_ci d_Co_look_128 ?_
      exact mm_ri d_Co_look_129 h
  · by_cases h8 : t % 10 < dn D
    · rw [if_pos h8] at h
      refine mm_iload d_Co_look_0 rfl ?_
      refine mm_if_neN d_Co_look_1 (by first | omega | exact ite01_lt | exact bt8_lt31 _ _ | exact godB_lt31 _ _ _ | exact pop_lt31 _ | assumption | exact b31 (hW.gp (by omega)) | exact b31 (hW.ne (by omega)) | exact b31 (hW.op (by omega)) | exact and31 (hW.gp (by omega)) | exact and31 (hW.ne (by omega)) | exact and31 (hW.op (by omega)) | exact and31 (by assumption) | exact and31r (hW.ne (by omega)) | exact and31r (hW.gp (by omega)) | exact and31r (by decide)) (fun c_1 => ?_) (fun c_1 => False.elim (by omega))
      refine mm_iload d_Co_look_9 rfl ?_
      refine mm_ciN 1 d_Co_look_10 rfl ?_
      refine mm_icmp_neN d_Co_look_11 (by first | omega | exact ite01_lt | exact bt8_lt31 _ _ | exact godB_lt31 _ _ _ | exact pop_lt31 _ | assumption | exact b31 (hW.gp (by omega)) | exact b31 (hW.ne (by omega)) | exact b31 (hW.op (by omega)) | exact and31 (hW.gp (by omega)) | exact and31 (hW.ne (by omega)) | exact and31 (hW.op (by omega)) | exact and31 (by assumption) | exact and31r (hW.ne (by omega)) | exact and31r (hW.gp (by omega)) | exact and31r (by decide)) (by first | omega | exact ite01_lt | exact bt8_lt31 _ _ | exact godB_lt31 _ _ _ | exact pop_lt31 _ | assumption | exact b31 (hW.gp (by omega)) | exact b31 (hW.ne (by omega)) | exact b31 (hW.op (by omega)) | exact and31 (hW.gp (by omega)) | exact and31 (hW.ne (by omega)) | exact and31 (hW.op (by omega)) | exact and31 (by assumption) | exact and31r (hW.ne (by omega)) | exact and31r (hW.gp (by omega)) | exact and31r (by decide)) (fun c_11 => ?_) (fun c_11 => False.elim (by omega))
      refine mm_iload d_Co_look_19 rfl ?_
      refine mm_ciN 10 d_Co_look_20 rfl ?_
      refine mm_icmp_ltN d_Co_look_22 (by first | omega | exact ite01_lt | exact bt8_lt31 _ _ | exact godB_lt31 _ _ _ | exact pop_lt31 _ | assumption | exact b31 (hW.gp (by omega)) | exact b31 (hW.ne (by omega)) | exact b31 (hW.op (by omega)) | exact and31 (hW.gp (by omega)) | exact and31 (hW.ne (by omega)) | exact and31 (hW.op (by omega)) | exact and31 (by assumption) | exact and31r (hW.ne (by omega)) | exact and31r (hW.gp (by omega)) | exact and31r (by decide)) (by first | omega | exact ite01_lt | exact bt8_lt31 _ _ | exact godB_lt31 _ _ _ | exact pop_lt31 _ | assumption | exact b31 (hW.gp (by omega)) | exact b31 (hW.ne (by omega)) | exact b31 (hW.op (by omega)) | exact and31 (hW.gp (by omega)) | exact and31 (hW.ne (by omega)) | exact and31 (hW.op (by omega)) | exact and31 (by assumption) | exact and31r (hW.ne (by omega)) | exact and31r (hW.gp (by omega)) | exact and31r (by decide)) (fun c_22 => False.elim (by omega)) (fun c_22 => ?_)
      refine mm_iload d_Co_look_25 rfl ?_
      refine mm_ciN 69 d_Co_look_26 rfl ?_
      refine mm_icmp_leN d_Co_look_28 (by first | omega | exact ite01_lt | exact bt8_lt31 _ _ | exact godB_lt31 _ _ _ | exact pop_lt31 _ | assumption | exact b31 (hW.gp (by omega)) | exact b31 (hW.ne (by omega)) | exact b31 (hW.op (by omega)) | exact and31 (hW.gp (by omega)) | exact and31 (hW.ne (by omega)) | exact and31 (hW.op (by omega)) | exact and31 (by assumption) | exact and31r (hW.ne (by omega)) | exact and31r (hW.gp (by omega)) | exact and31r (by decide)) (by first | omega | exact ite01_lt | exact bt8_lt31 _ _ | exact godB_lt31 _ _ _ | exact pop_lt31 _ | assumption | exact b31 (hW.gp (by omega)) | exact b31 (hW.ne (by omega)) | exact b31 (hW.op (by omega)) | exact and31 (hW.gp (by omega)) | exact and31 (hW.ne (by omega)) | exact and31 (hW.op (by omega)) | exact and31 (by assumption) | exact and31r (hW.ne (by omega)) | exact and31r (hW.gp (by omega)) | exact and31r (by decide)) (fun c_28 => ?_) (fun c_28 => False.elim (by omega))
      refine mm_iload d_Co_look_33 rfl ?_
      refine mm_ciN 10 d_Co_look_34 rfl ?_
      refine mm_iremN d_Co_look_36 (by first | omega | exact ite01_lt | exact bt8_lt31 _ _ | exact godB_lt31 _ _ _ | exact pop_lt31 _ | assumption | exact b31 (hW.gp (by omega)) | exact b31 (hW.ne (by omega)) | exact b31 (hW.op (by omega)) | exact and31 (hW.gp (by omega)) | exact and31 (hW.ne (by omega)) | exact and31 (hW.op (by omega)) | exact and31 (by assumption) | exact and31r (hW.ne (by omega)) | exact and31r (hW.gp (by omega)) | exact and31r (by decide)) (by omega) (by omega) ?_
      refine mm_ist2 d_Co_look_37 ?_
      refine mm_iload d_Co_look_38 rfl ?_
      refine mm_ciN 10 d_Co_look_39 rfl ?_
      refine mm_idivN d_Co_look_41 (by first | omega | exact ite01_lt | exact bt8_lt31 _ _ | exact godB_lt31 _ _ _ | exact pop_lt31 _ | assumption | exact b31 (hW.gp (by omega)) | exact b31 (hW.ne (by omega)) | exact b31 (hW.op (by omega)) | exact and31 (hW.gp (by omega)) | exact and31 (hW.ne (by omega)) | exact and31 (hW.op (by omega)) | exact and31 (by assumption) | exact and31r (hW.ne (by omega)) | exact and31r (hW.gp (by omega)) | exact and31r (by decide)) (by omega) (by omega) ?_
      rw [e]
      refine mm_switchIn (n := 0) d_Co_look_42 3 (by decide) (by decide) rfl ?_
      refine mm_aload d_Co_look_130 rfl ?_
      refine mm_iload d_Co_look_131 rfl ?_
      refine mm_v1i d_Co_look_132 hCD.1.1 (sp_Co_hasChildN hCD (by omega) hW ?_)
      rw [if_pos h8]
      refine mm_if_eqN d_Co_look_135 (by first | omega | exact ite01_lt | exact bt8_lt31 _ _ | exact godB_lt31 _ _ _ | exact pop_lt31 _ | assumption | exact b31 (hW.gp (by omega)) | exact b31 (hW.ne (by omega)) | exact b31 (hW.op (by omega)) | exact and31 (hW.gp (by omega)) | exact and31 (hW.ne (by omega)) | exact and31 (hW.op (by omega)) | exact and31 (by assumption) | exact and31r (hW.ne (by omega)) | exact and31r (hW.gp (by omega)) | exact and31r (by decide)) (fun c_135 => False.elim (by omega)) (fun c_135 => ?_)
      refine mm_aload d_Co_look_138 rfl ?_
      refine mm_getP d_Co_look_139 rfl hCD.1.1 (CoS_p3 hCD.1) ?_
      refine mm_iload d_Co_look_142 rfl ?_
      refine mm_ialdN d_Co_look_143 (CoS_a3 hCD.1) (by omega) (by decide) (hCD.f3 (by omega)) ?_
      refine mm_goto d_Co_look_144 ?_
      exact mm_ri d_Co_look_148 h
    · rw [if_neg h8] at h
      refine mm_iload d_Co_look_0 rfl ?_
      refine mm_if_neN d_Co_look_1 (by first | omega | exact ite01_lt | exact bt8_lt31 _ _ | exact godB_lt31 _ _ _ | exact pop_lt31 _ | assumption | exact b31 (hW.gp (by omega)) | exact b31 (hW.ne (by omega)) | exact b31 (hW.op (by omega)) | exact and31 (hW.gp (by omega)) | exact and31 (hW.ne (by omega)) | exact and31 (hW.op (by omega)) | exact and31 (by assumption) | exact and31r (hW.ne (by omega)) | exact and31r (hW.gp (by omega)) | exact and31r (by decide)) (fun c_1 => ?_) (fun c_1 => False.elim (by omega))
      refine mm_iload d_Co_look_9 rfl ?_
      refine mm_ciN 1 d_Co_look_10 rfl ?_
      refine mm_icmp_neN d_Co_look_11 (by first | omega | exact ite01_lt | exact bt8_lt31 _ _ | exact godB_lt31 _ _ _ | exact pop_lt31 _ | assumption | exact b31 (hW.gp (by omega)) | exact b31 (hW.ne (by omega)) | exact b31 (hW.op (by omega)) | exact and31 (hW.gp (by omega)) | exact and31 (hW.ne (by omega)) | exact and31 (hW.op (by omega)) | exact and31 (by assumption) | exact and31r (hW.ne (by omega)) | exact and31r (hW.gp (by omega)) | exact and31r (by decide)) (by first | omega | exact ite01_lt | exact bt8_lt31 _ _ | exact godB_lt31 _ _ _ | exact pop_lt31 _ | assumption | exact b31 (hW.gp (by omega)) | exact b31 (hW.ne (by omega)) | exact b31 (hW.op (by omega)) | exact and31 (hW.gp (by omega)) | exact and31 (hW.ne (by omega)) | exact and31 (hW.op (by omega)) | exact and31 (by assumption) | exact and31r (hW.ne (by omega)) | exact and31r (hW.gp (by omega)) | exact and31r (by decide)) (fun c_11 => ?_) (fun c_11 => False.elim (by omega))
      refine mm_iload d_Co_look_19 rfl ?_
      refine mm_ciN 10 d_Co_look_20 rfl ?_
      refine mm_icmp_ltN d_Co_look_22 (by first | omega | exact ite01_lt | exact bt8_lt31 _ _ | exact godB_lt31 _ _ _ | exact pop_lt31 _ | assumption | exact b31 (hW.gp (by omega)) | exact b31 (hW.ne (by omega)) | exact b31 (hW.op (by omega)) | exact and31 (hW.gp (by omega)) | exact and31 (hW.ne (by omega)) | exact and31 (hW.op (by omega)) | exact and31 (by assumption) | exact and31r (hW.ne (by omega)) | exact and31r (hW.gp (by omega)) | exact and31r (by decide)) (by first | omega | exact ite01_lt | exact bt8_lt31 _ _ | exact godB_lt31 _ _ _ | exact pop_lt31 _ | assumption | exact b31 (hW.gp (by omega)) | exact b31 (hW.ne (by omega)) | exact b31 (hW.op (by omega)) | exact and31 (hW.gp (by omega)) | exact and31 (hW.ne (by omega)) | exact and31 (hW.op (by omega)) | exact and31 (by assumption) | exact and31r (hW.ne (by omega)) | exact and31r (hW.gp (by omega)) | exact and31r (by decide)) (fun c_22 => False.elim (by omega)) (fun c_22 => ?_)
      refine mm_iload d_Co_look_25 rfl ?_
      refine mm_ciN 69 d_Co_look_26 rfl ?_
      refine mm_icmp_leN d_Co_look_28 (by first | omega | exact ite01_lt | exact bt8_lt31 _ _ | exact godB_lt31 _ _ _ | exact pop_lt31 _ | assumption | exact b31 (hW.gp (by omega)) | exact b31 (hW.ne (by omega)) | exact b31 (hW.op (by omega)) | exact and31 (hW.gp (by omega)) | exact and31 (hW.ne (by omega)) | exact and31 (hW.op (by omega)) | exact and31 (by assumption) | exact and31r (hW.ne (by omega)) | exact and31r (hW.gp (by omega)) | exact and31r (by decide)) (by first | omega | exact ite01_lt | exact bt8_lt31 _ _ | exact godB_lt31 _ _ _ | exact pop_lt31 _ | assumption | exact b31 (hW.gp (by omega)) | exact b31 (hW.ne (by omega)) | exact b31 (hW.op (by omega)) | exact and31 (hW.gp (by omega)) | exact and31 (hW.ne (by omega)) | exact and31 (hW.op (by omega)) | exact and31 (by assumption) | exact and31r (hW.ne (by omega)) | exact and31r (hW.gp (by omega)) | exact and31r (by decide)) (fun c_28 => ?_) (fun c_28 => False.elim (by omega))
      refine mm_iload d_Co_look_33 rfl ?_
      refine mm_ciN 10 d_Co_look_34 rfl ?_
      refine mm_iremN d_Co_look_36 (by first | omega | exact ite01_lt | exact bt8_lt31 _ _ | exact godB_lt31 _ _ _ | exact pop_lt31 _ | assumption | exact b31 (hW.gp (by omega)) | exact b31 (hW.ne (by omega)) | exact b31 (hW.op (by omega)) | exact and31 (hW.gp (by omega)) | exact and31 (hW.ne (by omega)) | exact and31 (hW.op (by omega)) | exact and31 (by assumption) | exact and31r (hW.ne (by omega)) | exact and31r (hW.gp (by omega)) | exact and31r (by decide)) (by omega) (by omega) ?_
      refine mm_ist2 d_Co_look_37 ?_
      refine mm_iload d_Co_look_38 rfl ?_
      refine mm_ciN 10 d_Co_look_39 rfl ?_
      refine mm_idivN d_Co_look_41 (by first | omega | exact ite01_lt | exact bt8_lt31 _ _ | exact godB_lt31 _ _ _ | exact pop_lt31 _ | assumption | exact b31 (hW.gp (by omega)) | exact b31 (hW.ne (by omega)) | exact b31 (hW.op (by omega)) | exact and31 (hW.gp (by omega)) | exact and31 (hW.ne (by omega)) | exact and31 (hW.op (by omega)) | exact and31 (by assumption) | exact and31r (hW.ne (by omega)) | exact and31r (hW.gp (by omega)) | exact and31r (by decide)) (by omega) (by omega) ?_
      rw [e]
      refine mm_switchIn (n := 0) d_Co_look_42 3 (by decide) (by decide) rfl ?_
      refine mm_aload d_Co_look_130 rfl ?_
      refine mm_iload d_Co_look_131 rfl ?_
      refine mm_v1i d_Co_look_132 hCD.1.1 (sp_Co_hasChildN hCD (by omega) hW ?_)
      rw [if_neg h8]
      refine mm_if_eqN d_Co_look_135 (by first | omega | exact ite01_lt | exact bt8_lt31 _ _ | exact godB_lt31 _ _ _ | exact pop_lt31 _ | assumption | exact b31 (hW.gp (by omega)) | exact b31 (hW.ne (by omega)) | exact b31 (hW.op (by omega)) | exact and31 (hW.gp (by omega)) | exact and31 (hW.ne (by omega)) | exact and31 (hW.op (by omega)) | exact and31 (by assumption) | exact and31r (hW.ne (by omega)) | exact and31r (hW.gp (by omega)) | exact and31r (by decide)) (fun c_135 => ?_) (fun c_135 => False.elim (by omega))
      refine mm_ci d_Co_look_147 ?_
      exact mm_ri d_Co_look_148 h
  · by_cases h8 : t % 10 < dw D
    · rw [if_pos h8] at h
      refine mm_iload d_Co_look_0 rfl ?_
      refine mm_if_neN d_Co_look_1 (by first | omega | exact ite01_lt | exact bt8_lt31 _ _ | exact godB_lt31 _ _ _ | exact pop_lt31 _ | assumption | exact b31 (hW.gp (by omega)) | exact b31 (hW.ne (by omega)) | exact b31 (hW.op (by omega)) | exact and31 (hW.gp (by omega)) | exact and31 (hW.ne (by omega)) | exact and31 (hW.op (by omega)) | exact and31 (by assumption) | exact and31r (hW.ne (by omega)) | exact and31r (hW.gp (by omega)) | exact and31r (by decide)) (fun c_1 => ?_) (fun c_1 => False.elim (by omega))
      refine mm_iload d_Co_look_9 rfl ?_
      refine mm_ciN 1 d_Co_look_10 rfl ?_
      refine mm_icmp_neN d_Co_look_11 (by first | omega | exact ite01_lt | exact bt8_lt31 _ _ | exact godB_lt31 _ _ _ | exact pop_lt31 _ | assumption | exact b31 (hW.gp (by omega)) | exact b31 (hW.ne (by omega)) | exact b31 (hW.op (by omega)) | exact and31 (hW.gp (by omega)) | exact and31 (hW.ne (by omega)) | exact and31 (hW.op (by omega)) | exact and31 (by assumption) | exact and31r (hW.ne (by omega)) | exact and31r (hW.gp (by omega)) | exact and31r (by decide)) (by first | omega | exact ite01_lt | exact bt8_lt31 _ _ | exact godB_lt31 _ _ _ | exact pop_lt31 _ | assumption | exact b31 (hW.gp (by omega)) | exact b31 (hW.ne (by omega)) | exact b31 (hW.op (by omega)) | exact and31 (hW.gp (by omega)) | exact and31 (hW.ne (by omega)) | exact and31 (hW.op (by omega)) | exact and31 (by assumption) | exact and31r (hW.ne (by omega)) | exact and31r (hW.gp (by omega)) | exact and31r (by decide)) (fun c_11 => ?_) (fun c_11 => False.elim (by omega))
      refine mm_iload d_Co_look_19 rfl ?_
      refine mm_ciN 10 d_Co_look_20 rfl ?_
      refine mm_icmp_ltN d_Co_look_22 (by first | omega | exact ite01_lt | exact bt8_lt31 _ _ | exact godB_lt31 _ _ _ | exact pop_lt31 _ | assumption | exact b31 (hW.gp (by omega)) | exact b31 (hW.ne (by omega)) | exact b31 (hW.op (by omega)) | exact and31 (hW.gp (by omega)) | exact and31 (hW.ne (by omega)) | exact and31 (hW.op (by omega)) | exact and31 (by assumption) | exact and31r (hW.ne (by omega)) | exact and31r (hW.gp (by omega)) | exact and31r (by decide)) (by first | omega | exact ite01_lt | exact bt8_lt31 _ _ | exact godB_lt31 _ _ _ | exact pop_lt31 _ | assumption | exact b31 (hW.gp (by omega)) | exact b31 (hW.ne (by omega)) | exact b31 (hW.op (by omega)) | exact and31 (hW.gp (by omega)) | exact and31 (hW.ne (by omega)) | exact and31 (hW.op (by omega)) | exact and31 (by assumption) | exact and31r (hW.ne (by omega)) | exact and31r (hW.gp (by omega)) | exact and31r (by decide)) (fun c_22 => False.elim (by omega)) (fun c_22 => ?_)
      refine mm_iload d_Co_look_25 rfl ?_
      refine mm_ciN 69 d_Co_look_26 rfl ?_
      refine mm_icmp_leN d_Co_look_28 (by first | omega | exact ite01_lt | exact bt8_lt31 _ _ | exact godB_lt31 _ _ _ | exact pop_lt31 _ | assumption | exact b31 (hW.gp (by omega)) | exact b31 (hW.ne (by omega)) | exact b31 (hW.op (by omega)) | exact and31 (hW.gp (by omega)) | exact and31 (hW.ne (by omega)) | exact and31 (hW.op (by omega)) | exact and31 (by assumption) | exact and31r (hW.ne (by omega)) | exact and31r (hW.gp (by omega)) | exact and31r (by decide)) (by first | omega | exact ite01_lt | exact bt8_lt31 _ _ | exact godB_lt31 _ _ _ | exact pop_lt31 _ | assumption | exact b31 (hW.gp (by omega)) | exact b31 (hW.ne (by omega)) | exact b31 (hW.op (by omega)) | exact and31 (hW.gp (by omega)) | exact and31 (hW.ne (by omega)) | exact and31 (hW.op (by omega)) | exact and31 (by assumption) | exact and31r (hW.ne (by omega)) | exact and31r (hW.gp (by omega)) | exact and31r (by decide)) (fun c_28 => ?_) (fun c_28 => False.elim (by omega))
      refine mm_iload d_Co_look_33 rfl ?_
      refine mm_ciN 10 d_Co_look_34 rfl ?_
      refine mm_iremN d_Co_look_36 (by first | omega | exact ite01_lt | exact bt8_lt31 _ _ | exact godB_lt31 _ _ _ | exact pop_lt31 _ | assumption | exact b31 (hW.gp (by omega)) | exact b31 (hW.ne (by omega)) | exact b31 (hW.op (by omega)) | exact and31 (hW.gp (by omega)) | exact and31 (hW.ne (by omega)) | exact and31 (hW.op (by omega)) | exact and31 (by assumption) | exact and31r (hW.ne (by omega)) | exact and31r (hW.gp (by omega)) | exact and31r (by decide)) (by omega) (by omega) ?_
      refine mm_ist2 d_Co_look_37 ?_
      refine mm_iload d_Co_look_38 rfl ?_
      refine mm_ciN 10 d_Co_look_39 rfl ?_
      refine mm_idivN d_Co_look_41 (by first | omega | exact ite01_lt | exact bt8_lt31 _ _ | exact godB_lt31 _ _ _ | exact pop_lt31 _ | assumption | exact b31 (hW.gp (by omega)) | exact b31 (hW.ne (by omega)) | exact b31 (hW.op (by omega)) | exact and31 (hW.gp (by omega)) | exact and31 (hW.ne (by omega)) | exact and31 (hW.op (by omega)) | exact and31 (by assumption) | exact and31r (hW.ne (by omega)) | exact and31r (hW.gp (by omega)) | exact and31r (by decide)) (by omega) (by omega) ?_
      rw [e]
      refine mm_switchIn (n := 0) d_Co_look_42 4 (by decide) (by decide) rfl ?_
      refine mm_aload d_Co_look_149 rfl ?_
      refine mm_iload d_Co_look_150 rfl ?_
      refine mm_v1i d_Co_look_151 hCD.1.1 (sp_Co_hasWorkN hCD (by omega) hW ?_)
      rw [if_pos h8]
      refine mm_if_eqN d_Co_look_154 (by first | omega | exact ite01_lt | exact bt8_lt31 _ _ | exact godB_lt31 _ _ _ | exact pop_lt31 _ | assumption | exact b31 (hW.gp (by omega)) | exact b31 (hW.ne (by omega)) | exact b31 (hW.op (by omega)) | exact and31 (hW.gp (by omega)) | exact and31 (hW.ne (by omega)) | exact and31 (hW.op (by omega)) | exact and31 (by assumption) | exact and31r (hW.ne (by omega)) | exact and31r (hW.gp (by omega)) | exact and31r (by decide)) (fun c_154 => False.elim (by omega)) (fun c_154 => ?_)
      refine mm_aload d_Co_look_157 rfl ?_
      refine mm_getP d_Co_look_158 rfl hCD.1.1 (CoS_p4 hCD.1) ?_
      refine mm_iload d_Co_look_161 rfl ?_
      refine mm_ialdN d_Co_look_162 (CoS_a4 hCD.1) (by omega) (by decide) (hCD.f4 (by omega)) ?_
      refine mm_goto d_Co_look_163 ?_
      exact mm_ri d_Co_look_167 h
    · rw [if_neg h8] at h
      refine mm_iload d_Co_look_0 rfl ?_
      refine mm_if_neN d_Co_look_1 (by first | omega | exact ite01_lt | exact bt8_lt31 _ _ | exact godB_lt31 _ _ _ | exact pop_lt31 _ | assumption | exact b31 (hW.gp (by omega)) | exact b31 (hW.ne (by omega)) | exact b31 (hW.op (by omega)) | exact and31 (hW.gp (by omega)) | exact and31 (hW.ne (by omega)) | exact and31 (hW.op (by omega)) | exact and31 (by assumption) | exact and31r (hW.ne (by omega)) | exact and31r (hW.gp (by omega)) | exact and31r (by decide)) (fun c_1 => ?_) (fun c_1 => False.elim (by omega))
      refine mm_iload d_Co_look_9 rfl ?_
      refine mm_ciN 1 d_Co_look_10 rfl ?_
      refine mm_icmp_neN d_Co_look_11 (by first | omega | exact ite01_lt | exact bt8_lt31 _ _ | exact godB_lt31 _ _ _ | exact pop_lt31 _ | assumption | exact b31 (hW.gp (by omega)) | exact b31 (hW.ne (by omega)) | exact b31 (hW.op (by omega)) | exact and31 (hW.gp (by omega)) | exact and31 (hW.ne (by omega)) | exact and31 (hW.op (by omega)) | exact and31 (by assumption) | exact and31r (hW.ne (by omega)) | exact and31r (hW.gp (by omega)) | exact and31r (by decide)) (by first | omega | exact ite01_lt | exact bt8_lt31 _ _ | exact godB_lt31 _ _ _ | exact pop_lt31 _ | assumption | exact b31 (hW.gp (by omega)) | exact b31 (hW.ne (by omega)) | exact b31 (hW.op (by omega)) | exact and31 (hW.gp (by omega)) | exact and31 (hW.ne (by omega)) | exact and31 (hW.op (by omega)) | exact and31 (by assumption) | exact and31r (hW.ne (by omega)) | exact and31r (hW.gp (by omega)) | exact and31r (by decide)) (fun c_11 => ?_) (fun c_11 => False.elim (by omega))
      refine mm_iload d_Co_look_19 rfl ?_
      refine mm_ciN 10 d_Co_look_20 rfl ?_
      refine mm_icmp_ltN d_Co_look_22 (by first | omega | exact ite01_lt | exact bt8_lt31 _ _ | exact godB_lt31 _ _ _ | exact pop_lt31 _ | assumption | exact b31 (hW.gp (by omega)) | exact b31 (hW.ne (by omega)) | exact b31 (hW.op (by omega)) | exact and31 (hW.gp (by omega)) | exact and31 (hW.ne (by omega)) | exact and31 (hW.op (by omega)) | exact and31 (by assumption) | exact and31r (hW.ne (by omega)) | exact and31r (hW.gp (by omega)) | exact and31r (by decide)) (by first | omega | exact ite01_lt | exact bt8_lt31 _ _ | exact godB_lt31 _ _ _ | exact pop_lt31 _ | assumption | exact b31 (hW.gp (by omega)) | exact b31 (hW.ne (by omega)) | exact b31 (hW.op (by omega)) | exact and31 (hW.gp (by omega)) | exact and31 (hW.ne (by omega)) | exact and31 (hW.op (by omega)) | exact and31 (by assumption) | exact and31r (hW.ne (by omega)) | exact and31r (hW.gp (by omega)) | exact and31r (by decide)) (fun c_22 => False.elim (by omega)) (fun c_22 => ?_)
      refine mm_iload d_Co_look_25 rfl ?_
      refine mm_ciN 69 d_Co_look_26 rfl ?_
      refine mm_icmp_leN d_Co_look_28 (by first | omega | exact ite01_lt | exact bt8_lt31 _ _ | exact godB_lt31 _ _ _ | exact pop_lt31 _ | assumption | exact b31 (hW.gp (by omega)) | exact b31 (hW.ne (by omega)) | exact b31 (hW.op (by omega)) | exact and31 (hW.gp (by omega)) | exact and31 (hW.ne (by omega)) | exact and31 (hW.op (by omega)) | exact and31 (by assumption) | exact and31r (hW.ne (by omega)) | exact and31r (hW.gp (by omega)) | exact and31r (by decide)) (by first | omega | exact ite01_lt | exact bt8_lt31 _ _ | exact godB_lt31 _ _ _ | exact pop_lt31 _ | assumption | exact b31 (hW.gp (by omega)) | exact b31 (hW.ne (by omega)) | exact b31 (hW.op (by omega)) | exact and31 (hW.gp (by omega)) | exact and31 (hW.ne (by omega)) | exact and31 (hW.op (by omega)) | exact and31 (by assumption) | exact and31r (hW.ne (by omega)) | exact and31r (hW.gp (by omega)) | exact and31r (by decide)) (fun c_28 => ?_) (fun c_28 => False.elim (by omega))
      refine mm_iload d_Co_look_33 rfl ?_
      refine mm_ciN 10 d_Co_look_34 rfl ?_
      refine mm_iremN d_Co_look_36 (by first | omega | exact ite01_lt | exact bt8_lt31 _ _ | exact godB_lt31 _ _ _ | exact pop_lt31 _ | assumption | exact b31 (hW.gp (by omega)) | exact b31 (hW.ne (by omega)) | exact b31 (hW.op (by omega)) | exact and31 (hW.gp (by omega)) | exact and31 (hW.ne (by omega)) | exact and31 (hW.op (by omega)) | exact and31 (by assumption) | exact and31r (hW.ne (by omega)) | exact and31r (hW.gp (by omega)) | exact and31r (by decide)) (by omega) (by omega) ?_
      refine mm_ist2 d_Co_look_37 ?_
      refine mm_iload d_Co_look_38 rfl ?_
      refine mm_ciN 10 d_Co_look_39 rfl ?_
      refine mm_idivN d_Co_look_41 (by first | omega | exact ite01_lt | exact bt8_lt31 _ _ | exact godB_lt31 _ _ _ | exact pop_lt31 _ | assumption | exact b31 (hW.gp (by omega)) | exact b31 (hW.ne (by omega)) | exact b31 (hW.op (by omega)) | exact and31 (hW.gp (by omega)) | exact and31 (hW.ne (by omega)) | exact and31 (hW.op (by omega)) | exact and31 (by assumption) | exact and31r (hW.ne (by omega)) | exact and31r (hW.gp (by omega)) | exact and31r (by decide)) (by omega) (by omega) ?_
      rw [e]
      refine mm_switchIn (n := 0) d_Co_look_42 4 (by decide) (by decide) rfl ?_
      refine mm_aload d_Co_look_149 rfl ?_
      refine mm_iload d_Co_look_150 rfl ?_
      refine mm_v1i d_Co_look_151 hCD.1.1 (sp_Co_hasWorkN hCD (by omega) hW ?_)
      rw [if_neg h8]
      refine mm_if_eqN d_Co_look_154 (by first | omega | exact ite01_lt | exact bt8_lt31 _ _ | exact godB_lt31 _ _ _ | exact pop_lt31 _ | assumption | exact b31 (hW.gp (by omega)) | exact b31 (hW.ne (by omega)) | exact b31 (hW.op (by omega)) | exact and31 (hW.gp (by omega)) | exact and31 (hW.ne (by omega)) | exact and31 (hW.op (by omega)) | exact and31 (by assumption) | exact and31r (hW.ne (by omega)) | exact and31r (hW.gp (by omega)) | exact and31r (by decide)) (fun c_154 => ?_) (fun c_154 => False.elim (by omega))
      refine mm_ci d_Co_look_166 ?_
      exact mm_ri d_Co_look_167 h
  · by_cases h8 : t % 10 < dw D
    · rw [if_pos h8] at h
      refine mm_iload d_Co_look_0 rfl ?_
      refine mm_if_neN d_Co_look_1 (by first | omega | exact ite01_lt | exact bt8_lt31 _ _ | exact godB_lt31 _ _ _ | exact pop_lt31 _ | assumption | exact b31 (hW.gp (by omega)) | exact b31 (hW.ne (by omega)) | exact b31 (hW.op (by omega)) | exact and31 (hW.gp (by omega)) | exact and31 (hW.ne (by omega)) | exact and31 (hW.op (by omega)) | exact and31 (by assumption) | exact and31r (hW.ne (by omega)) | exact and31r (hW.gp (by omega)) | exact and31r (by decide)) (fun c_1 => ?_) (fun c_1 => False.elim (by omega))
      refine mm_iload d_Co_look_9 rfl ?_
      refine mm_ciN 1 d_Co_look_10 rfl ?_
      refine mm_icmp_neN d_Co_look_11 (by first | omega | exact ite01_lt | exact bt8_lt31 _ _ | exact godB_lt31 _ _ _ | exact pop_lt31 _ | assumption | exact b31 (hW.gp (by omega)) | exact b31 (hW.ne (by omega)) | exact b31 (hW.op (by omega)) | exact and31 (hW.gp (by omega)) | exact and31 (hW.ne (by omega)) | exact and31 (hW.op (by omega)) | exact and31 (by assumption) | exact and31r (hW.ne (by omega)) | exact and31r (hW.gp (by omega)) | exact and31r (by decide)) (by first | omega | exact ite01_lt | exact bt8_lt31 _ _ | exact godB_lt31 _ _ _ | exact pop_lt31 _ | assumption | exact b31 (hW.gp (by omega)) | exact b31 (hW.ne (by omega)) | exact b31 (hW.op (by omega)) | exact and31 (hW.gp (by omega)) | exact and31 (hW.ne (by omega)) | exact and31 (hW.op (by omega)) | exact and31 (by assumption) | exact and31r (hW.ne (by omega)) | exact and31r (hW.gp (by omega)) | exact and31r (by decide)) (fun c_11 => ?_) (fun c_11 => False.elim (by omega))
      refine mm_iload d_Co_look_19 rfl ?_
      refine mm_ciN 10 d_Co_look_20 rfl ?_
      refine mm_icmp_ltN d_Co_look_22 (by first | omega | exact ite01_lt | exact bt8_lt31 _ _ | exact godB_lt31 _ _ _ | exact pop_lt31 _ | assumption | exact b31 (hW.gp (by omega)) | exact b31 (hW.ne (by omega)) | exact b31 (hW.op (by omega)) | exact and31 (hW.gp (by omega)) | exact and31 (hW.ne (by omega)) | exact and31 (hW.op (by omega)) | exact and31 (by assumption) | exact and31r (hW.ne (by omega)) | exact and31r (hW.gp (by omega)) | exact and31r (by decide)) (by first | omega | exact ite01_lt | exact bt8_lt31 _ _ | exact godB_lt31 _ _ _ | exact pop_lt31 _ | assumption | exact b31 (hW.gp (by omega)) | exact b31 (hW.ne (by omega)) | exact b31 (hW.op (by omega)) | exact and31 (hW.gp (by omega)) | exact and31 (hW.ne (by omega)) | exact and31 (hW.op (by omega)) | exact and31 (by assumption) | exact and31r (hW.ne (by omega)) | exact and31r (hW.gp (by omega)) | exact and31r (by decide)) (fun c_22 => False.elim (by omega)) (fun c_22 => ?_)
      refine mm_iload d_Co_look_25 rfl ?_
      refine mm_ciN 69 d_Co_look_26 rfl ?_
      refine mm_icmp_leN d_Co_look_28 (by first | omega | exact ite01_lt | exact bt8_lt31 _ _ | exact godB_lt31 _ _ _ | exact pop_lt31 _ | assumption | exact b31 (hW.gp (by omega)) | exact b31 (hW.ne (by omega)) | exact b31 (hW.op (by omega)) | exact and31 (hW.gp (by omega)) | exact and31 (hW.ne (by omega)) | exact and31 (hW.op (by omega)) | exact and31 (by assumption) | exact and31r (hW.ne (by omega)) | exact and31r (hW.gp (by omega)) | exact and31r (by decide)) (by first | omega | exact ite01_lt | exact bt8_lt31 _ _ | exact godB_lt31 _ _ _ | exact pop_lt31 _ | assumption | exact b31 (hW.gp (by omega)) | exact b31 (hW.ne (by omega)) | exact b31 (hW.op (by omega)) | exact and31 (hW.gp (by omega)) | exact and31 (hW.ne (by omega)) | exact and31 (hW.op (by omega)) | exact and31 (by assumption) | exact and31r (hW.ne (by omega)) | exact and31r (hW.gp (by omega)) | exact and31r (by decide)) (fun c_28 => ?_) (fun c_28 => False.elim (by omega))
      refine mm_iload d_Co_look_33 rfl ?_
      refine mm_ciN 10 d_Co_look_34 rfl ?_
      refine mm_iremN d_Co_look_36 (by first | omega | exact ite01_lt | exact bt8_lt31 _ _ | exact godB_lt31 _ _ _ | exact pop_lt31 _ | assumption | exact b31 (hW.gp (by omega)) | exact b31 (hW.ne (by omega)) | exact b31 (hW.op (by omega)) | exact and31 (hW.gp (by omega)) | exact and31 (hW.ne (by omega)) | exact and31 (hW.op (by omega)) | exact and31 (by assumption) | exact and31r (hW.ne (by omega)) | exact and31r (hW.gp (by omega)) | exact and31r (by decide)) (by omega) (by omega) ?_
      refine mm_ist2 d_Co_look_37 ?_
      refine mm_iload d_Co_look_38 rfl ?_
      refine mm_ciN 10 d_Co_look_39 rfl ?_
      refine mm_idivN d_Co_look_41 (by first | omega | exact ite01_lt | exact bt8_lt31 _ _ | exact godB_lt31 _ _ _ | exact pop_lt31 _ | assumption | exact b31 (hW.gp (by omega)) | exact b31 (hW.ne (by omega)) | exact b31 (hW.op (by omega)) | exact and31 (hW.gp (by omega)) | exact and31 (hW.ne (by omega)) | exact and31 (hW.op (by omega)) | exact and31 (by assumption) | exact and31r (hW.ne (by omega)) | exact and31r (hW.gp (by omega)) | exact and31r (by decide)) (by omega) (by omega) ?_
      rw [e]
      refine mm_switchOut (n := 0) d_Co_look_42 (Or.inr (by decide)) ?_
      refine mm_aload d_Co_look_168 rfl ?_
      refine mm_iload d_Co_look_169 rfl ?_
      refine mm_v1i d_Co_look_170 hCD.1.1 (sp_Co_hasWorkN hCD (by omega) hW ?_)
      rw [if_pos h8]
      refine mm_if_eqN d_Co_look_173 (by first | omega | exact ite01_lt | exact bt8_lt31 _ _ | exact godB_lt31 _ _ _ | exact pop_lt31 _ | assumption | exact b31 (hW.gp (by omega)) | exact b31 (hW.ne (by omega)) | exact b31 (hW.op (by omega)) | exact and31 (hW.gp (by omega)) | exact and31 (hW.ne (by omega)) | exact and31 (hW.op (by omega)) | exact and31 (by assumption) | exact and31r (hW.ne (by omega)) | exact and31r (hW.gp (by omega)) | exact and31r (by decide)) (fun c_173 => False.elim (by omega)) (fun c_173 => ?_)
      refine mm_aload d_Co_look_176 rfl ?_
      refine mm_getP d_Co_look_177 rfl hCD.1.1 (CoS_p5 hCD.1) ?_
      refine mm_iload d_Co_look_180 rfl ?_
      refine mm_ialdN d_Co_look_181 (CoS_a5 hCD.1) (by omega) (by decide) (hCD.f5 (by omega)) ?_
      refine mm_goto d_Co_look_182 ?_
      exact mm_ri d_Co_look_186 h
    · rw [if_neg h8] at h
      refine mm_iload d_Co_look_0 rfl ?_
      refine mm_if_neN d_Co_look_1 (by first | omega | exact ite01_lt | exact bt8_lt31 _ _ | exact godB_lt31 _ _ _ | exact pop_lt31 _ | assumption | exact b31 (hW.gp (by omega)) | exact b31 (hW.ne (by omega)) | exact b31 (hW.op (by omega)) | exact and31 (hW.gp (by omega)) | exact and31 (hW.ne (by omega)) | exact and31 (hW.op (by omega)) | exact and31 (by assumption) | exact and31r (hW.ne (by omega)) | exact and31r (hW.gp (by omega)) | exact and31r (by decide)) (fun c_1 => ?_) (fun c_1 => False.elim (by omega))
      refine mm_iload d_Co_look_9 rfl ?_
      refine mm_ciN 1 d_Co_look_10 rfl ?_
      refine mm_icmp_neN d_Co_look_11 (by first | omega | exact ite01_lt | exact bt8_lt31 _ _ | exact godB_lt31 _ _ _ | exact pop_lt31 _ | assumption | exact b31 (hW.gp (by omega)) | exact b31 (hW.ne (by omega)) | exact b31 (hW.op (by omega)) | exact and31 (hW.gp (by omega)) | exact and31 (hW.ne (by omega)) | exact and31 (hW.op (by omega)) | exact and31 (by assumption) | exact and31r (hW.ne (by omega)) | exact and31r (hW.gp (by omega)) | exact and31r (by decide)) (by first | omega | exact ite01_lt | exact bt8_lt31 _ _ | exact godB_lt31 _ _ _ | exact pop_lt31 _ | assumption | exact b31 (hW.gp (by omega)) | exact b31 (hW.ne (by omega)) | exact b31 (hW.op (by omega)) | exact and31 (hW.gp (by omega)) | exact and31 (hW.ne (by omega)) | exact and31 (hW.op (by omega)) | exact and31 (by assumption) | exact and31r (hW.ne (by omega)) | exact and31r (hW.gp (by omega)) | exact and31r (by decide)) (fun c_11 => ?_) (fun c_11 => False.elim (by omega))
      refine mm_iload d_Co_look_19 rfl ?_
      refine mm_ciN 10 d_Co_look_20 rfl ?_
      refine mm_icmp_ltN d_Co_look_22 (by first | omega | exact ite01_lt | exact bt8_lt31 _ _ | exact godB_lt31 _ _ _ | exact pop_lt31 _ | assumption | exact b31 (hW.gp (by omega)) | exact b31 (hW.ne (by omega)) | exact b31 (hW.op (by omega)) | exact and31 (hW.gp (by omega)) | exact and31 (hW.ne (by omega)) | exact and31 (hW.op (by omega)) | exact and31 (by assumption) | exact and31r (hW.ne (by omega)) | exact and31r (hW.gp (by omega)) | exact and31r (by decide)) (by first | omega | exact ite01_lt | exact bt8_lt31 _ _ | exact godB_lt31 _ _ _ | exact pop_lt31 _ | assumption | exact b31 (hW.gp (by omega)) | exact b31 (hW.ne (by omega)) | exact b31 (hW.op (by omega)) | exact and31 (hW.gp (by omega)) | exact and31 (hW.ne (by omega)) | exact and31 (hW.op (by omega)) | exact and31 (by assumption) | exact and31r (hW.ne (by omega)) | exact and31r (hW.gp (by omega)) | exact and31r (by decide)) (fun c_22 => False.elim (by omega)) (fun c_22 => ?_)
      refine mm_iload d_Co_look_25 rfl ?_
      refine mm_ciN 69 d_Co_look_26 rfl ?_
      refine mm_icmp_leN d_Co_look_28 (by first | omega | exact ite01_lt | exact bt8_lt31 _ _ | exact godB_lt31 _ _ _ | exact pop_lt31 _ | assumption | exact b31 (hW.gp (by omega)) | exact b31 (hW.ne (by omega)) | exact b31 (hW.op (by omega)) | exact and31 (hW.gp (by omega)) | exact and31 (hW.ne (by omega)) | exact and31 (hW.op (by omega)) | exact and31 (by assumption) | exact and31r (hW.ne (by omega)) | exact and31r (hW.gp (by omega)) | exact and31r (by decide)) (by first | omega | exact ite01_lt | exact bt8_lt31 _ _ | exact godB_lt31 _ _ _ | exact pop_lt31 _ | assumption | exact b31 (hW.gp (by omega)) | exact b31 (hW.ne (by omega)) | exact b31 (hW.op (by omega)) | exact and31 (hW.gp (by omega)) | exact and31 (hW.ne (by omega)) | exact and31 (hW.op (by omega)) | exact and31 (by assumption) | exact and31r (hW.ne (by omega)) | exact and31r (hW.gp (by omega)) | exact and31r (by decide)) (fun c_28 => ?_) (fun c_28 => False.elim (by omega))
      refine mm_iload d_Co_look_33 rfl ?_
      refine mm_ciN 10 d_Co_look_34 rfl ?_
      refine mm_iremN d_Co_look_36 (by first | omega | exact ite01_lt | exact bt8_lt31 _ _ | exact godB_lt31 _ _ _ | exact pop_lt31 _ | assumption | exact b31 (hW.gp (by omega)) | exact b31 (hW.ne (by omega)) | exact b31 (hW.op (by omega)) | exact and31 (hW.gp (by omega)) | exact and31 (hW.ne (by omega)) | exact and31 (hW.op (by omega)) | exact and31 (by assumption) | exact and31r (hW.ne (by omega)) | exact and31r (hW.gp (by omega)) | exact and31r (by decide)) (by omega) (by omega) ?_
      refine mm_ist2 d_Co_look_37 ?_
      refine mm_iload d_Co_look_38 rfl ?_
      refine mm_ciN 10 d_Co_look_39 rfl ?_
      refine mm_idivN d_Co_look_41 (by first | omega | exact ite01_lt | exact bt8_lt31 _ _ | exact godB_lt31 _ _ _ | exact pop_lt31 _ | assumption | exact b31 (hW.gp (by omega)) | exact b31 (hW.ne (by omega)) | exact b31 (hW.op (by omega)) | exact and31 (hW.gp (by omega)) | exact and31 (hW.ne (by omega)) | exact and31 (hW.op (by omega)) | exact and31 (by assumption) | exact and31r (hW.ne (by omega)) | exact and31r (hW.gp (by omega)) | exact and31r (by decide)) (by omega) (by omega) ?_
      rw [e]
      refine mm_switchOut (n := 0) d_Co_look_42 (Or.inr (by decide)) ?_
      refine mm_aload d_Co_look_168 rfl ?_
      refine mm_iload d_Co_look_169 rfl ?_
      refine mm_v1i d_Co_look_170 hCD.1.1 (sp_Co_hasWorkN hCD (by omega) hW ?_)
      rw [if_neg h8]
      refine mm_if_eqN d_Co_look_173 (by first | omega | exact ite01_lt | exact bt8_lt31 _ _ | exact godB_lt31 _ _ _ | exact pop_lt31 _ | assumption | exact b31 (hW.gp (by omega)) | exact b31 (hW.ne (by omega)) | exact b31 (hW.op (by omega)) | exact and31 (hW.gp (by omega)) | exact and31 (hW.ne (by omega)) | exact and31 (hW.op (by omega)) | exact and31 (by assumption) | exact and31r (hW.ne (by omega)) | exact and31r (hW.gp (by omega)) | exact and31r (by decide)) (fun c_173 => ?_) (fun c_173 => False.elim (by omega))
      refine mm_ci d_Co_look_185 ?_
      exact mm_ri d_Co_look_186 h
theorem pair_coast {X : mm_X} {k : Nat} {μ : mm_M} (hJ : JJ k μ) (y1 y2 : Int32) : PairI X (JJ (k + 1)) k_G_coast k_M_coast [.int y1, .int y2] μ := by
  obtain ⟨c, h02, h0, m0, hv⟩ := hJ.coast y1
  have hM := hJ.1
  have hw := hJ.2.2.2.up
  rcases hv with hx | ⟨i, D, hi, rfl, hW, hCD, hDM⟩
  · exact pairQ (-1) hJ (d := 2) (d' := 4) (by decide) (by decide) (n_G_coast hM h0 h02 hx ⟨rfl, Fr.rf, hw⟩) (fun μ1 hf => n_M_coast (hf.2.2.2 hM) (by rw [(hf.2.2.1 76 rfl).1]; exact m0) h02 hx (fun μ' hk => ⟨rfl, hk.fr (hf.2.2.2 hM)⟩))
  have hn6 := hW.1
  have hw6 := hW.2.1
  rcases rng_or y2 (a := 0) (b := 69) (by decide) (by decide) with ⟨hz, hz2⟩ | ⟨t, -, ht, rfl⟩
  · refine pairQ (-1) hJ (d := 12) (d' := 12) (by decide) (by decide) ?_ (fun μ1 hf => ?_)
    · show mm_T X 12 0 0 k_G_coast 0 [some (.ref 0), some (.int (nI i)), some (.int y2), none] [] μ _
      have lk : ∀ q : Int32 → mm_M → Prop, q (-1) μ → mm_Ci X 1 0 0 k_Co_look [.ref (4 + 7 * i), .int y2] μ q := by
        intro q h
        generalize 4 + 7 * i = a at hCD ⊢
        show mm_T X 1 0 0 k_Co_look 0 [some (.ref a), some (.int y2), none] [] μ _
        refine mm_iload d_Co_look_0 rfl ?_
        refine mm_if_ne d_Co_look_1 (fun c_1 => ?_) (fun c_1 => False.elim (by rw [Decidable.not_not.mp c_1] at hz2; exact absurd hz2 (by decide)))
        refine mm_iload d_Co_look_9 rfl ?_
        refine mm_ciN 1 d_Co_look_10 rfl ?_
        refine mm_icmp_ne d_Co_look_11 (fun c_11 => ?_) (fun c_11 => False.elim (by rw [Decidable.not_not.mp c_11] at hz2; exact absurd hz2 (by decide)))
        refine mm_iload d_Co_look_19 rfl ?_
        refine mm_ciN 10 d_Co_look_20 rfl ?_
        refine mm_icmp_lt d_Co_look_22 (fun c_22 => ?_) (fun c_22 => ?_)
        · refine mm_ci d_Co_look_31 ?_
          exact mm_ri d_Co_look_32 h
        · refine mm_iload d_Co_look_25 rfl ?_
          refine mm_ciN 69 d_Co_look_26 rfl ?_
          refine mm_icmp_le d_Co_look_28 (fun c_28 => False.elim (rng_dead hz2 (fun z => c_22 (Int32.lt_trans z (by decide))) c_28)) (fun c_28 => ?_)
          refine mm_ci d_Co_look_31 ?_
          exact mm_ri d_Co_look_32 h
      refine mm_aload d_G_coast_0 rfl ?_
      refine mm_getP d_G_coast_1 rfl (sk_o_0 hM) (sk_p_0_0 hM) ?_
      refine mm_iload d_G_coast_4 rfl ?_
      refine mm_v1r d_G_coast_5 (sk_o_1 hM) (sp_To_coastAtI hM h0 h02 hi ?_)
      refine mm_ast3 d_G_coast_8 ?_
      refine mm_aload d_G_coast_9 rfl ?_
      refine mm_ifnonnull d_G_coast_10 ?_
      refine mm_aload d_G_coast_17 rfl ?_
      refine mm_iload d_G_coast_18 rfl ?_
      refine mm_v1i d_G_coast_19 hCD.1.1 (lk _ ?_)
      exact mm_ri d_G_coast_22 ⟨rfl, Fr.rf, hw⟩
    · show mm_T X 12 0 0 k_M_coast 0 [some (.ref 71), some (.int (nI i)), some (.int y2), none] [] μ1 _
      replace hM := hf.2.2.2 hM
      replace m0 : mm_I μ1 76 0 = nI c := by rw [(hf.2.2.1 76 rfl).1]; exact m0
      replace hDM := hDM.frC hf
      rcases hz2 with hz2 | hz2
      · have hd := div10_neg hz2
        by_cases hd0 : (y2 / nI 10).toInt = 0
        · refine mm_aload d_M_coast_0 rfl ?_
          refine mm_ciN 0 d_M_coast_1 rfl ?_
          refine mm_putI d_M_coast_2 rfl (sk_o_71 hM) (Or.inl rfl) ?_
          refine mm_aload d_M_coast_5 rfl ?_
          refine mm_iload d_M_coast_6 rfl ?_
          refine mm_v1i d_M_coast_7 (sk_o_71 hM) (sp_M_handN hM (by first | exact m0 | (rw [mm_sI_off (by decide)]; exact m0)) h02 hi (by first | exact hDM | exact hDM.eq (mm_sI_off (by decide))) hW (fun μ2 g1 hH hZ => ?_))
          replace hM := hH.1
          refine mm_if_neN d_M_coast_10 (by first | omega | exact ite01_lt | exact bt8_lt31 _ _ | exact godB_lt31 _ _ _ | exact pop_lt31 _ | assumption | exact b31 (hW.gp (by omega)) | exact b31 (hW.ne (by omega)) | exact b31 (hW.op (by omega)) | exact and31 (hW.gp (by omega)) | exact and31 (hW.ne (by omega)) | exact and31 (hW.op (by omega)) | exact and31 (by assumption) | exact and31r (hW.ne (by omega)) | exact and31r (hW.gp (by omega)) | exact and31r (by decide)) (fun c_10 => ?_) (fun c_10 => False.elim (by omega))
          refine mm_iload d_M_coast_15 rfl ?_
          refine mm_ciN 10 d_M_coast_16 rfl ?_
          refine mm_irem d_M_coast_18 (by decide) ?_
          refine mm_ist3 d_M_coast_19 ?_
          refine mm_iload d_M_coast_20 rfl ?_
          refine mm_ciN 10 d_M_coast_21 rfl ?_
          refine mm_idiv d_M_coast_23 (by decide) ?_
          refine mm_switchIn (n := 0) d_M_coast_24 0 (by rw [hd0]; rfl) (by decide) rfl ?_
          refine mm_iload d_M_coast_68 rfl ?_
          refine mm_ciN 0 d_M_coast_69 rfl ?_
          refine mm_ciN 1 d_M_coast_70 rfl ?_
          refine mm_s3i d_M_coast_71 (sp_M_in ?_)
          rw [show inG y2 (nI 0) (nI 1) = nI 0 from if_pos hz2]
          refine mm_if_eqN d_M_coast_74 (by first | omega | exact ite01_lt | exact bt8_lt31 _ _ | exact godB_lt31 _ _ _ | exact pop_lt31 _ | assumption | exact b31 (hW.gp (by omega)) | exact b31 (hW.ne (by omega)) | exact b31 (hW.op (by omega)) | exact and31 (hW.gp (by omega)) | exact and31 (hW.ne (by omega)) | exact and31 (hW.op (by omega)) | exact and31 (by assumption) | exact and31r (hW.ne (by omega)) | exact and31r (hW.gp (by omega)) | exact and31r (by decide)) (fun c_74 => ?_) (fun c_74 => False.elim (by omega))
          refine mm_ci d_M_coast_85 ?_
          exact mm_ri d_M_coast_86 ⟨rfl, (Fr.rf.sI rfl).trans g1⟩
        · refine mm_aload d_M_coast_0 rfl ?_
          refine mm_ciN 0 d_M_coast_1 rfl ?_
          refine mm_putI d_M_coast_2 rfl (sk_o_71 hM) (Or.inl rfl) ?_
          refine mm_aload d_M_coast_5 rfl ?_
          refine mm_iload d_M_coast_6 rfl ?_
          refine mm_v1i d_M_coast_7 (sk_o_71 hM) (sp_M_handN hM (by first | exact m0 | (rw [mm_sI_off (by decide)]; exact m0)) h02 hi (by first | exact hDM | exact hDM.eq (mm_sI_off (by decide))) hW (fun μ2 g1 hH hZ => ?_))
          replace hM := hH.1
          refine mm_if_neN d_M_coast_10 (by first | omega | exact ite01_lt | exact bt8_lt31 _ _ | exact godB_lt31 _ _ _ | exact pop_lt31 _ | assumption | exact b31 (hW.gp (by omega)) | exact b31 (hW.ne (by omega)) | exact b31 (hW.op (by omega)) | exact and31 (hW.gp (by omega)) | exact and31 (hW.ne (by omega)) | exact and31 (hW.op (by omega)) | exact and31 (by assumption) | exact and31r (hW.ne (by omega)) | exact and31r (hW.gp (by omega)) | exact and31r (by decide)) (fun c_10 => ?_) (fun c_10 => False.elim (by omega))
          refine mm_iload d_M_coast_15 rfl ?_
          refine mm_ciN 10 d_M_coast_16 rfl ?_
          refine mm_irem d_M_coast_18 (by decide) ?_
          refine mm_ist3 d_M_coast_19 ?_
          refine mm_iload d_M_coast_20 rfl ?_
          refine mm_ciN 10 d_M_coast_21 rfl ?_
          refine mm_idiv d_M_coast_23 (by decide) ?_
          refine mm_switchOut (n := 0) d_M_coast_24 (Or.inl (by omega)) ?_
          refine mm_ci d_M_coast_165 ?_
          exact mm_ri d_M_coast_166 ⟨rfl, (Fr.rf.sI rfl).trans g1⟩
      · have hd := div10_big hz2
        refine mm_aload d_M_coast_0 rfl ?_
        refine mm_ciN 0 d_M_coast_1 rfl ?_
        refine mm_putI d_M_coast_2 rfl (sk_o_71 hM) (Or.inl rfl) ?_
        refine mm_aload d_M_coast_5 rfl ?_
        refine mm_iload d_M_coast_6 rfl ?_
        refine mm_v1i d_M_coast_7 (sk_o_71 hM) (sp_M_handN hM (by first | exact m0 | (rw [mm_sI_off (by decide)]; exact m0)) h02 hi (by first | exact hDM | exact hDM.eq (mm_sI_off (by decide))) hW (fun μ2 g1 hH hZ => ?_))
        replace hM := hH.1
        refine mm_if_neN d_M_coast_10 (by first | omega | exact ite01_lt | exact bt8_lt31 _ _ | exact godB_lt31 _ _ _ | exact pop_lt31 _ | assumption | exact b31 (hW.gp (by omega)) | exact b31 (hW.ne (by omega)) | exact b31 (hW.op (by omega)) | exact and31 (hW.gp (by omega)) | exact and31 (hW.ne (by omega)) | exact and31 (hW.op (by omega)) | exact and31 (by assumption) | exact and31r (hW.ne (by omega)) | exact and31r (hW.gp (by omega)) | exact and31r (by decide)) (fun c_10 => ?_) (fun c_10 => False.elim (by omega))
        refine mm_iload d_M_coast_15 rfl ?_
        refine mm_ciN 10 d_M_coast_16 rfl ?_
        refine mm_irem d_M_coast_18 (by decide) ?_
        refine mm_ist3 d_M_coast_19 ?_
        refine mm_iload d_M_coast_20 rfl ?_
        refine mm_ciN 10 d_M_coast_21 rfl ?_
        refine mm_idiv d_M_coast_23 (by decide) ?_
        refine mm_switchOut (n := 0) d_M_coast_24 (Or.inr (by omega)) ?_
        refine mm_ci d_M_coast_165 ?_
        exact mm_ri d_M_coast_166 ⟨rfl, (Fr.rf.sI rfl).trans g1⟩
  · refine pairQ (lookR D t) hJ (d := 12) (d' := 12) (by decide) (by decide) ?_ (fun μ1 hf => ?_)
    · show mm_T X 12 0 0 k_G_coast 0 [some (.ref 0), some (.int (nI i)), some (.int (nI t)), none] [] μ _
      refine mm_aload d_G_coast_0 rfl ?_
      refine mm_getP d_G_coast_1 rfl (sk_o_0 hM) (sk_p_0_0 hM) ?_
      refine mm_iload d_G_coast_4 rfl ?_
      refine mm_v1r d_G_coast_5 (sk_o_1 hM) (sp_To_coastAtI hM h0 h02 hi ?_)
      refine mm_ast3 d_G_coast_8 ?_
      refine mm_aload d_G_coast_9 rfl ?_
      refine mm_ifnonnull d_G_coast_10 ?_
      refine mm_aload d_G_coast_17 rfl ?_
      refine mm_iload d_G_coast_18 rfl ?_
      refine mm_v1i d_G_coast_19 hCD.1.1 (sp_Co_look hCD hW ht ?_)
      exact mm_ri d_G_coast_22 ⟨rfl, Fr.rf, hw⟩
    · show mm_T X 12 0 0 k_M_coast 0 [some (.ref 71), some (.int (nI i)), some (.int (nI t)), none] [] μ1 _
      replace hM := hf.2.2.2 hM
      replace m0 : mm_I μ1 76 0 = nI c := by rw [(hf.2.2.1 76 rfl).1]; exact m0
      replace hDM := hDM.frC hf
      have h7 : t / 10 = 0 ∨ t / 10 = 1 ∨ t / 10 = 2 ∨ t / 10 = 3 ∨ t / 10 = 4 ∨ t / 10 = 5 ∨ t / 10 = 6 := by omega
      unfold lookR
      rcases h7 with e | e | e | e | e | e | e <;> simp only [e]
      · by_cases t2 : t ≤ 1
        · have t3 : t = 0 ∨ t = 1 := by omega
          rcases t3 with rfl | rfl
          · refine mm_aload d_M_coast_0 rfl ?_
            refine mm_ciN 0 d_M_coast_1 rfl ?_
            refine mm_putI d_M_coast_2 rfl (sk_o_71 hM) (Or.inl rfl) ?_
            refine mm_aload d_M_coast_5 rfl ?_
            refine mm_iload d_M_coast_6 rfl ?_
            refine mm_v1i d_M_coast_7 (sk_o_71 hM) (sp_M_handN hM (by first | exact m0 | (rw [mm_sI_off (by decide)]; exact m0)) h02 hi (by first | exact hDM | exact hDM.eq (mm_sI_off (by decide))) hW (fun μ2 g1 hH hZ => ?_))
            replace hM := hH.1
            refine mm_if_neN d_M_coast_10 (by first | omega | exact ite01_lt | exact bt8_lt31 _ _ | exact godB_lt31 _ _ _ | exact pop_lt31 _ | assumption | exact b31 (hW.gp (by omega)) | exact b31 (hW.ne (by omega)) | exact b31 (hW.op (by omega)) | exact and31 (hW.gp (by omega)) | exact and31 (hW.ne (by omega)) | exact and31 (hW.op (by omega)) | exact and31 (by assumption) | exact and31r (hW.ne (by omega)) | exact and31r (hW.gp (by omega)) | exact and31r (by decide)) (fun c_10 => ?_) (fun c_10 => False.elim (by omega))
            refine mm_iload d_M_coast_15 rfl ?_
            refine mm_ciN 10 d_M_coast_16 rfl ?_
            refine mm_iremN d_M_coast_18 (by first | omega | exact ite01_lt | exact bt8_lt31 _ _ | exact godB_lt31 _ _ _ | exact pop_lt31 _ | assumption | exact b31 (hW.gp (by omega)) | exact b31 (hW.ne (by omega)) | exact b31 (hW.op (by omega)) | exact and31 (hW.gp (by omega)) | exact and31 (hW.ne (by omega)) | exact and31 (hW.op (by omega)) | exact and31 (by assumption) | exact and31r (hW.ne (by omega)) | exact and31r (hW.gp (by omega)) | exact and31r (by decide)) (by omega) (by omega) ?_
            refine mm_ist3 d_M_coast_19 ?_
            refine mm_iload d_M_coast_20 rfl ?_
            refine mm_ciN 10 d_M_coast_21 rfl ?_
            refine mm_idivN d_M_coast_23 (by first | omega | exact ite01_lt | exact bt8_lt31 _ _ | exact godB_lt31 _ _ _ | exact pop_lt31 _ | assumption | exact b31 (hW.gp (by omega)) | exact b31 (hW.ne (by omega)) | exact b31 (hW.op (by omega)) | exact and31 (hW.gp (by omega)) | exact and31 (hW.ne (by omega)) | exact and31 (hW.op (by omega)) | exact and31 (by assumption) | exact and31r (hW.ne (by omega)) | exact and31r (hW.gp (by omega)) | exact and31r (by decide)) (by omega) (by omega) ?_
            rw [e]
            refine mm_switchIn (n := 0) d_M_coast_24 0 (by decide) (by decide) rfl ?_
            refine mm_iload d_M_coast_68 rfl ?_
            refine mm_ciN 0 d_M_coast_69 rfl ?_
            refine mm_ciN 1 d_M_coast_70 rfl ?_
            refine mm_s3i d_M_coast_71 (sp_M_inT (by omega) (by omega) (by omega) ?_)
            refine mm_if_eqN d_M_coast_74 (by first | omega | exact ite01_lt | exact bt8_lt31 _ _ | exact godB_lt31 _ _ _ | exact pop_lt31 _ | assumption | exact b31 (hW.gp (by omega)) | exact b31 (hW.ne (by omega)) | exact b31 (hW.op (by omega)) | exact and31 (hW.gp (by omega)) | exact and31 (hW.ne (by omega)) | exact and31 (hW.op (by omega)) | exact and31 (by assumption) | exact and31r (hW.ne (by omega)) | exact and31r (hW.gp (by omega)) | exact and31r (by decide)) (fun c_74 => False.elim (by omega)) (fun c_74 => ?_)
            refine mm_aload d_M_coast_77 rfl ?_
            refine mm_iload d_M_coast_78 rfl ?_
            refine mm_v1i d_M_coast_79 (sk_o_71 hM) (sp_M_ofN hH (by omega) hH.2.2.2.2.2.1.1 ?_)
            refine mm_goto d_M_coast_82 ?_
            exact mm_ri d_M_coast_86 ⟨rfl, (Fr.rf.sI rfl).trans g1⟩
          · refine mm_aload d_M_coast_0 rfl ?_
            refine mm_ciN 0 d_M_coast_1 rfl ?_
            refine mm_putI d_M_coast_2 rfl (sk_o_71 hM) (Or.inl rfl) ?_
            refine mm_aload d_M_coast_5 rfl ?_
            refine mm_iload d_M_coast_6 rfl ?_
            refine mm_v1i d_M_coast_7 (sk_o_71 hM) (sp_M_handN hM (by first | exact m0 | (rw [mm_sI_off (by decide)]; exact m0)) h02 hi (by first | exact hDM | exact hDM.eq (mm_sI_off (by decide))) hW (fun μ2 g1 hH hZ => ?_))
            replace hM := hH.1
            refine mm_if_neN d_M_coast_10 (by first | omega | exact ite01_lt | exact bt8_lt31 _ _ | exact godB_lt31 _ _ _ | exact pop_lt31 _ | assumption | exact b31 (hW.gp (by omega)) | exact b31 (hW.ne (by omega)) | exact b31 (hW.op (by omega)) | exact and31 (hW.gp (by omega)) | exact and31 (hW.ne (by omega)) | exact and31 (hW.op (by omega)) | exact and31 (by assumption) | exact and31r (hW.ne (by omega)) | exact and31r (hW.gp (by omega)) | exact and31r (by decide)) (fun c_10 => ?_) (fun c_10 => False.elim (by omega))
            refine mm_iload d_M_coast_15 rfl ?_
            refine mm_ciN 10 d_M_coast_16 rfl ?_
            refine mm_iremN d_M_coast_18 (by first | omega | exact ite01_lt | exact bt8_lt31 _ _ | exact godB_lt31 _ _ _ | exact pop_lt31 _ | assumption | exact b31 (hW.gp (by omega)) | exact b31 (hW.ne (by omega)) | exact b31 (hW.op (by omega)) | exact and31 (hW.gp (by omega)) | exact and31 (hW.ne (by omega)) | exact and31 (hW.op (by omega)) | exact and31 (by assumption) | exact and31r (hW.ne (by omega)) | exact and31r (hW.gp (by omega)) | exact and31r (by decide)) (by omega) (by omega) ?_
            refine mm_ist3 d_M_coast_19 ?_
            refine mm_iload d_M_coast_20 rfl ?_
            refine mm_ciN 10 d_M_coast_21 rfl ?_
            refine mm_idivN d_M_coast_23 (by first | omega | exact ite01_lt | exact bt8_lt31 _ _ | exact godB_lt31 _ _ _ | exact pop_lt31 _ | assumption | exact b31 (hW.gp (by omega)) | exact b31 (hW.ne (by omega)) | exact b31 (hW.op (by omega)) | exact and31 (hW.gp (by omega)) | exact and31 (hW.ne (by omega)) | exact and31 (hW.op (by omega)) | exact and31 (by assumption) | exact and31r (hW.ne (by omega)) | exact and31r (hW.gp (by omega)) | exact and31r (by decide)) (by omega) (by omega) ?_
            rw [e]
            refine mm_switchIn (n := 0) d_M_coast_24 0 (by decide) (by decide) rfl ?_
            refine mm_iload d_M_coast_68 rfl ?_
            refine mm_ciN 0 d_M_coast_69 rfl ?_
            refine mm_ciN 1 d_M_coast_70 rfl ?_
            refine mm_s3i d_M_coast_71 (sp_M_inT (by omega) (by omega) (by omega) ?_)
            refine mm_if_eqN d_M_coast_74 (by first | omega | exact ite01_lt | exact bt8_lt31 _ _ | exact godB_lt31 _ _ _ | exact pop_lt31 _ | assumption | exact b31 (hW.gp (by omega)) | exact b31 (hW.ne (by omega)) | exact b31 (hW.op (by omega)) | exact and31 (hW.gp (by omega)) | exact and31 (hW.ne (by omega)) | exact and31 (hW.op (by omega)) | exact and31 (by assumption) | exact and31r (hW.ne (by omega)) | exact and31r (hW.gp (by omega)) | exact and31r (by decide)) (fun c_74 => False.elim (by omega)) (fun c_74 => ?_)
            refine mm_aload d_M_coast_77 rfl ?_
            refine mm_iload d_M_coast_78 rfl ?_
            refine mm_v1i d_M_coast_79 (sk_o_71 hM) (sp_M_ofN hH (by omega) hH.2.2.2.2.2.1.2.1 ?_)
            refine mm_goto d_M_coast_82 ?_
            exact mm_ri d_M_coast_86 ⟨rfl, (Fr.rf.sI rfl).trans g1⟩
        · rw [if_neg (show ¬ t = 0 by omega), if_neg (show ¬ t = 1 by omega)]
          refine mm_aload d_M_coast_0 rfl ?_
          refine mm_ciN 0 d_M_coast_1 rfl ?_
          refine mm_putI d_M_coast_2 rfl (sk_o_71 hM) (Or.inl rfl) ?_
          refine mm_aload d_M_coast_5 rfl ?_
          refine mm_iload d_M_coast_6 rfl ?_
          refine mm_v1i d_M_coast_7 (sk_o_71 hM) (sp_M_handN hM (by first | exact m0 | (rw [mm_sI_off (by decide)]; exact m0)) h02 hi (by first | exact hDM | exact hDM.eq (mm_sI_off (by decide))) hW (fun μ2 g1 hH hZ => ?_))
          replace hM := hH.1
          refine mm_if_neN d_M_coast_10 (by first | omega | exact ite01_lt | exact bt8_lt31 _ _ | exact godB_lt31 _ _ _ | exact pop_lt31 _ | assumption | exact b31 (hW.gp (by omega)) | exact b31 (hW.ne (by omega)) | exact b31 (hW.op (by omega)) | exact and31 (hW.gp (by omega)) | exact and31 (hW.ne (by omega)) | exact and31 (hW.op (by omega)) | exact and31 (by assumption) | exact and31r (hW.ne (by omega)) | exact and31r (hW.gp (by omega)) | exact and31r (by decide)) (fun c_10 => ?_) (fun c_10 => False.elim (by omega))
          refine mm_iload d_M_coast_15 rfl ?_
          refine mm_ciN 10 d_M_coast_16 rfl ?_
          refine mm_iremN d_M_coast_18 (by first | omega | exact ite01_lt | exact bt8_lt31 _ _ | exact godB_lt31 _ _ _ | exact pop_lt31 _ | assumption | exact b31 (hW.gp (by omega)) | exact b31 (hW.ne (by omega)) | exact b31 (hW.op (by omega)) | exact and31 (hW.gp (by omega)) | exact and31 (hW.ne (by omega)) | exact and31 (hW.op (by omega)) | exact and31 (by assumption) | exact and31r (hW.ne (by omega)) | exact and31r (hW.gp (by omega)) | exact and31r (by decide)) (by omega) (by omega) ?_
          refine mm_ist3 d_M_coast_19 ?_
          refine mm_iload d_M_coast_20 rfl ?_
          refine mm_ciN 10 d_M_coast_21 rfl ?_
          refine mm_idivN d_M_coast_23 (by first | omega | exact ite01_lt | exact bt8_lt31 _ _ | exact godB_lt31 _ _ _ | exact pop_lt31 _ | assumption | exact b31 (hW.gp (by omega)) | exact b31 (hW.ne (by omega)) | exact b31 (hW.op (by omega)) | exact and31 (hW.gp (by omega)) | exact and31 (hW.ne (by omega)) | exact and31 (hW.op (by omega)) | exact and31 (by assumption) | exact and31r (hW.ne (by omega)) | exact and31r (hW.gp (by omega)) | exact and31r (by decide)) (by omega) (by omega) ?_
          rw [e]
          refine mm_switchIn (n := 0) d_M_coast_24 0 (by decide) (by decide) rfl ?_
          refine mm_iload d_M_coast_68 rfl ?_
          refine mm_ciN 0 d_M_coast_69 rfl ?_
          refine mm_ciN 1 d_M_coast_70 rfl ?_
          refine mm_s3i d_M_coast_71 (sp_M_inN (by omega) (by decide) (by decide) ?_)
          rw [if_neg (by omega)]
          refine mm_if_eqN d_M_coast_74 (by first | omega | exact ite01_lt | exact bt8_lt31 _ _ | exact godB_lt31 _ _ _ | exact pop_lt31 _ | assumption | exact b31 (hW.gp (by omega)) | exact b31 (hW.ne (by omega)) | exact b31 (hW.op (by omega)) | exact and31 (hW.gp (by omega)) | exact and31 (hW.ne (by omega)) | exact and31 (hW.op (by omega)) | exact and31 (by assumption) | exact and31r (hW.ne (by omega)) | exact and31r (hW.gp (by omega)) | exact and31r (by decide)) (fun c_74 => ?_) (fun c_74 => False.elim (by omega))
          refine mm_ci d_M_coast_85 ?_
          exact mm_ri d_M_coast_86 ⟨rfl, (Fr.rf.sI rfl).trans g1⟩
      · by_cases h8 : t % 10 < 8
        · rw [if_pos h8]
          refine mm_aload d_M_coast_0 rfl ?_
          refine mm_ciN 0 d_M_coast_1 rfl ?_
          refine mm_putI d_M_coast_2 rfl (sk_o_71 hM) (Or.inl rfl) ?_
          refine mm_aload d_M_coast_5 rfl ?_
          refine mm_iload d_M_coast_6 rfl ?_
          refine mm_v1i d_M_coast_7 (sk_o_71 hM) (sp_M_handN hM (by first | exact m0 | (rw [mm_sI_off (by decide)]; exact m0)) h02 hi (by first | exact hDM | exact hDM.eq (mm_sI_off (by decide))) hW (fun μ2 g1 hH hZ => ?_))
          replace hM := hH.1
          refine mm_if_neN d_M_coast_10 (by first | omega | exact ite01_lt | exact bt8_lt31 _ _ | exact godB_lt31 _ _ _ | exact pop_lt31 _ | assumption | exact b31 (hW.gp (by omega)) | exact b31 (hW.ne (by omega)) | exact b31 (hW.op (by omega)) | exact and31 (hW.gp (by omega)) | exact and31 (hW.ne (by omega)) | exact and31 (hW.op (by omega)) | exact and31 (by assumption) | exact and31r (hW.ne (by omega)) | exact and31r (hW.gp (by omega)) | exact and31r (by decide)) (fun c_10 => ?_) (fun c_10 => False.elim (by omega))
          refine mm_iload d_M_coast_15 rfl ?_
          refine mm_ciN 10 d_M_coast_16 rfl ?_
          refine mm_iremN d_M_coast_18 (by first | omega | exact ite01_lt | exact bt8_lt31 _ _ | exact godB_lt31 _ _ _ | exact pop_lt31 _ | assumption | exact b31 (hW.gp (by omega)) | exact b31 (hW.ne (by omega)) | exact b31 (hW.op (by omega)) | exact and31 (hW.gp (by omega)) | exact and31 (hW.ne (by omega)) | exact and31 (hW.op (by omega)) | exact and31 (by assumption) | exact and31r (hW.ne (by omega)) | exact and31r (hW.gp (by omega)) | exact and31r (by decide)) (by omega) (by omega) ?_
          refine mm_ist3 d_M_coast_19 ?_
          refine mm_iload d_M_coast_20 rfl ?_
          refine mm_ciN 10 d_M_coast_21 rfl ?_
          refine mm_idivN d_M_coast_23 (by first | omega | exact ite01_lt | exact bt8_lt31 _ _ | exact godB_lt31 _ _ _ | exact pop_lt31 _ | assumption | exact b31 (hW.gp (by omega)) | exact b31 (hW.ne (by omega)) | exact b31 (hW.op (by omega)) | exact and31 (hW.gp (by omega)) | exact and31 (hW.ne (by omega)) | exact and31 (hW.op (by omega)) | exact and31 (by assumption) | exact and31r (hW.ne (by omega)) | exact and31r (hW.gp (by omega)) | exact and31r (by decide)) (by omega) (by omega) ?_
          rw [e]
          refine mm_switchIn (n := 0) d_M_coast_24 1 (by decide) (by decide) rfl ?_
          refine mm_iload d_M_coast_87 rfl ?_
          refine mm_ciN 8 d_M_coast_88 rfl ?_
          refine mm_icmp_geN d_M_coast_90 (by first | omega | exact ite01_lt | exact bt8_lt31 _ _ | exact godB_lt31 _ _ _ | exact pop_lt31 _ | assumption | exact b31 (hW.gp (by omega)) | exact b31 (hW.ne (by omega)) | exact b31 (hW.op (by omega)) | exact and31 (hW.gp (by omega)) | exact and31 (hW.ne (by omega)) | exact and31 (hW.op (by omega)) | exact and31 (by assumption) | exact and31r (hW.ne (by omega)) | exact and31r (hW.gp (by omega)) | exact and31r (by decide)) (by first | omega | exact ite01_lt | exact bt8_lt31 _ _ | exact godB_lt31 _ _ _ | exact pop_lt31 _ | assumption | exact b31 (hW.gp (by omega)) | exact b31 (hW.ne (by omega)) | exact b31 (hW.op (by omega)) | exact and31 (hW.gp (by omega)) | exact and31 (hW.ne (by omega)) | exact and31 (hW.op (by omega)) | exact and31 (by assumption) | exact and31r (hW.ne (by omega)) | exact and31r (hW.gp (by omega)) | exact and31r (by decide)) (fun c_90 => False.elim (by omega)) (fun c_90 => ?_)
          refine mm_aload d_M_coast_93 rfl ?_
          refine mm_ciN 2 d_M_coast_94 rfl ?_
          refine mm_ciN 8 d_M_coast_95 rfl ?_
          refine mm_iload d_M_coast_97 rfl ?_
          refine mm_ciN 10 d_M_coast_98 rfl ?_
          refine mm_idivN d_M_coast_100 (by first | omega | exact ite01_lt | exact bt8_lt31 _ _ | exact godB_lt31 _ _ _ | exact pop_lt31 _ | assumption | exact b31 (hW.gp (by omega)) | exact b31 (hW.ne (by omega)) | exact b31 (hW.op (by omega)) | exact and31 (hW.gp (by omega)) | exact and31 (hW.ne (by omega)) | exact and31 (hW.op (by omega)) | exact and31 (by assumption) | exact and31r (hW.ne (by omega)) | exact and31r (hW.gp (by omega)) | exact and31r (by decide)) (by omega) (by omega) ?_
          refine mm_ciN 1 d_M_coast_101 rfl ?_
          refine mm_isubN d_M_coast_102 (by omega) ?_
          refine mm_imulN d_M_coast_103 ?_
          refine mm_iaddN d_M_coast_104 ?_
          refine mm_iload d_M_coast_105 rfl ?_
          refine mm_iaddN d_M_coast_106 ?_
          refine mm_v1i d_M_coast_107 (sk_o_71 hM) (sp_M_ofN hH (by omega) (by rw [e]; exact hH.f0 h8) ?_)
          refine mm_goto d_M_coast_110 ?_
          exact mm_ri d_M_coast_114 ⟨rfl, (Fr.rf.sI rfl).trans g1⟩
        · rw [if_neg h8]
          refine mm_aload d_M_coast_0 rfl ?_
          refine mm_ciN 0 d_M_coast_1 rfl ?_
          refine mm_putI d_M_coast_2 rfl (sk_o_71 hM) (Or.inl rfl) ?_
          refine mm_aload d_M_coast_5 rfl ?_
          refine mm_iload d_M_coast_6 rfl ?_
          refine mm_v1i d_M_coast_7 (sk_o_71 hM) (sp_M_handN hM (by first | exact m0 | (rw [mm_sI_off (by decide)]; exact m0)) h02 hi (by first | exact hDM | exact hDM.eq (mm_sI_off (by decide))) hW (fun μ2 g1 hH hZ => ?_))
          replace hM := hH.1
          refine mm_if_neN d_M_coast_10 (by first | omega | exact ite01_lt | exact bt8_lt31 _ _ | exact godB_lt31 _ _ _ | exact pop_lt31 _ | assumption | exact b31 (hW.gp (by omega)) | exact b31 (hW.ne (by omega)) | exact b31 (hW.op (by omega)) | exact and31 (hW.gp (by omega)) | exact and31 (hW.ne (by omega)) | exact and31 (hW.op (by omega)) | exact and31 (by assumption) | exact and31r (hW.ne (by omega)) | exact and31r (hW.gp (by omega)) | exact and31r (by decide)) (fun c_10 => ?_) (fun c_10 => False.elim (by omega))
          refine mm_iload d_M_coast_15 rfl ?_
          refine mm_ciN 10 d_M_coast_16 rfl ?_
          refine mm_iremN d_M_coast_18 (by first | omega | exact ite01_lt | exact bt8_lt31 _ _ | exact godB_lt31 _ _ _ | exact pop_lt31 _ | assumption | exact b31 (hW.gp (by omega)) | exact b31 (hW.ne (by omega)) | exact b31 (hW.op (by omega)) | exact and31 (hW.gp (by omega)) | exact and31 (hW.ne (by omega)) | exact and31 (hW.op (by omega)) | exact and31 (by assumption) | exact and31r (hW.ne (by omega)) | exact and31r (hW.gp (by omega)) | exact and31r (by decide)) (by omega) (by omega) ?_
          refine mm_ist3 d_M_coast_19 ?_
          refine mm_iload d_M_coast_20 rfl ?_
          refine mm_ciN 10 d_M_coast_21 rfl ?_
          refine mm_idivN d_M_coast_23 (by first | omega | exact ite01_lt | exact bt8_lt31 _ _ | exact godB_lt31 _ _ _ | exact pop_lt31 _ | assumption | exact b31 (hW.gp (by omega)) | exact b31 (hW.ne (by omega)) | exact b31 (hW.op (by omega)) | exact and31 (hW.gp (by omega)) | exact and31 (hW.ne (by omega)) | exact and31 (hW.op (by omega)) | exact and31 (by assumption) | exact and31r (hW.ne (by omega)) | exact and31r (hW.gp (by omega)) | exact and31r (by decide)) (by omega) (by omega) ?_
          rw [e]
          refine mm_switchIn (n := 0) d_M_coast_24 1 (by decide) (by decide) rfl ?_
          refine mm_iload d_M_coast_87 rfl ?_
          refine mm_ciN 8 d_M_coast_88 rfl ?_
          refine mm_icmp_geN d_M_coast_90 (by first | omega | exact ite01_lt | exact bt8_lt31 _ _ | exact godB_lt31 _ _ _ | exact pop_lt31 _ | assumption | exact b31 (hW.gp (by omega)) | exact b31 (hW.ne (by omega)) | exact b31 (hW.op (by omega)) | exact and31 (hW.gp (by omega)) | exact and31 (hW.ne (by omega)) | exact and31 (hW.op (by omega)) | exact and31 (by assumption) | exact and31r (hW.ne (by omega)) | exact and31r (hW.gp (by omega)) | exact and31r (by decide)) (by first | omega | exact ite01_lt | exact bt8_lt31 _ _ | exact godB_lt31 _ _ _ | exact pop_lt31 _ | assumption | exact b31 (hW.gp (by omega)) | exact b31 (hW.ne (by omega)) | exact b31 (hW.op (by omega)) | exact and31 (hW.gp (by omega)) | exact and31 (hW.ne (by omega)) | exact and31 (hW.op (by omega)) | exact and31 (by assumption) | exact and31r (hW.ne (by omega)) | exact and31r (hW.gp (by omega)) | exact and31r (by decide)) (fun c_90 => ?_) (fun c_90 => False.elim (by omega))
          refine mm_ci d_M_coast_113 ?_
          exact mm_ri d_M_coast_114 ⟨rfl, (Fr.rf.sI rfl).trans g1⟩
      · by_cases h8 : t % 10 < 8
        · rw [if_pos h8]
          refine mm_aload d_M_coast_0 rfl ?_
          refine mm_ciN 0 d_M_coast_1 rfl ?_
          refine mm_putI d_M_coast_2 rfl (sk_o_71 hM) (Or.inl rfl) ?_
          refine mm_aload d_M_coast_5 rfl ?_
          refine mm_iload d_M_coast_6 rfl ?_
          refine mm_v1i d_M_coast_7 (sk_o_71 hM) (sp_M_handN hM (by first | exact m0 | (rw [mm_sI_off (by decide)]; exact m0)) h02 hi (by first | exact hDM | exact hDM.eq (mm_sI_off (by decide))) hW (fun μ2 g1 hH hZ => ?_))
          replace hM := hH.1
          refine mm_if_neN d_M_coast_10 (by first | omega | exact ite01_lt | exact bt8_lt31 _ _ | exact godB_lt31 _ _ _ | exact pop_lt31 _ | assumption | exact b31 (hW.gp (by omega)) | exact b31 (hW.ne (by omega)) | exact b31 (hW.op (by omega)) | exact and31 (hW.gp (by omega)) | exact and31 (hW.ne (by omega)) | exact and31 (hW.op (by omega)) | exact and31 (by assumption) | exact and31r (hW.ne (by omega)) | exact and31r (hW.gp (by omega)) | exact and31r (by decide)) (fun c_10 => ?_) (fun c_10 => False.elim (by omega))
          refine mm_iload d_M_coast_15 rfl ?_
          refine mm_ciN 10 d_M_coast_16 rfl ?_
          refine mm_iremN d_M_coast_18 (by first | omega | exact ite01_lt | exact bt8_lt31 _ _ | exact godB_lt31 _ _ _ | exact pop_lt31 _ | assumption | exact b31 (hW.gp (by omega)) | exact b31 (hW.ne (by omega)) | exact b31 (hW.op (by omega)) | exact and31 (hW.gp (by omega)) | exact and31 (hW.ne (by omega)) | exact and31 (hW.op (by omega)) | exact and31 (by assumption) | exact and31r (hW.ne (by omega)) | exact and31r (hW.gp (by omega)) | exact and31r (by decide)) (by omega) (by omega) ?_
          refine mm_ist3 d_M_coast_19 ?_
          refine mm_iload d_M_coast_20 rfl ?_
          refine mm_ciN 10 d_M_coast_21 rfl ?_
          refine mm_idivN d_M_coast_23 (by first | omega | exact ite01_lt | exact bt8_lt31 _ _ | exact godB_lt31 _ _ _ | exact pop_lt31 _ | assumption | exact b31 (hW.gp (by omega)) | exact b31 (hW.ne (by omega)) | exact b31 (hW.op (by omega)) | exact and31 (hW.gp (by omega)) | exact and31 (hW.ne (by omega)) | exact and31 (hW.op (by omega)) | exact and31 (by assumption) | exact and31r (hW.ne (by omega)) | exact and31r (hW.gp (by omega)) | exact and31r (by decide)) (by omega) (by omega) ?_
          rw [e]
          refine mm_switchIn (n := 0) d_M_coast_24 2 (by decide) (by decide) rfl ?_
          refine mm_iload d_M_coast_87 rfl ?_
          refine mm_ciN 8 d_M_coast_88 rfl ?_
          refine mm_icmp_geN d_M_coast_90 (by first | omega | exact ite01_lt | exact bt8_lt31 _ _ | exact godB_lt31 _ _ _ | exact pop_lt31 _ | assumption | exact b31 (hW.gp (by omega)) | exact b31 (hW.ne (by omega)) | exact b31 (hW.op (by omega)) | exact and31 (hW.gp (by omega)) | exact and31 (hW.ne (by omega)) | exact and31 (hW.op (by omega)) | exact and31 (by assumption) | exact and31r (hW.ne (by omega)) | exact and31r (hW.gp (by omega)) | exact and31r (by decide)) (by first | omega | exact ite01_lt | exact bt8_lt31 _ _ | exact godB_lt31 _ _ _ | exact pop_lt31 _ | assumption | exact b31 (hW.gp (by omega)) | exact b31 (hW.ne (by omega)) | exact b31 (hW.op (by omega)) | exact and31 (hW.gp (by omega)) | exact and31 (hW.ne (by omega)) | exact and31 (hW.op (by omega)) | exact and31 (by assumption) | exact and31r (hW.ne (by omega)) | exact and31r (hW.gp (by omega)) | exact and31r (by decide)) (fun c_90 => False.elim (by omega)) (fun c_90 => ?_)
          refine mm_aload d_M_coast_93 rfl ?_
          refine mm_ciN 2 d_M_coast_94 rfl ?_
          refine mm_ciN 8 d_M_coast_95 rfl ?_
          refine mm_iload d_M_coast_97 rfl ?_
          refine mm_ciN 10 d_M_coast_98 rfl ?_
          refine mm_idivN d_M_coast_100 (by first | omega | exact ite01_lt | exact bt8_lt31 _ _ | exact godB_lt31 _ _ _ | exact pop_lt31 _ | assumption | exact b31 (hW.gp (by omega)) | exact b31 (hW.ne (by omega)) | exact b31 (hW.op (by omega)) | exact and31 (hW.gp (by omega)) | exact and31 (hW.ne (by omega)) | exact and31 (hW.op (by omega)) | exact and31 (by assumption) | exact and31r (hW.ne (by omega)) | exact and31r (hW.gp (by omega)) | exact and31r (by decide)) (by omega) (by omega) ?_
          refine mm_ciN 1 d_M_coast_101 rfl ?_
          refine mm_isubN d_M_coast_102 (by omega) ?_
          refine mm_imulN d_M_coast_103 ?_
          refine mm_iaddN d_M_coast_104 ?_
          refine mm_iload d_M_coast_105 rfl ?_
          refine mm_iaddN d_M_coast_106 ?_
          refine mm_v1i d_M_coast_107 (sk_o_71 hM) (sp_M_ofN hH (by omega) (by rw [e]; exact hH.f1 h8) ?_)
          refine mm_goto d_M_coast_110 ?_
          exact mm_ri d_M_coast_114 ⟨rfl, (Fr.rf.sI rfl).trans g1⟩
        · rw [if_neg h8]
          refine mm_aload d_M_coast_0 rfl ?_
          refine mm_ciN 0 d_M_coast_1 rfl ?_
          refine mm_putI d_M_coast_2 rfl (sk_o_71 hM) (Or.inl rfl) ?_
          refine mm_aload d_M_coast_5 rfl ?_
          refine mm_iload d_M_coast_6 rfl ?_
          refine mm_v1i d_M_coast_7 (sk_o_71 hM) (sp_M_handN hM (by first | exact m0 | (rw [mm_sI_off (by decide)]; exact m0)) h02 hi (by first | exact hDM | exact hDM.eq (mm_sI_off (by decide))) hW (fun μ2 g1 hH hZ => ?_))
          replace hM := hH.1
          refine mm_if_neN d_M_coast_10 (by first | omega | exact ite01_lt | exact bt8_lt31 _ _ | exact godB_lt31 _ _ _ | exact pop_lt31 _ | assumption | exact b31 (hW.gp (by omega)) | exact b31 (hW.ne (by omega)) | exact b31 (hW.op (by omega)) | exact and31 (hW.gp (by omega)) | exact and31 (hW.ne (by omega)) | exact and31 (hW.op (by omega)) | exact and31 (by assumption) | exact and31r (hW.ne (by omega)) | exact and31r (hW.gp (by omega)) | exact and31r (by decide)) (fun c_10 => ?_) (fun c_10 => False.elim (by omega))
          refine mm_iload d_M_coast_15 rfl ?_
          refine mm_ciN 10 d_M_coast_16 rfl ?_
          refine mm_iremN d_M_coast_18 (by first | omega | exact ite01_lt | exact bt8_lt31 _ _ | exact godB_lt31 _ _ _ | exact pop_lt31 _ | assumption | exact b31 (hW.gp (by omega)) | exact b31 (hW.ne (by omega)) | exact b31 (hW.op (by omega)) | exact and31 (hW.gp (by omega)) | exact and31 (hW.ne (by omega)) | exact and31 (hW.op (by omega)) | exact and31 (by assumption) | exact and31r (hW.ne (by omega)) | exact and31r (hW.gp (by omega)) | exact and31r (by decide)) (by omega) (by omega) ?_
          refine mm_ist3 d_M_coast_19 ?_
          refine mm_iload d_M_coast_20 rfl ?_
          refine mm_ciN 10 d_M_coast_21 rfl ?_
          refine mm_idivN d_M_coast_23 (by first | omega | exact ite01_lt | exact bt8_lt31 _ _ | exact godB_lt31 _ _ _ | exact pop_lt31 _ | assumption | exact b31 (hW.gp (by omega)) | exact b31 (hW.ne (by omega)) | exact b31 (hW.op (by omega)) | exact and31 (hW.gp (by omega)) | exact and31 (hW.ne (by omega)) | exact and31 (hW.op (by omega)) | exact and31 (by assumption) | exact and31r (hW.ne (by omega)) | exact and31r (hW.gp (by omega)) | exact and31r (by decide)) (by omega) (by omega) ?_
          rw [e]
          refine mm_switchIn (n := 0) d_M_coast_24 2 (by decide) (by decide) rfl ?_
          refine mm_iload d_M_coast_87 rfl ?_
          refine mm_ciN 8 d_M_coast_88 rfl ?_
          refine mm_icmp_geN d_M_coast_90 (by first | omega | exact ite01_lt | exact bt8_lt31 _ _ | exact godB_lt31 _ _ _ | exact pop_lt31 _ | assumption | exact b31 (hW.gp (by omega)) | exact b31 (hW.ne (by omega)) | exact b31 (hW.op (by omega)) | exact and31 (hW.gp (by omega)) | exact and31 (hW.ne (by omega)) | exact and31 (hW.op (by omega)) | exact and31 (by assumption) | exact and31r (hW.ne (by omega)) | exact and31r (hW.gp (by omega)) | exact and31r (by decide)) (by first | omega | exact ite01_lt | exact bt8_lt31 _ _ | exact godB_lt31 _ _ _ | exact pop_lt31 _ | assumption | exact b31 (hW.gp (by omega)) | exact b31 (hW.ne (by omega)) | exact b31 (hW.op (by omega)) | exact and31 (hW.gp (by omega)) | exact and31 (hW.ne (by omega)) | exact and31 (hW.op (by omega)) | exact and31 (by assumption) | exact and31r (hW.ne (by omega)) | exact and31r (hW.gp (by omega)) | exact and31r (by decide)) (fun c_90 => ?_) (fun c_90 => False.elim (by omega))
          refine mm_ci d_M_coast_113 ?_
          exact mm_ri d_M_coast_114 ⟨rfl, (Fr.rf.sI rfl).trans g1⟩
      · by_cases h8 : t % 10 < 8
        · rw [if_pos h8]
          refine mm_aload d_M_coast_0 rfl ?_
          refine mm_ciN 0 d_M_coast_1 rfl ?_
          refine mm_putI d_M_coast_2 rfl (sk_o_71 hM) (Or.inl rfl) ?_
          refine mm_aload d_M_coast_5 rfl ?_
          refine mm_iload d_M_coast_6 rfl ?_
          refine mm_v1i d_M_coast_7 (sk_o_71 hM) (sp_M_handN hM (by first | exact m0 | (rw [mm_sI_off (by decide)]; exact m0)) h02 hi (by first | exact hDM | exact hDM.eq (mm_sI_off (by decide))) hW (fun μ2 g1 hH hZ => ?_))
          replace hM := hH.1
          refine mm_if_neN d_M_coast_10 (by first | omega | exact ite01_lt | exact bt8_lt31 _ _ | exact godB_lt31 _ _ _ | exact pop_lt31 _ | assumption | exact b31 (hW.gp (by omega)) | exact b31 (hW.ne (by omega)) | exact b31 (hW.op (by omega)) | exact and31 (hW.gp (by omega)) | exact and31 (hW.ne (by omega)) | exact and31 (hW.op (by omega)) | exact and31 (by assumption) | exact and31r (hW.ne (by omega)) | exact and31r (hW.gp (by omega)) | exact and31r (by decide)) (fun c_10 => ?_) (fun c_10 => False.elim (by omega))
          refine mm_iload d_M_coast_15 rfl ?_
          refine mm_ciN 10 d_M_coast_16 rfl ?_
          refine mm_iremN d_M_coast_18 (by first | omega | exact ite01_lt | exact bt8_lt31 _ _ | exact godB_lt31 _ _ _ | exact pop_lt31 _ | assumption | exact b31 (hW.gp (by omega)) | exact b31 (hW.ne (by omega)) | exact b31 (hW.op (by omega)) | exact and31 (hW.gp (by omega)) | exact and31 (hW.ne (by omega)) | exact and31 (hW.op (by omega)) | exact and31 (by assumption) | exact and31r (hW.ne (by omega)) | exact and31r (hW.gp (by omega)) | exact and31r (by decide)) (by omega) (by omega) ?_
          refine mm_ist3 d_M_coast_19 ?_
          refine mm_iload d_M_coast_20 rfl ?_
          refine mm_ciN 10 d_M_coast_21 rfl ?_
          refine mm_idivN d_M_coast_23 (by first | omega | exact ite01_lt | exact bt8_lt31 _ _ | exact godB_lt31 _ _ _ | exact pop_lt31 _ | assumption | exact b31 (hW.gp (by omega)) | exact b31 (hW.ne (by omega)) | exact b31 (hW.op (by omega)) | exact and31 (hW.gp (by omega)) | exact and31 (hW.ne (by omega)) | exact and31 (hW.op (by omega)) | exact and31 (by assumption) | exact and31r (hW.ne (by omega)) | exact and31r (hW.gp (by omega)) | exact and31r (by decide)) (by omega) (by omega) ?_
          rw [e]
          refine mm_switchIn (n := 0) d_M_coast_24 3 (by decide) (by decide) rfl ?_
          refine mm_iload d_M_coast_87 rfl ?_
          refine mm_ciN 8 d_M_coast_88 rfl ?_
          refine mm_icmp_geN d_M_coast_90 (by first | omega | exact ite01_lt | exact bt8_lt31 _ _ | exact godB_lt31 _ _ _ | exact pop_lt31 _ | assumption | exact b31 (hW.gp (by omega)) | exact b31 (hW.ne (by omega)) | exact b31 (hW.op (by omega)) | exact and31 (hW.gp (by omega)) | exact and31 (hW.ne (by omega)) | exact and31 (hW.op (by omega)) | exact and31 (by assumption) | exact and31r (hW.ne (by omega)) | exact and31r (hW.gp (by omega)) | exact and31r (by decide)) (by first | omega | exact ite01_lt | exact bt8_lt31 _ _ | exact godB_lt31 _ _ _ | exact pop_lt31 _ | assumption | exact b31 (hW.gp (by omega)) | exact b31 (hW.ne (by omega)) | exact b31 (hW.op (by omega)) | exact and31 (hW.gp (by omega)) | exact and31 (hW.ne (by omega)) | exact and31 (hW.op (by omega)) | exact and31 (by assumption) | exact and31r (hW.ne (by omega)) | exact and31r (hW.gp (by omega)) | exact and31r (by decide)) (fun c_90 => False.elim (by omega)) (fun c_90 => ?_)
          refine mm_aload d_M_coast_93 rfl ?_
          refine mm_ciN 2 d_M_coast_94 rfl ?_
          refine mm_ciN 8 d_M_coast_95 rfl ?_
          refine mm_iload d_M_coast_97 rfl ?_
          refine mm_ciN 10 d_M_coast_98 rfl ?_
          refine mm_idivN d_M_coast_100 (by first | omega | exact ite01_lt | exact bt8_lt31 _ _ | exact godB_lt31 _ _ _ | exact pop_lt31 _ | assumption | exact b31 (hW.gp (by omega)) | exact b31 (hW.ne (by omega)) | exact b31 (hW.op (by omega)) | exact and31 (hW.gp (by omega)) | exact and31 (hW.ne (by omega)) | exact and31 (hW.op (by omega)) | exact and31 (by assumption) | exact and31r (hW.ne (by omega)) | exact and31r (hW.gp (by omega)) | exact and31r (by decide)) (by omega) (by omega) ?_
          refine mm_ciN 1 d_M_coast_101 rfl ?_
          refine mm_isubN d_M_coast_102 (by omega) ?_
          refine mm_imulN d_M_coast_103 ?_
          refine mm_iaddN d_M_coast_104 ?_
          refine mm_iload d_M_coast_105 rfl ?_
          refine mm_iaddN d_M_coast_106 ?_
          refine mm_v1i d_M_coast_107 (sk_o_71 hM) (sp_M_ofN hH (by omega) (by rw [e]; exact hH.f2 h8) ?_)
          refine mm_goto d_M_coast_110 ?_
          exact mm_ri d_M_coast_114 ⟨rfl, (Fr.rf.sI rfl).trans g1⟩
        · rw [if_neg h8]
          refine mm_aload d_M_coast_0 rfl ?_
          refine mm_ciN 0 d_M_coast_1 rfl ?_
          refine mm_putI d_M_coast_2 rfl (sk_o_71 hM) (Or.inl rfl) ?_
          refine mm_aload d_M_coast_5 rfl ?_
          refine mm_iload d_M_coast_6 rfl ?_
          refine mm_v1i d_M_coast_7 (sk_o_71 hM) (sp_M_handN hM (by first | exact m0 | (rw [mm_sI_off (by decide)]; exact m0)) h02 hi (by first | exact hDM | exact hDM.eq (mm_sI_off (by decide))) hW (fun μ2 g1 hH hZ => ?_))
          replace hM := hH.1
          refine mm_if_neN d_M_coast_10 (by first | omega | exact ite01_lt | exact bt8_lt31 _ _ | exact godB_lt31 _ _ _ | exact pop_lt31 _ | assumption | exact b31 (hW.gp (by omega)) | exact b31 (hW.ne (by omega)) | exact b31 (hW.op (by omega)) | exact and31 (hW.gp (by omega)) | exact and31 (hW.ne (by omega)) | exact and31 (hW.op (by omega)) | exact and31 (by assumption) | exact and31r (hW.ne (by omega)) | exact and31r (hW.gp (by omega)) | exact and31r (by decide)) (fun c_10 => ?_) (fun c_10 => False.elim (by omega))
          refine mm_iload d_M_coast_15 rfl ?_
          refine mm_ciN 10 d_M_coast_16 rfl ?_
          refine mm_iremN d_M_coast_18 (by first | omega | exact ite01_lt | exact bt8_lt31 _ _ | exact godB_lt31 _ _ _ | exact pop_lt31 _ | assumption | exact b31 (hW.gp (by omega)) | exact b31 (hW.ne (by omega)) | exact b31 (hW.op (by omega)) | exact and31 (hW.gp (by omega)) | exact and31 (hW.ne (by omega)) | exact and31 (hW.op (by omega)) | exact and31 (by assumption) | exact and31r (hW.ne (by omega)) | exact and31r (hW.gp (by omega)) | exact and31r (by decide)) (by omega) (by omega) ?_
          refine mm_ist3 d_M_coast_19 ?_
          refine mm_iload d_M_coast_20 rfl ?_
          refine mm_ciN 10 d_M_coast_21 rfl ?_
          refine mm_idivN d_M_coast_23 (by first | omega | exact ite01_lt | exact bt8_lt31 _ _ | exact godB_lt31 _ _ _ | exact pop_lt31 _ | assumption | exact b31 (hW.gp (by omega)) | exact b31 (hW.ne (by omega)) | exact b31 (hW.op (by omega)) | exact and31 (hW.gp (by omega)) | exact and31 (hW.ne (by omega)) | exact and31 (hW.op (by omega)) | exact and31 (by assumption) | exact and31r (hW.ne (by omega)) | exact and31r (hW.gp (by omega)) | exact and31r (by decide)) (by omega) (by omega) ?_
          rw [e]
          refine mm_switchIn (n := 0) d_M_coast_24 3 (by decide) (by decide) rfl ?_
          refine mm_iload d_M_coast_87 rfl ?_
          refine mm_ciN 8 d_M_coast_88 rfl ?_
          refine mm_icmp_geN d_M_coast_90 (by first | omega | exact ite01_lt | exact bt8_lt31 _ _ | exact godB_lt31 _ _ _ | exact pop_lt31 _ | assumption | exact b31 (hW.gp (by omega)) | exact b31 (hW.ne (by omega)) | exact b31 (hW.op (by omega)) | exact and31 (hW.gp (by omega)) | exact and31 (hW.ne (by omega)) | exact and31 (hW.op (by omega)) | exact and31 (by assumption) | exact and31r (hW.ne (by omega)) | exact and31r (hW.gp (by omega)) | exact and31r (by decide)) (by first | omega | exact ite01_lt | exact bt8_lt31 _ _ | exact godB_lt31 _ _ _ | exact pop_lt31 _ | assumption | exact b31 (hW.gp (by omega)) | exact b31 (hW.ne (by omega)) | exact b31 (hW.op (by omega)) | exact and31 (hW.gp (by omega)) | exact and31 (hW.ne (by omega)) | exact and31 (hW.op (by omega)) | exact and31 (by assumption) | exact and31r (hW.ne (by omega)) | exact and31r (hW.gp (by omega)) | exact and31r (by decide)) (fun c_90 => ?_) (fun c_90 => False.elim (by omega))
          refine mm_ci d_M_coast_113 ?_
          exact mm_ri d_M_coast_114 ⟨rfl, (Fr.rf.sI rfl).trans g1⟩
      · by_cases h8 : t % 10 < dn D
        · rw [if_pos h8]
          refine mm_aload d_M_coast_0 rfl ?_
          refine mm_ciN 0 d_M_coast_1 rfl ?_
          refine mm_putI d_M_coast_2 rfl (sk_o_71 hM) (Or.inl rfl) ?_
          refine mm_aload d_M_coast_5 rfl ?_
          refine mm_iload d_M_coast_6 rfl ?_
          refine mm_v1i d_M_coast_7 (sk_o_71 hM) (sp_M_handN hM (by first | exact m0 | (rw [mm_sI_off (by decide)]; exact m0)) h02 hi (by first | exact hDM | exact hDM.eq (mm_sI_off (by decide))) hW (fun μ2 g1 hH hZ => ?_))
          replace hM := hH.1
          refine mm_if_neN d_M_coast_10 (by first | omega | exact ite01_lt | exact bt8_lt31 _ _ | exact godB_lt31 _ _ _ | exact pop_lt31 _ | assumption | exact b31 (hW.gp (by omega)) | exact b31 (hW.ne (by omega)) | exact b31 (hW.op (by omega)) | exact and31 (hW.gp (by omega)) | exact and31 (hW.ne (by omega)) | exact and31 (hW.op (by omega)) | exact and31 (by assumption) | exact and31r (hW.ne (by omega)) | exact and31r (hW.gp (by omega)) | exact and31r (by decide)) (fun c_10 => ?_) (fun c_10 => False.elim (by omega))
          refine mm_iload d_M_coast_15 rfl ?_
          refine mm_ciN 10 d_M_coast_16 rfl ?_
          refine mm_iremN d_M_coast_18 (by first | omega | exact ite01_lt | exact bt8_lt31 _ _ | exact godB_lt31 _ _ _ | exact pop_lt31 _ | assumption | exact b31 (hW.gp (by omega)) | exact b31 (hW.ne (by omega)) | exact b31 (hW.op (by omega)) | exact and31 (hW.gp (by omega)) | exact and31 (hW.ne (by omega)) | exact and31 (hW.op (by omega)) | exact and31 (by assumption) | exact and31r (hW.ne (by omega)) | exact and31r (hW.gp (by omega)) | exact and31r (by decide)) (by omega) (by omega) ?_
          refine mm_ist3 d_M_coast_19 ?_
          refine mm_iload d_M_coast_20 rfl ?_
          refine mm_ciN 10 d_M_coast_21 rfl ?_
          refine mm_idivN d_M_coast_23 (by first | omega | exact ite01_lt | exact bt8_lt31 _ _ | exact godB_lt31 _ _ _ | exact pop_lt31 _ | assumption | exact b31 (hW.gp (by omega)) | exact b31 (hW.ne (by omega)) | exact b31 (hW.op (by omega)) | exact and31 (hW.gp (by omega)) | exact and31 (hW.ne (by omega)) | exact and31 (hW.op (by omega)) | exact and31 (by assumption) | exact and31r (hW.ne (by omega)) | exact and31r (hW.gp (by omega)) | exact and31r (by decide)) (by omega) (by omega) ?_
          rw [e]
          refine mm_switchIn (n := 0) d_M_coast_24 4 (by decide) (by decide) rfl ?_
          refine mm_iload d_M_coast_115 rfl ?_
          refine mm_aload d_M_coast_116 rfl ?_
          refine mm_getIN d_M_coast_117 rfl (sk_o_71 hM) hH.n ?_
          refine mm_icmp_geN d_M_coast_120 (by first | omega | exact ite01_lt | exact bt8_lt31 _ _ | exact godB_lt31 _ _ _ | exact pop_lt31 _ | assumption | exact b31 (hW.gp (by omega)) | exact b31 (hW.ne (by omega)) | exact b31 (hW.op (by omega)) | exact and31 (hW.gp (by omega)) | exact and31 (hW.ne (by omega)) | exact and31 (hW.op (by omega)) | exact and31 (by assumption) | exact and31r (hW.ne (by omega)) | exact and31r (hW.gp (by omega)) | exact and31r (by decide)) (by first | omega | exact ite01_lt | exact bt8_lt31 _ _ | exact godB_lt31 _ _ _ | exact pop_lt31 _ | assumption | exact b31 (hW.gp (by omega)) | exact b31 (hW.ne (by omega)) | exact b31 (hW.op (by omega)) | exact and31 (hW.gp (by omega)) | exact and31 (hW.ne (by omega)) | exact and31 (hW.op (by omega)) | exact and31 (by assumption) | exact and31r (hW.ne (by omega)) | exact and31r (hW.gp (by omega)) | exact and31r (by decide)) (fun c_120 => False.elim (by omega)) (fun c_120 => ?_)
          refine mm_aload d_M_coast_123 rfl ?_
          refine mm_iload d_M_coast_124 rfl ?_
          refine mm_v1i d_M_coast_125 (sk_o_71 hM) (sp_M_gods hH (by omega) ?_)
          refine mm_goto d_M_coast_128 ?_
          exact mm_ri d_M_coast_132 ⟨rfl, (Fr.rf.sI rfl).trans g1⟩
        · rw [if_neg h8]
          refine mm_aload d_M_coast_0 rfl ?_
          refine mm_ciN 0 d_M_coast_1 rfl ?_
          refine mm_putI d_M_coast_2 rfl (sk_o_71 hM) (Or.inl rfl) ?_
          refine mm_aload d_M_coast_5 rfl ?_
          refine mm_iload d_M_coast_6 rfl ?_
          refine mm_v1i d_M_coast_7 (sk_o_71 hM) (sp_M_handN hM (by first | exact m0 | (rw [mm_sI_off (by decide)]; exact m0)) h02 hi (by first | exact hDM | exact hDM.eq (mm_sI_off (by decide))) hW (fun μ2 g1 hH hZ => ?_))
          replace hM := hH.1
          refine mm_if_neN d_M_coast_10 (by first | omega | exact ite01_lt | exact bt8_lt31 _ _ | exact godB_lt31 _ _ _ | exact pop_lt31 _ | assumption | exact b31 (hW.gp (by omega)) | exact b31 (hW.ne (by omega)) | exact b31 (hW.op (by omega)) | exact and31 (hW.gp (by omega)) | exact and31 (hW.ne (by omega)) | exact and31 (hW.op (by omega)) | exact and31 (by assumption) | exact and31r (hW.ne (by omega)) | exact and31r (hW.gp (by omega)) | exact and31r (by decide)) (fun c_10 => ?_) (fun c_10 => False.elim (by omega))
          refine mm_iload d_M_coast_15 rfl ?_
          refine mm_ciN 10 d_M_coast_16 rfl ?_
          refine mm_iremN d_M_coast_18 (by first | omega | exact ite01_lt | exact bt8_lt31 _ _ | exact godB_lt31 _ _ _ | exact pop_lt31 _ | assumption | exact b31 (hW.gp (by omega)) | exact b31 (hW.ne (by omega)) | exact b31 (hW.op (by omega)) | exact and31 (hW.gp (by omega)) | exact and31 (hW.ne (by omega)) | exact and31 (hW.op (by omega)) | exact and31 (by assumption) | exact and31r (hW.ne (by omega)) | exact and31r (hW.gp (by omega)) | exact and31r (by decide)) (by omega) (by omega) ?_
          refine mm_ist3 d_M_coast_19 ?_
          refine mm_iload d_M_coast_20 rfl ?_
          refine mm_ciN 10 d_M_coast_21 rfl ?_
          refine mm_idivN d_M_coast_23 (by first | omega | exact ite01_lt | exact bt8_lt31 _ _ | exact godB_lt31 _ _ _ | exact pop_lt31 _ | assumption | exact b31 (hW.gp (by omega)) | exact b31 (hW.ne (by omega)) | exact b31 (hW.op (by omega)) | exact and31 (hW.gp (by omega)) | exact and31 (hW.ne (by omega)) | exact and31 (hW.op (by omega)) | exact and31 (by assumption) | exact and31r (hW.ne (by omega)) | exact and31r (hW.gp (by omega)) | exact and31r (by decide)) (by omega) (by omega) ?_
          rw [e]
          refine mm_switchIn (n := 0) d_M_coast_24 4 (by decide) (by decide) rfl ?_
          refine mm_iload d_M_coast_115 rfl ?_
          refine mm_aload d_M_coast_116 rfl ?_
          refine mm_getIN d_M_coast_117 rfl (sk_o_71 hM) hH.n ?_
          refine mm_icmp_geN d_M_coast_120 (by first | omega | exact ite01_lt | exact bt8_lt31 _ _ | exact godB_lt31 _ _ _ | exact pop_lt31 _ | assumption | exact b31 (hW.gp (by omega)) | exact b31 (hW.ne (by omega)) | exact b31 (hW.op (by omega)) | exact and31 (hW.gp (by omega)) | exact and31 (hW.ne (by omega)) | exact and31 (hW.op (by omega)) | exact and31 (by assumption) | exact and31r (hW.ne (by omega)) | exact and31r (hW.gp (by omega)) | exact and31r (by decide)) (by first | omega | exact ite01_lt | exact bt8_lt31 _ _ | exact godB_lt31 _ _ _ | exact pop_lt31 _ | assumption | exact b31 (hW.gp (by omega)) | exact b31 (hW.ne (by omega)) | exact b31 (hW.op (by omega)) | exact and31 (hW.gp (by omega)) | exact and31 (hW.ne (by omega)) | exact and31 (hW.op (by omega)) | exact and31 (by assumption) | exact and31r (hW.ne (by omega)) | exact and31r (hW.gp (by omega)) | exact and31r (by decide)) (fun c_120 => ?_) (fun c_120 => False.elim (by omega))
          refine mm_ci d_M_coast_131 ?_
          exact mm_ri d_M_coast_132 ⟨rfl, (Fr.rf.sI rfl).trans g1⟩
      · by_cases h8 : t % 10 < dw D
        · rw [if_pos h8]
          refine mm_aload d_M_coast_0 rfl ?_
          refine mm_ciN 0 d_M_coast_1 rfl ?_
          refine mm_putI d_M_coast_2 rfl (sk_o_71 hM) (Or.inl rfl) ?_
          refine mm_aload d_M_coast_5 rfl ?_
          refine mm_iload d_M_coast_6 rfl ?_
          refine mm_v1i d_M_coast_7 (sk_o_71 hM) (sp_M_handN hM (by first | exact m0 | (rw [mm_sI_off (by decide)]; exact m0)) h02 hi (by first | exact hDM | exact hDM.eq (mm_sI_off (by decide))) hW (fun μ2 g1 hH hZ => ?_))
          replace hM := hH.1
          refine mm_if_neN d_M_coast_10 (by first | omega | exact ite01_lt | exact bt8_lt31 _ _ | exact godB_lt31 _ _ _ | exact pop_lt31 _ | assumption | exact b31 (hW.gp (by omega)) | exact b31 (hW.ne (by omega)) | exact b31 (hW.op (by omega)) | exact and31 (hW.gp (by omega)) | exact and31 (hW.ne (by omega)) | exact and31 (hW.op (by omega)) | exact and31 (by assumption) | exact and31r (hW.ne (by omega)) | exact and31r (hW.gp (by omega)) | exact and31r (by decide)) (fun c_10 => ?_) (fun c_10 => False.elim (by omega))
          refine mm_iload d_M_coast_15 rfl ?_
          refine mm_ciN 10 d_M_coast_16 rfl ?_
          refine mm_iremN d_M_coast_18 (by first | omega | exact ite01_lt | exact bt8_lt31 _ _ | exact godB_lt31 _ _ _ | exact pop_lt31 _ | assumption | exact b31 (hW.gp (by omega)) | exact b31 (hW.ne (by omega)) | exact b31 (hW.op (by omega)) | exact and31 (hW.gp (by omega)) | exact and31 (hW.ne (by omega)) | exact and31 (hW.op (by omega)) | exact and31 (by assumption) | exact and31r (hW.ne (by omega)) | exact and31r (hW.gp (by omega)) | exact and31r (by decide)) (by omega) (by omega) ?_
          refine mm_ist3 d_M_coast_19 ?_
          refine mm_iload d_M_coast_20 rfl ?_
          refine mm_ciN 10 d_M_coast_21 rfl ?_
          refine mm_idivN d_M_coast_23 (by first | omega | exact ite01_lt | exact bt8_lt31 _ _ | exact godB_lt31 _ _ _ | exact pop_lt31 _ | assumption | exact b31 (hW.gp (by omega)) | exact b31 (hW.ne (by omega)) | exact b31 (hW.op (by omega)) | exact and31 (hW.gp (by omega)) | exact and31 (hW.ne (by omega)) | exact and31 (hW.op (by omega)) | exact and31 (by assumption) | exact and31r (hW.ne (by omega)) | exact and31r (hW.gp (by omega)) | exact and31r (by decide)) (by omega) (by omega) ?_
          rw [e]
          refine mm_switchIn (n := 0) d_M_coast_24 5 (by decide) (by decide) rfl ?_
          refine mm_iload d_M_coast_133 rfl ?_
          refine mm_aload d_M_coast_134 rfl ?_
          refine mm_getIN d_M_coast_135 rfl (sk_o_71 hM) hH.w ?_
          refine mm_icmp_geN d_M_coast_138 (by first | omega | exact ite01_lt | exact bt8_lt31 _ _ | exact godB_lt31 _ _ _ | exact pop_lt31 _ | assumption | exact b31 (hW.gp (by omega)) | exact b31 (hW.ne (by omega)) | exact b31 (hW.op (by omega)) | exact and31 (hW.gp (by omega)) | exact and31 (hW.ne (by omega)) | exact and31 (hW.op (by omega)) | exact and31 (by assumption) | exact and31r (hW.ne (by omega)) | exact and31r (hW.gp (by omega)) | exact and31r (by decide)) (by first | omega | exact ite01_lt | exact bt8_lt31 _ _ | exact godB_lt31 _ _ _ | exact pop_lt31 _ | assumption | exact b31 (hW.gp (by omega)) | exact b31 (hW.ne (by omega)) | exact b31 (hW.op (by omega)) | exact and31 (hW.gp (by omega)) | exact and31 (hW.ne (by omega)) | exact and31 (hW.op (by omega)) | exact and31 (by assumption) | exact and31r (hW.ne (by omega)) | exact and31r (hW.gp (by omega)) | exact and31r (by decide)) (fun c_138 => False.elim (by omega)) (fun c_138 => ?_)
          refine mm_aload d_M_coast_141 rfl ?_
          refine mm_iload d_M_coast_142 rfl ?_
          refine mm_ciN 60 d_M_coast_143 rfl ?_
          refine mm_icmp_geN d_M_coast_145 (by first | omega | exact ite01_lt | exact bt8_lt31 _ _ | exact godB_lt31 _ _ _ | exact pop_lt31 _ | assumption | exact b31 (hW.gp (by omega)) | exact b31 (hW.ne (by omega)) | exact b31 (hW.op (by omega)) | exact and31 (hW.gp (by omega)) | exact and31 (hW.ne (by omega)) | exact and31 (hW.op (by omega)) | exact and31 (by assumption) | exact and31r (hW.ne (by omega)) | exact and31r (hW.gp (by omega)) | exact and31r (by decide)) (by first | omega | exact ite01_lt | exact bt8_lt31 _ _ | exact godB_lt31 _ _ _ | exact pop_lt31 _ | assumption | exact b31 (hW.gp (by omega)) | exact b31 (hW.ne (by omega)) | exact b31 (hW.op (by omega)) | exact and31 (hW.gp (by omega)) | exact and31 (hW.ne (by omega)) | exact and31 (hW.op (by omega)) | exact and31 (by assumption) | exact and31r (hW.ne (by omega)) | exact and31r (hW.gp (by omega)) | exact and31r (by decide)) (fun c_145 => False.elim (by omega)) (fun c_145 => ?_)
          refine mm_ciN 32 d_M_coast_148 rfl ?_
          refine mm_goto d_M_coast_150 ?_
          refine mm_iload d_M_coast_155 rfl ?_
          refine mm_iaddN d_M_coast_156 ?_
          refine mm_v1i d_M_coast_157 (sk_o_71 hM) (sp_M_ofN hH (by omega) (hH.f4 (by omega)) ?_)
          refine mm_goto d_M_coast_160 ?_
          exact mm_ri d_M_coast_164 ⟨rfl, (Fr.rf.sI rfl).trans g1⟩
        · rw [if_neg h8]
          refine mm_aload d_M_coast_0 rfl ?_
          refine mm_ciN 0 d_M_coast_1 rfl ?_
          refine mm_putI d_M_coast_2 rfl (sk_o_71 hM) (Or.inl rfl) ?_
          refine mm_aload d_M_coast_5 rfl ?_
          refine mm_iload d_M_coast_6 rfl ?_
          refine mm_v1i d_M_coast_7 (sk_o_71 hM) (sp_M_handN hM (by first | exact m0 | (rw [mm_sI_off (by decide)]; exact m0)) h02 hi (by first | exact hDM | exact hDM.eq (mm_sI_off (by decide))) hW (fun μ2 g1 hH hZ => ?_))
          replace hM := hH.1
          refine mm_if_neN d_M_coast_10 (by first | omega | exact ite01_lt | exact bt8_lt31 _ _ | exact godB_lt31 _ _ _ | exact pop_lt31 _ | assumption | exact b31 (hW.gp (by omega)) | exact b31 (hW.ne (by omega)) | exact b31 (hW.op (by omega)) | exact and31 (hW.gp (by omega)) | exact and31 (hW.ne (by omega)) | exact and31 (hW.op (by omega)) | exact and31 (by assumption) | exact and31r (hW.ne (by omega)) | exact and31r (hW.gp (by omega)) | exact and31r (by decide)) (fun c_10 => ?_) (fun c_10 => False.elim (by omega))
          refine mm_iload d_M_coast_15 rfl ?_
          refine mm_ciN 10 d_M_coast_16 rfl ?_
          refine mm_iremN d_M_coast_18 (by first | omega | exact ite01_lt | exact bt8_lt31 _ _ | exact godB_lt31 _ _ _ | exact pop_lt31 _ | assumption | exact b31 (hW.gp (by omega)) | exact b31 (hW.ne (by omega)) | exact b31 (hW.op (by omega)) | exact and31 (hW.gp (by omega)) | exact and31 (hW.ne (by omega)) | exact and31 (hW.op (by omega)) | exact and31 (by assumption) | exact and31r (hW.ne (by omega)) | exact and31r (hW.gp (by omega)) | exact and31r (by decide)) (by omega) (by omega) ?_
          refine mm_ist3 d_M_coast_19 ?_
          refine mm_iload d_M_coast_20 rfl ?_
          refine mm_ciN 10 d_M_coast_21 rfl ?_
          refine mm_idivN d_M_coast_23 (by first | omega | exact ite01_lt | exact bt8_lt31 _ _ | exact godB_lt31 _ _ _ | exact pop_lt31 _ | assumption | exact b31 (hW.gp (by omega)) | exact b31 (hW.ne (by omega)) | exact b31 (hW.op (by omega)) | exact and31 (hW.gp (by omega)) | exact and31 (hW.ne (by omega)) | exact and31 (hW.op (by omega)) | exact and31 (by assumption) | exact and31r (hW.ne (by omega)) | exact and31r (hW.gp (by omega)) | exact and31r (by decide)) (by omega) (by omega) ?_
          rw [e]
          refine mm_switchIn (n := 0) d_M_coast_24 5 (by decide) (by decide) rfl ?_
          refine mm_iload d_M_coast_133 rfl ?_
          refine mm_aload d_M_coast_134 rfl ?_
          refine mm_getIN d_M_coast_135 rfl (sk_o_71 hM) hH.w ?_
          refine mm_icmp_geN d_M_coast_138 (by first | omega | exact ite01_lt | exact bt8_lt31 _ _ | exact godB_lt31 _ _ _ | exact pop_lt31 _ | assumption | exact b31 (hW.gp (by omega)) | exact b31 (hW.ne (by omega)) | exact b31 (hW.op (by omega)) | exact and31 (hW.gp (by omega)) | exact and31 (hW.ne (by omega)) | exact and31 (hW.op (by omega)) | exact and31 (by assumption) | exact and31r (hW.ne (by omega)) | exact and31r (hW.gp (by omega)) | exact and31r (by decide)) (by first | omega | exact ite01_lt | exact bt8_lt31 _ _ | exact godB_lt31 _ _ _ | exact pop_lt31 _ | assumption | exact b31 (hW.gp (by omega)) | exact b31 (hW.ne (by omega)) | exact b31 (hW.op (by omega)) | exact and31 (hW.gp (by omega)) | exact and31 (hW.ne (by omega)) | exact and31 (hW.op (by omega)) | exact and31 (by assumption) | exact and31r (hW.ne (by omega)) | exact and31r (hW.gp (by omega)) | exact and31r (by decide)) (fun c_138 => ?_) (fun c_138 => False.elim (by omega))
          refine mm_ci d_M_coast_163 ?_
          exact mm_ri d_M_coast_164 ⟨rfl, (Fr.rf.sI rfl).trans g1⟩
      · by_cases h8 : t % 10 < dw D
        · rw [if_pos h8]
          refine mm_aload d_M_coast_0 rfl ?_
          refine mm_ciN 0 d_M_coast_1 rfl ?_
          refine mm_putI d_M_coast_2 rfl (sk_o_71 hM) (Or.inl rfl) ?_
          refine mm_aload d_M_coast_5 rfl ?_
          refine mm_iload d_M_coast_6 rfl ?_
          refine mm_v1i d_M_coast_7 (sk_o_71 hM) (sp_M_handN hM (by first | exact m0 | (rw [mm_sI_off (by decide)]; exact m0)) h02 hi (by first | exact hDM | exact hDM.eq (mm_sI_off (by decide))) hW (fun μ2 g1 hH hZ => ?_))
          replace hM := hH.1
          refine mm_if_neN d_M_coast_10 (by first | omega | exact ite01_lt | exact bt8_lt31 _ _ | exact godB_lt31 _ _ _ | exact pop_lt31 _ | assumption | exact b31 (hW.gp (by omega)) | exact b31 (hW.ne (by omega)) | exact b31 (hW.op (by omega)) | exact and31 (hW.gp (by omega)) | exact and31 (hW.ne (by omega)) | exact and31 (hW.op (by omega)) | exact and31 (by assumption) | exact and31r (hW.ne (by omega)) | exact and31r (hW.gp (by omega)) | exact and31r (by decide)) (fun c_10 => ?_) (fun c_10 => False.elim (by omega))
          refine mm_iload d_M_coast_15 rfl ?_
          refine mm_ciN 10 d_M_coast_16 rfl ?_
          refine mm_iremN d_M_coast_18 (by first | omega | exact ite01_lt | exact bt8_lt31 _ _ | exact godB_lt31 _ _ _ | exact pop_lt31 _ | assumption | exact b31 (hW.gp (by omega)) | exact b31 (hW.ne (by omega)) | exact b31 (hW.op (by omega)) | exact and31 (hW.gp (by omega)) | exact and31 (hW.ne (by omega)) | exact and31 (hW.op (by omega)) | exact and31 (by assumption) | exact and31r (hW.ne (by omega)) | exact and31r (hW.gp (by omega)) | exact and31r (by decide)) (by omega) (by omega) ?_
          refine mm_ist3 d_M_coast_19 ?_
          refine mm_iload d_M_coast_20 rfl ?_
          refine mm_ciN 10 d_M_coast_21 rfl ?_
          refine mm_idivN d_M_coast_23 (by first | omega | exact ite01_lt | exact bt8_lt31 _ _ | exact godB_lt31 _ _ _ | exact pop_lt31 _ | assumption | exact b31 (hW.gp (by omega)) | exact b31 (hW.ne (by omega)) | exact b31 (hW.op (by omega)) | exact and31 (hW.gp (by omega)) | exact and31 (hW.ne (by omega)) | exact and31 (hW.op (by omega)) | exact and31 (by assumption) | exact and31r (hW.ne (by omega)) | exact and31r (hW.gp (by omega)) | exact and31r (by decide)) (by omega) (by omega) ?_
          rw [e]
          refine mm_switchIn (n := 0) d_M_coast_24 6 (by decide) (by decide) rfl ?_
          refine mm_iload d_M_coast_133 rfl ?_
          refine mm_aload d_M_coast_134 rfl ?_
          refine mm_getIN d_M_coast_135 rfl (sk_o_71 hM) hH.w ?_
          refine mm_icmp_geN d_M_coast_138 (by first | omega | exact ite01_lt | exact bt8_lt31 _ _ | exact godB_lt31 _ _ _ | exact pop_lt31 _ | assumption | exact b31 (hW.gp (by omega)) | exact b31 (hW.ne (by omega)) | exact b31 (hW.op (by omega)) | exact and31 (hW.gp (by omega)) | exact and31 (hW.ne (by omega)) | exact and31 (hW.op (by omega)) | exact and31 (by assumption) | exact and31r (hW.ne (by omega)) | exact and31r (hW.gp (by omega)) | exact and31r (by decide)) (by first | omega | exact ite01_lt | exact bt8_lt31 _ _ | exact godB_lt31 _ _ _ | exact pop_lt31 _ | assumption | exact b31 (hW.gp (by omega)) | exact b31 (hW.ne (by omega)) | exact b31 (hW.op (by omega)) | exact and31 (hW.gp (by omega)) | exact and31 (hW.ne (by omega)) | exact and31 (hW.op (by omega)) | exact and31 (by assumption) | exact and31r (hW.ne (by omega)) | exact and31r (hW.gp (by omega)) | exact and31r (by decide)) (fun c_138 => False.elim (by omega)) (fun c_138 => ?_)
          refine mm_aload d_M_coast_141 rfl ?_
          refine mm_iload d_M_coast_142 rfl ?_
          refine mm_ciN 60 d_M_coast_143 rfl ?_
          refine mm_icmp_geN d_M_coast_145 (by first | omega | exact ite01_lt | exact bt8_lt31 _ _ | exact godB_lt31 _ _ _ | exact pop_lt31 _ | assumption | exact b31 (hW.gp (by omega)) | exact b31 (hW.ne (by omega)) | exact b31 (hW.op (by omega)) | exact and31 (hW.gp (by omega)) | exact and31 (hW.ne (by omega)) | exact and31 (hW.op (by omega)) | exact and31 (by assumption) | exact and31r (hW.ne (by omega)) | exact and31r (hW.gp (by omega)) | exact and31r (by decide)) (by first | omega | exact ite01_lt | exact bt8_lt31 _ _ | exact godB_lt31 _ _ _ | exact pop_lt31 _ | assumption | exact b31 (hW.gp (by omega)) | exact b31 (hW.ne (by omega)) | exact b31 (hW.op (by omega)) | exact and31 (hW.gp (by omega)) | exact and31 (hW.ne (by omega)) | exact and31 (hW.op (by omega)) | exact and31 (by assumption) | exact and31r (hW.ne (by omega)) | exact and31r (hW.gp (by omega)) | exact and31r (by decide)) (fun c_145 => ?_) (fun c_145 => False.elim (by omega))
          refine mm_ciN 38 d_M_coast_153 rfl ?_
          refine mm_iload d_M_coast_155 rfl ?_
          refine mm_iaddN d_M_coast_156 ?_
          refine mm_v1i d_M_coast_157 (sk_o_71 hM) (sp_M_ofN hH (by omega) (hH.f5 (by omega)) ?_)
          refine mm_goto d_M_coast_160 ?_
          exact mm_ri d_M_coast_164 ⟨rfl, (Fr.rf.sI rfl).trans g1⟩
        · rw [if_neg h8]
          refine mm_aload d_M_coast_0 rfl ?_
          refine mm_ciN 0 d_M_coast_1 rfl ?_
          refine mm_putI d_M_coast_2 rfl (sk_o_71 hM) (Or.inl rfl) ?_
          refine mm_aload d_M_coast_5 rfl ?_
          refine mm_iload d_M_coast_6 rfl ?_
          refine mm_v1i d_M_coast_7 (sk_o_71 hM) (sp_M_handN hM (by first | exact m0 | (rw [mm_sI_off (by decide)]; exact m0)) h02 hi (by first | exact hDM | exact hDM.eq (mm_sI_off (by decide))) hW (fun μ2 g1 hH hZ => ?_))
          replace hM := hH.1
          refine mm_if_neN d_M_coast_10 (by first | omega | exact ite01_lt | exact bt8_lt31 _ _ | exact godB_lt31 _ _ _ | exact pop_lt31 _ | assumption | exact b31 (hW.gp (by omega)) | exact b31 (hW.ne (by omega)) | exact b31 (hW.op (by omega)) | exact and31 (hW.gp (by omega)) | exact and31 (hW.ne (by omega)) | exact and31 (hW.op (by omega)) | exact and31 (by assumption) | exact and31r (hW.ne (by omega)) | exact and31r (hW.gp (by omega)) | exact and31r (by decide)) (fun c_10 => ?_) (fun c_10 => False.elim (by omega))
          refine mm_iload d_M_coast_15 rfl ?_
          refine mm_ciN 10 d_M_coast_16 rfl ?_
          refine mm_iremN d_M_coast_18 (by first | omega | exact ite01_lt | exact bt8_lt31 _ _ | exact godB_lt31 _ _ _ | exact pop_lt31 _ | assumption | exact b31 (hW.gp (by omega)) | exact b31 (hW.ne (by omega)) | exact b31 (hW.op (by omega)) | exact and31 (hW.gp (by omega)) | exact and31 (hW.ne (by omega)) | exact and31 (hW.op (by omega)) | exact and31 (by assumption) | exact and31r (hW.ne (by omega)) | exact and31r (hW.gp (by omega)) | exact and31r (by decide)) (by omega) (by omega) ?_
          refine mm_ist3 d_M_coast_19 ?_
          refine mm_iload d_M_coast_20 rfl ?_
          refine mm_ciN 10 d_M_coast_21 rfl ?_
          refine mm_idivN d_M_coast_23 (by first | omega | exact ite01_lt | exact bt8_lt31 _ _ | exact godB_lt31 _ _ _ | exact pop_lt31 _ | assumption | exact b31 (hW.gp (by omega)) | exact b31 (hW.ne (by omega)) | exact b31 (hW.op (by omega)) | exact and31 (hW.gp (by omega)) | exact and31 (hW.ne (by omega)) | exact and31 (hW.op (by omega)) | exact and31 (by assumption) | exact and31r (hW.ne (by omega)) | exact and31r (hW.gp (by omega)) | exact and31r (by decide)) (by omega) (by omega) ?_
          rw [e]
          refine mm_switchIn (n := 0) d_M_coast_24 6 (by decide) (by decide) rfl ?_
          refine mm_iload d_M_coast_133 rfl ?_
          refine mm_aload d_M_coast_134 rfl ?_
          refine mm_getIN d_M_coast_135 rfl (sk_o_71 hM) hH.w ?_
          refine mm_icmp_geN d_M_coast_138 (by first | omega | exact ite01_lt | exact bt8_lt31 _ _ | exact godB_lt31 _ _ _ | exact pop_lt31 _ | assumption | exact b31 (hW.gp (by omega)) | exact b31 (hW.ne (by omega)) | exact b31 (hW.op (by omega)) | exact and31 (hW.gp (by omega)) | exact and31 (hW.ne (by omega)) | exact and31 (hW.op (by omega)) | exact and31 (by assumption) | exact and31r (hW.ne (by omega)) | exact and31r (hW.gp (by omega)) | exact and31r (by decide)) (by first | omega | exact ite01_lt | exact bt8_lt31 _ _ | exact godB_lt31 _ _ _ | exact pop_lt31 _ | assumption | exact b31 (hW.gp (by omega)) | exact b31 (hW.ne (by omega)) | exact b31 (hW.op (by omega)) | exact and31 (hW.gp (by omega)) | exact and31 (hW.ne (by omega)) | exact and31 (hW.op (by omega)) | exact and31 (by assumption) | exact and31r (hW.ne (by omega)) | exact and31r (hW.gp (by omega)) | exact and31r (by decide)) (fun c_138 => ?_) (fun c_138 => False.elim (by omega))
          refine mm_ci d_M_coast_163 ?_
          exact mm_ri d_M_coast_164 ⟨rfl, (Fr.rf.sI rfl).trans g1⟩
theorem i32_succ_le {y : Int32} (h : nI 2 < y) : (3 : Int32) ≤ y := by
  have h1 := Int32.lt_iff_toInt_lt.mp h
  refine Int32.le_iff_toInt_le.mpr ?_
  have e1 : (nI 2).toInt = 2 := rfl
  have e2 : (3 : Int32).toInt = 3 := rfl
  omega
theorem pair_fault {X : mm_X} {k : Nat} {μ : mm_M} (hJ : JJ k μ) (y1 : Int32) : PairI X (JJ (k + 1)) k_G_fault k_M_fault [.int y1] μ := by
  have hM := hJ.1
  have hw := hJ.2.2.2.up
  have e6 : mm_I μ 1 6 = mm_I μ 74 0 := hJ.2.1.2.2.2.1
  have e7 : mm_I μ 1 7 = mm_I μ 75 0 := hJ.2.1.2.2.2.2.1
  refine pairQ (if y1 = 0 then mm_I μ 1 6 else if y1 = nI 1 then mm_I μ 1 7 else -1) hJ (d := 12) (d' := 12) (by decide) (by decide) ?_ (fun μ1 hf => ?_)
  · show mm_T X 12 0 0 k_G_fault 0 [some (.ref 0), some (.int y1)] [] μ _
    refine mm_iload d_G_fault_0 rfl ?_
    refine mm_if_ne d_G_fault_1 (fun c_1 => ?_) (fun c_1 => ?_)
    · refine mm_iload d_G_fault_12 rfl ?_
      refine mm_ciN 1 d_G_fault_13 rfl ?_
      refine mm_icmp_ne d_G_fault_14 (fun c_14 => ?_) (fun c_14 => ?_)
      · refine mm_ci d_G_fault_27 ?_
        exact mm_ri d_G_fault_28 ⟨by first | exact (if_pos (Decidable.not_not.mp c_1)).symm | (rw [if_neg c_1]; first | exact (if_pos (Decidable.not_not.mp c_14)).symm | exact (if_neg c_14).symm), Fr.rf, hw⟩
      · refine mm_aload d_G_fault_17 rfl ?_
        refine mm_getP d_G_fault_18 rfl (sk_o_0 hM) (sk_p_0_0 hM) ?_
        refine mm_getI d_G_fault_21 rfl (sk_o_1 hM) ?_
        refine mm_goto d_G_fault_24 ?_
        exact mm_ri d_G_fault_28 ⟨by first | exact (if_pos (Decidable.not_not.mp c_1)).symm | (rw [if_neg c_1]; first | exact (if_pos (Decidable.not_not.mp c_14)).symm | exact (if_neg c_14).symm), Fr.rf, hw⟩
    · refine mm_aload d_G_fault_4 rfl ?_
      refine mm_getP d_G_fault_5 rfl (sk_o_0 hM) (sk_p_0_0 hM) ?_
      refine mm_getI d_G_fault_8 rfl (sk_o_1 hM) ?_
      exact mm_ri d_G_fault_11 ⟨by first | exact (if_pos (Decidable.not_not.mp c_1)).symm | (rw [if_neg c_1]; first | exact (if_pos (Decidable.not_not.mp c_14)).symm | exact (if_neg c_14).symm), Fr.rf, hw⟩
  · show mm_T X 12 0 0 k_M_fault 0 [some (.ref 71), some (.int y1)] [] μ1 _
    replace hM := hf.2.2.2 hM
    refine mm_aload d_M_fault_0 rfl ?_
    refine mm_ciN 0 d_M_fault_1 rfl ?_
    refine mm_putI d_M_fault_2 rfl (sk_o_71 hM) (Or.inl rfl) ?_
    refine mm_iload d_M_fault_5 rfl ?_
    refine mm_if_ne d_M_fault_6 (fun c_6 => ?_) (fun c_6 => ?_)
    · refine mm_iload d_M_fault_18 rfl ?_
      refine mm_ciN 1 d_M_fault_19 rfl ?_
      refine mm_icmp_ne d_M_fault_20 (fun c_20 => ?_) (fun c_20 => ?_)
      · refine mm_ci d_M_fault_32 ?_
        exact mm_ri d_M_fault_33 ⟨by first | exact (if_pos (Decidable.not_not.mp c_6)).symm | (rw [if_neg c_6]; first | exact (if_pos (Decidable.not_not.mp c_20)).symm | exact (if_neg c_20).symm), Fr.rf.sI rfl⟩
      · refine mm_aload d_M_fault_23 rfl ?_
        refine mm_getP d_M_fault_24 rfl (sk_o_71 hM) (sk_p_71_4 hM) ?_
        refine mm_ciN 0 d_M_fault_27 rfl ?_
        refine mm_ialdV d_M_fault_28 (sk_a_75 hM) (by omega) (by decide) (show _ = mm_I μ 1 7 by rw [mm_sI_off (by decide), (hf.2.2.1 75 rfl).1, e7]) ?_
        refine mm_goto d_M_fault_29 ?_
        exact mm_ri d_M_fault_33 ⟨by first | exact (if_pos (Decidable.not_not.mp c_6)).symm | (rw [if_neg c_6]; first | exact (if_pos (Decidable.not_not.mp c_20)).symm | exact (if_neg c_20).symm), Fr.rf.sI rfl⟩
    · refine mm_aload d_M_fault_9 rfl ?_
      refine mm_getP d_M_fault_10 rfl (sk_o_71 hM) (sk_p_71_3 hM) ?_
      refine mm_ciN 0 d_M_fault_13 rfl ?_
      refine mm_ialdV d_M_fault_14 (sk_a_74 hM) (by omega) (by decide) (show _ = mm_I μ 1 6 by rw [mm_sI_off (by decide), (hf.2.2.1 74 rfl).1, e6]) ?_
      refine mm_goto d_M_fault_15 ?_
      exact mm_ri d_M_fault_33 ⟨by first | exact (if_pos (Decidable.not_not.mp c_6)).symm | (rw [if_neg c_6]; first | exact (if_pos (Decidable.not_not.mp c_20)).symm | exact (if_neg c_20).symm), Fr.rf.sI rfl⟩
theorem pair_count {X : mm_X} {k : Nat} {μ : mm_M} (hJ : JJ k μ) (y1 : Int32) : PairI X (JJ (k + 1)) k_G_count k_M_count [.int y1] μ := by
  have hM := hJ.1
  have hw := hJ.2.2.2.up
  have e : ∀ s, s ≤ 2 → mm_I μ 34 s = mm_I μ 76 s := by
    obtain ⟨-, -, -, -, -, ⟨c, -, c2, c3, -⟩, ⟨d, -, d2, d3, -⟩, ⟨f, -, f2, f3, -⟩⟩ := hJ.2.1
    intro s hs
    have h3 : s = 0 ∨ s = 1 ∨ s = 2 := by omega
    rcases h3 with rfl | rfl | rfl
    · exact c2.trans c3.symm
    · exact d2.trans d3.symm
    · exact f2.trans f3.symm
  rcases rng_or y1 (a := 0) (b := 2) (by decide) (by decide) with ⟨hz, hz2⟩ | ⟨s, -, hs, rfl⟩
  · refine pairQ (-2) hJ (d := 12) (d' := 12) (by decide) (by decide) ?_ (fun μ1 hf => ?_)
    · show mm_T X 12 0 0 k_G_count 0 [some (.ref 0), some (.int y1)] [] μ _
      refine mm_iload d_G_count_0 rfl ?_
      refine mm_s1i d_G_count_1 (sp_G_isSort ?_)
      rw [show inF y1 0 3 = nI 0 by unfold inF; rcases hz2 with z | z; rw [if_pos (show y1 < 0 from z)]; rfl; by_cases z0 : y1 < 0; rw [if_pos z0]; rfl; rw [if_neg z0, if_pos (i32_succ_le z)]; rfl]
      refine mm_if_eqN d_G_count_4 (by first | omega | exact ite01_lt | exact bt8_lt31 _ _ | exact godB_lt31 _ _ _ | exact pop_lt31 _ | assumption | exact b31 (hW.gp (by omega)) | exact b31 (hW.ne (by omega)) | exact b31 (hW.op (by omega)) | exact and31 (hW.gp (by omega)) | exact and31 (hW.ne (by omega)) | exact and31 (hW.op (by omega)) | exact and31 (by assumption) | exact and31r (hW.ne (by omega)) | exact and31r (hW.gp (by omega)) | exact and31r (by decide)) (fun c_4 => ?_) (fun c_4 => False.elim (by omega))
      refine mm_ci d_G_count_19 ?_
      exact mm_ri d_G_count_21 ⟨rfl, Fr.rf, hw⟩
    · show mm_T X 12 0 0 k_M_count 0 [some (.ref 71), some (.int y1)] [] μ1 _
      replace hM := hf.2.2.2 hM
      refine mm_aload d_M_count_0 rfl ?_
      refine mm_ciN 0 d_M_count_1 rfl ?_
      refine mm_putI d_M_count_2 rfl (sk_o_71 hM) (Or.inl rfl) ?_
      refine mm_iload d_M_count_5 rfl ?_
      refine mm_ciN 0 d_M_count_6 rfl ?_
      refine mm_ciN 2 d_M_count_7 rfl ?_
      refine mm_s3i d_M_count_8 (sp_M_inB hz ?_)
      refine mm_if_eqN d_M_count_11 (by first | omega | exact ite01_lt | exact bt8_lt31 _ _ | exact godB_lt31 _ _ _ | exact pop_lt31 _ | assumption | exact b31 (hW.gp (by omega)) | exact b31 (hW.ne (by omega)) | exact b31 (hW.op (by omega)) | exact and31 (hW.gp (by omega)) | exact and31 (hW.ne (by omega)) | exact and31 (hW.op (by omega)) | exact and31 (by assumption) | exact and31r (hW.ne (by omega)) | exact and31r (hW.gp (by omega)) | exact and31r (by decide)) (fun c_11 => ?_) (fun c_11 => False.elim (by omega))
      refine mm_ci d_M_count_23 ?_
      exact mm_ri d_M_count_25 ⟨rfl, Fr.rf.sI rfl⟩
  · refine pairQ (mm_I μ 34 s) hJ (d := 12) (d' := 12) (by decide) (by decide) ?_ (fun μ1 hf => ?_)
    · show mm_T X 12 0 0 k_G_count 0 [some (.ref 0), some (.int (nI s))] [] μ _
      refine mm_iload d_G_count_0 rfl ?_
      refine mm_s1i d_G_count_1 (sp_G_isSort ?_)
      rw [show inF (nI s) 0 3 = nI 1 by rw [show (3 : Int32) = nI 3 from rfl, inF_nI (by omega) (by decide), if_pos (by omega)]; rfl]
      refine mm_if_eqN d_G_count_4 (by first | omega | exact ite01_lt | exact bt8_lt31 _ _ | exact godB_lt31 _ _ _ | exact pop_lt31 _ | assumption | exact b31 (hW.gp (by omega)) | exact b31 (hW.ne (by omega)) | exact b31 (hW.op (by omega)) | exact and31 (hW.gp (by omega)) | exact and31 (hW.ne (by omega)) | exact and31 (hW.op (by omega)) | exact and31 (by assumption) | exact and31r (hW.ne (by omega)) | exact and31r (hW.gp (by omega)) | exact and31r (by decide)) (fun c_4 => False.elim (by omega)) (fun c_4 => ?_)
      refine mm_aload d_G_count_7 rfl ?_
      refine mm_getP d_G_count_8 rfl (sk_o_0 hM) (sk_p_0_0 hM) ?_
      refine mm_getP d_G_count_11 rfl (sk_o_1 hM) (sk_p_1_4 hM) ?_
      refine mm_iload d_G_count_14 rfl ?_
      refine mm_ialdX d_G_count_15 (sk_a_34 hM) (by omega) (by decide) ?_
      refine mm_goto d_G_count_16 ?_
      exact mm_ri d_G_count_21 ⟨rfl, Fr.rf, hw⟩
    · show mm_T X 12 0 0 k_M_count 0 [some (.ref 71), some (.int (nI s))] [] μ1 _
      replace hM := hf.2.2.2 hM
      refine mm_aload d_M_count_0 rfl ?_
      refine mm_ciN 0 d_M_count_1 rfl ?_
      refine mm_putI d_M_count_2 rfl (sk_o_71 hM) (Or.inl rfl) ?_
      refine mm_iload d_M_count_5 rfl ?_
      refine mm_ciN 0 d_M_count_6 rfl ?_
      refine mm_ciN 2 d_M_count_7 rfl ?_
      refine mm_s3i d_M_count_8 (sp_M_inT (by omega) (by omega) (by omega) ?_)
      refine mm_if_eqN d_M_count_11 (by first | omega | exact ite01_lt | exact bt8_lt31 _ _ | exact godB_lt31 _ _ _ | exact pop_lt31 _ | assumption | exact b31 (hW.gp (by omega)) | exact b31 (hW.ne (by omega)) | exact b31 (hW.op (by omega)) | exact and31 (hW.gp (by omega)) | exact and31 (hW.ne (by omega)) | exact and31 (hW.op (by omega)) | exact and31 (by assumption) | exact and31r (hW.ne (by omega)) | exact and31r (hW.gp (by omega)) | exact and31r (by decide)) (fun c_11 => False.elim (by omega)) (fun c_11 => ?_)
      refine mm_aload d_M_count_14 rfl ?_
      refine mm_getP d_M_count_15 rfl (sk_o_71 hM) (sk_p_71_5 hM) ?_
      refine mm_iload d_M_count_18 rfl ?_
      refine mm_ialdV d_M_count_19 (sk_a_76 hM) (by omega) (by decide) (show _ = mm_I μ 34 s by rw [mm_sI_off (by decide), (hf.2.2.1 76 rfl).1, e s hs]) ?_
      refine mm_goto d_M_count_20 ?_
      exact mm_ri d_M_count_25 ⟨rfl, Fr.rf.sI rfl⟩
