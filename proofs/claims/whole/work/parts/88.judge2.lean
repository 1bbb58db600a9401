/-! texts: a line is judged; a line is read -/
theorem RC.cg {s : Nat} {t : Nat → Nat} {μ ν : mm_M} (h : RC s t μ) (hM : SK ν) (e : ∀ a, 37 ≤ a → a ≤ 50 → mm_I ν a = mm_I μ a) (e10 : mm_I ν 36 10 = mm_I μ 36 10) : RC s t ν := by
  obtain ⟨h0, h1, h2, h3⟩ := h
  refine ⟨fun z => ?_, fun z => ?_, fun z => ?_, fun z => ?_⟩
  · obtain ⟨⟨-, c1, c2, c3, c4⟩, c5⟩ := h0 z
    refine ⟨⟨sk_c_37 hM, ?_, ?_, fun j hj => ?_, fun j hj => ?_⟩, e10.trans c5⟩
    · rw [e 37 (by decide) (by decide)]; exact c1
    · rw [e 37 (by decide) (by decide)]; exact c2
    · rw [e (37 + 1) (by decide) (by decide), e (37 + 2) (by decide) (by decide), e (37 + 3) (by decide) (by decide)]; exact c3 j hj
    · rw [e (37 + 4) (by decide) (by decide), e (37 + 5) (by decide) (by decide), e (37 + 6) (by decide) (by decide)]; exact c4 j hj
  · rw [e 44 (by decide) (by decide), e 45 (by decide) (by decide), e 46 (by decide) (by decide), e 47 (by decide) (by decide)]; exact h1 z
  · rw [e 48 (by decide) (by decide), e 49 (by decide) (by decide), e 50 (by decide) (by decide)]; exact h2 z
  · rw [e10, e 37 (by decide) (by decide)]; exact h3 z
theorem RC_year {μ : mm_M} {t : Nat → Nat} {kd a b : Nat} {y z : Int32} (h : RC 1 t μ) (hM : SK μ) (hy : y = if kd < 4 then nI a else -1) (hz : z = if kd < 2 then nI b else -1) : RC 1 (up (up (up (up t (1 + 3 * t 0) kd) (1 + 3 * t 0 + 1) a) (1 + 3 * t 0 + 2) b) 0 (t 0 + 1)) (mm_sI (mm_sI (mm_sI (mm_sI μ 45 (t 0) (nI kd)) 46 (t 0) y) 47 (t 0) z) 44 3 (nI (t 0 + 1))) := by
  obtain ⟨-, h1, -, h3⟩ := h
  obtain ⟨n1, n2⟩ := h1 rfl
  refine ⟨fun w => absurd w (by decide), fun _ => ⟨?_, fun j hj => ?_⟩, fun w => absurd w (by decide), fun w => ?_⟩
  · rw [mm_I_sI, if_pos ⟨rfl, rfl⟩]; rfl
  · have hj' : j < t 0 + 1 := hj
    unfold yv1 yv2
    by_cases w : j = t 0
    · rw [w, hy, hz]
      have e1 : (up (up (up (up t (1 + 3 * t 0) kd) (1 + 3 * t 0 + 1) a) (1 + 3 * t 0 + 2) b) 0 (t 0 + 1)) (1 + 3 * t 0) = kd := by unfold up; (repeat (first | rw [if_neg (by first | omega | (intro z; have := z.2; omega))] | rw [if_pos (by first | omega | trivial | (refine ⟨trivial, ?_⟩; first | trivial | omega))]))
      have e2 : (up (up (up (up t (1 + 3 * t 0) kd) (1 + 3 * t 0 + 1) a) (1 + 3 * t 0 + 2) b) 0 (t 0 + 1)) (1 + 3 * t 0 + 1) = a := by unfold up; (repeat (first | rw [if_neg (by first | omega | (intro z; have := z.2; omega))] | rw [if_pos (by first | omega | trivial | (refine ⟨trivial, ?_⟩; first | trivial | omega))]))
      have e3 : (up (up (up (up t (1 + 3 * t 0) kd) (1 + 3 * t 0 + 1) a) (1 + 3 * t 0 + 2) b) 0 (t 0 + 1)) (1 + 3 * t 0 + 2) = b := by unfold up; (repeat (first | rw [if_neg (by first | omega | (intro z; have := z.2; omega))] | rw [if_pos (by first | omega | trivial | (refine ⟨trivial, ?_⟩; first | trivial | omega))]))
      rw [e1, e2, e3]
      refine ⟨?_, ?_, ?_⟩
      · rw [mm_sI_off (by decide), mm_sI_off (by decide), mm_sI_off (by decide), mm_I_sI, if_pos ⟨rfl, rfl⟩]
      · rw [mm_sI_off (by decide), mm_sI_off (by decide), mm_I_sI, if_pos ⟨rfl, rfl⟩]
      · rw [mm_sI_off (by decide), mm_I_sI, if_pos ⟨rfl, rfl⟩]
    · obtain ⟨m1, m2, m3⟩ := n2 j (by omega)
      unfold yv1 at m2
      unfold yv2 at m3
      refine ⟨?_, ?_, ?_⟩
      · simp only [mm_I_sI, up]; (repeat (first | rw [if_neg (by first | omega | (intro z; have := z.2; omega))] | rw [if_pos (by first | omega | trivial | (refine ⟨trivial, ?_⟩; first | trivial | omega))])); exact m1
      · rw [mm_sI_off (by decide), mm_sI_off (by decide), mm_I_sI, if_neg (fun z => w z.2), mm_sI_off (by decide), m2]
        have e1 : (up (up (up (up t (1 + 3 * t 0) kd) (1 + 3 * t 0 + 1) a) (1 + 3 * t 0 + 2) b) 0 (t 0 + 1)) (1 + 3 * j) = t (1 + 3 * j) := by unfold up; (repeat (first | rw [if_neg (by first | omega | (intro z; have := z.2; omega))] | rw [if_pos (by first | omega | trivial | (refine ⟨trivial, ?_⟩; first | trivial | omega))]))
        have e2 : (up (up (up (up t (1 + 3 * t 0) kd) (1 + 3 * t 0 + 1) a) (1 + 3 * t 0 + 2) b) 0 (t 0 + 1)) (1 + 3 * j + 1) = t (1 + 3 * j + 1) := by unfold up; (repeat (first | rw [if_neg (by first | omega | (intro z; have := z.2; omega))] | rw [if_pos (by first | omega | trivial | (refine ⟨trivial, ?_⟩; first | trivial | omega))]))
        rw [e1, e2]
      · rw [mm_sI_off (by decide), mm_I_sI, if_neg (fun z => w z.2), mm_sI_off (by decide), mm_sI_off (by decide), m3]
        have e1 : (up (up (up (up t (1 + 3 * t 0) kd) (1 + 3 * t 0 + 1) a) (1 + 3 * t 0 + 2) b) 0 (t 0 + 1)) (1 + 3 * j) = t (1 + 3 * j) := by unfold up; (repeat (first | rw [if_neg (by first | omega | (intro z; have := z.2; omega))] | rw [if_pos (by first | omega | trivial | (refine ⟨trivial, ?_⟩; first | trivial | omega))]))
        have e2 : (up (up (up (up t (1 + 3 * t 0) kd) (1 + 3 * t 0 + 1) a) (1 + 3 * t 0 + 2) b) 0 (t 0 + 1)) (1 + 3 * j + 2) = t (1 + 3 * j + 2) := by unfold up; (repeat (first | rw [if_neg (by first | omega | (intro z; have := z.2; omega))] | rw [if_pos (by first | omega | trivial | (refine ⟨trivial, ?_⟩; first | trivial | omega))]))
        rw [e1, e2]
  · rw [mm_sI_off (by decide), mm_sI_off (by decide), mm_sI_off (by decide), mm_sI_off (by decide), mm_sI_off (by decide), mm_sI_off (by decide), mm_sI_off (by decide), mm_sI_off (by decide)]
    exact h3 w
theorem RC_log {μ : mm_M} {t : Nat → Nat} {kd a : Nat} (h : RC 2 t μ) (hM : SK μ) : RC 2 (up (up (up t (1 + 2 * t 0) kd) (1 + 2 * t 0 + 1) a) 0 (t 0 + 1)) (mm_sI (mm_sI (mm_sI μ 49 (t 0) (nI kd)) 50 (t 0) (nI a)) 48 2 (nI (t 0 + 1))) := by
  obtain ⟨-, -, h1, h3⟩ := h
  obtain ⟨n1, n2⟩ := h1 rfl
  refine ⟨fun w => absurd w (by decide), fun w => absurd w (by decide), fun _ => ⟨?_, fun j hj => ?_⟩, fun w => ?_⟩
  · rw [mm_I_sI, if_pos ⟨rfl, rfl⟩]; rfl
  · have hj' : j < t 0 + 1 := hj
    by_cases w : j = t 0
    · rw [w]
      refine ⟨?_, ?_⟩ <;> (simp only [mm_I_sI, up]; (repeat (first | rw [if_neg (by first | omega | (intro z; have := z.2; omega))] | rw [if_pos (by first | omega | trivial | (refine ⟨trivial, ?_⟩; first | trivial | omega))])))
    · obtain ⟨m1, m2⟩ := n2 j (by omega)
      refine ⟨?_, ?_⟩
      · simp only [mm_I_sI, up]; (repeat (first | rw [if_neg (by first | omega | (intro z; have := z.2; omega))] | rw [if_pos (by first | omega | trivial | (refine ⟨trivial, ?_⟩; first | trivial | omega))])); exact m1
      · simp only [mm_I_sI, up]; (repeat (first | rw [if_neg (by first | omega | (intro z; have := z.2; omega))] | rw [if_pos (by first | omega | trivial | (refine ⟨trivial, ?_⟩; first | trivial | omega))])); exact m2
  · rw [mm_sI_off (by decide), mm_sI_off (by decide), mm_sI_off (by decide), mm_sI_off (by decide), mm_sI_off (by decide), mm_sI_off (by decide)]
    exact h3 w
theorem sp_Re_judge {X : mm_X} {μ : mm_M} {q : mm_M → Prop} {k st : Nat} {v t x : Nat → Nat} (hM : SK μ) (hk : k < 13) (hC : RC (srt k) t μ) (hW : WfT (srt k) t) (hv : ∀ j, j < nu k → mm_I μ 51 j = nI (v j) ∧ v j < 100) (hx : ∀ j, j < nu k → mm_I μ 52 j = nI (x j)) (h3 : fu k t = true → q (mm_sI (mm_sI μ 36 3 (nI 3)) 36 4 (nI st))) (h2 : ∀ i, i < nu k → ¬ fu k t = true → fb k v (nu k) 0 = some i → q (mm_sI (mm_sI μ 36 3 (nI 2)) 36 4 (nI (x i)))) (h0 : ∀ ν, ¬ fu k t = true → fb k v (nu k) 0 = none → Kr μ ν → mm_I ν 36 3 = mm_I μ 36 3 → mm_I ν 36 4 = mm_I μ 36 4 → RC (srt k) (stp k v t) ν → q ν) : mm_Cv X 1 0 0 k_Re_judge [.ref 36, .int (nI k), .int (nI st)] μ q := by
  show mm_T X 1 0 0 k_Re_judge 0 [some (.ref 36), some (.int (nI k)), some (.int (nI st)), none] [] μ _
  have hn3 := (nu_i k hk).2
  by_cases hfu : fu k t = true
  · refine mm_aload d_Re_judge_0 rfl ?_
    refine mm_iload d_Re_judge_1 rfl ?_
    refine mm_v1i d_Re_judge_2 (sk_o_36 hM) (sp_Re_isFull hM hk hC hW ?_)
    rw [if_pos hfu]
    refine mm_if_eqN d_Re_judge_5 (by first | omega | exact ite01_lt | exact bt8_lt31 _ _ | exact godB_lt31 _ _ _ | exact pop_lt31 _ | assumption | exact b31 (hW.gp (by omega)) | exact b31 (hW.ne (by omega)) | exact b31 (hW.op (by omega)) | exact and31 (hW.gp (by omega)) | exact and31 (hW.ne (by omega)) | exact and31 (hW.op (by omega)) | exact and31 (by assumption) | exact and31r (hW.ne (by omega)) | exact and31r (hW.gp (by omega)) | exact and31r (by decide)) (fun c_5 => False.elim (by omega)) (fun c_5 => ?_)
    refine mm_aload d_Re_judge_8 rfl ?_
    refine mm_ciN 3 d_Re_judge_9 rfl ?_
    refine mm_iload d_Re_judge_10 rfl ?_
    refine mm_v2v d_Re_judge_11 (sk_o_36 hM) (sp_Re_note hM ?_)
    exact mm_rv d_Re_judge_14 (h3 hfu)
  · have fin : fb k v (nu k) 0 = none → (∀ j, j < nu k → cb k v j = true) → mm_T X 1 0 0 k_Re_judge 53 [some (.ref 36), some (.int (nI k)), some (.int (nI st)), some (.int (nI (nu k)))] [] μ (fun w μ' => w = none ∧ q μ') := by
      intro hfb hcb
      by_cases k6 : k < 6
      · have es : srt k = 0 := if_pos k6
        rw [es] at hC hW h0
        obtain ⟨hCD, h10⟩ := hC.1 rfl
        refine mm_iload d_Re_judge_53 rfl ?_
        refine mm_ciN 6 d_Re_judge_54 rfl ?_
        refine mm_icmp_geN d_Re_judge_56 (by first | omega | exact ite01_lt | exact bt8_lt31 _ _ | exact godB_lt31 _ _ _ | exact pop_lt31 _ | assumption | exact b31 (hW.gp (by omega)) | exact b31 (hW.ne (by omega)) | exact b31 (hW.op (by omega)) | exact and31 (hW.gp (by omega)) | exact and31 (hW.ne (by omega)) | exact and31 (hW.op (by omega)) | exact and31 (by assumption) | exact and31r (hW.ne (by omega)) | exact and31r (hW.gp (by omega)) | exact and31r (by decide)) (by first | omega | exact ite01_lt | exact bt8_lt31 _ _ | exact godB_lt31 _ _ _ | exact pop_lt31 _ | assumption | exact b31 (hW.gp (by omega)) | exact b31 (hW.ne (by omega)) | exact b31 (hW.op (by omega)) | exact and31 (hW.gp (by omega)) | exact and31 (hW.ne (by omega)) | exact and31 (hW.op (by omega)) | exact and31 (by assumption) | exact and31r (hW.ne (by omega)) | exact and31r (hW.gp (by omega)) | exact and31r (by decide)) (fun c_56 => False.elim (by omega)) (fun c_56 => ?_)
        refine mm_aload d_Re_judge_59 rfl ?_
        refine mm_iload d_Re_judge_60 rfl ?_
        refine mm_v1v d_Re_judge_61 (sk_o_36 hM) (sp_Re_tellOfCoast hM k6 hCD h10 hW hfu (fun j hj => ⟨(hv j hj).1, hcb j hj⟩) (fun ν kr f3 f4 cd d10 => ?_))
        refine mm_goto d_Re_judge_64 ?_
        exact mm_rv d_Re_judge_139 (h0 ν hfu hfb kr f3 f4 ⟨fun _ => ⟨cd, d10⟩, fun w => absurd w (by decide), fun w => absurd w (by decide), fun w => absurd rfl w⟩)
      · by_cases k11 : k < 11
        · have es : srt k = 1 := by unfold srt; rw [if_neg k6, if_pos k11]
          rw [es] at hC hW h0
          have hn4 : t 0 < 40 := Decidable.byContradiction fun w => hfu (fu_i.mpr (by omega))
          have e0 := (hC.2.1 rfl).1
          have hk5 : k = 6 ∨ k = 7 ∨ k = 8 ∨ k = 9 ∨ k = 10 := by omega
          rcases hk5 with rfl | rfl | rfl | rfl | rfl
          · rw [stpY v t (by decide) (by decide)] at h0
            have v0 := (hv 0 (by decide)).1
            have v1 := (hv 1 (by decide)).1
            refine mm_iload d_Re_judge_53 rfl ?_
            refine mm_ciN 6 d_Re_judge_54 rfl ?_
            refine mm_icmp_geN d_Re_judge_56 (by first | omega | exact ite01_lt | exact bt8_lt31 _ _ | exact godB_lt31 _ _ _ | exact pop_lt31 _ | assumption | exact b31 (hW.gp (by omega)) | exact b31 (hW.ne (by omega)) | exact b31 (hW.op (by omega)) | exact and31 (hW.gp (by omega)) | exact and31 (hW.ne (by omega)) | exact and31 (hW.op (by omega)) | exact and31 (by assumption) | exact and31r (hW.ne (by omega)) | exact and31r (hW.gp (by omega)) | exact and31r (by decide)) (by first | omega | exact ite01_lt | exact bt8_lt31 _ _ | exact godB_lt31 _ _ _ | exact pop_lt31 _ | assumption | exact b31 (hW.gp (by omega)) | exact b31 (hW.ne (by omega)) | exact b31 (hW.op (by omega)) | exact and31 (hW.gp (by omega)) | exact and31 (hW.ne (by omega)) | exact and31 (hW.op (by omega)) | exact and31 (by assumption) | exact and31r (hW.ne (by omega)) | exact and31r (hW.gp (by omega)) | exact and31r (by decide)) (fun c_56 => ?_) (fun c_56 => False.elim (by omega))
            refine mm_iload d_Re_judge_67 rfl ?_
            refine mm_ciN 11 d_Re_judge_68 rfl ?_
            refine mm_icmp_geN d_Re_judge_70 (by first | omega | exact ite01_lt | exact bt8_lt31 _ _ | exact godB_lt31 _ _ _ | exact pop_lt31 _ | assumption | exact b31 (hW.gp (by omega)) | exact b31 (hW.ne (by omega)) | exact b31 (hW.op (by omega)) | exact and31 (hW.gp (by omega)) | exact and31 (hW.ne (by omega)) | exact and31 (hW.op (by omega)) | exact and31 (by assumption) | exact and31r (hW.ne (by omega)) | exact and31r (hW.gp (by omega)) | exact and31r (by decide)) (by first | omega | exact ite01_lt | exact bt8_lt31 _ _ | exact godB_lt31 _ _ _ | exact pop_lt31 _ | assumption | exact b31 (hW.gp (by omega)) | exact b31 (hW.ne (by omega)) | exact b31 (hW.op (by omega)) | exact and31 (hW.gp (by omega)) | exact and31 (hW.ne (by omega)) | exact and31 (hW.op (by omega)) | exact and31 (by assumption) | exact and31r (hW.ne (by omega)) | exact and31r (hW.gp (by omega)) | exact and31r (by decide)) (fun c_70 => False.elim (by omega)) (fun c_70 => ?_)
            refine mm_gets d_Re_judge_73 ?_
            refine mm_iload d_Re_judge_76 rfl ?_
            refine mm_knum d_Re_judge_77 (by decide) ?_
            rw [show nu 6 = 2 from rfl]
            refine mm_ist3 d_Re_judge_78 ?_
            refine mm_aload d_Re_judge_79 rfl ?_
            refine mm_getP d_Re_judge_80 rfl (sk_o_36 hM) (sk_p_36_1 hM) ?_
            refine mm_iload d_Re_judge_83 rfl ?_
            refine mm_ciN 6 d_Re_judge_84 rfl ?_
            refine mm_isubN d_Re_judge_86 (by omega) ?_
            refine mm_iload d_Re_judge_87 rfl ?_
            refine mm_if_leN d_Re_judge_88 (by first | omega | exact ite01_lt | exact bt8_lt31 _ _ | exact godB_lt31 _ _ _ | exact pop_lt31 _ | assumption | exact b31 (hW.gp (by omega)) | exact b31 (hW.ne (by omega)) | exact b31 (hW.op (by omega)) | exact and31 (hW.gp (by omega)) | exact and31 (hW.ne (by omega)) | exact and31 (hW.op (by omega)) | exact and31 (by assumption) | exact and31r (hW.ne (by omega)) | exact and31r (hW.gp (by omega)) | exact and31r (by decide)) (fun c_88 => False.elim (by omega)) (fun c_88 => ?_)
            refine mm_aload d_Re_judge_91 rfl ?_
            refine mm_getP d_Re_judge_92 rfl (sk_o_36 hM) (sk_p_36_5 hM) ?_
            refine mm_ciN 0 d_Re_judge_95 rfl ?_
            refine mm_ialdN d_Re_judge_96 (sk_a_51 hM) (by omega) (by decide) v0 ?_
            refine mm_goto d_Re_judge_97 ?_
            refine mm_iload d_Re_judge_101 rfl ?_
            refine mm_ciN 1 d_Re_judge_102 rfl ?_
            refine mm_icmp_leN d_Re_judge_103 (by first | omega | exact ite01_lt | exact bt8_lt31 _ _ | exact godB_lt31 _ _ _ | exact pop_lt31 _ | assumption | exact b31 (hW.gp (by omega)) | exact b31 (hW.ne (by omega)) | exact b31 (hW.op (by omega)) | exact and31 (hW.gp (by omega)) | exact and31 (hW.ne (by omega)) | exact and31 (hW.op (by omega)) | exact and31 (by assumption) | exact and31r (hW.ne (by omega)) | exact and31r (hW.gp (by omega)) | exact and31r (by decide)) (by first | omega | exact ite01_lt | exact bt8_lt31 _ _ | exact godB_lt31 _ _ _ | exact pop_lt31 _ | assumption | exact b31 (hW.gp (by omega)) | exact b31 (hW.ne (by omega)) | exact b31 (hW.op (by omega)) | exact and31 (hW.gp (by omega)) | exact and31 (hW.ne (by omega)) | exact and31 (hW.op (by omega)) | exact and31 (by assumption) | exact and31r (hW.ne (by omega)) | exact and31r (hW.gp (by omega)) | exact and31r (by decide)) (fun c_103 => False.elim (by omega)) (fun c_103 => ?_)
            refine mm_aload d_Re_judge_106 rfl ?_
            refine mm_getP d_Re_judge_107 rfl (sk_o_36 hM) (sk_p_36_5 hM) ?_
            refine mm_ciN 1 d_Re_judge_110 rfl ?_
            refine mm_ialdN d_Re_judge_111 (sk_a_51 hM) (by omega) (by decide) v1 ?_
            refine mm_goto d_Re_judge_112 ?_
            refine mm_v3v d_Re_judge_116 (sk_o_44 hM) (sp_Ye_add hM e0 hn4 ?_)
            refine mm_goto d_Re_judge_119 ?_
            exact mm_rv d_Re_judge_139 (h0 _ hfu hfb ((((Kr.rf.sI ⟨by decide, by decide⟩).sI ⟨by decide, by decide⟩).sI ⟨by decide, by decide⟩).sI ⟨by decide, by decide⟩) rfl rfl (RC_year hC hM rfl rfl))
          · rw [stpY v t (by decide) (by decide)] at h0
            have v0 := (hv 0 (by decide)).1
            have v1 := (hv 1 (by decide)).1
            refine mm_iload d_Re_judge_53 rfl ?_
            refine mm_ciN 6 d_Re_judge_54 rfl ?_
            refine mm_icmp_geN d_Re_judge_56 (by first | omega | exact ite01_lt | exact bt8_lt31 _ _ | exact godB_lt31 _ _ _ | exact pop_lt31 _ | assumption | exact b31 (hW.gp (by omega)) | exact b31 (hW.ne (by omega)) | exact b31 (hW.op (by omega)) | exact and31 (hW.gp (by omega)) | exact and31 (hW.ne (by omega)) | exact and31 (hW.op (by omega)) | exact and31 (by assumption) | exact and31r (hW.ne (by omega)) | exact and31r (hW.gp (by omega)) | exact and31r (by decide)) (by first | omega | exact ite01_lt | exact bt8_lt31 _ _ | exact godB_lt31 _ _ _ | exact pop_lt31 _ | assumption | exact b31 (hW.gp (by omega)) | exact b31 (hW.ne (by omega)) | exact b31 (hW.op (by omega)) | exact and31 (hW.gp (by omega)) | exact and31 (hW.ne (by omega)) | exact and31 (hW.op (by omega)) | exact and31 (by assumption) | exact and31r (hW.ne (by omega)) | exact and31r (hW.gp (by omega)) | exact and31r (by decide)) (fun c_56 => ?_) (fun c_56 => False.elim (by omega))
            refine mm_iload d_Re_judge_67 rfl ?_
            refine mm_ciN 11 d_Re_judge_68 rfl ?_
            refine mm_icmp_geN d_Re_judge_70 (by first | omega | exact ite01_lt | exact bt8_lt31 _ _ | exact godB_lt31 _ _ _ | exact pop_lt31 _ | assumption | exact b31 (hW.gp (by omega)) | exact b31 (hW.ne (by omega)) | exact b31 (hW.op (by omega)) | exact and31 (hW.gp (by omega)) | exact and31 (hW.ne (by omega)) | exact and31 (hW.op (by omega)) | exact and31 (by assumption) | exact and31r (hW.ne (by omega)) | exact and31r (hW.gp (by omega)) | exact and31r (by decide)) (by first | omega | exact ite01_lt | exact bt8_lt31 _ _ | exact godB_lt31 _ _ _ | exact pop_lt31 _ | assumption | exact b31 (hW.gp (by omega)) | exact b31 (hW.ne (by omega)) | exact b31 (hW.op (by omega)) | exact and31 (hW.gp (by omega)) | exact and31 (hW.ne (by omega)) | exact and31 (hW.op (by omega)) | exact and31 (by assumption) | exact and31r (hW.ne (by omega)) | exact and31r (hW.gp (by omega)) | exact and31r (by decide)) (fun c_70 => False.elim (by omega)) (fun c_70 => ?_)
            refine mm_gets d_Re_judge_73 ?_
            refine mm_iload d_Re_judge_76 rfl ?_
            refine mm_knum d_Re_judge_77 (by decide) ?_
            rw [show nu 7 = 2 from rfl]
            refine mm_ist3 d_Re_judge_78 ?_
            refine mm_aload d_Re_judge_79 rfl ?_
            refine mm_getP d_Re_judge_80 rfl (sk_o_36 hM) (sk_p_36_1 hM) ?_
            refine mm_iload d_Re_judge_83 rfl ?_
            refine mm_ciN 6 d_Re_judge_84 rfl ?_
            refine mm_isubN d_Re_judge_86 (by omega) ?_
            refine mm_iload d_Re_judge_87 rfl ?_
            refine mm_if_leN d_Re_judge_88 (by first | omega | exact ite01_lt | exact bt8_lt31 _ _ | exact godB_lt31 _ _ _ | exact pop_lt31 _ | assumption | exact b31 (hW.gp (by omega)) | exact b31 (hW.ne (by omega)) | exact b31 (hW.op (by omega)) | exact and31 (hW.gp (by omega)) | exact and31 (hW.ne (by omega)) | exact and31 (hW.op (by omega)) | exact and31 (by assumption) | exact and31r (hW.ne (by omega)) | exact and31r (hW.gp (by omega)) | exact and31r (by decide)) (fun c_88 => False.elim (by omega)) (fun c_88 => ?_)
            refine mm_aload d_Re_judge_91 rfl ?_
            refine mm_getP d_Re_judge_92 rfl (sk_o_36 hM) (sk_p_36_5 hM) ?_
            refine mm_ciN 0 d_Re_judge_95 rfl ?_
            refine mm_ialdN d_Re_judge_96 (sk_a_51 hM) (by omega) (by decide) v0 ?_
            refine mm_goto d_Re_judge_97 ?_
            refine mm_iload d_Re_judge_101 rfl ?_
            refine mm_ciN 1 d_Re_judge_102 rfl ?_
            refine mm_icmp_leN d_Re_judge_103 (by first | omega | exact ite01_lt | exact bt8_lt31 _ _ | exact godB_lt31 _ _ _ | exact pop_lt31 _ | assumption | exact b31 (hW.gp (by omega)) | exact b31 (hW.ne (by omega)) | exact b31 (hW.op (by omega)) | exact and31 (hW.gp (by omega)) | exact and31 (hW.ne (by omega)) | exact and31 (hW.op (by omega)) | exact and31 (by assumption) | exact and31r (hW.ne (by omega)) | exact and31r (hW.gp (by omega)) | exact and31r (by decide)) (by first | omega | exact ite01_lt | exact bt8_lt31 _ _ | exact godB_lt31 _ _ _ | exact pop_lt31 _ | assumption | exact b31 (hW.gp (by omega)) | exact b31 (hW.ne (by omega)) | exact b31 (hW.op (by omega)) | exact and31 (hW.gp (by omega)) | exact and31 (hW.ne (by omega)) | exact and31 (hW.op (by omega)) | exact and31 (by assumption) | exact and31r (hW.ne (by omega)) | exact and31r (hW.gp (by omega)) | exact and31r (by decide)) (fun c_103 => False.elim (by omega)) (fun c_103 => ?_)
            refine mm_aload d_Re_judge_106 rfl ?_
            refine mm_getP d_Re_judge_107 rfl (sk_o_36 hM) (sk_p_36_5 hM) ?_
            refine mm_ciN 1 d_Re_judge_110 rfl ?_
            refine mm_ialdN d_Re_judge_111 (sk_a_51 hM) (by omega) (by decide) v1 ?_
            refine mm_goto d_Re_judge_112 ?_
            refine mm_v3v d_Re_judge_116 (sk_o_44 hM) (sp_Ye_add hM e0 hn4 ?_)
            refine mm_goto d_Re_judge_119 ?_
            exact mm_rv d_Re_judge_139 (h0 _ hfu hfb ((((Kr.rf.sI ⟨by decide, by decide⟩).sI ⟨by decide, by decide⟩).sI ⟨by decide, by decide⟩).sI ⟨by decide, by decide⟩) rfl rfl (RC_year hC hM rfl rfl))
          · rw [stpY v t (by decide) (by decide)] at h0
            have v0 := (hv 0 (by decide)).1
            refine mm_iload d_Re_judge_53 rfl ?_
            refine mm_ciN 6 d_Re_judge_54 rfl ?_
            refine mm_icmp_geN d_Re_judge_56 (by first | omega | exact ite01_lt | exact bt8_lt31 _ _ | exact godB_lt31 _ _ _ | exact pop_lt31 _ | assumption | exact b31 (hW.gp (by omega)) | exact b31 (hW.ne (by omega)) | exact b31 (hW.op (by omega)) | exact and31 (hW.gp (by omega)) | exact and31 (hW.ne (by omega)) | exact and31 (hW.op (by omega)) | exact and31 (by assumption) | exact and31r (hW.ne (by omega)) | exact and31r (hW.gp (by omega)) | exact and31r (by decide)) (by first | omega | exact ite01_lt | exact bt8_lt31 _ _ | exact godB_lt31 _ _ _ | exact pop_lt31 _ | assumption | exact b31 (hW.gp (by omega)) | exact b31 (hW.ne (by omega)) | exact b31 (hW.op (by omega)) | exact and31 (hW.gp (by omega)) | exact and31 (hW.ne (by omega)) | exact and31 (hW.op (by omega)) | exact and31 (by assumption) | exact and31r (hW.ne (by omega)) | exact and31r (hW.gp (by omega)) | exact and31r (by decide)) (fun c_56 => ?_) (fun c_56 => False.elim (by omega))
            refine mm_iload d_Re_judge_67 rfl ?_
            refine mm_ciN 11 d_Re_judge_68 rfl ?_
            refine mm_icmp_geN d_Re_judge_70 (by first | omega | exact ite01_lt | exact bt8_lt31 _ _ | exact godB_lt31 _ _ _ | exact pop_lt31 _ | assumption | exact b31 (hW.gp (by omega)) | exact b31 (hW.ne (by omega)) | exact b31 (hW.op (by omega)) | exact and31 (hW.gp (by omega)) | exact and31 (hW.ne (by omega)) | exact and31 (hW.op (by omega)) | exact and31 (by assumption) | exact and31r (hW.ne (by omega)) | exact and31r (hW.gp (by omega)) | exact and31r (by decide)) (by first | omega | exact ite01_lt | exact bt8_lt31 _ _ | exact godB_lt31 _ _ _ | exact pop_lt31 _ | assumption | exact b31 (hW.gp (by omega)) | exact b31 (hW.ne (by omega)) | exact b31 (hW.op (by omega)) | exact and31 (hW.gp (by omega)) | exact and31 (hW.ne (by omega)) | exact and31 (hW.op (by omega)) | exact and31 (by assumption) | exact and31r (hW.ne (by omega)) | exact and31r (hW.gp (by omega)) | exact and31r (by decide)) (fun c_70 => False.elim (by omega)) (fun c_70 => ?_)
            refine mm_gets d_Re_judge_73 ?_
            refine mm_iload d_Re_judge_76 rfl ?_
            refine mm_knum d_Re_judge_77 (by decide) ?_
            rw [show nu 8 = 1 from rfl]
            refine mm_ist3 d_Re_judge_78 ?_
            refine mm_aload d_Re_judge_79 rfl ?_
            refine mm_getP d_Re_judge_80 rfl (sk_o_36 hM) (sk_p_36_1 hM) ?_
            refine mm_iload d_Re_judge_83 rfl ?_
            refine mm_ciN 6 d_Re_judge_84 rfl ?_
            refine mm_isubN d_Re_judge_86 (by omega) ?_
            refine mm_iload d_Re_judge_87 rfl ?_
            refine mm_if_leN d_Re_judge_88 (by first | omega | exact ite01_lt | exact bt8_lt31 _ _ | exact godB_lt31 _ _ _ | exact pop_lt31 _ | assumption | exact b31 (hW.gp (by omega)) | exact b31 (hW.ne (by omega)) | exact b31 (hW.op (by omega)) | exact and31 (hW.gp (by omega)) | exact and31 (hW.ne (by omega)) | exact and31 (hW.op (by omega)) | exact and31 (by assumption) | exact and31r (hW.ne (by omega)) | exact and31r (hW.gp (by omega)) | exact and31r (by decide)) (fun c_88 => False.elim (by omega)) (fun c_88 => ?_)
            refine mm_aload d_Re_judge_91 rfl ?_
            refine mm_getP d_Re_judge_92 rfl (sk_o_36 hM) (sk_p_36_5 hM) ?_
            refine mm_ciN 0 d_Re_judge_95 rfl ?_
            refine mm_ialdN d_Re_judge_96 (sk_a_51 hM) (by omega) (by decide) v0 ?_
            refine mm_goto d_Re_judge_97 ?_
            refine mm_iload d_Re_judge_101 rfl ?_
            refine mm_ciN 1 d_Re_judge_102 rfl ?_
            refine mm_icmp_leN d_Re_judge_103 (by first | omega | exact ite01_lt | exact bt8_lt31 _ _ | exact godB_lt31 _ _ _ | exact pop_lt31 _ | assumption | exact b31 (hW.gp (by omega)) | exact b31 (hW.ne (by omega)) | exact b31 (hW.op (by omega)) | exact and31 (hW.gp (by omega)) | exact and31 (hW.ne (by omega)) | exact and31 (hW.op (by omega)) | exact and31 (by assumption) | exact and31r (hW.ne (by omega)) | exact and31r (hW.gp (by omega)) | exact and31r (by decide)) (by first | omega | exact ite01_lt | exact bt8_lt31 _ _ | exact godB_lt31 _ _ _ | exact pop_lt31 _ | assumption | exact b31 (hW.gp (by omega)) | exact b31 (hW.ne (by omega)) | exact b31 (hW.op (by omega)) | exact and31 (hW.gp (by omega)) | exact and31 (hW.ne (by omega)) | exact and31 (hW.op (by omega)) | exact and31 (by assumption) | exact and31r (hW.ne (by omega)) | exact and31r (hW.gp (by omega)) | exact and31r (by decide)) (fun c_103 => ?_) (fun c_103 => False.elim (by omega))
            refine mm_ci d_Re_judge_115 ?_
            refine mm_v3v d_Re_judge_116 (sk_o_44 hM) (sp_Ye_add hM e0 hn4 ?_)
            refine mm_goto d_Re_judge_119 ?_
            exact mm_rv d_Re_judge_139 (h0 _ hfu hfb ((((Kr.rf.sI ⟨by decide, by decide⟩).sI ⟨by decide, by decide⟩).sI ⟨by decide, by decide⟩).sI ⟨by decide, by decide⟩) rfl rfl (RC_year hC hM rfl rfl))
          · rw [stpY v t (by decide) (by decide)] at h0
            have v0 := (hv 0 (by decide)).1
            refine mm_iload d_Re_judge_53 rfl ?_
            refine mm_ciN 6 d_Re_judge_54 rfl ?_
            refine mm_icmp_geN d_Re_judge_56 (by first | omega | exact ite01_lt | exact bt8_lt31 _ _ | exact godB_lt31 _ _ _ | exact pop_lt31 _ | assumption | exact b31 (hW.gp (by omega)) | exact b31 (hW.ne (by omega)) | exact b31 (hW.op (by omega)) | exact and31 (hW.gp (by omega)) | exact and31 (hW.ne (by omega)) | exact and31 (hW.op (by omega)) | exact and31 (by assumption) | exact and31r (hW.ne (by omega)) | exact and31r (hW.gp (by omega)) | exact and31r (by decide)) (by first | omega | exact ite01_lt | exact bt8_lt31 _ _ | exact godB_lt31 _ _ _ | exact pop_lt31 _ | assumption | exact b31 (hW.gp (by omega)) | exact b31 (hW.ne (by omega)) | exact b31 (hW.op (by omega)) | exact and31 (hW.gp (by omega)) | exact and31 (hW.ne (by omega)) | exact and31 (hW.op (by omega)) | exact and31 (by assumption) | exact and31r (hW.ne (by omega)) | exact and31r (hW.gp (by omega)) | exact and31r (by decide)) (fun c_56 => ?_) (fun c_56 => False.elim (by omega))
            refine mm_iload d_Re_judge_67 rfl ?_
            refine mm_ciN 11 d_Re_judge_68 rfl ?_
            refine mm_icmp_geN d_Re_judge_70 (by first | omega | exact ite01_lt | exact bt8_lt31 _ _ | exact godB_lt31 _ _ _ | exact pop_lt31 _ | assumption | exact b31 (hW.gp (by omega)) | exact b31 (hW.ne (by omega)) | exact b31 (hW.op (by omega)) | exact and31 (hW.gp (by omega)) | exact and31 (hW.ne (by omega)) | exact and31 (hW.op (by omega)) | exact and31 (by assumption) | exact and31r (hW.ne (by omega)) | exact and31r (hW.gp (by omega)) | exact and31r (by decide)) (by first | omega | exact ite01_lt | exact bt8_lt31 _ _ | exact godB_lt31 _ _ _ | exact pop_lt31 _ | assumption | exact b31 (hW.gp (by omega)) | exact b31 (hW.ne (by omega)) | exact b31 (hW.op (by omega)) | exact and31 (hW.gp (by omega)) | exact and31 (hW.ne (by omega)) | exact and31 (hW.op (by omega)) | exact and31 (by assumption) | exact and31r (hW.ne (by omega)) | exact and31r (hW.gp (by omega)) | exact and31r (by decide)) (fun c_70 => False.elim (by omega)) (fun c_70 => ?_)
            refine mm_gets d_Re_judge_73 ?_
            refine mm_iload d_Re_judge_76 rfl ?_
            refine mm_knum d_Re_judge_77 (by decide) ?_
            rw [show nu 9 = 1 from rfl]
            refine mm_ist3 d_Re_judge_78 ?_
            refine mm_aload d_Re_judge_79 rfl ?_
            refine mm_getP d_Re_judge_80 rfl (sk_o_36 hM) (sk_p_36_1 hM) ?_
            refine mm_iload d_Re_judge_83 rfl ?_
            refine mm_ciN 6 d_Re_judge_84 rfl ?_
            refine mm_isubN d_Re_judge_86 (by omega) ?_
            refine mm_iload d_Re_judge_87 rfl ?_
            refine mm_if_leN d_Re_judge_88 (by first | omega | exact ite01_lt | exact bt8_lt31 _ _ | exact godB_lt31 _ _ _ | exact pop_lt31 _ | assumption | exact b31 (hW.gp (by omega)) | exact b31 (hW.ne (by omega)) | exact b31 (hW.op (by omega)) | exact and31 (hW.gp (by omega)) | exact and31 (hW.ne (by omega)) | exact and31 (hW.op (by omega)) | exact and31 (by assumption) | exact and31r (hW.ne (by omega)) | exact and31r (hW.gp (by omega)) | exact and31r (by decide)) (fun c_88 => False.elim (by omega)) (fun c_88 => ?_)
            refine mm_aload d_Re_judge_91 rfl ?_
            refine mm_getP d_Re_judge_92 rfl (sk_o_36 hM) (sk_p_36_5 hM) ?_
            refine mm_ciN 0 d_Re_judge_95 rfl ?_
            refine mm_ialdN d_Re_judge_96 (sk_a_51 hM) (by omega) (by decide) v0 ?_
            refine mm_goto d_Re_judge_97 ?_
            refine mm_iload d_Re_judge_101 rfl ?_
            refine mm_ciN 1 d_Re_judge_102 rfl ?_
            refine mm_icmp_leN d_Re_judge_103 (by first | omega | exact ite01_lt | exact bt8_lt31 _ _ | exact godB_lt31 _ _ _ | exact pop_lt31 _ | assumption | exact b31 (hW.gp (by omega)) | exact b31 (hW.ne (by omega)) | exact b31 (hW.op (by omega)) | exact and31 (hW.gp (by omega)) | exact and31 (hW.ne (by omega)) | exact and31 (hW.op (by omega)) | exact and31 (by assumption) | exact and31r (hW.ne (by omega)) | exact and31r (hW.gp (by omega)) | exact and31r (by decide)) (by first | omega | exact ite01_lt | exact bt8_lt31 _ _ | exact godB_lt31 _ _ _ | exact pop_lt31 _ | assumption | exact b31 (hW.gp (by omega)) | exact b31 (hW.ne (by omega)) | exact b31 (hW.op (by omega)) | exact and31 (hW.gp (by omega)) | exact and31 (hW.ne (by omega)) | exact and31 (hW.op (by omega)) | exact and31 (by assumption) | exact and31r (hW.ne (by omega)) | exact and31r (hW.gp (by omega)) | exact and31r (by decide)) (fun c_103 => ?_) (fun c_103 => False.elim (by omega))
            refine mm_ci d_Re_judge_115 ?_
            refine mm_v3v d_Re_judge_116 (sk_o_44 hM) (sp_Ye_add hM e0 hn4 ?_)
            refine mm_goto d_Re_judge_119 ?_
            exact mm_rv d_Re_judge_139 (h0 _ hfu hfb ((((Kr.rf.sI ⟨by decide, by decide⟩).sI ⟨by decide, by decide⟩).sI ⟨by decide, by decide⟩).sI ⟨by decide, by decide⟩) rfl rfl (RC_year hC hM rfl rfl))
          · rw [stpY v t (by decide) (by decide)] at h0
            refine mm_iload d_Re_judge_53 rfl ?_
            refine mm_ciN 6 d_Re_judge_54 rfl ?_
            refine mm_icmp_geN d_Re_judge_56 (by first | omega | exact ite01_lt | exact bt8_lt31 _ _ | exact godB_lt31 _ _ _ | exact pop_lt31 _ | assumption | exact b31 (hW.gp (by omega)) | exact b31 (hW.ne (by omega)) | exact b31 (hW.op (by omega)) | exact and31 (hW.gp (by omega)) | exact and31 (hW.ne (by omega)) | exact and31 (hW.op (by omega)) | exact and31 (by assumption) | exact and31r (hW.ne (by omega)) | exact and31r (hW.gp (by omega)) | exact and31r (by decide)) (by first | omega | exact ite01_lt | exact bt8_lt31 _ _ | exact godB_lt31 _ _ _ | exact pop_lt31 _ | assumption | exact b31 (hW.gp (by omega)) | exact b31 (hW.ne (by omega)) | exact b31 (hW.op (by omega)) | exact and31 (hW.gp (by omega)) | exact and31 (hW.ne (by omega)) | exact and31 (hW.op (by omega)) | exact and31 (by assumption) | exact and31r (hW.ne (by omega)) | exact and31r (hW.gp (by omega)) | exact and31r (by decide)) (fun c_56 => ?_) (fun c_56 => False.elim (by omega))
            refine mm_iload d_Re_judge_67 rfl ?_
            refine mm_ciN 11 d_Re_judge_68 rfl ?_
            refine mm_icmp_geN d_Re_judge_70 (by first | omega | exact ite01_lt | exact bt8_lt31 _ _ | exact godB_lt31 _ _ _ | exact pop_lt31 _ | assumption | exact b31 (hW.gp (by omega)) | exact b31 (hW.ne (by omega)) | exact b31 (hW.op (by omega)) | exact and31 (hW.gp (by omega)) | exact and31 (hW.ne (by omega)) | exact and31 (hW.op (by omega)) | exact and31 (by assumption) | exact and31r (hW.ne (by omega)) | exact and31r (hW.gp (by omega)) | exact and31r (by decide)) (by first | omega | exact ite01_lt | exact bt8_lt31 _ _ | exact godB_lt31 _ _ _ | exact pop_lt31 _ | assumption | exact b31 (hW.gp (by omega)) | exact b31 (hW.ne (by omega)) | exact b31 (hW.op (by omega)) | exact and31 (hW.gp (by omega)) | exact and31 (hW.ne (by omega)) | exact and31 (hW.op (by omega)) | exact and31 (by assumption) | exact and31r (hW.ne (by omega)) | exact and31r (hW.gp (by omega)) | exact and31r (by decide)) (fun c_70 => False.elim (by omega)) (fun c_70 => ?_)
            refine mm_gets d_Re_judge_73 ?_
            refine mm_iload d_Re_judge_76 rfl ?_
            refine mm_knum d_Re_judge_77 (by decide) ?_
            rw [show nu 10 = 0 from rfl]
            refine mm_ist3 d_Re_judge_78 ?_
            refine mm_aload d_Re_judge_79 rfl ?_
            refine mm_getP d_Re_judge_80 rfl (sk_o_36 hM) (sk_p_36_1 hM) ?_
            refine mm_iload d_Re_judge_83 rfl ?_
            refine mm_ciN 6 d_Re_judge_84 rfl ?_
            refine mm_isubN d_Re_judge_86 (by omega) ?_
            refine mm_iload d_Re_judge_87 rfl ?_
            refine mm_if_leN d_Re_judge_88 (by first | omega | exact ite01_lt | exact bt8_lt31 _ _ | exact godB_lt31 _ _ _ | exact pop_lt31 _ | assumption | exact b31 (hW.gp (by omega)) | exact b31 (hW.ne (by omega)) | exact b31 (hW.op (by omega)) | exact and31 (hW.gp (by omega)) | exact and31 (hW.ne (by omega)) | exact and31 (hW.op (by omega)) | exact and31 (by assumption) | exact and31r (hW.ne (by omega)) | exact and31r (hW.gp (by omega)) | exact and31r (by decide)) (fun c_88 => ?_) (fun c_88 => False.elim (by omega))
            refine mm_ci d_Re_judge_100 ?_
            refine mm_iload d_Re_judge_101 rfl ?_
            refine mm_ciN 1 d_Re_judge_102 rfl ?_
            refine mm_icmp_leN d_Re_judge_103 (by first | omega | exact ite01_lt | exact bt8_lt31 _ _ | exact godB_lt31 _ _ _ | exact pop_lt31 _ | assumption | exact b31 (hW.gp (by omega)) | exact b31 (hW.ne (by omega)) | exact b31 (hW.op (by omega)) | exact and31 (hW.gp (by omega)) | exact and31 (hW.ne (by omega)) | exact and31 (hW.op (by omega)) | exact and31 (by assumption) | exact and31r (hW.ne (by omega)) | exact and31r (hW.gp (by omega)) | exact and31r (by decide)) (by first | omega | exact ite01_lt | exact bt8_lt31 _ _ | exact godB_lt31 _ _ _ | exact pop_lt31 _ | assumption | exact b31 (hW.gp (by omega)) | exact b31 (hW.ne (by omega)) | exact b31 (hW.op (by omega)) | exact and31 (hW.gp (by omega)) | exact and31 (hW.ne (by omega)) | exact and31 (hW.op (by omega)) | exact and31 (by assumption) | exact and31r (hW.ne (by omega)) | exact and31r (hW.gp (by omega)) | exact and31r (by decide)) (fun c_103 => ?_) (fun c_103 => False.elim (by omega))
            refine mm_ci d_Re_judge_115 ?_
            refine mm_v3v d_Re_judge_116 (sk_o_44 hM) (sp_Ye_add hM e0 hn4 ?_)
            refine mm_goto d_Re_judge_119 ?_
            exact mm_rv d_Re_judge_139 (h0 _ hfu hfb ((((Kr.rf.sI ⟨by decide, by decide⟩).sI ⟨by decide, by decide⟩).sI ⟨by decide, by decide⟩).sI ⟨by decide, by decide⟩) rfl rfl (RC_year hC hM rfl rfl))
        · have es : srt k = 2 := by unfold srt; rw [if_neg k6, if_neg k11]
          rw [es] at hC hW h0
          have hn4 : t 0 < 8 := Decidable.byContradiction fun w => hfu (fu_i.mpr (by omega))
          have e0 := (hC.2.2.1 rfl).1
          have v0 := (hv 0 (by have w : k = 11 ∨ k = 12 := (by omega); rcases w with rfl | rfl <;> decide)).1
          rw [stpL v t (by omega)] at h0
          refine mm_iload d_Re_judge_53 rfl ?_
          refine mm_ciN 6 d_Re_judge_54 rfl ?_
          refine mm_icmp_geN d_Re_judge_56 (by first | omega | exact ite01_lt | exact bt8_lt31 _ _ | exact godB_lt31 _ _ _ | exact pop_lt31 _ | assumption | exact b31 (hW.gp (by omega)) | exact b31 (hW.ne (by omega)) | exact b31 (hW.op (by omega)) | exact and31 (hW.gp (by omega)) | exact and31 (hW.ne (by omega)) | exact and31 (hW.op (by omega)) | exact and31 (by assumption) | exact and31r (hW.ne (by omega)) | exact and31r (hW.gp (by omega)) | exact and31r (by decide)) (by first | omega | exact ite01_lt | exact bt8_lt31 _ _ | exact godB_lt31 _ _ _ | exact pop_lt31 _ | assumption | exact b31 (hW.gp (by omega)) | exact b31 (hW.ne (by omega)) | exact b31 (hW.op (by omega)) | exact and31 (hW.gp (by omega)) | exact and31 (hW.ne (by omega)) | exact and31 (hW.op (by omega)) | exact and31 (by assumption) | exact and31r (hW.ne (by omega)) | exact and31r (hW.gp (by omega)) | exact and31r (by decide)) (fun c_56 => ?_) (fun c_56 => False.elim (by omega))
          refine mm_iload d_Re_judge_67 rfl ?_
          refine mm_ciN 11 d_Re_judge_68 rfl ?_
          refine mm_icmp_geN d_Re_judge_70 (by first | omega | exact ite01_lt | exact bt8_lt31 _ _ | exact godB_lt31 _ _ _ | exact pop_lt31 _ | assumption | exact b31 (hW.gp (by omega)) | exact b31 (hW.ne (by omega)) | exact b31 (hW.op (by omega)) | exact and31 (hW.gp (by omega)) | exact and31 (hW.ne (by omega)) | exact and31 (hW.op (by omega)) | exact and31 (by assumption) | exact and31r (hW.ne (by omega)) | exact and31r (hW.gp (by omega)) | exact and31r (by decide)) (by first | omega | exact ite01_lt | exact bt8_lt31 _ _ | exact godB_lt31 _ _ _ | exact pop_lt31 _ | assumption | exact b31 (hW.gp (by omega)) | exact b31 (hW.ne (by omega)) | exact b31 (hW.op (by omega)) | exact and31 (hW.gp (by omega)) | exact and31 (hW.ne (by omega)) | exact and31 (hW.op (by omega)) | exact and31 (by assumption) | exact and31r (hW.ne (by omega)) | exact and31r (hW.gp (by omega)) | exact and31r (by decide)) (fun c_70 => ?_) (fun c_70 => False.elim (by omega))
          refine mm_aload d_Re_judge_122 rfl ?_
          refine mm_getP d_Re_judge_123 rfl (sk_o_36 hM) (sk_p_36_2 hM) ?_
          refine mm_iload d_Re_judge_126 rfl ?_
          refine mm_ciN 11 d_Re_judge_127 rfl ?_
          refine mm_isubN d_Re_judge_129 (by omega) ?_
          refine mm_aload d_Re_judge_130 rfl ?_
          refine mm_getP d_Re_judge_131 rfl (sk_o_36 hM) (sk_p_36_5 hM) ?_
          refine mm_ciN 0 d_Re_judge_134 rfl ?_
          refine mm_ialdN d_Re_judge_135 (sk_a_51 hM) (by omega) (by decide) v0 ?_
          refine mm_v2v d_Re_judge_136 (sk_o_48 hM) (sp_Lo_add hM e0 hn4 ?_)
          exact mm_rv d_Re_judge_139 (h0 _ hfu hfb (((Kr.rf.sI ⟨by decide, by decide⟩).sI ⟨by decide, by decide⟩).sI ⟨by decide, by decide⟩) rfl rfl (RC_log hC hM))
    have loop : ∀ (m i : Nat), nu k - i = m → i ≤ nu k → fb k v m i = fb k v (nu k) 0 → (∀ j, j < i → cb k v j = true) → mm_T X 1 0 0 k_Re_judge 17 [some (.ref 36), some (.int (nI k)), some (.int (nI st)), some (.int (nI i))] [] μ (fun w μ' => w = none ∧ q μ') := by
      intro m
      induction m with
      | zero =>
        intro i hm hi hf hc
        obtain rfl : i = nu k := by omega
        refine mm_iload d_Re_judge_17 rfl ?_
        refine mm_gets d_Re_judge_18 ?_
        refine mm_iload d_Re_judge_21 rfl ?_
        refine mm_knum d_Re_judge_22 hk ?_
        refine mm_icmp_geN d_Re_judge_23 (by first | omega | exact ite01_lt | exact bt8_lt31 _ _ | exact godB_lt31 _ _ _ | exact pop_lt31 _ | assumption | exact b31 (hW.gp (by omega)) | exact b31 (hW.ne (by omega)) | exact b31 (hW.op (by omega)) | exact and31 (hW.gp (by omega)) | exact and31 (hW.ne (by omega)) | exact and31 (hW.op (by omega)) | exact and31 (by assumption) | exact and31r (hW.ne (by omega)) | exact and31r (hW.gp (by omega)) | exact and31r (by decide)) (by first | omega | exact ite01_lt | exact bt8_lt31 _ _ | exact godB_lt31 _ _ _ | exact pop_lt31 _ | assumption | exact b31 (hW.gp (by omega)) | exact b31 (hW.ne (by omega)) | exact b31 (hW.op (by omega)) | exact and31 (hW.gp (by omega)) | exact and31 (hW.ne (by omega)) | exact and31 (hW.op (by omega)) | exact and31 (by assumption) | exact and31r (hW.ne (by omega)) | exact and31r (hW.gp (by omega)) | exact and31r (by decide)) (fun c_23 => ?_) (fun c_23 => False.elim (by omega))
        exact fin hf.symm hc
      | succ m ih =>
        intro i hm hi hf hc
        have hx1 := hx i (by omega)
        rw [show fb k v (m + 1) i = if cb k v i = true then fb k v m (i + 1) else some i from rfl] at hf
        by_cases hcb : cb k v i = true
        · rw [if_pos hcb] at hf
          refine mm_iload d_Re_judge_17 rfl ?_
          refine mm_gets d_Re_judge_18 ?_
          refine mm_iload d_Re_judge_21 rfl ?_
          refine mm_knum d_Re_judge_22 hk ?_
          refine mm_icmp_geN d_Re_judge_23 (by first | omega | exact ite01_lt | exact bt8_lt31 _ _ | exact godB_lt31 _ _ _ | exact pop_lt31 _ | assumption | exact b31 (hW.gp (by omega)) | exact b31 (hW.ne (by omega)) | exact b31 (hW.op (by omega)) | exact and31 (hW.gp (by omega)) | exact and31 (hW.ne (by omega)) | exact and31 (hW.op (by omega)) | exact and31 (by assumption) | exact and31r (hW.ne (by omega)) | exact and31r (hW.gp (by omega)) | exact and31r (by decide)) (by first | omega | exact ite01_lt | exact bt8_lt31 _ _ | exact godB_lt31 _ _ _ | exact pop_lt31 _ | assumption | exact b31 (hW.gp (by omega)) | exact b31 (hW.ne (by omega)) | exact b31 (hW.op (by omega)) | exact and31 (hW.gp (by omega)) | exact and31 (hW.ne (by omega)) | exact and31 (hW.op (by omega)) | exact and31 (by assumption) | exact and31r (hW.ne (by omega)) | exact and31r (hW.gp (by omega)) | exact and31r (by decide)) (fun c_23 => False.elim (by omega)) (fun c_23 => ?_)
          refine mm_aload d_Re_judge_26 rfl ?_
          refine mm_iload d_Re_judge_27 rfl ?_
          refine mm_iload d_Re_judge_28 rfl ?_
          refine mm_v2i d_Re_judge_29 (sk_o_36 hM) (sp_Re_canBe hM hk (by omega) (fun j hj => hv j (by omega)) ?_)
          rw [if_pos hcb]
          refine mm_if_neN d_Re_judge_32 (by first | omega | exact ite01_lt | exact bt8_lt31 _ _ | exact godB_lt31 _ _ _ | exact pop_lt31 _ | assumption | exact b31 (hW.gp (by omega)) | exact b31 (hW.ne (by omega)) | exact b31 (hW.op (by omega)) | exact and31 (hW.gp (by omega)) | exact and31 (hW.ne (by omega)) | exact and31 (hW.op (by omega)) | exact and31 (by assumption) | exact and31r (hW.ne (by omega)) | exact and31r (hW.gp (by omega)) | exact and31r (by decide)) (fun c_32 => ?_) (fun c_32 => False.elim (by omega))
          refine mm_inc3N d_Re_judge_47 ?_
          refine mm_goto d_Re_judge_50 ?_
          exact ih (i + 1) (by omega) (by omega) hf (fun j hj => by by_cases w : j < i; exact hc j w; rw [show j = i by omega]; exact hcb)
        · rw [if_neg hcb] at hf
          refine mm_iload d_Re_judge_17 rfl ?_
          refine mm_gets d_Re_judge_18 ?_
          refine mm_iload d_Re_judge_21 rfl ?_
          refine mm_knum d_Re_judge_22 hk ?_
          refine mm_icmp_geN d_Re_judge_23 (by first | omega | exact ite01_lt | exact bt8_lt31 _ _ | exact godB_lt31 _ _ _ | exact pop_lt31 _ | assumption | exact b31 (hW.gp (by omega)) | exact b31 (hW.ne (by omega)) | exact b31 (hW.op (by omega)) | exact and31 (hW.gp (by omega)) | exact and31 (hW.ne (by omega)) | exact and31 (hW.op (by omega)) | exact and31 (by assumption) | exact and31r (hW.ne (by omega)) | exact and31r (hW.gp (by omega)) | exact and31r (by decide)) (by first | omega | exact ite01_lt | exact bt8_lt31 _ _ | exact godB_lt31 _ _ _ | exact pop_lt31 _ | assumption | exact b31 (hW.gp (by omega)) | exact b31 (hW.ne (by omega)) | exact b31 (hW.op (by omega)) | exact and31 (hW.gp (by omega)) | exact and31 (hW.ne (by omega)) | exact and31 (hW.op (by omega)) | exact and31 (by assumption) | exact and31r (hW.ne (by omega)) | exact and31r (hW.gp (by omega)) | exact and31r (by decide)) (fun c_23 => False.elim (by omega)) (fun c_23 => ?_)
          refine mm_aload d_Re_judge_26 rfl ?_
          refine mm_iload d_Re_judge_27 rfl ?_
          refine mm_iload d_Re_judge_28 rfl ?_
          refine mm_v2i d_Re_judge_29 (sk_o_36 hM) (sp_Re_canBe hM hk (by omega) (fun j hj => hv j (by omega)) ?_)
          rw [if_neg hcb]
          refine mm_if_neN d_Re_judge_32 (by first | omega | exact ite01_lt | exact bt8_lt31 _ _ | exact godB_lt31 _ _ _ | exact pop_lt31 _ | assumption | exact b31 (hW.gp (by omega)) | exact b31 (hW.ne (by omega)) | exact b31 (hW.op (by omega)) | exact and31 (hW.gp (by omega)) | exact and31 (hW.ne (by omega)) | exact and31 (hW.op (by omega)) | exact and31 (by assumption) | exact and31r (hW.ne (by omega)) | exact and31r (hW.gp (by omega)) | exact and31r (by decide)) (fun c_32 => False.elim (by omega)) (fun c_32 => ?_)
          refine mm_aload d_Re_judge_35 rfl ?_
          refine mm_ciN 2 d_Re_judge_36 rfl ?_
          refine mm_aload d_Re_judge_37 rfl ?_
          refine mm_getP d_Re_judge_38 rfl (sk_o_36 hM) (sk_p_36_6 hM) ?_
          refine mm_iload d_Re_judge_41 rfl ?_
          refine mm_ialdN d_Re_judge_42 (sk_a_52 hM) (by omega) (by decide) hx1 ?_
          refine mm_v2v d_Re_judge_43 (sk_o_36 hM) (sp_Re_note hM ?_)
          exact mm_rv d_Re_judge_46 (h2 i (by omega) hfu hf.symm)
    refine mm_aload d_Re_judge_0 rfl ?_
    refine mm_iload d_Re_judge_1 rfl ?_
    refine mm_v1i d_Re_judge_2 (sk_o_36 hM) (sp_Re_isFull hM hk hC hW ?_)
    rw [if_neg hfu]
    refine mm_if_eqN d_Re_judge_5 (by first | omega | exact ite01_lt | exact bt8_lt31 _ _ | exact godB_lt31 _ _ _ | exact pop_lt31 _ | assumption | exact b31 (hW.gp (by omega)) | exact b31 (hW.ne (by omega)) | exact b31 (hW.op (by omega)) | exact and31 (hW.gp (by omega)) | exact and31 (hW.ne (by omega)) | exact and31 (hW.op (by omega)) | exact and31 (by assumption) | exact and31r (hW.ne (by omega)) | exact and31r (hW.gp (by omega)) | exact and31r (by decide)) (fun c_5 => ?_) (fun c_5 => False.elim (by omega))
    refine mm_ciN 0 d_Re_judge_15 rfl ?_
    refine mm_ist3 d_Re_judge_16 ?_
    exact loop (nu k) 0 rfl (Nat.zero_le _) rfl (fun j hj => absurd hj (Nat.not_lt_zero j))
