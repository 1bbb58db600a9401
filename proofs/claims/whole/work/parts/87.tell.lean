/-! texts: a line is told -/
theorem stp0 (v t : Nat → Nat) : stp 0 v t = up (up t (26 + t 0) (2 ^ v 0 ||| 2 ^ v 1 ||| 2 ^ v 2)) 0 (t 0 + 1) := rfl
theorem stp1 (v t : Nat → Nat) : stp 1 v t = up t (2 + v 0) (v 1) := rfl
theorem stp2 (v t : Nat → Nat) : stp 2 v t = up (up t (18 + v 0) (t (18 + v 0) ||| 2 ^ v 1)) (18 + v 1) (t (18 + v 1) ||| 2 ^ v 0) := rfl
theorem stp3 (v t : Nat → Nat) : stp 3 v t = up (up t (38 + v 0) (t (38 + v 0) ||| 2 ^ v 1)) 44 (t 44 ||| 2 ^ v 0) := rfl
theorem stp4 (v t : Nat → Nat) : stp 4 v t = up t (10 + v 0) (v 1) := rfl
theorem stp5 (v t : Nat → Nat) : stp 5 v t = up (up t (32 + t 1) (v 0)) 1 (t 1 + 1) := rfl
theorem stpY {k : Nat} (v t : Nat → Nat) (h1 : 6 ≤ k) (h2 : k < 11) : stp k v t = up (up (up (up t (1 + 3 * t 0) (k - 6)) (1 + 3 * t 0 + 1) (v 0)) (1 + 3 * t 0 + 2) (v 1)) 0 (t 0 + 1) := by
  unfold stp
  rw [if_neg (by omega), if_neg (by omega), if_neg (by omega), if_neg (by omega), if_neg (by omega), if_neg (by omega), if_pos h2]
theorem stpL {k : Nat} (v t : Nat → Nat) (h1 : 11 ≤ k) : stp k v t = up (up (up t (1 + 2 * t 0) (k - 11)) (1 + 2 * t 0 + 1) (v 0)) 0 (t 0 + 1) := by
  unfold stp
  rw [if_neg (by omega), if_neg (by omega), if_neg (by omega), if_neg (by omega), if_neg (by omega), if_neg (by omega), if_neg (by omega)]
theorem sp_Re_tellOfCoast {X : mm_X} {μ : mm_M} {q : mm_M → Prop} {k : Nat} {v t : Nat → Nat} (hM : SK μ) (hk : k < 6) (hCD : CoD μ 37 (DT t)) (h10 : mm_I μ 36 10 = nI (t 44)) (hW : WfT 0 t) (hfu : ¬ fu k t = true) (hv : ∀ j, j < nu k → mm_I μ 51 j = nI (v j) ∧ cb k v j = true) (h : ∀ ν, Kr μ ν → mm_I ν 36 3 = mm_I μ 36 3 → mm_I ν 36 4 = mm_I μ 36 4 → CoD ν 37 (DT (stp k v t)) → mm_I ν 36 10 = nI (stp k v t 44) → q ν) : mm_Cv X 0 0 0 k_Re_tellOfCoast [.ref 36, .int (nI k)] μ q := by
  have e0 : mm_I μ 37 6 = nI (t 0) := hCD.n
  have e1 : mm_I μ 37 7 = nI (t 1) := hCD.w
  obtain ⟨b0, b1, b2⟩ := hW.b0
  have hk6 : k = 0 ∨ k = 1 ∨ k = 2 ∨ k = 3 ∨ k = 4 ∨ k = 5 := by omega
  rcases hk6 with rfl | rfl | rfl | rfl | rfl | rfl
  · have e := stp0 v t
    rw [e] at h
    have v0 := (hv 0 (by decide)).1
    have w0 : v 0 ≤ 7 := (cb_i.mp (hv 0 (by decide)).2).1
    have v1 := (hv 1 (by decide)).1
    have w1 : v 1 ≤ 7 := (cb_i.mp (hv 1 (by decide)).2).1
    have v2 := (hv 2 (by decide)).1
    have w2 : v 2 ≤ 7 := (cb_i.mp (hv 2 (by decide)).2).1
    have hc : t 0 < 6 := Decidable.byContradiction fun z => hfu (fu_i.mpr (by omega))
    show mm_T X 0 0 0 k_Re_tellOfCoast 0 [some (.ref 36), some (.int (nI 0)), none, none] [] μ _
    refine mm_aload d_Re_tellOfCoast_0 rfl ?_
    refine mm_getP d_Re_tellOfCoast_1 rfl (sk_o_36 hM) (sk_p_36_5 hM) ?_
    refine mm_ciN 0 d_Re_tellOfCoast_4 rfl ?_
    refine mm_ialdN d_Re_tellOfCoast_5 (sk_a_51 hM) (by omega) (by decide) v0 ?_
    refine mm_ist2 d_Re_tellOfCoast_6 ?_
    refine mm_aload d_Re_tellOfCoast_7 rfl ?_
    refine mm_getP d_Re_tellOfCoast_8 rfl (sk_o_36 hM) (sk_p_36_5 hM) ?_
    refine mm_ciN 1 d_Re_tellOfCoast_11 rfl ?_
    refine mm_ialdN d_Re_tellOfCoast_12 (sk_a_51 hM) (by omega) (by decide) v1 ?_
    refine mm_ist3 d_Re_tellOfCoast_13 ?_
    refine mm_iload d_Re_tellOfCoast_14 rfl ?_
    refine mm_switchIn (n := 0) d_Re_tellOfCoast_15 0 (by decide) (by decide) rfl ?_
    refine mm_aload d_Re_tellOfCoast_48 rfl ?_
    refine mm_getP d_Re_tellOfCoast_49 rfl (sk_o_36 hM) (sk_p_36_0 hM) ?_
    refine mm_getP d_Re_tellOfCoast_52 rfl (sk_o_37 hM) (sk_p_37_3 hM) ?_
    refine mm_aload d_Re_tellOfCoast_55 rfl ?_
    refine mm_getP d_Re_tellOfCoast_56 rfl (sk_o_36 hM) (sk_p_36_0 hM) ?_
    refine mm_getIN d_Re_tellOfCoast_59 rfl (sk_o_37 hM) e0 ?_
    refine mm_ciN 1 d_Re_tellOfCoast_62 rfl ?_
    refine mm_iload d_Re_tellOfCoast_63 rfl ?_
    refine mm_ishl1N d_Re_tellOfCoast_64 (by omega) ?_
    refine mm_ciN 1 d_Re_tellOfCoast_65 rfl ?_
    refine mm_iload d_Re_tellOfCoast_66 rfl ?_
    refine mm_ishl1N d_Re_tellOfCoast_67 (by omega) ?_
    refine mm_iorN d_Re_tellOfCoast_68 ?_
    refine mm_ciN 1 d_Re_tellOfCoast_69 rfl ?_
    refine mm_aload d_Re_tellOfCoast_70 rfl ?_
    refine mm_getP d_Re_tellOfCoast_71 rfl (sk_o_36 hM) (sk_p_36_5 hM) ?_
    refine mm_ciN 2 d_Re_tellOfCoast_74 rfl ?_
    refine mm_ialdN d_Re_tellOfCoast_75 (sk_a_51 hM) (by omega) (by decide) v2 ?_
    refine mm_ishl1N d_Re_tellOfCoast_76 (by omega) ?_
    refine mm_iorN d_Re_tellOfCoast_77 ?_
    refine mm_iastX d_Re_tellOfCoast_78 (sk_a_41 hM) (by omega) (by decide) ?_
    refine mm_aload d_Re_tellOfCoast_79 rfl ?_
    refine mm_getP d_Re_tellOfCoast_80 rfl (sk_o_36 hM) (sk_p_36_0 hM) ?_
    refine mm_dup d_Re_tellOfCoast_83 rfl ?_
    refine mm_getIN d_Re_tellOfCoast_84 rfl (sk_o_37 hM) (by rw [mm_sI_off (by decide)]; exact e0) ?_
    refine mm_ciN 1 d_Re_tellOfCoast_87 rfl ?_
    refine mm_iaddN d_Re_tellOfCoast_88 ?_
    refine mm_putI d_Re_tellOfCoast_89 rfl (sk_o_37 hM) (Or.inl rfl) ?_
    refine mm_goto d_Re_tellOfCoast_92 ?_
    exact mm_rv d_Re_tellOfCoast_213 (h _ ((Kr.rf.sI ⟨by decide, by decide⟩).sI ⟨by decide, by decide⟩) (by simp only [mm_I_sI]; (repeat (first | rw [if_neg (by first | omega | (intro z; have := z.2; omega))] | rw [if_pos (by first | omega | trivial | (refine ⟨trivial, ?_⟩; first | trivial | omega))]))) (by simp only [mm_I_sI]; (repeat (first | rw [if_neg (by first | omega | (intro z; have := z.2; omega))] | rw [if_pos (by first | omega | trivial | (refine ⟨trivial, ?_⟩; first | trivial | omega))]))) (CoD_mk hM (by (simp only [mm_I_sI, up]; (repeat (first | rw [if_neg (by first | omega | (intro z; have := z.2; omega))] | rw [if_pos (by first | omega | trivial | (refine ⟨trivial, ?_⟩; first | trivial | omega))])); first | done | exact e0)) (by (simp only [mm_I_sI, up]; (repeat (first | rw [if_neg (by first | omega | (intro z; have := z.2; omega))] | rw [if_pos (by first | omega | trivial | (refine ⟨trivial, ?_⟩; first | trivial | omega))])); first | done | exact e1)) (fun j hj => by (simp only [mm_I_sI, up]; (repeat (first | rw [if_neg (by first | omega | (intro z; have := z.2; omega))] | rw [if_pos (by first | omega | trivial | (refine ⟨trivial, ?_⟩; first | trivial | omega))])); first | done | exact hCD.f0 hj)) (fun j hj => by (simp only [mm_I_sI, up]; (repeat (first | rw [if_neg (by first | omega | (intro z; have := z.2; omega))] | rw [if_pos (by first | omega | trivial | (refine ⟨trivial, ?_⟩; first | trivial | omega))])); first | done | exact hCD.f1 hj)) (fun j hj => by (simp only [mm_I_sI, up]; (repeat (first | rw [if_neg (by first | omega | (intro z; have := z.2; omega))] | rw [if_pos (by first | omega | trivial | (refine ⟨trivial, ?_⟩; first | trivial | omega))])); first | done | exact hCD.f2 hj)) (fun j hj => by by_cases z : j = t 0; (focus (rw [z]; (simp only [mm_I_sI, up]; (repeat (first | rw [if_neg (by first | omega | (intro z; have := z.2; omega))] | rw [if_pos (by first | omega | trivial | (refine ⟨trivial, ?_⟩; first | trivial | omega))])); first | done | exact rfl))); (simp only [mm_I_sI, up]; (repeat (first | rw [if_neg (by first | omega | (intro z; have := z.2; omega))] | rw [if_pos (by first | omega | trivial | (refine ⟨trivial, ?_⟩; first | trivial | omega))])); first | done | exact hCD.f3 hj)) (fun j hj => by (simp only [mm_I_sI, up]; (repeat (first | rw [if_neg (by first | omega | (intro z; have := z.2; omega))] | rw [if_pos (by first | omega | trivial | (refine ⟨trivial, ?_⟩; first | trivial | omega))])); first | done | exact hCD.f4 hj)) (fun j hj => by (simp only [mm_I_sI, up]; (repeat (first | rw [if_neg (by first | omega | (intro z; have := z.2; omega))] | rw [if_pos (by first | omega | trivial | (refine ⟨trivial, ?_⟩; first | trivial | omega))])); first | done | exact hCD.f5 hj))) (by simp only [mm_I_sI, up]; (repeat (first | rw [if_neg (by first | omega | (intro z; have := z.2; omega))] | rw [if_pos (by first | omega | trivial | (refine ⟨trivial, ?_⟩; first | trivial | omega))])); first | done | exact h10))
  · have e := stp1 v t
    rw [e] at h
    have v0 := (hv 0 (by decide)).1
    have w0 : v 0 ≤ 7 := (cb_i.mp (hv 0 (by decide)).2).1
    have v1 := (hv 1 (by decide)).1
    have w1 : v 1 ≤ 10 := (cb_i.mp (hv 1 (by decide)).2).1
    show mm_T X 0 0 0 k_Re_tellOfCoast 0 [some (.ref 36), some (.int (nI 1)), none, none] [] μ _
    refine mm_aload d_Re_tellOfCoast_0 rfl ?_
    refine mm_getP d_Re_tellOfCoast_1 rfl (sk_o_36 hM) (sk_p_36_5 hM) ?_
    refine mm_ciN 0 d_Re_tellOfCoast_4 rfl ?_
    refine mm_ialdN d_Re_tellOfCoast_5 (sk_a_51 hM) (by omega) (by decide) v0 ?_
    refine mm_ist2 d_Re_tellOfCoast_6 ?_
    refine mm_aload d_Re_tellOfCoast_7 rfl ?_
    refine mm_getP d_Re_tellOfCoast_8 rfl (sk_o_36 hM) (sk_p_36_5 hM) ?_
    refine mm_ciN 1 d_Re_tellOfCoast_11 rfl ?_
    refine mm_ialdN d_Re_tellOfCoast_12 (sk_a_51 hM) (by omega) (by decide) v1 ?_
    refine mm_ist3 d_Re_tellOfCoast_13 ?_
    refine mm_iload d_Re_tellOfCoast_14 rfl ?_
    refine mm_switchIn (n := 0) d_Re_tellOfCoast_15 1 (by decide) (by decide) rfl ?_
    refine mm_aload d_Re_tellOfCoast_95 rfl ?_
    refine mm_getP d_Re_tellOfCoast_96 rfl (sk_o_36 hM) (sk_p_36_0 hM) ?_
    refine mm_getP d_Re_tellOfCoast_99 rfl (sk_o_37 hM) (sk_p_37_0 hM) ?_
    refine mm_iload d_Re_tellOfCoast_102 rfl ?_
    refine mm_iload d_Re_tellOfCoast_103 rfl ?_
    refine mm_iastX d_Re_tellOfCoast_104 (sk_a_38 hM) (by omega) (by decide) ?_
    refine mm_goto d_Re_tellOfCoast_105 ?_
    exact mm_rv d_Re_tellOfCoast_213 (h _ (Kr.rf.sI ⟨by decide, by decide⟩) (by simp only [mm_I_sI]; (repeat (first | rw [if_neg (by first | omega | (intro z; have := z.2; omega))] | rw [if_pos (by first | omega | trivial | (refine ⟨trivial, ?_⟩; first | trivial | omega))]))) (by simp only [mm_I_sI]; (repeat (first | rw [if_neg (by first | omega | (intro z; have := z.2; omega))] | rw [if_pos (by first | omega | trivial | (refine ⟨trivial, ?_⟩; first | trivial | omega))]))) (CoD_mk hM (by (simp only [mm_I_sI, up]; (repeat (first | rw [if_neg (by first | omega | (intro z; have := z.2; omega))] | rw [if_pos (by first | omega | trivial | (refine ⟨trivial, ?_⟩; first | trivial | omega))])); first | done | exact e0)) (by (simp only [mm_I_sI, up]; (repeat (first | rw [if_neg (by first | omega | (intro z; have := z.2; omega))] | rw [if_pos (by first | omega | trivial | (refine ⟨trivial, ?_⟩; first | trivial | omega))])); first | done | exact e1)) (fun j hj => by by_cases z : j = v 0; (focus (rw [z]; (simp only [mm_I_sI, up]; (repeat (first | rw [if_neg (by first | omega | (intro z; have := z.2; omega))] | rw [if_pos (by first | omega | trivial | (refine ⟨trivial, ?_⟩; first | trivial | omega))])); first | done | exact rfl))); (simp only [mm_I_sI, up]; (repeat (first | rw [if_neg (by first | omega | (intro z; have := z.2; omega))] | rw [if_pos (by first | omega | trivial | (refine ⟨trivial, ?_⟩; first | trivial | omega))])); first | done | exact hCD.f0 hj)) (fun j hj => by (simp only [mm_I_sI, up]; (repeat (first | rw [if_neg (by first | omega | (intro z; have := z.2; omega))] | rw [if_pos (by first | omega | trivial | (refine ⟨trivial, ?_⟩; first | trivial | omega))])); first | done | exact hCD.f1 hj)) (fun j hj => by (simp only [mm_I_sI, up]; (repeat (first | rw [if_neg (by first | omega | (intro z; have := z.2; omega))] | rw [if_pos (by first | omega | trivial | (refine ⟨trivial, ?_⟩; first | trivial | omega))])); first | done | exact hCD.f2 hj)) (fun j hj => by (simp only [mm_I_sI, up]; (repeat (first | rw [if_neg (by first | omega | (intro z; have := z.2; omega))] | rw [if_pos (by first | omega | trivial | (refine ⟨trivial, ?_⟩; first | trivial | omega))])); first | done | exact hCD.f3 hj)) (fun j hj => by (simp only [mm_I_sI, up]; (repeat (first | rw [if_neg (by first | omega | (intro z; have := z.2; omega))] | rw [if_pos (by first | omega | trivial | (refine ⟨trivial, ?_⟩; first | trivial | omega))])); first | done | exact hCD.f4 hj)) (fun j hj => by (simp only [mm_I_sI, up]; (repeat (first | rw [if_neg (by first | omega | (intro z; have := z.2; omega))] | rw [if_pos (by first | omega | trivial | (refine ⟨trivial, ?_⟩; first | trivial | omega))])); first | done | exact hCD.f5 hj))) (by simp only [mm_I_sI, up]; (repeat (first | rw [if_neg (by first | omega | (intro z; have := z.2; omega))] | rw [if_pos (by first | omega | trivial | (refine ⟨trivial, ?_⟩; first | trivial | omega))])); first | done | exact h10))
  · have e := stp2 v t
    rw [e] at h
    have v0 := (hv 0 (by decide)).1
    have w0 : v 0 ≤ 7 := (cb_i.mp (hv 0 (by decide)).2).1
    have v1 := (hv 1 (by decide)).1
    have w1 : v 1 ≤ 7 := (cb_i.mp (hv 1 (by decide)).2).1
    have hne : v 0 ≠ v 1 := (cb_i.mp (hv 1 (by decide)).2).2.2 (Or.inr rfl) 0 (by decide)
    show mm_T X 0 0 0 k_Re_tellOfCoast 0 [some (.ref 36), some (.int (nI 2)), none, none] [] μ _
    refine mm_aload d_Re_tellOfCoast_0 rfl ?_
    refine mm_getP d_Re_tellOfCoast_1 rfl (sk_o_36 hM) (sk_p_36_5 hM) ?_
    refine mm_ciN 0 d_Re_tellOfCoast_4 rfl ?_
    refine mm_ialdN d_Re_tellOfCoast_5 (sk_a_51 hM) (by omega) (by decide) v0 ?_
    refine mm_ist2 d_Re_tellOfCoast_6 ?_
    refine mm_aload d_Re_tellOfCoast_7 rfl ?_
    refine mm_getP d_Re_tellOfCoast_8 rfl (sk_o_36 hM) (sk_p_36_5 hM) ?_
    refine mm_ciN 1 d_Re_tellOfCoast_11 rfl ?_
    refine mm_ialdN d_Re_tellOfCoast_12 (sk_a_51 hM) (by omega) (by decide) v1 ?_
    refine mm_ist3 d_Re_tellOfCoast_13 ?_
    refine mm_iload d_Re_tellOfCoast_14 rfl ?_
    refine mm_switchIn (n := 0) d_Re_tellOfCoast_15 2 (by decide) (by decide) rfl ?_
    refine mm_aload d_Re_tellOfCoast_108 rfl ?_
    refine mm_getP d_Re_tellOfCoast_109 rfl (sk_o_36 hM) (sk_p_36_0 hM) ?_
    refine mm_getP d_Re_tellOfCoast_112 rfl (sk_o_37 hM) (sk_p_37_2 hM) ?_
    refine mm_iload d_Re_tellOfCoast_115 rfl ?_
    refine mm_dup2 d_Re_tellOfCoast_116 rfl rfl ?_
    refine mm_ialdN d_Re_tellOfCoast_117 (sk_a_40 hM) (by omega) (by decide) (show _ = nI (t (18 + v 0)) from hCD.f2 (by omega)) ?_
    refine mm_ciN 1 d_Re_tellOfCoast_118 rfl ?_
    refine mm_iload d_Re_tellOfCoast_119 rfl ?_
    refine mm_ishl1N d_Re_tellOfCoast_120 (by omega) ?_
    refine mm_iorN d_Re_tellOfCoast_121 ?_
    refine mm_iastX d_Re_tellOfCoast_122 (sk_a_40 hM) (by omega) (by decide) ?_
    refine mm_aload d_Re_tellOfCoast_123 rfl ?_
    refine mm_getP d_Re_tellOfCoast_124 rfl (sk_o_36 hM) (sk_p_36_0 hM) ?_
    refine mm_getP d_Re_tellOfCoast_127 rfl (sk_o_37 hM) (sk_p_37_2 hM) ?_
    refine mm_iload d_Re_tellOfCoast_130 rfl ?_
    refine mm_dup2 d_Re_tellOfCoast_131 rfl rfl ?_
    refine mm_ialdN d_Re_tellOfCoast_132 (sk_a_40 hM) (by omega) (by decide) (show _ = nI (t (18 + v 1)) by rw [mm_I_sI, if_neg (by omega)]; exact hCD.f2 (by omega)) ?_
    refine mm_ciN 1 d_Re_tellOfCoast_133 rfl ?_
    refine mm_iload d_Re_tellOfCoast_134 rfl ?_
    refine mm_ishl1N d_Re_tellOfCoast_135 (by omega) ?_
    refine mm_iorN d_Re_tellOfCoast_136 ?_
    refine mm_iastX d_Re_tellOfCoast_137 (sk_a_40 hM) (by omega) (by decide) ?_
    refine mm_goto d_Re_tellOfCoast_138 ?_
    exact mm_rv d_Re_tellOfCoast_213 (h _ ((Kr.rf.sI ⟨by decide, by decide⟩).sI ⟨by decide, by decide⟩) (by simp only [mm_I_sI]; (repeat (first | rw [if_neg (by first | omega | (intro z; have := z.2; omega))] | rw [if_pos (by first | omega | trivial | (refine ⟨trivial, ?_⟩; first | trivial | omega))]))) (by simp only [mm_I_sI]; (repeat (first | rw [if_neg (by first | omega | (intro z; have := z.2; omega))] | rw [if_pos (by first | omega | trivial | (refine ⟨trivial, ?_⟩; first | trivial | omega))]))) (CoD_mk hM (by (simp only [mm_I_sI, up]; (repeat (first | rw [if_neg (by first | omega | (intro z; have := z.2; omega))] | rw [if_pos (by first | omega | trivial | (refine ⟨trivial, ?_⟩; first | trivial | omega))])); first | done | exact e0)) (by (simp only [mm_I_sI, up]; (repeat (first | rw [if_neg (by first | omega | (intro z; have := z.2; omega))] | rw [if_pos (by first | omega | trivial | (refine ⟨trivial, ?_⟩; first | trivial | omega))])); first | done | exact e1)) (fun j hj => by (simp only [mm_I_sI, up]; (repeat (first | rw [if_neg (by first | omega | (intro z; have := z.2; omega))] | rw [if_pos (by first | omega | trivial | (refine ⟨trivial, ?_⟩; first | trivial | omega))])); first | done | exact hCD.f0 hj)) (fun j hj => by (simp only [mm_I_sI, up]; (repeat (first | rw [if_neg (by first | omega | (intro z; have := z.2; omega))] | rw [if_pos (by first | omega | trivial | (refine ⟨trivial, ?_⟩; first | trivial | omega))])); first | done | exact hCD.f1 hj)) (fun j hj => by by_cases z : j = v 1; (focus (rw [z]; (simp only [mm_I_sI, up]; (repeat (first | rw [if_neg (by first | omega | (intro z; have := z.2; omega))] | rw [if_pos (by first | omega | trivial | (refine ⟨trivial, ?_⟩; first | trivial | omega))])); first | done | exact rfl))); by_cases z2 : j = v 0; (focus (rw [z2]; (simp only [mm_I_sI, up]; (repeat (first | rw [if_neg (by first | omega | (intro z; have := z.2; omega))] | rw [if_pos (by first | omega | trivial | (refine ⟨trivial, ?_⟩; first | trivial | omega))])); first | done | exact rfl))); (simp only [mm_I_sI, up]; (repeat (first | rw [if_neg (by first | omega | (intro z; have := z.2; omega))] | rw [if_pos (by first | omega | trivial | (refine ⟨trivial, ?_⟩; first | trivial | omega))])); first | done | exact hCD.f2 hj)) (fun j hj => by (simp only [mm_I_sI, up]; (repeat (first | rw [if_neg (by first | omega | (intro z; have := z.2; omega))] | rw [if_pos (by first | omega | trivial | (refine ⟨trivial, ?_⟩; first | trivial | omega))])); first | done | exact hCD.f3 hj)) (fun j hj => by (simp only [mm_I_sI, up]; (repeat (first | rw [if_neg (by first | omega | (intro z; have := z.2; omega))] | rw [if_pos (by first | omega | trivial | (refine ⟨trivial, ?_⟩; first | trivial | omega))])); first | done | exact hCD.f4 hj)) (fun j hj => by (simp only [mm_I_sI, up]; (repeat (first | rw [if_neg (by first | omega | (intro z; have := z.2; omega))] | rw [if_pos (by first | omega | trivial | (refine ⟨trivial, ?_⟩; first | trivial | omega))])); first | done | exact hCD.f5 hj))) (by simp only [mm_I_sI, up]; (repeat (first | rw [if_neg (by first | omega | (intro z; have := z.2; omega))] | rw [if_pos (by first | omega | trivial | (refine ⟨trivial, ?_⟩; first | trivial | omega))])); first | done | exact h10))
  · have e := stp3 v t
    rw [e] at h
    have v0 := (hv 0 (by decide)).1
    have w0 : v 0 ≤ 5 := (cb_i.mp (hv 0 (by decide)).2).1
    have v1 := (hv 1 (by decide)).1
    have w1 : v 1 ≤ 7 := (cb_i.mp (hv 1 (by decide)).2).1
    show mm_T X 0 0 0 k_Re_tellOfCoast 0 [some (.ref 36), some (.int (nI 3)), none, none] [] μ _
    refine mm_aload d_Re_tellOfCoast_0 rfl ?_
    refine mm_getP d_Re_tellOfCoast_1 rfl (sk_o_36 hM) (sk_p_36_5 hM) ?_
    refine mm_ciN 0 d_Re_tellOfCoast_4 rfl ?_
    refine mm_ialdN d_Re_tellOfCoast_5 (sk_a_51 hM) (by omega) (by decide) v0 ?_
    refine mm_ist2 d_Re_tellOfCoast_6 ?_
    refine mm_aload d_Re_tellOfCoast_7 rfl ?_
    refine mm_getP d_Re_tellOfCoast_8 rfl (sk_o_36 hM) (sk_p_36_5 hM) ?_
    refine mm_ciN 1 d_Re_tellOfCoast_11 rfl ?_
    refine mm_ialdN d_Re_tellOfCoast_12 (sk_a_51 hM) (by omega) (by decide) v1 ?_
    refine mm_ist3 d_Re_tellOfCoast_13 ?_
    refine mm_iload d_Re_tellOfCoast_14 rfl ?_
    refine mm_switchIn (n := 0) d_Re_tellOfCoast_15 3 (by decide) (by decide) rfl ?_
    refine mm_aload d_Re_tellOfCoast_141 rfl ?_
    refine mm_getP d_Re_tellOfCoast_142 rfl (sk_o_36 hM) (sk_p_36_0 hM) ?_
    refine mm_getP d_Re_tellOfCoast_145 rfl (sk_o_37 hM) (sk_p_37_5 hM) ?_
    refine mm_iload d_Re_tellOfCoast_148 rfl ?_
    refine mm_dup2 d_Re_tellOfCoast_149 rfl rfl ?_
    refine mm_ialdN d_Re_tellOfCoast_150 (sk_a_43 hM) (by omega) (by decide) (show _ = nI (t (38 + v 0)) from hCD.f5 (by omega)) ?_
    refine mm_ciN 1 d_Re_tellOfCoast_151 rfl ?_
    refine mm_iload d_Re_tellOfCoast_152 rfl ?_
    refine mm_ishl1N d_Re_tellOfCoast_153 (by omega) ?_
    refine mm_iorN d_Re_tellOfCoast_154 ?_
    refine mm_iastX d_Re_tellOfCoast_155 (sk_a_43 hM) (by omega) (by decide) ?_
    refine mm_aload d_Re_tellOfCoast_156 rfl ?_
    refine mm_dup d_Re_tellOfCoast_157 rfl ?_
    refine mm_getIN d_Re_tellOfCoast_158 rfl (sk_o_36 hM) (by rw [mm_sI_off (by decide)]; exact h10) ?_
    refine mm_ciN 1 d_Re_tellOfCoast_161 rfl ?_
    refine mm_iload d_Re_tellOfCoast_162 rfl ?_
    refine mm_ishl1N d_Re_tellOfCoast_163 (by omega) ?_
    refine mm_iorN d_Re_tellOfCoast_164 ?_
    refine mm_putI d_Re_tellOfCoast_165 rfl (sk_o_36 hM) (Or.inl rfl) ?_
    refine mm_goto d_Re_tellOfCoast_168 ?_
    exact mm_rv d_Re_tellOfCoast_213 (h _ ((Kr.rf.sI ⟨by decide, by decide⟩).sF (by omega)) (by simp only [mm_I_sI]; (repeat (first | rw [if_neg (by first | omega | (intro z; have := z.2; omega))] | rw [if_pos (by first | omega | trivial | (refine ⟨trivial, ?_⟩; first | trivial | omega))]))) (by simp only [mm_I_sI]; (repeat (first | rw [if_neg (by first | omega | (intro z; have := z.2; omega))] | rw [if_pos (by first | omega | trivial | (refine ⟨trivial, ?_⟩; first | trivial | omega))]))) (CoD_mk hM (by (simp only [mm_I_sI, up]; (repeat (first | rw [if_neg (by first | omega | (intro z; have := z.2; omega))] | rw [if_pos (by first | omega | trivial | (refine ⟨trivial, ?_⟩; first | trivial | omega))])); first | done | exact e0)) (by (simp only [mm_I_sI, up]; (repeat (first | rw [if_neg (by first | omega | (intro z; have := z.2; omega))] | rw [if_pos (by first | omega | trivial | (refine ⟨trivial, ?_⟩; first | trivial | omega))])); first | done | exact e1)) (fun j hj => by (simp only [mm_I_sI, up]; (repeat (first | rw [if_neg (by first | omega | (intro z; have := z.2; omega))] | rw [if_pos (by first | omega | trivial | (refine ⟨trivial, ?_⟩; first | trivial | omega))])); first | done | exact hCD.f0 hj)) (fun j hj => by (simp only [mm_I_sI, up]; (repeat (first | rw [if_neg (by first | omega | (intro z; have := z.2; omega))] | rw [if_pos (by first | omega | trivial | (refine ⟨trivial, ?_⟩; first | trivial | omega))])); first | done | exact hCD.f1 hj)) (fun j hj => by (simp only [mm_I_sI, up]; (repeat (first | rw [if_neg (by first | omega | (intro z; have := z.2; omega))] | rw [if_pos (by first | omega | trivial | (refine ⟨trivial, ?_⟩; first | trivial | omega))])); first | done | exact hCD.f2 hj)) (fun j hj => by (simp only [mm_I_sI, up]; (repeat (first | rw [if_neg (by first | omega | (intro z; have := z.2; omega))] | rw [if_pos (by first | omega | trivial | (refine ⟨trivial, ?_⟩; first | trivial | omega))])); first | done | exact hCD.f3 hj)) (fun j hj => by (simp only [mm_I_sI, up]; (repeat (first | rw [if_neg (by first | omega | (intro z; have := z.2; omega))] | rw [if_pos (by first | omega | trivial | (refine ⟨trivial, ?_⟩; first | trivial | omega))])); first | done | exact hCD.f4 hj)) (fun j hj => by by_cases z : j = v 0; (focus (rw [z]; (simp only [mm_I_sI, up]; (repeat (first | rw [if_neg (by first | omega | (intro z; have := z.2; omega))] | rw [if_pos (by first | omega | trivial | (refine ⟨trivial, ?_⟩; first | trivial | omega))])); first | done | exact rfl))); (simp only [mm_I_sI, up]; (repeat (first | rw [if_neg (by first | omega | (intro z; have := z.2; omega))] | rw [if_pos (by first | omega | trivial | (refine ⟨trivial, ?_⟩; first | trivial | omega))])); first | done | exact hCD.f5 hj))) (by simp only [mm_I_sI, up]; (repeat (first | rw [if_neg (by first | omega | (intro z; have := z.2; omega))] | rw [if_pos (by first | omega | trivial | (refine ⟨trivial, ?_⟩; first | trivial | omega))])); first | done | exact h10))
  · have e := stp4 v t
    rw [e] at h
    have v0 := (hv 0 (by decide)).1
    have w0 : v 0 ≤ 7 := (cb_i.mp (hv 0 (by decide)).2).1
    have v1 := (hv 1 (by decide)).1
    have w1 : v 1 ≤ 9 := (cb_i.mp (hv 1 (by decide)).2).1
    show mm_T X 0 0 0 k_Re_tellOfCoast 0 [some (.ref 36), some (.int (nI 4)), none, none] [] μ _
    refine mm_aload d_Re_tellOfCoast_0 rfl ?_
    refine mm_getP d_Re_tellOfCoast_1 rfl (sk_o_36 hM) (sk_p_36_5 hM) ?_
    refine mm_ciN 0 d_Re_tellOfCoast_4 rfl ?_
    refine mm_ialdN d_Re_tellOfCoast_5 (sk_a_51 hM) (by omega) (by decide) v0 ?_
    refine mm_ist2 d_Re_tellOfCoast_6 ?_
    refine mm_aload d_Re_tellOfCoast_7 rfl ?_
    refine mm_getP d_Re_tellOfCoast_8 rfl (sk_o_36 hM) (sk_p_36_5 hM) ?_
    refine mm_ciN 1 d_Re_tellOfCoast_11 rfl ?_
    refine mm_ialdN d_Re_tellOfCoast_12 (sk_a_51 hM) (by omega) (by decide) v1 ?_
    refine mm_ist3 d_Re_tellOfCoast_13 ?_
    refine mm_iload d_Re_tellOfCoast_14 rfl ?_
    refine mm_switchIn (n := 0) d_Re_tellOfCoast_15 4 (by decide) (by decide) rfl ?_
    refine mm_aload d_Re_tellOfCoast_171 rfl ?_
    refine mm_getP d_Re_tellOfCoast_172 rfl (sk_o_36 hM) (sk_p_36_0 hM) ?_
    refine mm_getP d_Re_tellOfCoast_175 rfl (sk_o_37 hM) (sk_p_37_1 hM) ?_
    refine mm_iload d_Re_tellOfCoast_178 rfl ?_
    refine mm_iload d_Re_tellOfCoast_179 rfl ?_
    refine mm_iastX d_Re_tellOfCoast_180 (sk_a_39 hM) (by omega) (by decide) ?_
    refine mm_goto d_Re_tellOfCoast_181 ?_
    exact mm_rv d_Re_tellOfCoast_213 (h _ (Kr.rf.sI ⟨by decide, by decide⟩) (by simp only [mm_I_sI]; (repeat (first | rw [if_neg (by first | omega | (intro z; have := z.2; omega))] | rw [if_pos (by first | omega | trivial | (refine ⟨trivial, ?_⟩; first | trivial | omega))]))) (by simp only [mm_I_sI]; (repeat (first | rw [if_neg (by first | omega | (intro z; have := z.2; omega))] | rw [if_pos (by first | omega | trivial | (refine ⟨trivial, ?_⟩; first | trivial | omega))]))) (CoD_mk hM (by (simp only [mm_I_sI, up]; (repeat (first | rw [if_neg (by first | omega | (intro z; have := z.2; omega))] | rw [if_pos (by first | omega | trivial | (refine ⟨trivial, ?_⟩; first | trivial | omega))])); first | done | exact e0)) (by (simp only [mm_I_sI, up]; (repeat (first | rw [if_neg (by first | omega | (intro z; have := z.2; omega))] | rw [if_pos (by first | omega | trivial | (refine ⟨trivial, ?_⟩; first | trivial | omega))])); first | done | exact e1)) (fun j hj => by (simp only [mm_I_sI, up]; (repeat (first | rw [if_neg (by first | omega | (intro z; have := z.2; omega))] | rw [if_pos (by first | omega | trivial | (refine ⟨trivial, ?_⟩; first | trivial | omega))])); first | done | exact hCD.f0 hj)) (fun j hj => by by_cases z : j = v 0; (focus (rw [z]; (simp only [mm_I_sI, up]; (repeat (first | rw [if_neg (by first | omega | (intro z; have := z.2; omega))] | rw [if_pos (by first | omega | trivial | (refine ⟨trivial, ?_⟩; first | trivial | omega))])); first | done | exact rfl))); (simp only [mm_I_sI, up]; (repeat (first | rw [if_neg (by first | omega | (intro z; have := z.2; omega))] | rw [if_pos (by first | omega | trivial | (refine ⟨trivial, ?_⟩; first | trivial | omega))])); first | done | exact hCD.f1 hj)) (fun j hj => by (simp only [mm_I_sI, up]; (repeat (first | rw [if_neg (by first | omega | (intro z; have := z.2; omega))] | rw [if_pos (by first | omega | trivial | (refine ⟨trivial, ?_⟩; first | trivial | omega))])); first | done | exact hCD.f2 hj)) (fun j hj => by (simp only [mm_I_sI, up]; (repeat (first | rw [if_neg (by first | omega | (intro z; have := z.2; omega))] | rw [if_pos (by first | omega | trivial | (refine ⟨trivial, ?_⟩; first | trivial | omega))])); first | done | exact hCD.f3 hj)) (fun j hj => by (simp only [mm_I_sI, up]; (repeat (first | rw [if_neg (by first | omega | (intro z; have := z.2; omega))] | rw [if_pos (by first | omega | trivial | (refine ⟨trivial, ?_⟩; first | trivial | omega))])); first | done | exact hCD.f4 hj)) (fun j hj => by (simp only [mm_I_sI, up]; (repeat (first | rw [if_neg (by first | omega | (intro z; have := z.2; omega))] | rw [if_pos (by first | omega | trivial | (refine ⟨trivial, ?_⟩; first | trivial | omega))])); first | done | exact hCD.f5 hj))) (by simp only [mm_I_sI, up]; (repeat (first | rw [if_neg (by first | omega | (intro z; have := z.2; omega))] | rw [if_pos (by first | omega | trivial | (refine ⟨trivial, ?_⟩; first | trivial | omega))])); first | done | exact h10))
  · have e := stp5 v t
    rw [e] at h
    have v0 := (hv 0 (by decide)).1
    have w0 : v 0 ≤ 20 := (cb_i.mp (hv 0 (by decide)).2).1
    have hc : t 1 < 6 := Decidable.byContradiction fun z => hfu (fu_i.mpr (by omega))
    show mm_T X 0 0 0 k_Re_tellOfCoast 0 [some (.ref 36), some (.int (nI 5)), none, none] [] μ _
    refine mm_aload d_Re_tellOfCoast_0 rfl ?_
    refine mm_getP d_Re_tellOfCoast_1 rfl (sk_o_36 hM) (sk_p_36_5 hM) ?_
    refine mm_ciN 0 d_Re_tellOfCoast_4 rfl ?_
    refine mm_ialdN d_Re_tellOfCoast_5 (sk_a_51 hM) (by omega) (by decide) v0 ?_
    refine mm_ist2 d_Re_tellOfCoast_6 ?_
    refine mm_aload d_Re_tellOfCoast_7 rfl ?_
    refine mm_getP d_Re_tellOfCoast_8 rfl (sk_o_36 hM) (sk_p_36_5 hM) ?_
    refine mm_ciN 1 d_Re_tellOfCoast_11 rfl ?_
    refine mm_ialdX d_Re_tellOfCoast_12 (sk_a_51 hM) (by omega) (by decide) ?_
    refine mm_ist3 d_Re_tellOfCoast_13 ?_
    refine mm_iload d_Re_tellOfCoast_14 rfl ?_
    refine mm_switchOut (n := 0) d_Re_tellOfCoast_15 (Or.inr (by decide)) ?_
    refine mm_aload d_Re_tellOfCoast_184 rfl ?_
    refine mm_getP d_Re_tellOfCoast_185 rfl (sk_o_36 hM) (sk_p_36_0 hM) ?_
    refine mm_getP d_Re_tellOfCoast_188 rfl (sk_o_37 hM) (sk_p_37_4 hM) ?_
    refine mm_aload d_Re_tellOfCoast_191 rfl ?_
    refine mm_getP d_Re_tellOfCoast_192 rfl (sk_o_36 hM) (sk_p_36_0 hM) ?_
    refine mm_getIN d_Re_tellOfCoast_195 rfl (sk_o_37 hM) e1 ?_
    refine mm_iload d_Re_tellOfCoast_198 rfl ?_
    refine mm_iastX d_Re_tellOfCoast_199 (sk_a_42 hM) (by omega) (by decide) ?_
    refine mm_aload d_Re_tellOfCoast_200 rfl ?_
    refine mm_getP d_Re_tellOfCoast_201 rfl (sk_o_36 hM) (sk_p_36_0 hM) ?_
    refine mm_dup d_Re_tellOfCoast_204 rfl ?_
    refine mm_getIN d_Re_tellOfCoast_205 rfl (sk_o_37 hM) (by rw [mm_sI_off (by decide)]; exact e1) ?_
    refine mm_ciN 1 d_Re_tellOfCoast_208 rfl ?_
    refine mm_iaddN d_Re_tellOfCoast_209 ?_
    refine mm_putI d_Re_tellOfCoast_210 rfl (sk_o_37 hM) (Or.inl rfl) ?_
    exact mm_rv d_Re_tellOfCoast_213 (h _ ((Kr.rf.sI ⟨by decide, by decide⟩).sI ⟨by decide, by decide⟩) (by simp only [mm_I_sI]; (repeat (first | rw [if_neg (by first | omega | (intro z; have := z.2; omega))] | rw [if_pos (by first | omega | trivial | (refine ⟨trivial, ?_⟩; first | trivial | omega))]))) (by simp only [mm_I_sI]; (repeat (first | rw [if_neg (by first | omega | (intro z; have := z.2; omega))] | rw [if_pos (by first | omega | trivial | (refine ⟨trivial, ?_⟩; first | trivial | omega))]))) (CoD_mk hM (by (simp only [mm_I_sI, up]; (repeat (first | rw [if_neg (by first | omega | (intro z; have := z.2; omega))] | rw [if_pos (by first | omega | trivial | (refine ⟨trivial, ?_⟩; first | trivial | omega))])); first | done | exact e0)) (by (simp only [mm_I_sI, up]; (repeat (first | rw [if_neg (by first | omega | (intro z; have := z.2; omega))] | rw [if_pos (by first | omega | trivial | (refine ⟨trivial, ?_⟩; first | trivial | omega))])); first | done | exact e1)) (fun j hj => by (simp only [mm_I_sI, up]; (repeat (first | rw [if_neg (by first | omega | (intro z; have := z.2; omega))] | rw [if_pos (by first | omega | trivial | (refine ⟨trivial, ?_⟩; first | trivial | omega))])); first | done | exact hCD.f0 hj)) (fun j hj => by (simp only [mm_I_sI, up]; (repeat (first | rw [if_neg (by first | omega | (intro z; have := z.2; omega))] | rw [if_pos (by first | omega | trivial | (refine ⟨trivial, ?_⟩; first | trivial | omega))])); first | done | exact hCD.f1 hj)) (fun j hj => by (simp only [mm_I_sI, up]; (repeat (first | rw [if_neg (by first | omega | (intro z; have := z.2; omega))] | rw [if_pos (by first | omega | trivial | (refine ⟨trivial, ?_⟩; first | trivial | omega))])); first | done | exact hCD.f2 hj)) (fun j hj => by (simp only [mm_I_sI, up]; (repeat (first | rw [if_neg (by first | omega | (intro z; have := z.2; omega))] | rw [if_pos (by first | omega | trivial | (refine ⟨trivial, ?_⟩; first | trivial | omega))])); first | done | exact hCD.f3 hj)) (fun j hj => by by_cases z : j = t 1; (focus (rw [z]; (simp only [mm_I_sI, up]; (repeat (first | rw [if_neg (by first | omega | (intro z; have := z.2; omega))] | rw [if_pos (by first | omega | trivial | (refine ⟨trivial, ?_⟩; first | trivial | omega))])); first | done | exact rfl))); (simp only [mm_I_sI, up]; (repeat (first | rw [if_neg (by first | omega | (intro z; have := z.2; omega))] | rw [if_pos (by first | omega | trivial | (refine ⟨trivial, ?_⟩; first | trivial | omega))])); first | done | exact hCD.f4 hj)) (fun j hj => by (simp only [mm_I_sI, up]; (repeat (first | rw [if_neg (by first | omega | (intro z; have := z.2; omega))] | rw [if_pos (by first | omega | trivial | (refine ⟨trivial, ?_⟩; first | trivial | omega))])); first | done | exact hCD.f5 hj))) (by simp only [mm_I_sI, up]; (repeat (first | rw [if_neg (by first | omega | (intro z; have := z.2; omega))] | rw [if_pos (by first | omega | trivial | (refine ⟨trivial, ?_⟩; first | trivial | omega))])); first | done | exact h10))
theorem sp_Ye_add {X : mm_X} {μ : mm_M} {q : mm_M → Prop} {n : Nat} {x y z : Int32} (hM : SK μ) (hn : mm_I μ 44 3 = nI n) (hn4 : n < 40) (h : q (mm_sI (mm_sI (mm_sI (mm_sI μ 45 n x) 46 n y) 47 n z) 44 3 (nI (n + 1)))) : mm_Cv X 0 0 0 k_Ye_add [.ref 44, .int x, .int y, .int z] μ q := by
  show mm_T X 0 0 0 k_Ye_add 0 [some (.ref 44), some (.int x), some (.int y), some (.int z)] [] μ _
  refine mm_aload d_Ye_add_0 rfl ?_
  refine mm_getIN d_Ye_add_1 rfl (sk_o_44 hM) hn ?_
  refine mm_ciN 40 d_Ye_add_4 rfl ?_
  refine mm_icmp_geN d_Ye_add_6 (by first | omega | exact ite01_lt | exact bt8_lt31 _ _ | exact godB_lt31 _ _ _ | exact pop_lt31 _ | assumption | exact b31 (hW.gp (by omega)) | exact b31 (hW.ne (by omega)) | exact b31 (hW.op (by omega)) | exact and31 (hW.gp (by omega)) | exact and31 (hW.ne (by omega)) | exact and31 (hW.op (by omega)) | exact and31 (by assumption) | exact and31r (hW.ne (by omega)) | exact and31r (hW.gp (by omega)) | exact and31r (by decide)) (by first | omega | exact ite01_lt | exact bt8_lt31 _ _ | exact godB_lt31 _ _ _ | exact pop_lt31 _ | assumption | exact b31 (hW.gp (by omega)) | exact b31 (hW.ne (by omega)) | exact b31 (hW.op (by omega)) | exact and31 (hW.gp (by omega)) | exact and31 (hW.ne (by omega)) | exact and31 (hW.op (by omega)) | exact and31 (by assumption) | exact and31r (hW.ne (by omega)) | exact and31r (hW.gp (by omega)) | exact and31r (by decide)) (fun c_6 => False.elim (by omega)) (fun c_6 => ?_)
  refine mm_aload d_Ye_add_9 rfl ?_
  refine mm_getP d_Ye_add_10 rfl (sk_o_44 hM) (sk_p_44_0 hM) ?_
  refine mm_aload d_Ye_add_13 rfl ?_
  refine mm_getIN d_Ye_add_14 rfl (sk_o_44 hM) hn ?_
  refine mm_iload d_Ye_add_17 rfl ?_
  refine mm_iastX d_Ye_add_18 (sk_a_45 hM) (by omega) (by decide) ?_
  refine mm_aload d_Ye_add_19 rfl ?_
  refine mm_getP d_Ye_add_20 rfl (sk_o_44 hM) (sk_p_44_1 hM) ?_
  refine mm_aload d_Ye_add_23 rfl ?_
  refine mm_getIN d_Ye_add_24 rfl (sk_o_44 hM) (by rw [mm_sI_off (by decide)]; exact hn) ?_
  refine mm_iload d_Ye_add_27 rfl ?_
  refine mm_iastX d_Ye_add_28 (sk_a_46 hM) (by omega) (by decide) ?_
  refine mm_aload d_Ye_add_29 rfl ?_
  refine mm_getP d_Ye_add_30 rfl (sk_o_44 hM) (sk_p_44_2 hM) ?_
  refine mm_aload d_Ye_add_33 rfl ?_
  refine mm_getIN d_Ye_add_34 rfl (sk_o_44 hM) (by rw [mm_sI_off (by decide), mm_sI_off (by decide)]; exact hn) ?_
  refine mm_iload d_Ye_add_37 rfl ?_
  refine mm_iastX d_Ye_add_38 (sk_a_47 hM) (by omega) (by decide) ?_
  refine mm_aload d_Ye_add_39 rfl ?_
  refine mm_dup d_Ye_add_40 rfl ?_
  refine mm_getIN d_Ye_add_41 rfl (sk_o_44 hM) (by rw [mm_sI_off (by decide), mm_sI_off (by decide), mm_sI_off (by decide)]; exact hn) ?_
  refine mm_ciN 1 d_Ye_add_44 rfl ?_
  refine mm_iaddN d_Ye_add_45 ?_
  refine mm_putI d_Ye_add_46 rfl (sk_o_44 hM) (Or.inl rfl) ?_
  exact mm_rv d_Ye_add_49 h
theorem sp_Lo_add {X : mm_X} {μ : mm_M} {q : mm_M → Prop} {n : Nat} {x y : Int32} (hM : SK μ) (hn : mm_I μ 48 2 = nI n) (hn4 : n < 8) (h : q (mm_sI (mm_sI (mm_sI μ 49 n x) 50 n y) 48 2 (nI (n + 1)))) : mm_Cv X 0 0 0 k_Lo_add [.ref 48, .int x, .int y] μ q := by
  show mm_T X 0 0 0 k_Lo_add 0 [some (.ref 48), some (.int x), some (.int y)] [] μ _
  refine mm_aload d_Lo_add_0 rfl ?_
  refine mm_getIN d_Lo_add_1 rfl (sk_o_48 hM) hn ?_
  refine mm_ciN 8 d_Lo_add_4 rfl ?_
  refine mm_icmp_geN d_Lo_add_6 (by first | omega | exact ite01_lt | exact bt8_lt31 _ _ | exact godB_lt31 _ _ _ | exact pop_lt31 _ | assumption | exact b31 (hW.gp (by omega)) | exact b31 (hW.ne (by omega)) | exact b31 (hW.op (by omega)) | exact and31 (hW.gp (by omega)) | exact and31 (hW.ne (by omega)) | exact and31 (hW.op (by omega)) | exact and31 (by assumption) | exact and31r (hW.ne (by omega)) | exact and31r (hW.gp (by omega)) | exact and31r (by decide)) (by first | omega | exact ite01_lt | exact bt8_lt31 _ _ | exact godB_lt31 _ _ _ | exact pop_lt31 _ | assumption | exact b31 (hW.gp (by omega)) | exact b31 (hW.ne (by omega)) | exact b31 (hW.op (by omega)) | exact and31 (hW.gp (by omega)) | exact and31 (hW.ne (by omega)) | exact and31 (hW.op (by omega)) | exact and31 (by assumption) | exact and31r (hW.ne (by omega)) | exact and31r (hW.gp (by omega)) | exact and31r (by decide)) (fun c_6 => False.elim (by omega)) (fun c_6 => ?_)
  refine mm_aload d_Lo_add_9 rfl ?_
  refine mm_getP d_Lo_add_10 rfl (sk_o_48 hM) (sk_p_48_0 hM) ?_
  refine mm_aload d_Lo_add_13 rfl ?_
  refine mm_getIN d_Lo_add_14 rfl (sk_o_48 hM) hn ?_
  refine mm_iload d_Lo_add_17 rfl ?_
  refine mm_iastX d_Lo_add_18 (sk_a_49 hM) (by omega) (by decide) ?_
  refine mm_aload d_Lo_add_19 rfl ?_
  refine mm_getP d_Lo_add_20 rfl (sk_o_48 hM) (sk_p_48_1 hM) ?_
  refine mm_aload d_Lo_add_23 rfl ?_
  refine mm_getIN d_Lo_add_24 rfl (sk_o_48 hM) (by rw [mm_sI_off (by decide)]; exact hn) ?_
  refine mm_iload d_Lo_add_27 rfl ?_
  refine mm_iastX d_Lo_add_28 (sk_a_50 hM) (by omega) (by decide) ?_
  refine mm_aload d_Lo_add_29 rfl ?_
  refine mm_dup d_Lo_add_30 rfl ?_
  refine mm_getIN d_Lo_add_31 rfl (sk_o_48 hM) (by rw [mm_sI_off (by decide), mm_sI_off (by decide)]; exact hn) ?_
  refine mm_ciN 1 d_Lo_add_34 rfl ?_
  refine mm_iaddN d_Lo_add_35 ?_
  refine mm_putI d_Lo_add_36 rfl (sk_o_48 hM) (Or.inl rfl) ?_
  exact mm_rv d_Lo_add_39 h
