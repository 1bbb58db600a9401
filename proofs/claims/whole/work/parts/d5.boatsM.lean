/-! pairs: boats, seat -/
def dgt (m N r c : Nat) : Nat := r / m ^ (N - 1 - c) % m
def nm (m : Nat) (g : Nat → Nat) : Nat → Nat
  | 0 => 0
  | c + 1 => nm m g c * m + g c
theorem nm_lt {m : Nat} {g : Nat → Nat} : ∀ c, (∀ b, b < c → g b < m) → nm m g c < m ^ c
  | 0, _ => by show 0 < m ^ 0; rw [Nat.pow_zero]; exact Nat.zero_lt_one
  | c + 1, h => by
    have ih := nm_lt c (fun b hb => h b (by omega))
    have hc := h c (by omega)
    show nm m g c * m + g c < m ^ (c + 1)
    rw [Nat.pow_succ]
    have h1 : (nm m g c + 1) * m ≤ m ^ c * m := Nat.mul_le_mul_right m ih
    rw [Nat.succ_mul] at h1
    omega
theorem nm_div {m : Nat} {g : Nat → Nat} (hm : 0 < m) : ∀ k c, (∀ b, b < c + k → g b < m) → nm m g (c + k) / m ^ k = nm m g c
  | 0, c, _ => by rw [Nat.pow_zero, Nat.div_one]; rfl
  | k + 1, c, h => by
    have hk := h (c + k) (by omega)
    have ih := nm_div hm k c (fun b hb => h b (by omega))
    show (nm m g (c + k) * m + g (c + k)) / m ^ (k + 1) = nm m g c
    rw [Nat.pow_succ, Nat.mul_comm (m ^ k), ← Nat.div_div_eq_div_mul, Nat.add_comm, Nat.mul_comm (nm m g (c + k)), Nat.add_mul_div_left _ _ hm, Nat.div_eq_of_lt hk, Nat.zero_add]
    exact ih
theorem dgt_nm {m N c : Nat} {g : Nat → Nat} (hm : 0 < m) (hg : ∀ b, b < N → g b < m) (hc : c < N) : dgt m N (nm m g N) c = g c := by
  have h := nm_div (m := m) (g := g) hm (N - 1 - c) (c + 1) (fun b hb => hg b (by omega))
  rw [show c + 1 + (N - 1 - c) = N by omega] at h
  unfold dgt
  rw [h]
  show (nm m g c * m + g c) % m = g c
  rw [Nat.add_comm, Nat.add_mul_mod_self_right, Nat.mod_eq_of_lt (hg c hc)]
theorem nm_dgt {m N r : Nat} (hm : 0 < m) (hr : r < m ^ N) : ∀ c, c ≤ N → nm m (dgt m N r) c = r / m ^ (N - c)
  | 0, _ => by rw [Nat.sub_zero, Nat.div_eq_of_lt hr]; rfl
  | c + 1, h => by
    have ih := nm_dgt hm hr c (by omega)
    show nm m (dgt m N r) c * m + dgt m N r c = r / m ^ (N - (c + 1))
    rw [ih]
    unfold dgt
    have e : N - c = (N - (c + 1)) + 1 := by omega
    rw [show N - 1 - c = N - (c + 1) by omega, e, Nat.pow_succ, ← Nat.div_div_eq_div_mul, Nat.mul_comm]
    exact Nat.div_add_mod _ m
theorem nm_lex {m c : Nat} {g g' : Nat → Nat} (hm : 0 < m) (he : ∀ b, b < c → g' b = g b) (hl : g' c < g c) : ∀ k, (∀ b, b < c + 1 + k → g' b < m) → nm m g' (c + 1 + k) < nm m g (c + 1 + k)
  | 0, _ => by
    have e : ∀ k, k ≤ c → nm m g' k = nm m g k := by
      intro k
      induction k with
      | zero => intro _; rfl
      | succ k ih =>
        intro hk
        show nm m g' k * m + g' k = nm m g k * m + g k
        rw [ih (by omega), he k (by omega)]
    show nm m g' c * m + g' c < nm m g c * m + g c
    rw [e c (Nat.le_refl _)]
    omega
  | k + 1, h => by
    have ih := nm_lex hm he hl k (fun b hb => h b (by omega))
    have hk := h (c + 1 + k) (by omega)
    show nm m g' (c + 1 + k) * m + g' (c + 1 + k) < nm m g (c + 1 + k) * m + g (c + 1 + k)
    have h1 : (nm m g' (c + 1 + k) + 1) * m ≤ nm m g (c + 1 + k) * m := Nat.mul_le_mul_right m ih
    rw [Nat.succ_mul] at h1
    omega
/-- the first row that can be -/
theorem row_gr {D : mm_D} {R m r : Nat} (hm : 0 < m) (hr : r < m ^ dn D) (hV : Vl D R (dn D) (dgt m (dn D) r)) (hn : ∀ r', r' < r → ¬ Vl D R (dn D) (dgt m (dn D) r')) : Gr D R m 0 (dgt m (dn D) r) := by
  refine ⟨fun b hb => Nat.mod_lt _ hm, hV, fun c _ hc x hx hs => ?_⟩
  obtain ⟨g, g1, g2, g3⟩ := hs
  have gc : g c = x := by rw [g1 c (by omega), up_at]
  have h1 := nm_lex (m := m) (c := c) (g := dgt m (dn D) r) (g' := g) hm (fun b hb => by rw [g1 b (by omega), up_ne (by omega)]) (by rw [gc]; exact hx) (dn D - (c + 1)) (fun b hb => g2 b (by omega))
  rw [show c + 1 + (dn D - (c + 1)) = dn D by omega, nm_dgt hm hr (dn D) (Nat.le_refl _), Nat.sub_self, Nat.pow_zero, Nat.div_one] at h1
  exact hn _ h1 (Vl_cg (fun b hb => (dgt_nm hm g2 hb).symm) g3)
theorem row_no {D : mm_D} {R m : Nat} {f : Nat → Nat} (hm : 0 < m) (hn : ∀ r, r < m ^ dn D → ¬ Vl D R (dn D) (dgt m (dn D) r)) : ¬ Sl D R m 0 f := by
  rintro ⟨g, -, g2, g3⟩
  exact hn _ (nm_lt _ g2) (Vl_cg (fun b hb => (dgt_nm hm g2 hb).symm) g3)
def wi (g : Nat → Nat) (a : Nat) : Nat → Nat
  | 0 => 0
  | b + 1 => wi g a b + (if b ≠ a ∧ g a = g b then 1 else 0)
theorem wi_le {g : Nat → Nat} {a : Nat} : ∀ b, wi g a b ≤ b
  | 0 => Nat.le_refl 0
  | b + 1 => by
    have := wi_le (g := g) (a := a) b
    show wi g a b + (if b ≠ a ∧ g a = g b then 1 else 0) ≤ _
    split <;> omega
theorem wi_cB {g : Nat → Nat} {a : Nat} : ∀ b, cB g (g a) b = wi g a b + (if a < b then 1 else 0)
  | 0 => rfl
  | b + 1 => by
    have ih := wi_cB (g := g) (a := a) b
    show cB g (g a) b + (if g b = g a then 1 else 0) = wi g a b + (if b ≠ a ∧ g a = g b then 1 else 0) + (if a < b + 1 then 1 else 0)
    rw [ih]
    by_cases e : b = a
    · rw [e, if_pos rfl, if_neg (Nat.lt_irrefl a), if_neg (fun y => y.1 rfl), if_pos (Nat.lt_succ_self a)]
    · by_cases e2 : g b = g a
      · rw [if_pos e2, if_pos (show b ≠ a ∧ g a = g b from ⟨e, e2.symm⟩)]
        by_cases e3 : a < b
        · rw [if_pos e3, if_pos (by omega)]
        · rw [if_neg e3, if_neg (by omega)]
      · rw [if_neg e2, if_neg (show ¬ (b ≠ a ∧ g a = g b) from fun y => e2 y.2.symm)]
        by_cases e3 : a < b
        · rw [if_pos e3, if_pos (by omega)]
        · rw [if_neg e3, if_neg (by omega)]
theorem p6 {m n : Nat} (hm : m ≤ 6) (hn : n ≤ 6) (hm1 : 1 ≤ m) : m ^ n ≤ 46656 := Nat.le_trans (Nat.pow_le_pow_left hm n) (Nat.pow_le_pow_right (n := 6) (i := n) (j := 6) (by decide) hn)
theorem sp_M_isRow {X : mm_X} {μ : mm_M} {q : Int32 → mm_M → Prop} {k row R m : Nat} {D : mm_D} (hH : Hd μ k D) (hN : 1 ≤ dn D) (hm1 : 1 ≤ m) (hm6 : m ≤ 6) (hR : R ≤ 6) (hrow : row < m ^ dn D) (h1 : Vl D R (dn D) (dgt m (dn D) row) → ∀ ν, Fr scM μ ν → Hd ν k D → (∀ b, b < dn D → mm_I ν 86 b = nI (dgt m (dn D) row b)) → q (nI 1) ν) (h0 : ¬ Vl D R (dn D) (dgt m (dn D) row) → ∀ ν, Fr scM μ ν → Hd ν k D → q (nI 0) ν) : mm_Ci X 3 0 0 k_M_isRow [.ref 71, .int (nI row), .int (nI R), .int (nI m)] μ q := by
  show mm_T X 3 0 0 k_M_isRow 0 [some (.ref 71), some (.int (nI row)), some (.int (nI R)), some (.int (nI m)), none, none, none, none] [] μ _
  have hM := hH.1
  have hW := hH.wf
  have hn6 := hW.1
  have hpm := p6 hm6 hn6 hm1
  obtain ⟨g, hge⟩ : ∃ g, dgt m (dn D) row = g := ⟨_, rfl⟩
  have hgl : ∀ b, g b < 6 := fun b => by rw [← hge]; exact Nat.lt_of_lt_of_le (Nat.mod_lt _ hm1) hm6
  rw [hge] at h1 h0
  have check : ∀ (ν : mm_M) (x4 : Int32) (l6 l7 : Option Value), Fr scM μ ν → Hd ν k D → (∀ b, b < dn D → mm_I ν 86 b = nI (g b)) → mm_T X 3 0 0 k_M_isRow 42 [some (.ref 71), some (.int (nI row)), some (.int (nI R)), some (.int (nI m)), some (.int x4), some (.int (nI 0)), l6, l7] [] ν (fun v μ' => ∃ r, v = some (.int r) ∧ q r μ') := by
    intro ν x4 l6 l7 hf hH e86
    have hM := hH.1
    refine mm_up (P := fun a => ∀ (l6 l7 : Option Value), (∀ a', a' < a → cB g (g a') (dn D) ≤ R ∧ ∀ b, b < dn D → b ≠ a' → g a' = g b → dgp D a' &&& dgp D b = 0) → mm_T X 3 0 0 k_M_isRow 42 [some (.ref 71), some (.int (nI row)), some (.int (nI R)), some (.int (nI m)), some (.int x4), some (.int (nI a)), l6, l7] [] ν (fun v μ' => ∃ r, v = some (.int r) ∧ q r μ')) (dn D) ?_ ?_ l6 l7 (fun a' y => absurd y (Nat.not_lt_zero a'))
    · intro l6 l7 hck
      have hV : Vl D R (dn D) g := by
        refine ⟨fun x => ?_, fun a b ha hb hn hab => (hck a ha).2 b hb (fun y => hn y.symm) hab⟩
        by_cases y : cB g x (dn D) = 0
        · rw [y]; exact Nat.zero_le _
        · obtain ⟨a, a1, a2⟩ := cB_pos _ y
          rw [← a2]
          exact (hck a a1).1
      refine mm_iload d_M_isRow_42 rfl ?_
      refine mm_aload d_M_isRow_44 rfl ?_
      refine mm_getIN d_M_isRow_45 rfl (sk_o_71 hM) hH.n ?_
      refine mm_icmp_geN d_M_isRow_48 (by first | omega | exact ite01_lt | exact bt8_lt31 _ _ | exact godB_lt31 _ _ _ | exact pop_lt31 _ | assumption | exact b31 (hW.gp (by omega)) | exact b31 (hW.ne (by omega)) | exact b31 (hW.op (by omega)) | exact and31 (hW.gp (by omega)) | exact and31 (hW.ne (by omega)) | exact and31 (hW.op (by omega)) | exact and31 (by assumption) | exact and31r (hW.ne (by omega)) | exact and31r (hW.gp (by omega)) | exact and31r (by decide)) (by first | omega | exact ite01_lt | exact bt8_lt31 _ _ | exact godB_lt31 _ _ _ | exact pop_lt31 _ | assumption | exact b31 (hW.gp (by omega)) | exact b31 (hW.ne (by omega)) | exact b31 (hW.op (by omega)) | exact and31 (hW.gp (by omega)) | exact and31 (hW.ne (by omega)) | exact and31 (hW.op (by omega)) | exact and31 (by assumption) | exact and31r (hW.ne (by omega)) | exact and31r (hW.gp (by omega)) | exact and31r (by decide)) (fun c_48 => ?_) (fun c_48 => False.elim (by omega))
      refine mm_ciN 1 d_M_isRow_126 rfl ?_
      exact mm_rz d_M_isRow_127 (h1 hV ν hf hH e86)
    · intro a ha IH l6 l7 hck
      refine mm_iload d_M_isRow_42 rfl ?_
      refine mm_aload d_M_isRow_44 rfl ?_
      refine mm_getIN d_M_isRow_45 rfl (sk_o_71 hM) hH.n ?_
      refine mm_icmp_geN d_M_isRow_48 (by first | omega | exact ite01_lt | exact bt8_lt31 _ _ | exact godB_lt31 _ _ _ | exact pop_lt31 _ | assumption | exact b31 (hW.gp (by omega)) | exact b31 (hW.ne (by omega)) | exact b31 (hW.op (by omega)) | exact and31 (hW.gp (by omega)) | exact and31 (hW.ne (by omega)) | exact and31 (hW.op (by omega)) | exact and31 (by assumption) | exact and31r (hW.ne (by omega)) | exact and31r (hW.gp (by omega)) | exact and31r (by decide)) (by first | omega | exact ite01_lt | exact bt8_lt31 _ _ | exact godB_lt31 _ _ _ | exact pop_lt31 _ | assumption | exact b31 (hW.gp (by omega)) | exact b31 (hW.ne (by omega)) | exact b31 (hW.op (by omega)) | exact and31 (hW.gp (by omega)) | exact and31 (hW.ne (by omega)) | exact and31 (hW.op (by omega)) | exact and31 (by assumption) | exact and31r (hW.ne (by omega)) | exact and31r (hW.gp (by omega)) | exact and31r (by decide)) (fun c_48 => False.elim (by omega)) (fun c_48 => ?_)
      refine mm_ciN 1 d_M_isRow_51 rfl ?_
      refine mm_ist6 d_M_isRow_52 ?_
      refine mm_ciN 0 d_M_isRow_54 rfl ?_
      refine mm_ist7 d_M_isRow_55 ?_
      refine mm_up (P := fun b => (∀ b', b' < b → b' ≠ a → g a = g b' → dgp D a &&& dgp D b' = 0) → mm_T X 3 0 0 k_M_isRow 57 [some (.ref 71), some (.int (nI row)), some (.int (nI R)), some (.int (nI m)), some (.int x4), some (.int (nI a)), some (.int (nI (1 + wi g a b))), some (.int (nI b))] [] ν (fun v μ' => ∃ r, v = some (.int r) ∧ q r μ')) (dn D) ?_ ?_ (fun b' y => absurd y (Nat.not_lt_zero b'))
      · intro hb
        have ew := wi_cB (g := g) (a := a) (dn D)
        rw [if_pos ha] at ew
        have hwl := wi_le (g := g) (a := a) (dn D)
        refine mm_iload d_M_isRow_57 rfl ?_
        refine mm_aload d_M_isRow_59 rfl ?_
        refine mm_getIN d_M_isRow_60 rfl (sk_o_71 hM) hH.n ?_
        refine mm_icmp_geN d_M_isRow_63 (by first | omega | exact ite01_lt | exact bt8_lt31 _ _ | exact godB_lt31 _ _ _ | exact pop_lt31 _ | assumption | exact b31 (hW.gp (by omega)) | exact b31 (hW.ne (by omega)) | exact b31 (hW.op (by omega)) | exact and31 (hW.gp (by omega)) | exact and31 (hW.ne (by omega)) | exact and31 (hW.op (by omega)) | exact and31 (by assumption) | exact and31r (hW.ne (by omega)) | exact and31r (hW.gp (by omega)) | exact and31r (by decide)) (by first | omega | exact ite01_lt | exact bt8_lt31 _ _ | exact godB_lt31 _ _ _ | exact pop_lt31 _ | assumption | exact b31 (hW.gp (by omega)) | exact b31 (hW.ne (by omega)) | exact b31 (hW.op (by omega)) | exact and31 (hW.gp (by omega)) | exact and31 (hW.ne (by omega)) | exact and31 (hW.op (by omega)) | exact and31 (by assumption) | exact and31r (hW.ne (by omega)) | exact and31r (hW.gp (by omega)) | exact and31r (by decide)) (fun c_63 => ?_) (fun c_63 => False.elim (by omega))
        refine mm_iload d_M_isRow_112 rfl ?_
        refine mm_iload d_M_isRow_114 rfl ?_
        refine mm_icmp_leN d_M_isRow_115 (by first | omega | exact ite01_lt | exact bt8_lt31 _ _ | exact godB_lt31 _ _ _ | exact pop_lt31 _ | assumption | exact b31 (hW.gp (by omega)) | exact b31 (hW.ne (by omega)) | exact b31 (hW.op (by omega)) | exact and31 (hW.gp (by omega)) | exact and31 (hW.ne (by omega)) | exact and31 (hW.op (by omega)) | exact and31 (by assumption) | exact and31r (hW.ne (by omega)) | exact and31r (hW.gp (by omega)) | exact and31r (by decide)) (by first | omega | exact ite01_lt | exact bt8_lt31 _ _ | exact godB_lt31 _ _ _ | exact pop_lt31 _ | assumption | exact b31 (hW.gp (by omega)) | exact b31 (hW.ne (by omega)) | exact b31 (hW.op (by omega)) | exact and31 (hW.gp (by omega)) | exact and31 (hW.ne (by omega)) | exact and31 (hW.op (by omega)) | exact and31 (by assumption) | exact and31r (hW.ne (by omega)) | exact and31r (hW.gp (by omega)) | exact and31r (by decide)) (fun c_115 => ?_) (fun c_115 => ?_)
        · refine mm_inc5N d_M_isRow_120 ?_
          refine mm_goto d_M_isRow_123 ?_
          exact IH _ _ (fun a' y => by by_cases z : a' = a; (subst z; exact ⟨by omega, fun b hb2 hn hab => hb b hb2 hn hab⟩); exact hck a' (by omega))
        · refine mm_ciN 0 d_M_isRow_118 rfl ?_
          exact mm_rz d_M_isRow_119 (h0 (fun y => by have := y.1 (g a); omega) ν hf hH)
      · intro b hb6 IH2 hb
        have hga := hgl a
        have hgb := hgl b
        have hwl := wi_le (g := g) (a := a) b
        have es : wi g a (b + 1) = wi g a b + (if b ≠ a ∧ g a = g b then 1 else 0) := rfl
        have nx : (b ≠ a → g a = g b → dgp D a &&& dgp D b = 0) → ∀ b', b' < b + 1 → b' ≠ a → g a = g b' → dgp D a &&& dgp D b' = 0 := fun y b' y1 y2 y3 => by
          by_cases z : b' = b
          · subst z; exact y y2 y3
          · exact hb b' (by omega) y2 y3
        refine mm_iload d_M_isRow_57 rfl ?_
        refine mm_aload d_M_isRow_59 rfl ?_
        refine mm_getIN d_M_isRow_60 rfl (sk_o_71 hM) hH.n ?_
        refine mm_icmp_geN d_M_isRow_63 (by first | omega | exact ite01_lt | exact bt8_lt31 _ _ | exact godB_lt31 _ _ _ | exact pop_lt31 _ | assumption | exact b31 (hW.gp (by omega)) | exact b31 (hW.ne (by omega)) | exact b31 (hW.op (by omega)) | exact and31 (hW.gp (by omega)) | exact and31 (hW.ne (by omega)) | exact and31 (hW.op (by omega)) | exact and31 (by assumption) | exact and31r (hW.ne (by omega)) | exact and31r (hW.gp (by omega)) | exact and31r (by decide)) (by first | omega | exact ite01_lt | exact bt8_lt31 _ _ | exact godB_lt31 _ _ _ | exact pop_lt31 _ | assumption | exact b31 (hW.gp (by omega)) | exact b31 (hW.ne (by omega)) | exact b31 (hW.op (by omega)) | exact and31 (hW.gp (by omega)) | exact and31 (hW.ne (by omega)) | exact and31 (hW.op (by omega)) | exact and31 (by assumption) | exact and31r (hW.ne (by omega)) | exact and31r (hW.gp (by omega)) | exact and31r (by decide)) (fun c_63 => False.elim (by omega)) (fun c_63 => ?_)
        refine mm_iload d_M_isRow_66 rfl ?_
        refine mm_iload d_M_isRow_68 rfl ?_
        refine mm_icmp_eqN d_M_isRow_70 (by first | omega | exact ite01_lt | exact bt8_lt31 _ _ | exact godB_lt31 _ _ _ | exact pop_lt31 _ | assumption | exact b31 (hW.gp (by omega)) | exact b31 (hW.ne (by omega)) | exact b31 (hW.op (by omega)) | exact and31 (hW.gp (by omega)) | exact and31 (hW.ne (by omega)) | exact and31 (hW.op (by omega)) | exact and31 (by assumption) | exact and31r (hW.ne (by omega)) | exact and31r (hW.gp (by omega)) | exact and31r (by decide)) (by first | omega | exact ite01_lt | exact bt8_lt31 _ _ | exact godB_lt31 _ _ _ | exact pop_lt31 _ | assumption | exact b31 (hW.gp (by omega)) | exact b31 (hW.ne (by omega)) | exact b31 (hW.op (by omega)) | exact and31 (hW.gp (by omega)) | exact and31 (hW.ne (by omega)) | exact and31 (hW.op (by omega)) | exact and31 (by assumption) | exact and31r (hW.ne (by omega)) | exact and31r (hW.gp (by omega)) | exact and31r (by decide)) (fun c_70 => ?_) (fun c_70 => ?_)
        · refine mm_inc7N d_M_isRow_106 ?_
          refine mm_goto d_M_isRow_109 ?_
          first | (rw [es, if_neg (fun y => y.1 c_70.symm)] at IH2; exact IH2 (nx (fun y => absurd c_70.symm y))) | (rw [es, if_neg (fun y => c_87 y.2)] at IH2; exact IH2 (nx (fun _ y => absurd y c_87))) | (rw [es, if_pos ⟨fun y => c_70 y.symm, c_87⟩, ← Nat.add_assoc] at IH2; exact IH2 (nx (fun _ _ => Decidable.not_not.mp (ite01_eq c_101))))
        · refine mm_aload d_M_isRow_73 rfl ?_
          refine mm_getP d_M_isRow_74 rfl (sk_o_71 hM) (sk_p_71_38 hM) ?_
          refine mm_iload d_M_isRow_77 rfl ?_
          refine mm_ialdN d_M_isRow_79 (sk_a_86 hM) (by omega) (by decide) (e86 a ha) ?_
          refine mm_aload d_M_isRow_80 rfl ?_
          refine mm_getP d_M_isRow_81 rfl (sk_o_71 hM) (sk_p_71_38 hM) ?_
          refine mm_iload d_M_isRow_84 rfl ?_
          refine mm_ialdN d_M_isRow_86 (sk_a_86 hM) (by omega) (by decide) (e86 b hb6) ?_
          refine mm_icmp_neN d_M_isRow_87 (by first | omega | exact ite01_lt | exact bt8_lt31 _ _ | exact godB_lt31 _ _ _ | exact pop_lt31 _ | assumption | exact b31 (hW.gp (by omega)) | exact b31 (hW.ne (by omega)) | exact b31 (hW.op (by omega)) | exact and31 (hW.gp (by omega)) | exact and31 (hW.ne (by omega)) | exact and31 (hW.op (by omega)) | exact and31 (by assumption) | exact and31r (hW.ne (by omega)) | exact and31r (hW.gp (by omega)) | exact and31r (by decide)) (by first | omega | exact ite01_lt | exact bt8_lt31 _ _ | exact godB_lt31 _ _ _ | exact pop_lt31 _ | assumption | exact b31 (hW.gp (by omega)) | exact b31 (hW.ne (by omega)) | exact b31 (hW.op (by omega)) | exact and31 (hW.gp (by omega)) | exact and31 (hW.ne (by omega)) | exact and31 (hW.op (by omega)) | exact and31 (by assumption) | exact and31r (hW.ne (by omega)) | exact and31r (hW.gp (by omega)) | exact and31r (by decide)) (fun c_87 => ?_) (fun c_87 => ?_)
          · refine mm_inc7N d_M_isRow_106 ?_
            refine mm_goto d_M_isRow_109 ?_
            first | (rw [es, if_neg (fun y => y.1 c_70.symm)] at IH2; exact IH2 (nx (fun y => absurd c_70.symm y))) | (rw [es, if_neg (fun y => c_87 y.2)] at IH2; exact IH2 (nx (fun _ y => absurd y c_87))) | (rw [es, if_pos ⟨fun y => c_70 y.symm, c_87⟩, ← Nat.add_assoc] at IH2; exact IH2 (nx (fun _ _ => Decidable.not_not.mp (ite01_eq c_101))))
          · refine mm_inc6N d_M_isRow_90 ?_
            refine mm_aload d_M_isRow_93 rfl ?_
            refine mm_iload d_M_isRow_94 rfl ?_
            refine mm_iload d_M_isRow_96 rfl ?_
            refine mm_v2i d_M_isRow_98 (sk_o_71 hM) (sp_M_shares hH (by omega) (by omega) ?_)
            refine mm_if_eqN d_M_isRow_101 (by first | omega | exact ite01_lt | exact bt8_lt31 _ _ | exact godB_lt31 _ _ _ | exact pop_lt31 _ | assumption | exact b31 (hW.gp (by omega)) | exact b31 (hW.ne (by omega)) | exact b31 (hW.op (by omega)) | exact and31 (hW.gp (by omega)) | exact and31 (hW.ne (by omega)) | exact and31 (hW.op (by omega)) | exact and31 (by assumption) | exact and31r (hW.ne (by omega)) | exact and31r (hW.gp (by omega)) | exact and31r (by decide)) (fun c_101 => ?_) (fun c_101 => ?_)
            · refine mm_inc7N d_M_isRow_106 ?_
              refine mm_goto d_M_isRow_109 ?_
              first | (rw [es, if_neg (fun y => y.1 c_70.symm)] at IH2; exact IH2 (nx (fun y => absurd c_70.symm y))) | (rw [es, if_neg (fun y => c_87 y.2)] at IH2; exact IH2 (nx (fun _ y => absurd y c_87))) | (rw [es, if_pos ⟨fun y => c_70 y.symm, c_87⟩, ← Nat.add_assoc] at IH2; exact IH2 (nx (fun _ _ => Decidable.not_not.mp (ite01_eq c_101))))
            · refine mm_ciN 0 d_M_isRow_104 rfl ?_
              exact mm_rz d_M_isRow_105 (h0 (fun y => ite01_ne c_101 (y.2 a b ha hb6 c_70 c_87)) ν hf hH)
  have seats : ∀ (c : Nat) (ν : mm_M), c < dn D → Fr scM μ ν → Hd ν k D → (∀ b, c < b → b < dn D → mm_I ν 86 b = nI (g b)) → mm_T X 3 0 0 k_M_isRow 11 [some (.ref 71), some (.int (nI row)), some (.int (nI R)), some (.int (nI m)), some (.int (nI (row / m ^ (dn D - 1 - c)))), some (.int (nI c)), none, none] [] ν (fun v μ' => ∃ r, v = some (.int r) ∧ q r μ') := by
    intro c
    induction c with
    | zero =>
      intro ν hc hf hH e
      have hM := hH.1
      have hdl : row / m ^ (dn D - 1 - 0) ≤ row := Nat.div_le_self _ _
      refine mm_iload d_M_isRow_11 rfl ?_
      refine mm_if_ltN d_M_isRow_13 (by first | omega | exact ite01_lt | exact bt8_lt31 _ _ | exact godB_lt31 _ _ _ | exact pop_lt31 _ | assumption | exact b31 (hW.gp (by omega)) | exact b31 (hW.ne (by omega)) | exact b31 (hW.op (by omega)) | exact and31 (hW.gp (by omega)) | exact and31 (hW.ne (by omega)) | exact and31 (hW.op (by omega)) | exact and31 (by assumption) | exact and31r (hW.ne (by omega)) | exact and31r (hW.gp (by omega)) | exact and31r (by decide)) ?_
      refine mm_aload d_M_isRow_16 rfl ?_
      refine mm_getP d_M_isRow_17 rfl (sk_o_71 hM) (sk_p_71_38 hM) ?_
      refine mm_iload d_M_isRow_20 rfl ?_
      refine mm_iload d_M_isRow_22 rfl ?_
      refine mm_iload d_M_isRow_24 rfl ?_
      refine mm_iremN d_M_isRow_25 (by first | omega | exact ite01_lt | exact bt8_lt31 _ _ | exact godB_lt31 _ _ _ | exact pop_lt31 _ | assumption | exact b31 (hW.gp (by omega)) | exact b31 (hW.ne (by omega)) | exact b31 (hW.op (by omega)) | exact and31 (hW.gp (by omega)) | exact and31 (hW.ne (by omega)) | exact and31 (hW.op (by omega)) | exact and31 (by assumption) | exact and31r (hW.ne (by omega)) | exact and31r (hW.gp (by omega)) | exact and31r (by decide)) (by omega) (by omega) ?_
      refine mm_iastX d_M_isRow_26 (sk_a_86 hM) (by omega) (by decide) ?_
      refine mm_iload d_M_isRow_27 rfl ?_
      refine mm_iload d_M_isRow_29 rfl ?_
      refine mm_idivN d_M_isRow_30 (by first | omega | exact ite01_lt | exact bt8_lt31 _ _ | exact godB_lt31 _ _ _ | exact pop_lt31 _ | assumption | exact b31 (hW.gp (by omega)) | exact b31 (hW.ne (by omega)) | exact b31 (hW.op (by omega)) | exact and31 (hW.gp (by omega)) | exact and31 (hW.ne (by omega)) | exact and31 (hW.op (by omega)) | exact and31 (by assumption) | exact and31r (hW.ne (by omega)) | exact and31r (hW.gp (by omega)) | exact and31r (by decide)) (by omega) (by omega) ?_
      refine mm_ist4 d_M_isRow_31 ?_
      refine mm_inc5 d_M_isRow_33 ?_
      refine mm_goto d_M_isRow_36 ?_
      refine mm_iload d_M_isRow_11 rfl ?_
      refine mm_if_lt d_M_isRow_13 (fun _ => ?_) (fun y => absurd (by decide) y)
      refine mm_ciN 0 d_M_isRow_39 rfl ?_
      refine mm_ist5 d_M_isRow_40 ?_
      exact check _ _ _ _ (hf.sI rfl) (hH.sI (by decide) (by decide)) (fun b hb => by rw [mm_I_sI]; by_cases y : b = 0; (rw [if_pos ⟨rfl, y⟩, y, ← hge]; rfl); (rw [if_neg (fun w => y w.2)]; exact e b (by omega) hb))
    | succ c ih =>
      intro ν hc hf hH e
      have hM := hH.1
      have hdl : row / m ^ (dn D - 1 - (c + 1)) ≤ row := Nat.div_le_self _ _
      have ed : row / m ^ (dn D - 1 - (c + 1)) / m = row / m ^ (dn D - 1 - c) := by rw [Nat.div_div_eq_div_mul, show dn D - 1 - c = (dn D - 1 - (c + 1)) + 1 by omega, Nat.pow_succ]
      refine mm_iload d_M_isRow_11 rfl ?_
      refine mm_if_ltN d_M_isRow_13 (by first | omega | exact ite01_lt | exact bt8_lt31 _ _ | exact godB_lt31 _ _ _ | exact pop_lt31 _ | assumption | exact b31 (hW.gp (by omega)) | exact b31 (hW.ne (by omega)) | exact b31 (hW.op (by omega)) | exact and31 (hW.gp (by omega)) | exact and31 (hW.ne (by omega)) | exact and31 (hW.op (by omega)) | exact and31 (by assumption) | exact and31r (hW.ne (by omega)) | exact and31r (hW.gp (by omega)) | exact and31r (by decide)) ?_
      refine mm_aload d_M_isRow_16 rfl ?_
      refine mm_getP d_M_isRow_17 rfl (sk_o_71 hM) (sk_p_71_38 hM) ?_
      refine mm_iload d_M_isRow_20 rfl ?_
      refine mm_iload d_M_isRow_22 rfl ?_
      refine mm_iload d_M_isRow_24 rfl ?_
      refine mm_iremN d_M_isRow_25 (by first | omega | exact ite01_lt | exact bt8_lt31 _ _ | exact godB_lt31 _ _ _ | exact pop_lt31 _ | assumption | exact b31 (hW.gp (by omega)) | exact b31 (hW.ne (by omega)) | exact b31 (hW.op (by omega)) | exact and31 (hW.gp (by omega)) | exact and31 (hW.ne (by omega)) | exact and31 (hW.op (by omega)) | exact and31 (by assumption) | exact and31r (hW.ne (by omega)) | exact and31r (hW.gp (by omega)) | exact and31r (by decide)) (by omega) (by omega) ?_
      refine mm_iastX d_M_isRow_26 (sk_a_86 hM) (by omega) (by decide) ?_
      refine mm_iload d_M_isRow_27 rfl ?_
      refine mm_iload d_M_isRow_29 rfl ?_
      refine mm_idivN d_M_isRow_30 (by first | omega | exact ite01_lt | exact bt8_lt31 _ _ | exact godB_lt31 _ _ _ | exact pop_lt31 _ | assumption | exact b31 (hW.gp (by omega)) | exact b31 (hW.ne (by omega)) | exact b31 (hW.op (by omega)) | exact and31 (hW.gp (by omega)) | exact and31 (hW.ne (by omega)) | exact and31 (hW.op (by omega)) | exact and31 (by assumption) | exact and31r (hW.ne (by omega)) | exact and31r (hW.gp (by omega)) | exact and31r (by decide)) (by omega) (by omega) ?_
      refine mm_ist4 d_M_isRow_31 ?_
      refine mm_inc5D d_M_isRow_33 (by omega) ?_
      refine mm_goto d_M_isRow_36 ?_
      rw [ed]
      exact ih _ (by omega) (hf.sI rfl) (hH.sI (by decide) (by decide)) (fun b y1 y2 => by rw [mm_I_sI]; by_cases y : b = c + 1; (rw [if_pos ⟨rfl, y⟩, y, ← hge]; rfl); (rw [if_neg (fun w => y w.2)]; exact e b (by omega) y2))
  refine mm_iload d_M_isRow_0 rfl ?_
  refine mm_ist4 d_M_isRow_1 ?_
  refine mm_aload d_M_isRow_3 rfl ?_
  refine mm_getIN d_M_isRow_4 rfl (sk_o_71 hM) hH.n ?_
  refine mm_ciN 1 d_M_isRow_7 rfl ?_
  refine mm_isubN d_M_isRow_8 (by omega) ?_
  refine mm_ist5 d_M_isRow_9 ?_
  have := seats (dn D - 1) μ (by omega) Fr.rf hH (fun b y1 y2 => absurd y2 (by omega))
  rw [Nat.sub_self, Nat.pow_zero, Nat.div_one] at this
  exact this
