/-! boats: the class -/
def scO (a : Nat) : Bool := a == 64 || a == 65 || a == 66
theorem scO_C : ∀ a, scO a = true → scC a = true := fun a z => by unfold scO at z; unfold scC; simp at z ⊢; omega
def BoS (D : mm_D) (R e : Nat) (ν : mm_M) : Prop := SK ν ∧ e < 2 ∧ mm_P ν 63 3 = some (4 + 7 * e) ∧ CoD ν (4 + 7 * e) D ∧ WfD D ∧ mm_I ν 63 4 = nI R
theorem BoS.fr {D : mm_D} {R e : Nat} {μ ν : mm_M} (h : BoS D R e μ) (f : Fr scO μ ν) : BoS D R e ν := ⟨f.2.2.2 h.1, h.2.1, by rw [(f.2.2.1 63 rfl).2.2]; exact h.2.2.1, h.2.2.2.1.frC (f.sub scO_C) h.2.1, h.2.2.2.2.1, by rw [(f.2.2.1 63 rfl).1]; exact h.2.2.2.2.2⟩
def FA (D : mm_D) (f : Nat → Nat) (c : Nat) (ν : mm_M) : Prop := ∀ x, x < 6 → mm_I ν 65 x = nI (cB f x c) ∧ mm_I ν 66 x = nI (uB D f x c)
theorem FA_up {D : mm_D} {f : Nat → Nat} {c x : Nat} {ν : mm_M} {z : Int32} (h : FA D f c ν) : FA D (up f c x) (c + 1) (mm_sI (mm_sI (mm_sI ν 65 x (nI (cB f x c + 1))) 66 x (nI (uB D f x c ||| dgp D c))) 64 c z) := by
  intro y hy
  have eb : ∀ b, b < c → up f c x b = f b := fun b hb => up_ne (by omega)
  have e1 : cB (up f c x) y (c + 1) = cB f y c + (if x = y then 1 else 0) := by
    show cB (up f c x) y c + (if up f c x c = y then 1 else 0) = _
    rw [cB_cg c eb, up_at]
  have e2 : uB D (up f c x) y (c + 1) = if x = y then uB D f y c ||| dgp D c else uB D f y c := by
    show (if up f c x c = y then uB D (up f c x) y c ||| dgp D c else uB D (up f c x) y c) = _
    rw [uB_cg c eb, up_at]
  have m1 : mm_I (mm_sI (mm_sI (mm_sI ν 65 x (nI (cB f x c + 1))) 66 x (nI (uB D f x c ||| dgp D c))) 64 c z) 65 y = if y = x then nI (cB f x c + 1) else mm_I ν 65 y := by
    rw [mm_sI_off (by decide), mm_sI_off (by decide), mm_I_sI]
    by_cases w : y = x
    · rw [if_pos w, if_pos ⟨rfl, w⟩]
    · rw [if_neg w, if_neg (fun q => w q.2)]
  have m2 : mm_I (mm_sI (mm_sI (mm_sI ν 65 x (nI (cB f x c + 1))) 66 x (nI (uB D f x c ||| dgp D c))) 64 c z) 66 y = if y = x then nI (uB D f x c ||| dgp D c) else mm_I ν 66 y := by
    rw [mm_sI_off (by decide), mm_I_sI, mm_sI_off (by decide)]
    by_cases w : y = x
    · rw [if_pos w, if_pos ⟨rfl, w⟩]
    · rw [if_neg w, if_neg (fun q => w q.2)]
  rw [e1, e2, m1, m2]
  by_cases e : x = y
  · rw [if_pos e, if_pos e, if_pos e.symm, if_pos e.symm, e]
    exact ⟨rfl, rfl⟩
  · rw [if_neg e, if_neg e, if_neg (fun w => e w.symm), if_neg (fun w => e w.symm)]
    exact h y hy
theorem FA_back {D : mm_D} (hW : WfD D) {f : Nat → Nat} {c x : Nat} {ν : mm_M} (hc : c < 6) (hx : x < 6) (hz : uB D f x c &&& dgp D c = 0) (h : FA D (up f c x) (c + 1) ν) : FA D f c (mm_sI (mm_sI ν 65 x (nI (cB f x c + 1 - 1))) 66 x (nI ((uB D f x c ||| dgp D c) &&& (dgp D c ^^^ 4294967295)))) := by
  intro y hy
  have eb : ∀ b, b < c → up f c x b = f b := fun b hb => up_ne (by omega)
  have e1 : cB (up f c x) y (c + 1) = cB f y c + (if x = y then 1 else 0) := by
    show cB (up f c x) y c + (if up f c x c = y then 1 else 0) = _
    rw [cB_cg c eb, up_at]
  have e2 : uB D (up f c x) y (c + 1) = if x = y then uB D f y c ||| dgp D c else uB D f y c := by
    show (if up f c x c = y then uB D (up f c x) y c ||| dgp D c else uB D (up f c x) y c) = _
    rw [uB_cg c eb, up_at]
  obtain ⟨h1, h2⟩ := h y hy
  rw [e1] at h1
  rw [e2] at h2
  rw [mm_sI_off (by decide), mm_I_sI, mm_I_sI, mm_sI_off (by decide), andn_or (uB_lt hW c (by omega)) (hW.gp hc) hz]
  by_cases e : x = y
  · rw [if_pos ⟨rfl, e.symm⟩, if_pos ⟨rfl, e.symm⟩, e]
    exact ⟨rfl, rfl⟩
  · rw [if_neg (fun w => e w.2.symm), if_neg (fun w => e w.2.symm)]
    rw [if_neg e] at h1 h2
    exact ⟨h1, h2⟩
theorem sp_Bo_board {X : mm_X} {D : mm_D} {R e m : Nat} (hR : R ≤ 6) (hm6 : m ≤ 6) : ∀ (r c u : Nat) (f : Nat → Nat) (ν : mm_M) (q : Int32 → mm_M → Prop), r + c = dn D → u ≤ c → (∀ b, b < c → f b < u) → (∀ b, b < c → f b < m) → Vl D R c f → BoS D R e ν → FA D f c ν → (∀ g ν', (∀ b, b < c → g b = f b) → Gr D R m c g → Fr scO ν ν' → (∀ b, b < c → mm_I ν' 64 b = mm_I ν 64 b) → (∀ b, c ≤ b → b < dn D → mm_I ν' 64 b = nI (g b)) → q (nI 1) ν') → (¬ Sl D R m c f → ∀ ν', Fr scO ν ν' → FA D f c ν' → (∀ b, b < c → mm_I ν' 64 b = mm_I ν 64 b) → q (nI 0) ν') → mm_Ci X (r + 2) 0 0 k_Bo_board [.ref 63, .int (nI c), .int (nI u), .int (nI m)] ν q := by
  intro r
  induction r with
  | zero =>
    intro c u f ν q hr hu hfu hfm hV hS hF h1 h0
    have hM := hS.1
    have hW := hS.2.2.2.2.1
    have hn6 := hW.1
    have hCD := hS.2.2.2.1
    have hP := hS.2.2.1
    show mm_T X (0 + 2) 0 0 k_Bo_board 0 [some (.ref 63), some (.int (nI c)), some (.int (nI u)), some (.int (nI m)), none, none] [] ν _
    have ec : c = dn D := by omega
    refine mm_iload d_Bo_board_0 rfl ?_
    refine mm_aload d_Bo_board_1 rfl ?_
    refine mm_getP d_Bo_board_2 rfl (sk_o_63 hM) hP ?_
    refine mm_getIN d_Bo_board_5 rfl hCD.1.1 hCD.n ?_
    refine mm_icmp_ltN d_Bo_board_8 (by first | omega | exact ite01_lt | exact bt8_lt31 _ _ | exact godB_lt31 _ _ _ | exact pop_lt31 _ | assumption | exact b31 (hW.gp (by omega)) | exact b31 (hW.ne (by omega)) | exact b31 (hW.op (by omega)) | exact and31 (hW.gp (by omega)) | exact and31 (hW.ne (by omega)) | exact and31 (hW.op (by omega)) | exact and31 (by assumption) | exact and31r (hW.ne (by omega)) | exact and31r (hW.gp (by omega)) | exact and31r (by decide)) (by first | omega | exact ite01_lt | exact bt8_lt31 _ _ | exact godB_lt31 _ _ _ | exact pop_lt31 _ | assumption | exact b31 (hW.gp (by omega)) | exact b31 (hW.ne (by omega)) | exact b31 (hW.op (by omega)) | exact and31 (hW.gp (by omega)) | exact and31 (hW.ne (by omega)) | exact and31 (hW.op (by omega)) | exact and31 (by assumption) | exact and31r (hW.ne (by omega)) | exact and31r (hW.gp (by omega)) | exact and31r (by decide)) (fun c_8 => False.elim (by omega)) (fun c_8 => ?_)
    refine mm_ciN 1 d_Bo_board_11 rfl ?_
    exact mm_rz d_Bo_board_12 (h1 f ν (fun _ _ => rfl) ⟨by rw [← ec]; exact hfm, by rw [← ec]; exact hV, fun c' y1 y2 => absurd y2 (by omega)⟩ Fr.rf (fun _ _ => rfl) (fun b y1 y2 => absurd y2 (by omega)))
  | succ r ih =>
    intro c u f ν q hr hu hfu hfm hV hS hF h1 h0
    have hM := hS.1
    have hW := hS.2.2.2.2.1
    have hn6 := hW.1
    have hCD := hS.2.2.2.1
    have hP := hS.2.2.1
    have hc : c < dn D := by omega
    have hgp := hW.gp (j := c) (by omega)
    show mm_T X (r + 1 + 2) 0 0 k_Bo_board 0 [some (.ref 63), some (.int (nI c)), some (.int (nI u)), some (.int (nI m)), none, none] [] ν _
    have none' : (∀ x, x < min (u + 1) m → ¬ Sl D R m (c + 1) (up f c x)) → ¬ Sl D R m c f := by
      intro hb hs
      obtain ⟨x, hx, hsx⟩ := Sl_down hc hs
      by_cases y : x < min (u + 1) m
      · exact hb x y hsx
      · exact hb u (by omega) (Sl_swap hfu (by omega) hx (by omega) hsx)
    refine mm_iload d_Bo_board_0 rfl ?_
    refine mm_aload d_Bo_board_1 rfl ?_
    refine mm_getP d_Bo_board_2 rfl (sk_o_63 hM) hP ?_
    refine mm_getIN d_Bo_board_5 rfl hCD.1.1 hCD.n ?_
    refine mm_icmp_ltN d_Bo_board_8 (by first | omega | exact ite01_lt | exact bt8_lt31 _ _ | exact godB_lt31 _ _ _ | exact pop_lt31 _ | assumption | exact b31 (hW.gp (by omega)) | exact b31 (hW.ne (by omega)) | exact b31 (hW.op (by omega)) | exact and31 (hW.gp (by omega)) | exact and31 (hW.ne (by omega)) | exact and31 (hW.op (by omega)) | exact and31 (by assumption) | exact and31r (hW.ne (by omega)) | exact and31r (hW.gp (by omega)) | exact and31r (by decide)) (by first | omega | exact ite01_lt | exact bt8_lt31 _ _ | exact godB_lt31 _ _ _ | exact pop_lt31 _ | assumption | exact b31 (hW.gp (by omega)) | exact b31 (hW.ne (by omega)) | exact b31 (hW.op (by omega)) | exact and31 (hW.gp (by omega)) | exact and31 (hW.ne (by omega)) | exact and31 (hW.op (by omega)) | exact and31 (by assumption) | exact and31r (hW.ne (by omega)) | exact and31r (hW.gp (by omega)) | exact and31r (by decide)) (fun c_8 => ?_) (fun c_8 => False.elim (by omega))
    refine mm_aload d_Bo_board_13 rfl ?_
    refine mm_getP d_Bo_board_14 rfl (sk_o_63 hM) hP ?_
    refine mm_getP d_Bo_board_17 rfl hCD.1.1 (CoS_p3 hCD.1) ?_
    refine mm_iload d_Bo_board_20 rfl ?_
    refine mm_ialdN d_Bo_board_21 (CoS_a3 hCD.1) (by omega) (by decide) (hCD.f3 (by omega)) ?_
    refine mm_ist4 d_Bo_board_22 ?_
    refine mm_ciN 0 d_Bo_board_24 rfl ?_
    refine mm_ist5 d_Bo_board_25 ?_
    refine mm_up (P := fun x => ∀ ξ, Fr scO ν ξ → FA D f c ξ → (∀ b, b < c → mm_I ξ 64 b = mm_I ν 64 b) → (∀ x', x' < x → ¬ Sl D R m (c + 1) (up f c x')) → mm_T X (r + 1 + 2) 0 0 k_Bo_board 27 [some (.ref 63), some (.int (nI c)), some (.int (nI u)), some (.int (nI m)), some (.int (nI (dgp D c))), some (.int (nI x))] [] ξ _) (min (u + 1) m) ?_ ?_ ν Fr.rf hF (fun _ _ => rfl) (fun x' y => absurd y (Nat.not_lt_zero x'))
    · intro ξ hf hF e64 hb
      by_cases y : m ≤ u
      · refine mm_iload d_Bo_board_27 rfl ?_
        refine mm_iload d_Bo_board_29 rfl ?_
        refine mm_icmp_gtN d_Bo_board_30 (by first | omega | exact ite01_lt | exact bt8_lt31 _ _ | exact godB_lt31 _ _ _ | exact pop_lt31 _ | assumption | exact b31 (hW.gp (by omega)) | exact b31 (hW.ne (by omega)) | exact b31 (hW.op (by omega)) | exact and31 (hW.gp (by omega)) | exact and31 (hW.ne (by omega)) | exact and31 (hW.op (by omega)) | exact and31 (by assumption) | exact and31r (hW.ne (by omega)) | exact and31r (hW.gp (by omega)) | exact and31r (by decide)) (by first | omega | exact ite01_lt | exact bt8_lt31 _ _ | exact godB_lt31 _ _ _ | exact pop_lt31 _ | assumption | exact b31 (hW.gp (by omega)) | exact b31 (hW.ne (by omega)) | exact b31 (hW.op (by omega)) | exact and31 (hW.gp (by omega)) | exact and31 (hW.ne (by omega)) | exact and31 (hW.op (by omega)) | exact and31 (by assumption) | exact and31r (hW.ne (by omega)) | exact and31r (hW.gp (by omega)) | exact and31r (by decide)) (fun c_30 => False.elim (by omega)) (fun c_30 => ?_)
        refine mm_iload d_Bo_board_33 rfl ?_
        refine mm_iload d_Bo_board_35 rfl ?_
        refine mm_icmp_geN d_Bo_board_36 (by first | omega | exact ite01_lt | exact bt8_lt31 _ _ | exact godB_lt31 _ _ _ | exact pop_lt31 _ | assumption | exact b31 (hW.gp (by omega)) | exact b31 (hW.ne (by omega)) | exact b31 (hW.op (by omega)) | exact and31 (hW.gp (by omega)) | exact and31 (hW.ne (by omega)) | exact and31 (hW.op (by omega)) | exact and31 (by assumption) | exact and31r (hW.ne (by omega)) | exact and31r (hW.gp (by omega)) | exact and31r (by decide)) (by first | omega | exact ite01_lt | exact bt8_lt31 _ _ | exact godB_lt31 _ _ _ | exact pop_lt31 _ | assumption | exact b31 (hW.gp (by omega)) | exact b31 (hW.ne (by omega)) | exact b31 (hW.op (by omega)) | exact and31 (hW.gp (by omega)) | exact and31 (hW.ne (by omega)) | exact and31 (hW.op (by omega)) | exact and31 (by assumption) | exact and31r (hW.ne (by omega)) | exact and31r (hW.gp (by omega)) | exact and31r (by decide)) (fun c_36 => ?_) (fun c_36 => False.elim (by omega))
        refine mm_ciN 0 d_Bo_board_149 rfl ?_
        exact mm_rz d_Bo_board_150 (h0 (none' hb) ξ hf hF e64)
      · refine mm_iload d_Bo_board_27 rfl ?_
        refine mm_iload d_Bo_board_29 rfl ?_
        refine mm_icmp_gtN d_Bo_board_30 (by first | omega | exact ite01_lt | exact bt8_lt31 _ _ | exact godB_lt31 _ _ _ | exact pop_lt31 _ | assumption | exact b31 (hW.gp (by omega)) | exact b31 (hW.ne (by omega)) | exact b31 (hW.op (by omega)) | exact and31 (hW.gp (by omega)) | exact and31 (hW.ne (by omega)) | exact and31 (hW.op (by omega)) | exact and31 (by assumption) | exact and31r (hW.ne (by omega)) | exact and31r (hW.gp (by omega)) | exact and31r (by decide)) (by first | omega | exact ite01_lt | exact bt8_lt31 _ _ | exact godB_lt31 _ _ _ | exact pop_lt31 _ | assumption | exact b31 (hW.gp (by omega)) | exact b31 (hW.ne (by omega)) | exact b31 (hW.op (by omega)) | exact and31 (hW.gp (by omega)) | exact and31 (hW.ne (by omega)) | exact and31 (hW.op (by omega)) | exact and31 (by assumption) | exact and31r (hW.ne (by omega)) | exact and31r (hW.gp (by omega)) | exact and31r (by decide)) (fun c_30 => ?_) (fun c_30 => False.elim (by omega))
        refine mm_ciN 0 d_Bo_board_149 rfl ?_
        exact mm_rz d_Bo_board_150 (h0 (none' hb) ξ hf hF e64)
    · intro x hx IH ξ hf hF e64 hb
      have hS1 := hS.fr hf
      have hM := hS1.1
      have hxc : x < 6 := by omega
      obtain ⟨f1, f2⟩ := hF x hxc
      have hcl := cB_le (f := f) (x := x) c
      have hul := uB_lt hW (f := f) (x := x) c (by omega)
      have hal : uB D f x c &&& dgp D c < 256 := and_lt256 hul
      have hvu := Vl_up (x := x) hV
      have nx : ¬ Sl D R m (c + 1) (up f c x) → ∀ x', x' < x + 1 → ¬ Sl D R m (c + 1) (up f c x') := fun y x' y2 => by
        by_cases y3 : x' = x
        · rw [y3]; exact y
        · exact hb x' (by omega)
      have nv : ¬ (cB f x c < R ∧ uB D f x c &&& dgp D c = 0) → ¬ Sl D R m (c + 1) (up f c x) := fun y z => y (hvu.mp (Sl_vl (by omega) z))
      have recu : cB f x c < R → uB D f x c &&& dgp D c = 0 → mm_T X (r + 1 + 2) 0 0 k_Bo_board 110 [some (.ref 63), some (.int (nI c)), some (.int (nI u)), some (.int (nI m)), some (.int (nI (dgp D c))), some (.int (nI x))] [.int (nI m), .int (nI (max u (x + 1))), .int (nI (c + 1)), .ref 63] (mm_sI (mm_sI (mm_sI ξ 65 x (nI (cB f x c + 1))) 66 x (nI (uB D f x c ||| dgp D c))) 64 c (nI x)) (fun v μ' => ∃ r, v = some (.int r) ∧ q r μ') := by
        intro g1 g2
        have F1 : Fr scO ξ (mm_sI (mm_sI (mm_sI ξ 65 x (nI (cB f x c + 1))) 66 x (nI (uB D f x c ||| dgp D c))) 64 c (nI x)) := ((Fr.rf.sI rfl).sI rfl).sI rfl
        have ub : ∀ M, x < M → (∀ b, b < c → f b < M) → ∀ b, b < c + 1 → up f c x b < M := fun M y1 y2 b hb => by
          by_cases y : b = c
          · rw [y, up_at]; exact y1
          · rw [up_ne y]; exact y2 b (by omega)
        refine mm_v3i d_Bo_board_110 (sk_o_63 hM) (ih (c + 1) (max u (x + 1)) (up f c x) _ _ (by omega) (by omega) (ub _ (by omega) (fun b hb => by have := hfu b hb; omega)) (ub _ (by omega) hfm) (hvu.mpr ⟨g1, g2⟩) (hS1.fr F1) (FA_up hF) (fun g ν' a1 a2 a3 a4 a5 => ?_) (fun ns ν' a1 a2 a3 => ?_)) (hdd := by omega)
        · have gc : g c = x := by rw [a1 c (by omega), up_at]
          have gb : ∀ b, b < c → g b = f b := fun b hb => by rw [a1 b (by omega), up_ne (by omega)]
          refine mm_if_eqN d_Bo_board_113 (by decide) (fun y => absurd y (by decide)) (fun _ => ?_)
          refine mm_ciN 1 d_Bo_board_116 rfl ?_
          refine mm_rz d_Bo_board_117 (h1 g ν' gb ⟨a2.1, a2.2.1, fun c' y1 y2 x' y3 => ?_⟩ (hf.trans (F1.trans a3)) (fun b hb => ?_) (fun b y1 y2 => ?_))
          · by_cases y : c' = c
            · subst y
              refine fun z => hb x' (by omega) (Sl_cg (fun b hb => ?_) z)
              by_cases w : b = c'
              · rw [w, up_at, up_at]
              · rw [up_ne w, up_ne w]; exact gb b (by omega)
            · exact a2.2.2 c' (by omega) y2 x' y3
          · rw [a4 b (by omega), mm_I_sI, if_neg (by omega), mm_sI_off (by decide), mm_sI_off (by decide)]; exact e64 b hb
          · by_cases y : b = c
            · rw [y, a4 c (by omega), mm_I_sI, if_pos ⟨rfl, rfl⟩, gc]
            · exact a5 b (by omega) y2
        · have hM := (hS1.fr (F1.trans a1)).1
          have eb : ∀ b, b < c → up f c x b = f b := fun b hb => up_ne (by omega)
          have e1 : mm_I ν' 65 x = nI (cB f x c + 1) := by
            rw [(a2 x hxc).1]
            show nI (cB (up f c x) x c + (if up f c x c = x then 1 else 0)) = _
            rw [cB_cg c eb, up_at, if_pos rfl]
          have e2 : mm_I ν' 66 x = nI (uB D f x c ||| dgp D c) := by
            rw [(a2 x hxc).2]
            show nI (if up f c x c = x then uB D (up f c x) x c ||| dgp D c else uB D (up f c x) x c) = _
            rw [uB_cg c eb, up_at, if_pos rfl]
          refine mm_if_eqN d_Bo_board_113 (by first | omega | exact ite01_lt | exact bt8_lt31 _ _ | exact godB_lt31 _ _ _ | exact pop_lt31 _ | assumption | exact b31 (hW.gp (by omega)) | exact b31 (hW.ne (by omega)) | exact b31 (hW.op (by omega)) | exact and31 (hW.gp (by omega)) | exact and31 (hW.ne (by omega)) | exact and31 (hW.op (by omega)) | exact and31 (by assumption) | exact and31r (hW.ne (by omega)) | exact and31r (hW.gp (by omega)) | exact and31r (by decide)) (fun c_113 => ?_) (fun c_113 => False.elim (by omega))
          refine mm_aload d_Bo_board_118 rfl ?_
          refine mm_getP d_Bo_board_119 rfl (sk_o_63 hM) (sk_p_63_1 hM) ?_
          refine mm_iload d_Bo_board_122 rfl ?_
          refine mm_dup2 d_Bo_board_124 rfl rfl ?_
          refine mm_ialdN d_Bo_board_125 (sk_a_65 hM) (by omega) (by decide) e1 ?_
          refine mm_ciN 1 d_Bo_board_126 rfl ?_
          refine mm_isubN d_Bo_board_127 (by omega) ?_
          refine mm_iastX d_Bo_board_128 (sk_a_65 hM) (by omega) (by decide) ?_
          refine mm_aload d_Bo_board_129 rfl ?_
          refine mm_getP d_Bo_board_130 rfl (sk_o_63 hM) (sk_p_63_2 hM) ?_
          refine mm_iload d_Bo_board_133 rfl ?_
          refine mm_dup2 d_Bo_board_135 rfl rfl ?_
          refine mm_ialdN d_Bo_board_136 (sk_a_66 hM) (by omega) (by decide) (show _ = nI (uB D f x c ||| dgp D c) by rw [mm_sI_off (by decide)]; exact e2) ?_
          refine mm_iload d_Bo_board_137 rfl ?_
          refine mm_ci d_Bo_board_139 ?_
          refine mm_inotN d_Bo_board_140 ?_
          refine mm_iandN d_Bo_board_141 ?_
          refine mm_iastX d_Bo_board_142 (sk_a_66 hM) (by omega) (by decide) ?_
          refine mm_inc5N d_Bo_board_143 ?_
          refine mm_goto d_Bo_board_146 ?_
          exact IH _ (((hf.trans (F1.trans a1)).sI rfl).sI rfl) (FA_back hW (by omega) hxc g2 a2) (fun b hb => by rw [mm_sI_off (by decide), mm_sI_off (by decide), a3 b (by omega), mm_I_sI, if_neg (by omega), mm_sI_off (by decide), mm_sI_off (by decide)]; exact e64 b hb) (nx ns)
      refine mm_iload d_Bo_board_27 rfl ?_
      refine mm_iload d_Bo_board_29 rfl ?_
      refine mm_icmp_gtN d_Bo_board_30 (by first | omega | exact ite01_lt | exact bt8_lt31 _ _ | exact godB_lt31 _ _ _ | exact pop_lt31 _ | assumption | exact b31 (hW.gp (by omega)) | exact b31 (hW.ne (by omega)) | exact b31 (hW.op (by omega)) | exact and31 (hW.gp (by omega)) | exact and31 (hW.ne (by omega)) | exact and31 (hW.op (by omega)) | exact and31 (by assumption) | exact and31r (hW.ne (by omega)) | exact and31r (hW.gp (by omega)) | exact and31r (by decide)) (by first | omega | exact ite01_lt | exact bt8_lt31 _ _ | exact godB_lt31 _ _ _ | exact pop_lt31 _ | assumption | exact b31 (hW.gp (by omega)) | exact b31 (hW.ne (by omega)) | exact b31 (hW.op (by omega)) | exact and31 (hW.gp (by omega)) | exact and31 (hW.ne (by omega)) | exact and31 (hW.op (by omega)) | exact and31 (by assumption) | exact and31r (hW.ne (by omega)) | exact and31r (hW.gp (by omega)) | exact and31r (by decide)) (fun c_30 => False.elim (by omega)) (fun c_30 => ?_)
      refine mm_iload d_Bo_board_33 rfl ?_
      refine mm_iload d_Bo_board_35 rfl ?_
      refine mm_icmp_geN d_Bo_board_36 (by first | omega | exact ite01_lt | exact bt8_lt31 _ _ | exact godB_lt31 _ _ _ | exact pop_lt31 _ | assumption | exact b31 (hW.gp (by omega)) | exact b31 (hW.ne (by omega)) | exact b31 (hW.op (by omega)) | exact and31 (hW.gp (by omega)) | exact and31 (hW.ne (by omega)) | exact and31 (hW.op (by omega)) | exact and31 (by assumption) | exact and31r (hW.ne (by omega)) | exact and31r (hW.gp (by omega)) | exact and31r (by decide)) (by first | omega | exact ite01_lt | exact bt8_lt31 _ _ | exact godB_lt31 _ _ _ | exact pop_lt31 _ | assumption | exact b31 (hW.gp (by omega)) | exact b31 (hW.ne (by omega)) | exact b31 (hW.op (by omega)) | exact and31 (hW.gp (by omega)) | exact and31 (hW.ne (by omega)) | exact and31 (hW.op (by omega)) | exact and31 (by assumption) | exact and31r (hW.ne (by omega)) | exact and31r (hW.gp (by omega)) | exact and31r (by decide)) (fun c_36 => False.elim (by omega)) (fun c_36 => ?_)
      refine mm_aload d_Bo_board_39 rfl ?_
      refine mm_getP d_Bo_board_40 rfl (sk_o_63 hM) (sk_p_63_1 hM) ?_
      refine mm_iload d_Bo_board_43 rfl ?_
      refine mm_ialdN d_Bo_board_45 (sk_a_65 hM) (by omega) (by decide) f1 ?_
      refine mm_aload d_Bo_board_46 rfl ?_
      refine mm_getIN d_Bo_board_47 rfl (sk_o_63 hM) hS1.2.2.2.2.2 ?_
      refine mm_icmp_geN d_Bo_board_50 (by first | omega | exact ite01_lt | exact bt8_lt31 _ _ | exact godB_lt31 _ _ _ | exact pop_lt31 _ | assumption | exact b31 (hW.gp (by omega)) | exact b31 (hW.ne (by omega)) | exact b31 (hW.op (by omega)) | exact and31 (hW.gp (by omega)) | exact and31 (hW.ne (by omega)) | exact and31 (hW.op (by omega)) | exact and31 (by assumption) | exact and31r (hW.ne (by omega)) | exact and31r (hW.gp (by omega)) | exact and31r (by decide)) (by first | omega | exact ite01_lt | exact bt8_lt31 _ _ | exact godB_lt31 _ _ _ | exact pop_lt31 _ | assumption | exact b31 (hW.gp (by omega)) | exact b31 (hW.ne (by omega)) | exact b31 (hW.op (by omega)) | exact and31 (hW.gp (by omega)) | exact and31 (hW.ne (by omega)) | exact and31 (hW.op (by omega)) | exact and31 (by assumption) | exact and31r (hW.ne (by omega)) | exact and31r (hW.gp (by omega)) | exact and31r (by decide)) (fun c_50 => ?_) (fun c_50 => ?_)
      · refine mm_inc5N d_Bo_board_143 ?_
        refine mm_goto d_Bo_board_146 ?_
        exact IH ξ hf hF e64 (nx (nv (by omega)))
      · refine mm_aload d_Bo_board_53 rfl ?_
        refine mm_getP d_Bo_board_54 rfl (sk_o_63 hM) (sk_p_63_2 hM) ?_
        refine mm_iload d_Bo_board_57 rfl ?_
        refine mm_ialdN d_Bo_board_59 (sk_a_66 hM) (by omega) (by decide) f2 ?_
        refine mm_iload d_Bo_board_60 rfl ?_
        refine mm_iandN d_Bo_board_62 ?_
        refine mm_if_neN d_Bo_board_63 (by first | omega | exact ite01_lt | exact bt8_lt31 _ _ | exact godB_lt31 _ _ _ | exact pop_lt31 _ | assumption | exact b31 (hW.gp (by omega)) | exact b31 (hW.ne (by omega)) | exact b31 (hW.op (by omega)) | exact and31 (hW.gp (by omega)) | exact and31 (hW.ne (by omega)) | exact and31 (hW.op (by omega)) | exact and31 (by assumption) | exact and31r (hW.ne (by omega)) | exact and31r (hW.gp (by omega)) | exact and31r (by decide)) (fun c_63 => ?_) (fun c_63 => ?_)
        · refine mm_inc5N d_Bo_board_143 ?_
          refine mm_goto d_Bo_board_146 ?_
          exact IH ξ hf hF e64 (nx (nv (by omega)))
        · refine mm_aload d_Bo_board_66 rfl ?_
          refine mm_getP d_Bo_board_67 rfl (sk_o_63 hM) (sk_p_63_1 hM) ?_
          refine mm_iload d_Bo_board_70 rfl ?_
          refine mm_dup2 d_Bo_board_72 rfl rfl ?_
          refine mm_ialdN d_Bo_board_73 (sk_a_65 hM) (by omega) (by decide) f1 ?_
          refine mm_ciN 1 d_Bo_board_74 rfl ?_
          refine mm_iaddN d_Bo_board_75 ?_
          refine mm_iastX d_Bo_board_76 (sk_a_65 hM) (by omega) (by decide) ?_
          refine mm_aload d_Bo_board_77 rfl ?_
          refine mm_getP d_Bo_board_78 rfl (sk_o_63 hM) (sk_p_63_2 hM) ?_
          refine mm_iload d_Bo_board_81 rfl ?_
          refine mm_dup2 d_Bo_board_83 rfl rfl ?_
          refine mm_ialdN d_Bo_board_84 (sk_a_66 hM) (by omega) (by decide) (show _ = nI (uB D f x c) by rw [mm_sI_off (by decide)]; exact f2) ?_
          refine mm_iload d_Bo_board_85 rfl ?_
          refine mm_iorN d_Bo_board_87 ?_
          refine mm_iastX d_Bo_board_88 (sk_a_66 hM) (by omega) (by decide) ?_
          refine mm_aload d_Bo_board_89 rfl ?_
          refine mm_getP d_Bo_board_90 rfl (sk_o_63 hM) (sk_p_63_0 hM) ?_
          refine mm_iload d_Bo_board_93 rfl ?_
          refine mm_iload d_Bo_board_94 rfl ?_
          refine mm_iastX d_Bo_board_96 (sk_a_64 hM) (by omega) (by decide) ?_
          refine mm_aload d_Bo_board_97 rfl ?_
          refine mm_iload d_Bo_board_98 rfl ?_
          refine mm_ciN 1 d_Bo_board_99 rfl ?_
          refine mm_iaddN d_Bo_board_100 ?_
          refine mm_iload d_Bo_board_101 rfl ?_
          refine mm_iload d_Bo_board_102 rfl ?_
          refine mm_ciN 1 d_Bo_board_104 rfl ?_
          refine mm_iaddN d_Bo_board_105 ?_
          refine mm_mmaxN d_Bo_board_106 (by first | omega | exact ite01_lt | exact bt8_lt31 _ _ | exact godB_lt31 _ _ _ | exact pop_lt31 _ | assumption | exact b31 (hW.gp (by omega)) | exact b31 (hW.ne (by omega)) | exact b31 (hW.op (by omega)) | exact and31 (hW.gp (by omega)) | exact and31 (hW.ne (by omega)) | exact and31 (hW.op (by omega)) | exact and31 (by assumption) | exact and31r (hW.ne (by omega)) | exact and31r (hW.gp (by omega)) | exact and31r (by decide)) (by first | omega | exact ite01_lt | exact bt8_lt31 _ _ | exact godB_lt31 _ _ _ | exact pop_lt31 _ | assumption | exact b31 (hW.gp (by omega)) | exact b31 (hW.ne (by omega)) | exact b31 (hW.op (by omega)) | exact and31 (hW.gp (by omega)) | exact and31 (hW.ne (by omega)) | exact and31 (hW.op (by omega)) | exact and31 (by assumption) | exact and31r (hW.ne (by omega)) | exact and31r (hW.gp (by omega)) | exact and31r (by decide)) (by omega) (Nat.le_of_ble_eq_true rfl) ?_
          refine mm_iload d_Bo_board_109 rfl ?_
          exact recu (by omega) (by omega)
def f0 (_ : Nat) : Nat := 0
theorem sp_Bo_fewest {X : mm_X} {μ : mm_M} {q : Int32 → mm_M → Prop} {D : mm_D} {e R : Nat} (hM : SK μ) (he : e < 2) (hC0 : CoD μ (4 + 7 * e) D) (hW : WfD D) (hR1 : 1 ≤ R) (hR : R ≤ 6) (h : ∀ m g ν, m ≤ dn D → (∀ m', m' < m → ¬ Sl D R m' 0 f0) → Gr D R m 0 g → Fr scC μ ν → mm_I ν 57 = mm_I μ 57 → mm_I ν 62 = mm_I μ 62 → (∀ b, b < dn D → mm_I ν 64 b = nI (g b)) → q (nI m) ν) : mm_Ci X 11 0 0 k_Bo_fewest [.ref 63, .ref (4 + 7 * e), .int (nI R)] μ q := by
  show mm_T X 11 0 0 k_Bo_fewest 0 [some (.ref 63), some (.ref (4 + 7 * e)), some (.int (nI R)), none] [] μ _
  have hn6 := hW.1
  have main : ∀ ξ, Fr scC μ ξ → mm_I ξ 57 = mm_I μ 57 → mm_I ξ 62 = mm_I μ 62 → BoS D R e ξ → FA D f0 0 ξ → mm_T X 11 0 0 k_Bo_fewest 28 [some (.ref 63), some (.ref (4 + 7 * e)), some (.int (nI R)), some (.int (nI 0))] [] ξ (fun v μ' => ∃ r, v = some (.int r) ∧ q r μ') := by
    intro ξ hf e57 e62 hS hF
    refine mm_up (P := fun m => ∀ ξ, Fr scC μ ξ → mm_I ξ 57 = mm_I μ 57 → mm_I ξ 62 = mm_I μ 62 → BoS D R e ξ → FA D f0 0 ξ → (∀ m', m' < m → ¬ Sl D R m' 0 f0) → mm_T X 11 0 0 k_Bo_fewest 28 [some (.ref 63), some (.ref (4 + 7 * e)), some (.int (nI R)), some (.int (nI m))] [] ξ (fun v μ' => ∃ r, v = some (.int r) ∧ q r μ')) (dn D + 1) ?_ ?_ ξ hf e57 e62 hS hF (fun m' y => absurd y (Nat.not_lt_zero m'))
    · intro ξ hf e57 e62 hS hF hn
      exact absurd (Sl_all hR1 f0) (hn (dn D) (by omega))
    · intro m hm IH ξ hf e57 e62 hS hF hn
      have hM := hS.1
      have hCD := hS.2.2.2.1
      have hP := hS.2.2.1
      refine mm_iload d_Bo_fewest_28 rfl ?_
      refine mm_aload d_Bo_fewest_29 rfl ?_
      refine mm_getP d_Bo_fewest_30 rfl (sk_o_63 hM) hP ?_
      refine mm_getIN d_Bo_fewest_33 rfl hCD.1.1 hCD.n ?_
      refine mm_icmp_gtN d_Bo_fewest_36 (by first | omega | exact ite01_lt | exact bt8_lt31 _ _ | exact godB_lt31 _ _ _ | exact pop_lt31 _ | assumption | exact b31 (hW.gp (by omega)) | exact b31 (hW.ne (by omega)) | exact b31 (hW.op (by omega)) | exact and31 (hW.gp (by omega)) | exact and31 (hW.ne (by omega)) | exact and31 (hW.op (by omega)) | exact and31 (by assumption) | exact and31r (hW.ne (by omega)) | exact and31r (hW.gp (by omega)) | exact and31r (by decide)) (by first | omega | exact ite01_lt | exact bt8_lt31 _ _ | exact godB_lt31 _ _ _ | exact pop_lt31 _ | assumption | exact b31 (hW.gp (by omega)) | exact b31 (hW.ne (by omega)) | exact b31 (hW.op (by omega)) | exact and31 (hW.gp (by omega)) | exact and31 (hW.ne (by omega)) | exact and31 (hW.op (by omega)) | exact and31 (by assumption) | exact and31r (hW.ne (by omega)) | exact and31r (hW.gp (by omega)) | exact and31r (by decide)) (fun c_36 => False.elim (by omega)) (fun c_36 => ?_)
      refine mm_aload d_Bo_fewest_39 rfl ?_
      refine mm_ciN 0 d_Bo_fewest_40 rfl ?_
      refine mm_ciN 0 d_Bo_fewest_41 rfl ?_
      refine mm_iload d_Bo_fewest_42 rfl ?_
      refine mm_v3i d_Bo_fewest_43 (sk_o_63 hM) (sp_Bo_board hR (by omega) (dn D) 0 0 f0 ξ _ (by omega) (Nat.le_refl _) (fun b y => absurd y (Nat.not_lt_zero b)) (fun b y => absurd y (Nat.not_lt_zero b)) ⟨fun x => Nat.zero_le _, fun a b y => absurd y (Nat.not_lt_zero a)⟩ hS hF (fun g ν' a1 a2 a3 a4 a5 => ?_) (fun ns ν' a1 a2 a3 => ?_)) (hdd := by omega)
      · refine mm_if_eqN d_Bo_fewest_46 (by decide) (fun y => absurd y (by decide)) (fun _ => ?_)
        refine mm_iload d_Bo_fewest_49 rfl ?_
        exact mm_ri d_Bo_fewest_50 (h m g ν' (by omega) hn a2 (hf.trans (a3.sub scO_C)) ((a3.2.2.1 57 rfl).1.trans e57) ((a3.2.2.1 62 rfl).1.trans e62) (fun b hb => a5 b (Nat.zero_le _) hb))
      · refine mm_if_eqN d_Bo_fewest_46 (by decide) (fun _ => ?_) (fun y => absurd rfl y)
        refine mm_inc3N d_Bo_fewest_51 ?_
        refine mm_goto d_Bo_fewest_54 ?_
        exact IH ν' (hf.trans (a1.sub scO_C)) ((a1.2.2.1 57 rfl).1.trans e57) ((a1.2.2.1 62 rfl).1.trans e62) (hS.fr a1) a2 (fun m' y => by by_cases z : m' = m; (rw [z]; exact ns); exact hn m' (by omega))
  have f00 : Fr scC μ (mm_sI (mm_sP μ 63 3 (some (4 + 7 * e))) 63 4 (nI R)) := (Fr.rf.sP rfl (by decide)).sI rfl
  have hM1 : SK (mm_sI (mm_sP μ 63 3 (some (4 + 7 * e))) 63 4 (nI R)) := f00.2.2.2 hM
  refine mm_aload d_Bo_fewest_0 rfl ?_
  refine mm_aload d_Bo_fewest_1 rfl ?_
  refine mm_putP d_Bo_fewest_2 rfl (by decide) (sk_o_63 hM) (Or.inl rfl) ?_
  refine mm_aload d_Bo_fewest_5 rfl ?_
  refine mm_iload d_Bo_fewest_6 rfl ?_
  refine mm_putI d_Bo_fewest_7 rfl (sk_o_63 hM1) (Or.inl rfl) ?_
  refine mm_aload d_Bo_fewest_10 rfl ?_
  refine mm_getP d_Bo_fewest_11 rfl (sk_o_63 hM1) (sk_p_63_1 hM1) ?_
  refine mm_ciN 0 d_Bo_fewest_14 rfl ?_
  refine mm_s2v d_Bo_fewest_15 (sp_Arr_fillI (sk_a_65 hM1) (by decide) ?_)
  refine mm_aload d_Bo_fewest_18 rfl ?_
  refine mm_getP d_Bo_fewest_19 rfl (sk_o_63 hM1) (sk_p_63_2 hM1) ?_
  refine mm_ciN 0 d_Bo_fewest_22 rfl ?_
  refine mm_s2v d_Bo_fewest_23 (sp_Arr_fillI (sk_a_66 hM1) (by decide) ?_)
  refine mm_ciN 0 d_Bo_fewest_26 rfl ?_
  refine mm_ist3 d_Bo_fewest_27 ?_
  have fx : ∀ {η : mm_M} {a b : Nat → Int32}, Fr scC η (mm_row (mm_row η 65 a) 66 b) := fun {η a b} => (Fr.rf.row rfl).row rfl
  refine main _ (f00.trans fx) ?_ ?_ ⟨fx.2.2.2 hM1, he, ?_, hC0.frC (f00.trans fx) he, hW, ?_⟩ (fun x hx => ⟨?_, ?_⟩)
  · rw [mm_row_off (by decide), mm_row_off (by decide), mm_sI_off (by decide)]; rfl
  · rw [mm_row_off (by decide), mm_row_off (by decide), mm_sI_off (by decide)]; rfl
  · show mm_P (mm_sP μ 63 3 (some (4 + 7 * e))) 63 3 = _
    rw [mm_P_sP, if_pos ⟨rfl, rfl⟩]
  · rw [mm_row_off (by decide), mm_row_off (by decide), mm_I_sI, if_pos ⟨rfl, rfl⟩]
  · rw [mm_row_off (by decide), mm_row_at]; exact if_pos hx
  · rw [mm_row_at]; exact if_pos hx
