/-! texts: what is told is well formed -/
theorem WfD_mk {t : Nat → Nat} (h0 : t 0 ≤ 6) (h1 : t 1 ≤ 6) (h2 : ∀ j, j < 8 → t (2 + j) ≤ 10) (h3 : ∀ j, j < 8 → 1 ≤ t (10 + j) ∧ t (10 + j) ≤ 9) (h4 : ∀ j, j < 8 → t (18 + j) < 256) (h5 : ∀ j, j < 6 → t (26 + j) < 256) (h6 : ∀ j, j < 6 → t (32 + j) ≤ 20) (h7 : ∀ j, j < 6 → t (38 + j) < 256) (h8 : ∀ j, j < t 0 → pop (t (26 + j)) = 3) (h9 : ∀ i j, i < 8 → j < 8 → bt8 (t (18 + i)) j = bt8 (t (18 + j)) i ∧ bt8 (t (18 + i)) i = 0) : WfD (DT t) := ⟨h0, h1, fun j hj => ⟨h2 j hj, (h3 j hj).1, (h3 j hj).2, h4 j hj⟩, fun j hj => ⟨h5 j hj, h6 j hj, h7 j hj⟩, h8, h9⟩
theorem pop3' : ∀ a, a < 8 → ∀ b, b < 8 → ∀ c, c < 8 → (a = b ∨ a = c ∨ b = c ∨ pop (2 ^ a ||| 2 ^ b ||| 2 ^ c) = 3) := by decide +kernel
theorem pop3 (a : Nat) (ha : a < 8) (b : Nat) (hb : b < 8) (c : Nat) (hc : c < 8) (h1 : a ≠ b) (h2 : a ≠ c) (h3 : b ≠ c) : pop (2 ^ a ||| 2 ^ b ||| 2 ^ c) = 3 := by
  rcases pop3' a ha b hb c hc with z | z | z | z
  · exact absurd z h1
  · exact absurd z h2
  · exact absurd z h3
  · exact z
theorem p256 {a : Nat} (h : a < 8) : 2 ^ a < 256 := Nat.pow_lt_pow_right (a := 2) (n := 8) (by decide) h
theorem p64 {a : Nat} (h : a < 6) : 2 ^ a < 64 := Nat.pow_lt_pow_right (a := 2) (n := 6) (by decide) h
theorem bt8_orv {s o x : Nat} : bt8 (s ||| 2 ^ o) x = if x = o then 1 else bt8 s x := by
  have h1 := bt8_01 (s ||| 2 ^ o) x
  have h2 := bt8_01 s x
  have h3 := bt8_or2 s o x
  by_cases z : x = o
  · rw [if_pos z]; omega
  · rw [if_neg z]; omega
theorem up_at {t : Nat → Nat} {j x : Nat} : up t j x j = x := if_pos rfl
theorem up_ne {t : Nat → Nat} {j x i : Nat} (h : i ≠ j) : up t j x i = t i := if_neg h
theorem WfT_stp {k : Nat} {v t : Nat → Nat} (hk : k < 13) (hW : WfT (srt k) t) (hfu : ¬ fu k t = true) (hv : ∀ j, j < nu k → cb k v j = true) : WfT (srt k) (stp k v t) := by
  by_cases k6 : k < 6
  · have es : srt k = 0 := if_pos k6
    rw [es] at hW ⊢
    obtain ⟨⟨w0, w1, w2, w3, w4, w5⟩, w44⟩ := hW.1 rfl
    have w0 : t 0 ≤ 6 := w0
    have w1 : t 1 ≤ 6 := w1
    have w2 : ∀ j, j < 8 → t (2 + j) ≤ 10 ∧ 1 ≤ t (10 + j) ∧ t (10 + j) ≤ 9 ∧ t (18 + j) < 256 := w2
    have w3 : ∀ j, j < 6 → t (26 + j) < 256 ∧ t (32 + j) ≤ 20 ∧ t (38 + j) < 256 := w3
    have w4 : ∀ j, j < t 0 → pop (t (26 + j)) = 3 := w4
    have w5 : ∀ i j, i < 8 → j < 8 → bt8 (t (18 + i)) j = bt8 (t (18 + j)) i ∧ bt8 (t (18 + i)) i = 0 := w5
    refine ⟨fun _ => ?_, fun w => absurd w (by decide), fun w => absurd w (by decide)⟩
    have hk6 : k = 0 ∨ k = 1 ∨ k = 2 ∨ k = 3 ∨ k = 4 ∨ k = 5 := by omega
    rcases hk6 with rfl | rfl | rfl | rfl | rfl | rfl
    · rw [stp0]
      have c0 : v 0 ≤ 7 := (cb_i.mp (hv 0 (by decide))).1
      have c1 : v 1 ≤ 7 := (cb_i.mp (hv 1 (by decide))).1
      have c2 : v 2 ≤ 7 := (cb_i.mp (hv 2 (by decide))).1
      have hc : t 0 < 6 := Decidable.byContradiction fun z => hfu (fu_i.mpr (by omega))
      have d1 : v 0 ≠ v 1 := (cb_i.mp (hv 1 (by decide))).2.2 (Or.inl rfl) 0 (by decide)
      have d2 : v 0 ≠ v 2 := (cb_i.mp (hv 2 (by decide))).2.2 (Or.inl rfl) 0 (by decide)
      have d3 : v 1 ≠ v 2 := (cb_i.mp (hv 2 (by decide))).2.2 (Or.inl rfl) 1 (by decide)
      refine ⟨WfD_mk ?_ ?_ ?_ ?_ ?_ ?_ ?_ ?_ ?_ ?_, ?_⟩
      · exact by unfold up; rw [if_pos rfl]; omega
      · exact by unfold up; (repeat (first | rw [if_neg (by first | omega | (intro z; have := z.2; omega))] | rw [if_pos (by first | omega | trivial | (refine ⟨trivial, ?_⟩; first | trivial | omega))])); exact w1
      · exact fun j hj => by unfold up; (repeat (first | rw [if_neg (by first | omega | (intro z; have := z.2; omega))] | rw [if_pos (by first | omega | trivial | (refine ⟨trivial, ?_⟩; first | trivial | omega))])); exact (w2 j hj).1
      · exact fun j hj => by unfold up; (repeat (first | rw [if_neg (by first | omega | (intro z; have := z.2; omega))] | rw [if_pos (by first | omega | trivial | (refine ⟨trivial, ?_⟩; first | trivial | omega))])); exact ⟨(w2 j hj).2.1, (w2 j hj).2.2.1⟩
      · exact fun j hj => by unfold up; (repeat (first | rw [if_neg (by first | omega | (intro z; have := z.2; omega))] | rw [if_pos (by first | omega | trivial | (refine ⟨trivial, ?_⟩; first | trivial | omega))])); exact (w2 j hj).2.2.2
      · exact fun j hj => by
          by_cases z : j = t 0
          · rw [z]; unfold up; (repeat (first | rw [if_neg (by first | omega | (intro z; have := z.2; omega))] | rw [if_pos (by first | omega | trivial | (refine ⟨trivial, ?_⟩; first | trivial | omega))])); exact or_lt256 (or_lt256 (p256 (by omega)) (p256 (by omega))) (p256 (by omega))
          · unfold up; (repeat (first | rw [if_neg (by first | omega | (intro z; have := z.2; omega))] | rw [if_pos (by first | omega | trivial | (refine ⟨trivial, ?_⟩; first | trivial | omega))])); exact (w3 j hj).1
      · exact fun j hj => by unfold up; (repeat (first | rw [if_neg (by first | omega | (intro z; have := z.2; omega))] | rw [if_pos (by first | omega | trivial | (refine ⟨trivial, ?_⟩; first | trivial | omega))])); exact (w3 j hj).2.1
      · exact fun j hj => by unfold up; (repeat (first | rw [if_neg (by first | omega | (intro z; have := z.2; omega))] | rw [if_pos (by first | omega | trivial | (refine ⟨trivial, ?_⟩; first | trivial | omega))])); exact (w3 j hj).2.2
      · exact fun j hj => by
          have hj : j < t 0 + 1 := hj
          by_cases z : j = t 0
          · rw [z]; unfold up; (repeat (first | rw [if_neg (by first | omega | (intro z; have := z.2; omega))] | rw [if_pos (by first | omega | trivial | (refine ⟨trivial, ?_⟩; first | trivial | omega))])); exact pop3 _ (by omega) _ (by omega) _ (by omega) d1 d2 d3
          · unfold up; (repeat (first | rw [if_neg (by first | omega | (intro z; have := z.2; omega))] | rw [if_pos (by first | omega | trivial | (refine ⟨trivial, ?_⟩; first | trivial | omega))])); exact w4 j (by omega)
      · exact fun i j hi hj => by unfold up; (repeat (first | rw [if_neg (by first | omega | (intro z; have := z.2; omega))] | rw [if_pos (by first | omega | trivial | (refine ⟨trivial, ?_⟩; first | trivial | omega))])); exact w5 i j hi hj
      · exact by unfold up; (repeat (first | rw [if_neg (by first | omega | (intro z; have := z.2; omega))] | rw [if_pos (by first | omega | trivial | (refine ⟨trivial, ?_⟩; first | trivial | omega))])); exact w44
    · rw [stp1]
      have c0 : v 0 ≤ 7 := (cb_i.mp (hv 0 (by decide))).1
      have c1 : v 1 ≤ 10 := (cb_i.mp (hv 1 (by decide))).1
      refine ⟨WfD_mk ?_ ?_ ?_ ?_ ?_ ?_ ?_ ?_ ?_ ?_, ?_⟩
      · exact by unfold up; (repeat (first | rw [if_neg (by first | omega | (intro z; have := z.2; omega))] | rw [if_pos (by first | omega | trivial | (refine ⟨trivial, ?_⟩; first | trivial | omega))])); exact w0
      · exact by unfold up; (repeat (first | rw [if_neg (by first | omega | (intro z; have := z.2; omega))] | rw [if_pos (by first | omega | trivial | (refine ⟨trivial, ?_⟩; first | trivial | omega))])); exact w1
      · exact fun j hj => by
          by_cases z : j = v 0
          · rw [z]; unfold up; (repeat (first | rw [if_neg (by first | omega | (intro z; have := z.2; omega))] | rw [if_pos (by first | omega | trivial | (refine ⟨trivial, ?_⟩; first | trivial | omega))])); exact c1
          · unfold up; (repeat (first | rw [if_neg (by first | omega | (intro z; have := z.2; omega))] | rw [if_pos (by first | omega | trivial | (refine ⟨trivial, ?_⟩; first | trivial | omega))])); exact (w2 j hj).1
      · exact fun j hj => by unfold up; (repeat (first | rw [if_neg (by first | omega | (intro z; have := z.2; omega))] | rw [if_pos (by first | omega | trivial | (refine ⟨trivial, ?_⟩; first | trivial | omega))])); exact ⟨(w2 j hj).2.1, (w2 j hj).2.2.1⟩
      · exact fun j hj => by unfold up; (repeat (first | rw [if_neg (by first | omega | (intro z; have := z.2; omega))] | rw [if_pos (by first | omega | trivial | (refine ⟨trivial, ?_⟩; first | trivial | omega))])); exact (w2 j hj).2.2.2
      · exact fun j hj => by unfold up; (repeat (first | rw [if_neg (by first | omega | (intro z; have := z.2; omega))] | rw [if_pos (by first | omega | trivial | (refine ⟨trivial, ?_⟩; first | trivial | omega))])); exact (w3 j hj).1
      · exact fun j hj => by unfold up; (repeat (first | rw [if_neg (by first | omega | (intro z; have := z.2; omega))] | rw [if_pos (by first | omega | trivial | (refine ⟨trivial, ?_⟩; first | trivial | omega))])); exact (w3 j hj).2.1
      · exact fun j hj => by unfold up; (repeat (first | rw [if_neg (by first | omega | (intro z; have := z.2; omega))] | rw [if_pos (by first | omega | trivial | (refine ⟨trivial, ?_⟩; first | trivial | omega))])); exact (w3 j hj).2.2
      · exact fun j hj => by
          have e0 : (up t (2 + v 0) (v 1)) 0 = t 0 := by unfold up; (repeat (first | rw [if_neg (by first | omega | (intro z; have := z.2; omega))] | rw [if_pos (by first | omega | trivial | (refine ⟨trivial, ?_⟩; first | trivial | omega))]))
          rw [e0] at hj
          unfold up; (repeat (first | rw [if_neg (by first | omega | (intro z; have := z.2; omega))] | rw [if_pos (by first | omega | trivial | (refine ⟨trivial, ?_⟩; first | trivial | omega))])); exact w4 j hj
      · exact fun i j hi hj => by unfold up; (repeat (first | rw [if_neg (by first | omega | (intro z; have := z.2; omega))] | rw [if_pos (by first | omega | trivial | (refine ⟨trivial, ?_⟩; first | trivial | omega))])); exact w5 i j hi hj
      · exact by unfold up; (repeat (first | rw [if_neg (by first | omega | (intro z; have := z.2; omega))] | rw [if_pos (by first | omega | trivial | (refine ⟨trivial, ?_⟩; first | trivial | omega))])); exact w44
    · rw [stp2]
      have c0 : v 0 ≤ 7 := (cb_i.mp (hv 0 (by decide))).1
      have c1 : v 1 ≤ 7 := (cb_i.mp (hv 1 (by decide))).1
      have d1 : v 0 ≠ v 1 := (cb_i.mp (hv 1 (by decide))).2.2 (Or.inr rfl) 0 (by decide)
      refine ⟨WfD_mk ?_ ?_ ?_ ?_ ?_ ?_ ?_ ?_ ?_ ?_, ?_⟩
      · exact by unfold up; (repeat (first | rw [if_neg (by first | omega | (intro z; have := z.2; omega))] | rw [if_pos (by first | omega | trivial | (refine ⟨trivial, ?_⟩; first | trivial | omega))])); exact w0
      · exact by unfold up; (repeat (first | rw [if_neg (by first | omega | (intro z; have := z.2; omega))] | rw [if_pos (by first | omega | trivial | (refine ⟨trivial, ?_⟩; first | trivial | omega))])); exact w1
      · exact fun j hj => by unfold up; (repeat (first | rw [if_neg (by first | omega | (intro z; have := z.2; omega))] | rw [if_pos (by first | omega | trivial | (refine ⟨trivial, ?_⟩; first | trivial | omega))])); exact (w2 j hj).1
      · exact fun j hj => by unfold up; (repeat (first | rw [if_neg (by first | omega | (intro z; have := z.2; omega))] | rw [if_pos (by first | omega | trivial | (refine ⟨trivial, ?_⟩; first | trivial | omega))])); exact ⟨(w2 j hj).2.1, (w2 j hj).2.2.1⟩
      · exact fun j hj => by
          by_cases z : j = v 1
          · rw [z]; unfold up; (repeat (first | rw [if_neg (by first | omega | (intro z; have := z.2; omega))] | rw [if_pos (by first | omega | trivial | (refine ⟨trivial, ?_⟩; first | trivial | omega))])); exact or_lt256 (w2 _ (by omega)).2.2.2 (p256 (by omega))
          · by_cases z2 : j = v 0
            · rw [z2]; unfold up; (repeat (first | rw [if_neg (by first | omega | (intro z; have := z.2; omega))] | rw [if_pos (by first | omega | trivial | (refine ⟨trivial, ?_⟩; first | trivial | omega))])); exact or_lt256 (w2 _ (by omega)).2.2.2 (p256 (by omega))
            · unfold up; (repeat (first | rw [if_neg (by first | omega | (intro z; have := z.2; omega))] | rw [if_pos (by first | omega | trivial | (refine ⟨trivial, ?_⟩; first | trivial | omega))])); exact (w2 j hj).2.2.2
      · exact fun j hj => by unfold up; (repeat (first | rw [if_neg (by first | omega | (intro z; have := z.2; omega))] | rw [if_pos (by first | omega | trivial | (refine ⟨trivial, ?_⟩; first | trivial | omega))])); exact (w3 j hj).1
      · exact fun j hj => by unfold up; (repeat (first | rw [if_neg (by first | omega | (intro z; have := z.2; omega))] | rw [if_pos (by first | omega | trivial | (refine ⟨trivial, ?_⟩; first | trivial | omega))])); exact (w3 j hj).2.1
      · exact fun j hj => by unfold up; (repeat (first | rw [if_neg (by first | omega | (intro z; have := z.2; omega))] | rw [if_pos (by first | omega | trivial | (refine ⟨trivial, ?_⟩; first | trivial | omega))])); exact (w3 j hj).2.2
      · exact fun j hj => by
          have e0 : (up (up t (18 + v 0) (t (18 + v 0) ||| 2 ^ v 1)) (18 + v 1) (t (18 + v 1) ||| 2 ^ v 0)) 0 = t 0 := by unfold up; (repeat (first | rw [if_neg (by first | omega | (intro z; have := z.2; omega))] | rw [if_pos (by first | omega | trivial | (refine ⟨trivial, ?_⟩; first | trivial | omega))]))
          rw [e0] at hj
          unfold up; (repeat (first | rw [if_neg (by first | omega | (intro z; have := z.2; omega))] | rw [if_pos (by first | omega | trivial | (refine ⟨trivial, ?_⟩; first | trivial | omega))])); exact w4 j hj
      · exact fun i j hi hj => by
          have key : ∀ i j, i < 8 → j < 8 → bt8 ((up (up t (18 + v 0) (t (18 + v 0) ||| 2 ^ v 1)) (18 + v 1) (t (18 + v 1) ||| 2 ^ v 0)) (18 + i)) j = if (i = v 0 ∧ j = v 1) ∨ (i = v 1 ∧ j = v 0) then 1 else bt8 (t (18 + i)) j := by
            intro i j hi hj
            by_cases z : i = v 1
            · rw [z, up_at, bt8_orv]
              by_cases y : j = v 0
              · rw [if_pos y, if_pos (Or.inr ⟨rfl, y⟩)]
              · rw [if_neg y, if_neg (by omega)]
            · rw [up_ne (by omega)]
              by_cases z2 : i = v 0
              · rw [z2, up_at, bt8_orv]
                by_cases y : j = v 1
                · rw [if_pos y, if_pos (Or.inl ⟨rfl, y⟩)]
                · rw [if_neg y, if_neg (by omega)]
              · rw [up_ne (by omega), if_neg (by omega)]
          rw [key i j hi hj, key j i hj hi, key i i hi hi]
          obtain ⟨q1, q2⟩ := w5 i j hi hj
          refine ⟨?_, by rw [if_neg (by omega)]; exact q2⟩
          by_cases y : (i = v 0 ∧ j = v 1) ∨ (i = v 1 ∧ j = v 0)
          · rw [if_pos y, if_pos (by omega)]
          · rw [if_neg y, if_neg (by omega)]; exact q1
      · exact by unfold up; (repeat (first | rw [if_neg (by first | omega | (intro z; have := z.2; omega))] | rw [if_pos (by first | omega | trivial | (refine ⟨trivial, ?_⟩; first | trivial | omega))])); exact w44
    · rw [stp3]
      have c0 : v 0 ≤ 5 := (cb_i.mp (hv 0 (by decide))).1
      have c1 : v 1 ≤ 7 := (cb_i.mp (hv 1 (by decide))).1
      refine ⟨WfD_mk ?_ ?_ ?_ ?_ ?_ ?_ ?_ ?_ ?_ ?_, ?_⟩
      · exact by unfold up; (repeat (first | rw [if_neg (by first | omega | (intro z; have := z.2; omega))] | rw [if_pos (by first | omega | trivial | (refine ⟨trivial, ?_⟩; first | trivial | omega))])); exact w0
      · exact by unfold up; (repeat (first | rw [if_neg (by first | omega | (intro z; have := z.2; omega))] | rw [if_pos (by first | omega | trivial | (refine ⟨trivial, ?_⟩; first | trivial | omega))])); exact w1
      · exact fun j hj => by unfold up; (repeat (first | rw [if_neg (by first | omega | (intro z; have := z.2; omega))] | rw [if_pos (by first | omega | trivial | (refine ⟨trivial, ?_⟩; first | trivial | omega))])); exact (w2 j hj).1
      · exact fun j hj => by unfold up; (repeat (first | rw [if_neg (by first | omega | (intro z; have := z.2; omega))] | rw [if_pos (by first | omega | trivial | (refine ⟨trivial, ?_⟩; first | trivial | omega))])); exact ⟨(w2 j hj).2.1, (w2 j hj).2.2.1⟩
      · exact fun j hj => by unfold up; (repeat (first | rw [if_neg (by first | omega | (intro z; have := z.2; omega))] | rw [if_pos (by first | omega | trivial | (refine ⟨trivial, ?_⟩; first | trivial | omega))])); exact (w2 j hj).2.2.2
      · exact fun j hj => by unfold up; (repeat (first | rw [if_neg (by first | omega | (intro z; have := z.2; omega))] | rw [if_pos (by first | omega | trivial | (refine ⟨trivial, ?_⟩; first | trivial | omega))])); exact (w3 j hj).1
      · exact fun j hj => by unfold up; (repeat (first | rw [if_neg (by first | omega | (intro z; have := z.2; omega))] | rw [if_pos (by first | omega | trivial | (refine ⟨trivial, ?_⟩; first | trivial | omega))])); exact (w3 j hj).2.1
      · exact fun j hj => by
          by_cases z : j = v 0
          · rw [z]; unfold up; (repeat (first | rw [if_neg (by first | omega | (intro z; have := z.2; omega))] | rw [if_pos (by first | omega | trivial | (refine ⟨trivial, ?_⟩; first | trivial | omega))])); exact or_lt256 (w3 _ (by omega)).2.2 (p256 (by omega))
          · unfold up; (repeat (first | rw [if_neg (by first | omega | (intro z; have := z.2; omega))] | rw [if_pos (by first | omega | trivial | (refine ⟨trivial, ?_⟩; first | trivial | omega))])); exact (w3 j hj).2.2
      · exact fun j hj => by
          have e0 : (up (up t (38 + v 0) (t (38 + v 0) ||| 2 ^ v 1)) 44 (t 44 ||| 2 ^ v 0)) 0 = t 0 := by unfold up; (repeat (first | rw [if_neg (by first | omega | (intro z; have := z.2; omega))] | rw [if_pos (by first | omega | trivial | (refine ⟨trivial, ?_⟩; first | trivial | omega))]))
          rw [e0] at hj
          unfold up; (repeat (first | rw [if_neg (by first | omega | (intro z; have := z.2; omega))] | rw [if_pos (by first | omega | trivial | (refine ⟨trivial, ?_⟩; first | trivial | omega))])); exact w4 j hj
      · exact fun i j hi hj => by unfold up; (repeat (first | rw [if_neg (by first | omega | (intro z; have := z.2; omega))] | rw [if_pos (by first | omega | trivial | (refine ⟨trivial, ?_⟩; first | trivial | omega))])); exact w5 i j hi hj
      · exact by rw [up_at]; exact Nat.or_lt_two_pow (n := 6) w44 (p64 (by omega))
    · rw [stp4]
      have c0 : v 0 ≤ 7 := (cb_i.mp (hv 0 (by decide))).1
      have c1 : v 1 ≤ 9 := (cb_i.mp (hv 1 (by decide))).1
      have d1 : 1 ≤ v 1 := (cb_i.mp (hv 1 (by decide))).2.1 ⟨rfl, rfl⟩
      refine ⟨WfD_mk ?_ ?_ ?_ ?_ ?_ ?_ ?_ ?_ ?_ ?_, ?_⟩
      · exact by unfold up; (repeat (first | rw [if_neg (by first | omega | (intro z; have := z.2; omega))] | rw [if_pos (by first | omega | trivial | (refine ⟨trivial, ?_⟩; first | trivial | omega))])); exact w0
      · exact by unfold up; (repeat (first | rw [if_neg (by first | omega | (intro z; have := z.2; omega))] | rw [if_pos (by first | omega | trivial | (refine ⟨trivial, ?_⟩; first | trivial | omega))])); exact w1
      · exact fun j hj => by unfold up; (repeat (first | rw [if_neg (by first | omega | (intro z; have := z.2; omega))] | rw [if_pos (by first | omega | trivial | (refine ⟨trivial, ?_⟩; first | trivial | omega))])); exact (w2 j hj).1
      · exact fun j hj => by
          by_cases z : j = v 0
          · rw [z]; unfold up; (repeat (first | rw [if_neg (by first | omega | (intro z; have := z.2; omega))] | rw [if_pos (by first | omega | trivial | (refine ⟨trivial, ?_⟩; first | trivial | omega))])); exact ⟨d1, c1⟩
          · unfold up; (repeat (first | rw [if_neg (by first | omega | (intro z; have := z.2; omega))] | rw [if_pos (by first | omega | trivial | (refine ⟨trivial, ?_⟩; first | trivial | omega))])); exact ⟨(w2 j hj).2.1, (w2 j hj).2.2.1⟩
      · exact fun j hj => by unfold up; (repeat (first | rw [if_neg (by first | omega | (intro z; have := z.2; omega))] | rw [if_pos (by first | omega | trivial | (refine ⟨trivial, ?_⟩; first | trivial | omega))])); exact (w2 j hj).2.2.2
      · exact fun j hj => by unfold up; (repeat (first | rw [if_neg (by first | omega | (intro z; have := z.2; omega))] | rw [if_pos (by first | omega | trivial | (refine ⟨trivial, ?_⟩; first | trivial | omega))])); exact (w3 j hj).1
      · exact fun j hj => by unfold up; (repeat (first | rw [if_neg (by first | omega | (intro z; have := z.2; omega))] | rw [if_pos (by first | omega | trivial | (refine ⟨trivial, ?_⟩; first | trivial | omega))])); exact (w3 j hj).2.1
      · exact fun j hj => by unfold up; (repeat (first | rw [if_neg (by first | omega | (intro z; have := z.2; omega))] | rw [if_pos (by first | omega | trivial | (refine ⟨trivial, ?_⟩; first | trivial | omega))])); exact (w3 j hj).2.2
      · exact fun j hj => by
          have e0 : (up t (10 + v 0) (v 1)) 0 = t 0 := by unfold up; (repeat (first | rw [if_neg (by first | omega | (intro z; have := z.2; omega))] | rw [if_pos (by first | omega | trivial | (refine ⟨trivial, ?_⟩; first | trivial | omega))]))
          rw [e0] at hj
          unfold up; (repeat (first | rw [if_neg (by first | omega | (intro z; have := z.2; omega))] | rw [if_pos (by first | omega | trivial | (refine ⟨trivial, ?_⟩; first | trivial | omega))])); exact w4 j hj
      · exact fun i j hi hj => by unfold up; (repeat (first | rw [if_neg (by first | omega | (intro z; have := z.2; omega))] | rw [if_pos (by first | omega | trivial | (refine ⟨trivial, ?_⟩; first | trivial | omega))])); exact w5 i j hi hj
      · exact by unfold up; (repeat (first | rw [if_neg (by first | omega | (intro z; have := z.2; omega))] | rw [if_pos (by first | omega | trivial | (refine ⟨trivial, ?_⟩; first | trivial | omega))])); exact w44
    · rw [stp5]
      have c0 : v 0 ≤ 20 := (cb_i.mp (hv 0 (by decide))).1
      have hc : t 1 < 6 := Decidable.byContradiction fun z => hfu (fu_i.mpr (by omega))
      refine ⟨WfD_mk ?_ ?_ ?_ ?_ ?_ ?_ ?_ ?_ ?_ ?_, ?_⟩
      · exact by unfold up; (repeat (first | rw [if_neg (by first | omega | (intro z; have := z.2; omega))] | rw [if_pos (by first | omega | trivial | (refine ⟨trivial, ?_⟩; first | trivial | omega))])); exact w0
      · exact by unfold up; rw [if_pos rfl]; omega
      · exact fun j hj => by unfold up; (repeat (first | rw [if_neg (by first | omega | (intro z; have := z.2; omega))] | rw [if_pos (by first | omega | trivial | (refine ⟨trivial, ?_⟩; first | trivial | omega))])); exact (w2 j hj).1
      · exact fun j hj => by unfold up; (repeat (first | rw [if_neg (by first | omega | (intro z; have := z.2; omega))] | rw [if_pos (by first | omega | trivial | (refine ⟨trivial, ?_⟩; first | trivial | omega))])); exact ⟨(w2 j hj).2.1, (w2 j hj).2.2.1⟩
      · exact fun j hj => by unfold up; (repeat (first | rw [if_neg (by first | omega | (intro z; have := z.2; omega))] | rw [if_pos (by first | omega | trivial | (refine ⟨trivial, ?_⟩; first | trivial | omega))])); exact (w2 j hj).2.2.2
      · exact fun j hj => by unfold up; (repeat (first | rw [if_neg (by first | omega | (intro z; have := z.2; omega))] | rw [if_pos (by first | omega | trivial | (refine ⟨trivial, ?_⟩; first | trivial | omega))])); exact (w3 j hj).1
      · exact fun j hj => by
          by_cases z : j = t 1
          · rw [z]; unfold up; (repeat (first | rw [if_neg (by first | omega | (intro z; have := z.2; omega))] | rw [if_pos (by first | omega | trivial | (refine ⟨trivial, ?_⟩; first | trivial | omega))])); exact c0
          · unfold up; (repeat (first | rw [if_neg (by first | omega | (intro z; have := z.2; omega))] | rw [if_pos (by first | omega | trivial | (refine ⟨trivial, ?_⟩; first | trivial | omega))])); exact (w3 j hj).2.1
      · exact fun j hj => by unfold up; (repeat (first | rw [if_neg (by first | omega | (intro z; have := z.2; omega))] | rw [if_pos (by first | omega | trivial | (refine ⟨trivial, ?_⟩; first | trivial | omega))])); exact (w3 j hj).2.2
      · exact fun j hj => by
          have e0 : (up (up t (32 + t 1) (v 0)) 1 (t 1 + 1)) 0 = t 0 := by unfold up; (repeat (first | rw [if_neg (by first | omega | (intro z; have := z.2; omega))] | rw [if_pos (by first | omega | trivial | (refine ⟨trivial, ?_⟩; first | trivial | omega))]))
          rw [e0] at hj
          unfold up; (repeat (first | rw [if_neg (by first | omega | (intro z; have := z.2; omega))] | rw [if_pos (by first | omega | trivial | (refine ⟨trivial, ?_⟩; first | trivial | omega))])); exact w4 j hj
      · exact fun i j hi hj => by unfold up; (repeat (first | rw [if_neg (by first | omega | (intro z; have := z.2; omega))] | rw [if_pos (by first | omega | trivial | (refine ⟨trivial, ?_⟩; first | trivial | omega))])); exact w5 i j hi hj
      · exact by unfold up; (repeat (first | rw [if_neg (by first | omega | (intro z; have := z.2; omega))] | rw [if_pos (by first | omega | trivial | (refine ⟨trivial, ?_⟩; first | trivial | omega))])); exact w44
  · by_cases k11 : k < 11
    · have es : srt k = 1 := by unfold srt; rw [if_neg k6, if_pos k11]
      rw [es] at hW ⊢
      obtain ⟨w0, w1⟩ := hW.2.1 rfl
      have hn4 : t 0 < 40 := Decidable.byContradiction fun w => hfu (fu_i.mpr (by omega))
      rw [stpY v t (by omega) k11]
      refine ⟨fun w => absurd w (by decide), fun _ => ⟨by unfold up; rw [if_pos rfl]; omega, fun j hj => ?_⟩, fun w => absurd w (by decide)⟩
      have hj : j < t 0 + 1 := hj
      by_cases z : j = t 0
      · have e1 : (up (up (up (up t (1 + 3 * t 0) (k - 6)) (1 + 3 * t 0 + 1) (v 0)) (1 + 3 * t 0 + 2) (v 1)) 0 (t 0 + 1)) (1 + 3 * t 0) = k - 6 := by unfold up; (repeat (first | rw [if_neg (by first | omega | (intro z; have := z.2; omega))] | rw [if_pos (by first | omega | trivial | (refine ⟨trivial, ?_⟩; first | trivial | omega))]))
        have e2 : (up (up (up (up t (1 + 3 * t 0) (k - 6)) (1 + 3 * t 0 + 1) (v 0)) (1 + 3 * t 0 + 2) (v 1)) 0 (t 0 + 1)) (1 + 3 * t 0 + 1) = v 0 := by unfold up; (repeat (first | rw [if_neg (by first | omega | (intro z; have := z.2; omega))] | rw [if_pos (by first | omega | trivial | (refine ⟨trivial, ?_⟩; first | trivial | omega))]))
        have e3 : (up (up (up (up t (1 + 3 * t 0) (k - 6)) (1 + 3 * t 0 + 1) (v 0)) (1 + 3 * t 0 + 2) (v 1)) 0 (t 0 + 1)) (1 + 3 * t 0 + 2) = v 1 := by unfold up; (repeat (first | rw [if_neg (by first | omega | (intro z; have := z.2; omega))] | rw [if_pos (by first | omega | trivial | (refine ⟨trivial, ?_⟩; first | trivial | omega))]))
        rw [z, e1, e2, e3]
        have hk5 : k = 6 ∨ k = 7 ∨ k = 8 ∨ k = 9 ∨ k = 10 := by omega
        rcases hk5 with rfl | rfl | rfl | rfl | rfl
        · have c0 : v 0 ≤ 5 := (cb_i.mp (hv 0 (by decide))).1
          have c1 : v 1 ≤ 7 := (cb_i.mp (hv 1 (by decide))).1
          omega
        · have c0 : v 0 ≤ 5 := (cb_i.mp (hv 0 (by decide))).1
          have c1 : v 1 ≤ 7 := (cb_i.mp (hv 1 (by decide))).1
          omega
        · have c0 : v 0 ≤ 7 := (cb_i.mp (hv 0 (by decide))).1
          omega
        · have c0 : v 0 ≤ 5 := (cb_i.mp (hv 0 (by decide))).1
          omega
        · omega
      · have e1 : (up (up (up (up t (1 + 3 * t 0) (k - 6)) (1 + 3 * t 0 + 1) (v 0)) (1 + 3 * t 0 + 2) (v 1)) 0 (t 0 + 1)) (1 + 3 * j) = t (1 + 3 * j) := by unfold up; (repeat (first | rw [if_neg (by first | omega | (intro z; have := z.2; omega))] | rw [if_pos (by first | omega | trivial | (refine ⟨trivial, ?_⟩; first | trivial | omega))]))
        have e2 : (up (up (up (up t (1 + 3 * t 0) (k - 6)) (1 + 3 * t 0 + 1) (v 0)) (1 + 3 * t 0 + 2) (v 1)) 0 (t 0 + 1)) (1 + 3 * j + 1) = t (1 + 3 * j + 1) := by unfold up; (repeat (first | rw [if_neg (by first | omega | (intro z; have := z.2; omega))] | rw [if_pos (by first | omega | trivial | (refine ⟨trivial, ?_⟩; first | trivial | omega))]))
        have e3 : (up (up (up (up t (1 + 3 * t 0) (k - 6)) (1 + 3 * t 0 + 1) (v 0)) (1 + 3 * t 0 + 2) (v 1)) 0 (t 0 + 1)) (1 + 3 * j + 2) = t (1 + 3 * j + 2) := by unfold up; (repeat (first | rw [if_neg (by first | omega | (intro z; have := z.2; omega))] | rw [if_pos (by first | omega | trivial | (refine ⟨trivial, ?_⟩; first | trivial | omega))]))
        rw [e1, e2, e3]
        exact w1 j (by omega)
    · have es : srt k = 2 := by unfold srt; rw [if_neg k6, if_neg k11]
      rw [es] at hW ⊢
      obtain ⟨w0, w1⟩ := hW.2.2 rfl
      have hn4 : t 0 < 8 := Decidable.byContradiction fun w => hfu (fu_i.mpr (by omega))
      have c0 : v 0 ≤ 7 := by
        have w : k = 11 ∨ k = 12 := by omega
        rcases w with rfl | rfl
        · exact (cb_i.mp (hv 0 (by decide))).1
        · exact (cb_i.mp (hv 0 (by decide))).1
      rw [stpL v t (by omega)]
      refine ⟨fun w => absurd w (by decide), fun w => absurd w (by decide), fun _ => ⟨by unfold up; rw [if_pos rfl]; omega, fun j hj => ?_⟩⟩
      have hj : j < t 0 + 1 := hj
      by_cases z : j = t 0
      · have e1 : (up (up (up t (1 + 2 * t 0) (k - 11)) (1 + 2 * t 0 + 1) (v 0)) 0 (t 0 + 1)) (1 + 2 * t 0) = k - 11 := by unfold up; (repeat (first | rw [if_neg (by first | omega | (intro z; have := z.2; omega))] | rw [if_pos (by first | omega | trivial | (refine ⟨trivial, ?_⟩; first | trivial | omega))]))
        have e2 : (up (up (up t (1 + 2 * t 0) (k - 11)) (1 + 2 * t 0 + 1) (v 0)) 0 (t 0 + 1)) (1 + 2 * t 0 + 1) = v 0 := by unfold up; (repeat (first | rw [if_neg (by first | omega | (intro z; have := z.2; omega))] | rw [if_pos (by first | omega | trivial | (refine ⟨trivial, ?_⟩; first | trivial | omega))]))
        rw [z, e1, e2]
        omega
      · have e1 : (up (up (up t (1 + 2 * t 0) (k - 11)) (1 + 2 * t 0 + 1) (v 0)) 0 (t 0 + 1)) (1 + 2 * j) = t (1 + 2 * j) := by unfold up; (repeat (first | rw [if_neg (by first | omega | (intro z; have := z.2; omega))] | rw [if_pos (by first | omega | trivial | (refine ⟨trivial, ?_⟩; first | trivial | omega))]))
        have e2 : (up (up (up t (1 + 2 * t 0) (k - 11)) (1 + 2 * t 0 + 1) (v 0)) 0 (t 0 + 1)) (1 + 2 * j + 1) = t (1 + 2 * j + 1) := by unfold up; (repeat (first | rw [if_neg (by first | omega | (intro z; have := z.2; omega))] | rw [if_pos (by first | omega | trivial | (refine ⟨trivial, ?_⟩; first | trivial | omega))]))
        rw [e1, e2]
        exact w1 j (by omega)
