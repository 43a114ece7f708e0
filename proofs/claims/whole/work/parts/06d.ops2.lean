/-! ACTS, second part: one block changes; end, move, compare, jumps, forget, budget -/
theorem Rs_blk {nb ni bu : Nat} {sz : Nat → Nat} {kd va of zs lv fz ce f zs' lv' fz' ce' f' : Nat → Int32} (H : Rs nb ni bu sz kd va of zs lv fz ce f) {p : Nat} (hp : p < nb)
    (e1 : ∀ q, q ≠ p → zs' q = zs q ∧ lv' q = lv q ∧ fz' q = fz q) (e2 : ∀ q j, q ≠ p → j < 12 → ce' (q * 12 + j) = ce (q * 12 + j)) (e3 : ∀ i, i < 1 + 15 * p ∨ 16 + 15 * p ≤ i → f' i = f i)
    (hb : Rb nb sz (sz p) (zs' p) (lv' p) (fz' p) (fun j => ce' (p * 12 + j)) (fun j => f' (1 + 15 * p + j))) : Rs nb ni bu sz kd va of zs' lv' fz' ce' f' := by
  obtain ⟨h1, h2, h3, h4, h5, h6, h7, h8, h9⟩ := H
  refine ⟨h1, h2, h3, h4, by rw [e3 0 (by omega)]; exact h5, by rw [e3 170 (by omega)]; exact h6, by rw [e3 169 (by omega)]; exact h7, fun r hr => ?_, fun q hq => ?_⟩
  · rw [e3 _ (by omega), e3 _ (by omega), e3 _ (by omega)]
    exact h8 r hr
  · by_cases e : q = p
    · subst e; exact hb
    · obtain ⟨a, b, c⟩ := e1 q e
      exact Rb_congr (h9 q hq) a b c (fun j hj => e2 q j e hj) (fun j hj => e3 _ (by omega))
/-- one block of the class's state and of the row changes -/
theorem Rc1_blk {σ τ σ' τ' : gS} {nb ni bu : Nat} {sz : Nat → Nat} (H : Rc1 σ (gM τ 1) nb ni bu sz) (hq : FQ σ σ') {p : Nat} (hp : p < nb)
    (g7 : gI σ' 1 7 = gI σ 1 7) (g8 : gI σ' 1 8 = gI σ 1 8) (g9 : gI σ' 1 9 = gI σ 1 9) (k2 : gM σ' 2 = gM σ 2) (k3 : gM σ' 3 = gM σ 3) (k4 : gM σ' 4 = gM σ 4)
    (e1 : ∀ q, q ≠ p → gM σ' 5 q = gM σ 5 q ∧ gM σ' 6 q = gM σ 6 q ∧ gM σ' 7 q = gM σ 7 q) (e2 : ∀ q j, q ≠ p → j < 12 → gM σ' 8 (q * 12 + j) = gM σ 8 (q * 12 + j)) (e3 : ∀ i, i < 1 + 15 * p ∨ 16 + 15 * p ≤ i → gM τ' 1 i = gM τ 1 i)
    (hb : Rb nb sz (sz p) (gM σ' 5 p) (gM σ' 6 p) (gM σ' 7 p) (fun j => gM σ' 8 (p * 12 + j)) (fun j => gM τ' 1 (1 + 15 * p + j))) : Rc1 σ' (gM τ' 1) nb ni bu sz := by
  obtain ⟨h1, h2, h3, h4, h5⟩ := H
  have hni : ni ≤ 8 := h4.2.1
  have hnb : nb ≤ 10 := h4.1
  refine ⟨g7.trans h1, g8.trans h2, g9.trans h3, ?_, Rims_fx h5 hni (hq.fx (by omega)) (fun i hi _ => e3 i (by omega))⟩
  show Rs nb ni bu sz (gM σ' 2) (gM σ' 3) (gM σ' 4) (gM σ' 5) (gM σ' 6) (gM σ' 7) (gM σ' 8) (gM τ' 1)
  rw [k2, k3, k4]
  exact Rs_blk h4 hp e1 e2 e3 hb
theorem const_c {σ τ : gS} {nb ni bu : Nat} {sz : Nat → Nat} (H : Rc1 σ (gM τ 1) nb ni bu sz) {p : Nat} (hp : p < nb) :
    (qS_isConstant σ (nI p) = some 0 ∧ qM_isFrozen τ (nI p) = some 0 ∧ gM σ 7 p = 0 ∧ gM τ 1 (1 + 15 * p + 2) = 0) ∨ (qS_isConstant σ (nI p) = some 1 ∧ qM_isFrozen τ (nI p) = some 1 ∧ gM σ 7 p = 1 ∧ gM τ 1 (1 + 15 * p + 2) = 1) := by
  have hnb := Rc_nb H
  obtain ⟨-, -, -, -, -, ⟨a, ha, a1, a2⟩, -⟩ := Rc_blk H hp
  have a2 : gM τ 1 (1 + 15 * p + 2) = nI a := a2
  rw [x_const (by omega), m_froz (by omega), a1, a2]
  rcases (show a = 0 ∨ a = 1 by omega) with rfl | rfl
  · exact Or.inl ⟨by rw [if_neg (show ¬ nI 0 = 1 from n01)], by rw [if_neg (show ¬ nI 0 = 1 from n01)], rfl, rfl⟩
  · exact Or.inr ⟨by rw [if_pos (show nI 1 = 1 from z11)], by rw [if_pos (show nI 1 = 1 from z11)], rfl, rfl⟩
theorem live_c {σ τ : gS} {nb ni bu : Nat} {sz : Nat → Nat} (H : Rc1 σ (gM τ 1) nb ni bu sz) {p : Nat} (hp : p < nb) :
    (qS_isLive σ (nI p) = some 0 ∧ qM_isLive τ (nI p) = some 0 ∧ gM σ 6 p = 0 ∧ gM τ 1 (1 + 15 * p + 1) = 0) ∨ (qS_isLive σ (nI p) = some 1 ∧ qM_isLive τ (nI p) = some 1 ∧ gM σ 6 p = 1 ∧ gM τ 1 (1 + 15 * p + 1) = 1) := by
  have hnb := Rc_nb H
  obtain ⟨-, -, -, -, ⟨a, ha, a1, a2⟩, -⟩ := Rc_blk H hp
  have a2 : gM τ 1 (1 + 15 * p + 1) = nI a := a2
  rw [x_live (by omega), m_live (by omega), a1, a2]
  rcases (show a = 0 ∨ a = 1 by omega) with rfl | rfl
  · exact Or.inl ⟨by rw [if_neg (show ¬ nI 0 = 1 from n01)], by rw [if_neg (show ¬ nI 0 = 1 from n01)], rfl, rfl⟩
  · exact Or.inr ⟨by rw [if_pos (show nI 1 = 1 from z11)], by rw [if_pos (show nI 1 = 1 from z11)], rfl, rfl⟩
theorem undef_n (k : Nat) : qM_undefinedAs (nI k) = -10 - nI k := rfl
theorem op_end {σ τ : gS} {nb ni bu : Nat} {sz : Nat → Nat} (H : Rc1 σ (gM τ 1) nb ni bu sz) (a : Int32) : Res σ τ ni (qO_endBlock σ a) (qM_ends τ a) := by
  unfold qO_endBlock qM_ends
  rcases q_reg a with ⟨e1, e2⟩ | ⟨r, hr, rfl, e1, e2⟩
  · rw [e1, e2, if_pos z00, if_pos z00]; exact Res.no H ok_bad
  · rw [e1, e2, if_neg n10, if_neg n10]
    rcases begin_c H hr with ⟨k, h1, h2, e1, e2⟩ | ⟨p, o, hp, ho, v1, v2, o2, l1, l2, e2, e1⟩
    · rw [e1, e2, b_s, b_s, if_neg (why_ne (by omega : k ≤ 9)), if_neg (kne h1 (by omega))]
      exact Res.no H (ok_why h1 (by omega))
    · have hnb := Rc_nb H
      rw [e1, e2, b_s, b_s, if_pos z00, m_place hr, b_s, o2]
      by_cases h0 : o = 0
      · subst h0
        rw [if_pos rfl, if_pos z00, if_pos nI_0, x_val hr, b_s, v1, m_val hr, b_s, v2]
        rcases const_c H hp with ⟨c1, c2, c3, c4⟩ | ⟨c1, c2, c3, c4⟩
        · rw [c1, c2, b_s, b_s, if_pos z00, if_pos z00, x_markE (by omega), b_s, b_s, m_pp, nI1, gob_n (by omega) (by omega), nI_clamp (by omega), m_val hr, b_s, gMs_s, upd_n (by omega), v2]
          refine ⟨_, _, _, nb, ni, bu, sz, rfl, rfl, Rc1_blk H (p := p) ?_ hp rfl rfl rfl (gMs_n (by decide)) (gMs_n (by decide)) (gMs_n (by decide)) ?_ ?_ ?_ ?_, Nat.le_refl _, ?_, ?_, ok_n (by omega), by rw [gMs_s, upd_n (by omega)]⟩
          · exact ⟨fun _ _ _ _ => rfl, fun k i h _ _ _ => by rw [gMs_n (by omega)]⟩
          · intro q hq
            refine ⟨by rw [gMs_n (by decide)], by rw [gMs_s, upd_n hq], by rw [gMs_n (by decide)]⟩
          · intro q j hq hj
            rw [gMs_n (by decide)]
          · intro i hi
            rw [gMs_s, upd_n (by omega)]
          · obtain ⟨q1, q2, q3, q4, q5, q6, q7, q8⟩ := Rc_blk H hp
            rw [gMs_n (show 5 ≠ 6 by decide), gMs_s, upd_s, gMs_n (show 7 ≠ 6 by decide), gMs_n (show 8 ≠ 6 by decide), gMs_s]
            have hh : ∀ j, j ≠ 1 → upd (gM τ 1) (1 + 15 * p + 1) 0 (1 + 15 * p + j) = gM τ 1 (1 + 15 * p + j) := fun j hj => upd_n (by omega)
            refine ⟨q1, q2, q3, (hh 0 (by decide)).trans q4, ⟨0, by decide, rfl, upd_s _ _ _⟩, ?_, ?_, ?_⟩
            · obtain ⟨a, a1, a2, a3⟩ := q6
              exact ⟨a, a1, a2, (hh 2 (by decide)).trans a3⟩
            · intro j hj
              have := q7 j hj
              show gM σ 8 (p * 12 + j) = if j < sz p then upd (gM τ 1) (1 + 15 * p + 1) 0 (1 + 15 * p + (3 + j)) else -1
              rw [hh (3 + j) (by omega)]
              exact this
            · have : (fun j => upd (gM τ 1) (1 + 15 * p + 1) 0 (1 + 15 * p + (3 + j))) = fun j => gM τ 1 (1 + 15 * p + (3 + j)) := by
                funext j; exact hh (3 + j) (by omega)
              show bOk nb sz (sz p) (fun j => upd (gM τ 1) (1 + 15 * p + 1) 0 (1 + 15 * p + (3 + j)))
              rw [this]; exact q8
          · exact (show FQ σ (sM σ 6 p 0) from ⟨fun _ _ _ _ => rfl, fun k i h _ _ _ => by rw [gMs_n (by omega)]⟩).fx (by have := Rc_ni H; omega)
          · exact ⟨fun _ _ => rfl, fun k i h _ _ _ => by rw [gMs_n h]⟩
        · rw [c1, c2, b_s, b_s, if_neg n10, if_neg n10, why4, show (4 : Int32) = nI 4 from rfl, undef_n]
          exact Res.no H (ok_why (by decide) (by decide))
      · rw [if_neg h0, if_neg (show ¬ (-19 : Int32) = 0 by decide), if_neg (nI_ne0 (n := o) (by omega) (by have := (Rc_blk H hp).2.1; omega)), why9, show (9 : Int32) = nI 9 from rfl, undef_n]
        exact Res.no H (ok_why (by decide) (by decide))
