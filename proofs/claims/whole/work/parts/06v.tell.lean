/-! CALLS that only tell -/
/-- one tally of the three goes up -/
theorem bump_c {n : Nat} {σ τ : gS} (h : Rel n σ τ) {k : Nat} (hk : k < 3) : Rel (n + 1) (sI σ 96 (k + 1) (gI σ 96 (k + 1) + (1 : Int32))) (sM τ 4 k (gM τ 4 k + (1 : Int32))) := by
  obtain ⟨nb, ni, bu, sz, pl, sv, N, I, U, S, H, G, T, X⟩ := h
  refine Rel.tally H G (T.bump hk) (X.cg (by rw [gI_sI, if_neg (by omega)]) (fun _ => rfl) rfl (fun i => by rw [gMs_n (by decide)])) (fun a j h1 h2 => by rw [gI_sI, if_neg (by omega)]) (fun a j h1 h2 => by rw [gI_sI, if_neg (by omega)]) (fun _ _ _ => rfl) rfl (gMs_n (by decide)) (gMs_n (by decide))
theorem bad_c {n : Nat} {σ τ : gS} (h : Rel n σ τ) : ∃ σ' τ', qT_noted σ (-2) = some (-2, σ') ∧ qM_bad τ = some (-2, τ') ∧ Rel (n + 1) σ' τ' := ⟨_, _, rfl, rfl, bump_c h (k := 0) (by decide)⟩
theorem noted_m1 {σ : gS} : qT_noted σ (-1) = some (-1, σ) := rfl
theorem sim_compare {n : Nat} {σ τ : gS} (h : Rel n σ τ) (a b : Int32) : ∃ r σ' τ', qF_compare σ a b = some (r, σ') ∧ qM_compare τ a b = some (r, τ') ∧ Rel (n + 1) σ' τ' := by
  obtain ⟨nb, ni, bu, sz, pl, sv, N, I, U, S, H, G, T, X⟩ := h
  obtain ⟨v, c1, c2, c3⟩ := compare_c H a b
  obtain ⟨σ4, τ4, t1, t2, t3, t4, t5, t6, t7⟩ := noted_c T (okr_c c3)
  unfold qF_compare qM_compare
  rw [c1, b_s, t1, b_s, c2, b_s, t2, b_s]
  exact ⟨_, _, _, rfl, rfl, Rel.tally H G t3 (X.cg (t4 42 3 (by decide)) (fun i => by rw [t5 43 (by decide)]) (t6 0 7) (fun i => by rw [t7 6 (by decide) (by decide)])) (fun a j h _ => t4 a j (by omega)) (fun a j _ h => t4 a j (by omega)) (fun a h _ => t5 a (by omega)) (t6 0 3) (t7 1 (by decide) (by decide)) (t7 3 (by decide) (by decide))⟩
theorem sim_clear {n : Nat} {σ τ : gS} (h : Rel n σ τ) : ∃ r σ' τ', qF_clear σ = some (r, σ') ∧ qM_clear τ = some (r, τ') ∧ Rel (n + 1) σ' τ' := by
  obtain ⟨nb, ni, bu, sz, pl, sv, N, I, U, S, H, G, T, t, x1, x2, x3, x4⟩ := h
  refine ⟨nI t, sI σ 42 3 0, sI τ 0 7 0, ?_, ?_, Rel.tally H G ((T.mono (by omega)).cg (fun j => by rw [gI_sI, if_neg (by omega)]) rfl rfl rfl) ⟨0, by decide, ?_, ?_, fun i hi => by omega⟩ (fun a j h1 h2 => by rw [gI_sI, if_neg (by omega)]) (fun a j h1 h2 => by rw [gI_sI, if_neg (by omega)]) (fun _ _ _ => rfl) (by rw [gI_sI, if_neg (by omega)]) rfl rfl⟩
  · rw [← x2]; rfl
  · rw [← x3]; rfl
  · rw [gI_sI, if_pos (by omega)]; rfl
  · rw [gI_sI, if_pos (by omega)]; rfl
theorem sim_type {n : Nat} {σ τ : gS} (h : Rel n σ τ) (a : Int32) : ∃ r σ' τ', qF_type σ a = some (r, σ') ∧ qM_type τ a = some (r, τ') ∧ Rel (n + 1) σ' τ' := by
  unfold qF_type qM_type qP_append
  by_cases h1 : a.toInt < 0
  · rw [if_pos (show a < 0 by rw [lt_i, i0]; exact h1), in_no (lo := 0) (hi := 127) (Or.inl (by rw [i0]; exact h1)), if_pos z00, b_s]
    obtain ⟨σ', τ', b1, b2, b3⟩ := bad_c h
    rw [b1, b2]
    exact ⟨_, _, _, rfl, rfl, b3⟩
  rw [if_neg (show ¬ a < 0 by rw [lt_i, i0]; exact h1)]
  by_cases h2 : a.toInt ≤ 127
  case neg =>
    rw [if_neg (show ¬ a ≤ 127 by rw [le_i, i127]; exact h2), in_no (lo := 0) (hi := 127) (Or.inr (by rw [i127]; omega)), if_pos z00, b_s]
    obtain ⟨σ', τ', b1, b2, b3⟩ := bad_c h
    rw [b1, b2]
    exact ⟨_, _, _, rfl, rfl, b3⟩
  rw [if_pos (show a ≤ 127 by rw [le_i, i127]; exact h2), in_yes (lo := 0) (hi := 127) (by rw [i0]; omega) (by rw [i127]; omega), if_neg n10]
  obtain ⟨b, hb, rfl⟩ := nI_of (x := a) (by rw [lt_i, i0]; exact h1)
  rw [nI_toInt hb] at h2
  obtain ⟨nb, ni, bu, sz, pl, sv, N, I, U, S, H, G, T, t, x1, x2, x3, x4⟩ := id h
  rw [x2, x3, if_neg (nlt0 (by omega))]
  by_cases h3 : t = 120
  · subst h3
    rw [if_neg (show ¬ nI 120 < 120 by decide), if_pos (show nI 120 = 120 from rfl), b_s]
    exact ⟨_, _, _, rfl, rfl, bump_c h (k := 2) (by decide)⟩
  · rw [if_pos (show nI t < 120 from (nI_ltI (b := 120) (by omega) (by omega)).mpr (by omega)), if_neg (show ¬ nI t = 120 from fun q => h3 (nI_inj (b := 120) (by omega) (by omega) q)), gob_n (by omega) (by omega), gob_n (by omega) (by omega), nI_clamp (by omega), show gI (sM σ 43 t (nI b)) 42 3 = nI t from x2, show gI (sM τ 6 t (nI b)) 0 7 = nI t from x3, nI1, gI_sI, if_pos (by omega), gI_sI, if_pos (by omega), b_s, noted_n (by omega), b_s]
    refine ⟨_, _, _, rfl, rfl, Rel.tally H G ((T.mono (by omega)).cg (fun j => by rw [gI_sI, if_neg (by omega)]; rfl) (by rw [gMI, gMs_n (by decide)]) (by rw [gMI, gMs_n (by decide)]) (by rw [gMI, gMs_n (by decide)])) ⟨t + 1, by omega, ?_, ?_, fun i hi => ?_⟩ (fun a j h1 h2 => by rw [gI_sI, if_neg (by omega)]; rfl) (fun a j h1 h2 => by rw [gI_sI, if_neg (by omega)]; rfl) (fun a h1 h2 => by rw [gMI, gMs_n h2]) (by rw [gI_sI, if_neg (by omega)]; rfl) (by rw [gMI, gMs_n (by decide)]) (by rw [gMI, gMs_n (by decide)])⟩
    · rw [gI_sI, if_pos (by omega)]
    · rw [gI_sI, if_pos (by omega)]
    · rw [gMI, gMI, gMs_s, gMs_s]
      by_cases e : i = t
      · subst e
        rw [upd_s, upd_s]
        exact ⟨b, by omega, rfl, rfl⟩
      · rw [upd_n e, upd_n e]
        exact x4 i (by omega)
theorem sim_undefined {n : Nat} {σ τ : gS} (h : Rel n σ τ) (hn : n ≤ 5000) (a : Int32) : ∃ r σ' τ', qF_undefined σ a = some (r, σ') ∧ qM_undefined τ a = some (r, τ') ∧ Rel (n + 1) σ' τ' := by
  unfold qF_undefined qM_undefined qT_ofReason
  have bad : ∃ r σ' τ', ((some (-2 : Int32)).bind fun r1 => (qT_noted σ r1).bind fun r2 => some (r2.1, r2.2)) = some (r, σ') ∧ ((qM_bad τ).bind fun r2 => some (r2.1, r2.2)) = some (r, τ') ∧ Rel (n + 1) σ' τ' := by
    obtain ⟨σ', τ', b1, b2, b3⟩ := bad_c h
    rw [b_s, b1, b2]
    exact ⟨_, _, _, rfl, rfl, b3⟩
  by_cases h1 : a.toInt < 1
  · rw [if_pos (show a < 1 by rw [lt_i, i1]; exact h1), in_no (lo := 1) (hi := 9) (Or.inl (by rw [i1]; exact h1)), if_pos z00]
    exact bad
  rw [if_neg (show ¬ a < 1 by rw [lt_i, i1]; exact h1)]
  by_cases h2 : a.toInt ≤ 9
  case neg =>
    rw [if_pos (show 9 < a by rw [lt_i, i9]; omega), in_no (lo := 1) (hi := 9) (Or.inr (by rw [i9]; omega)), if_pos z00]
    exact bad
  rw [if_neg (show ¬ 9 < a by rw [lt_i, i9]; omega), in_yes (lo := 1) (hi := 9) (by rw [i1]; omega) (by rw [i9]; omega), if_neg n10]
  obtain ⟨k, hk, rfl⟩ := nI_of (x := a) (by rw [lt_i, i0]; omega)
  rw [nI_toInt hk] at h1 h2
  obtain ⟨nb, ni, bu, sz, pl, sv, N, I, U, S, H, G, T, X⟩ := id h
  obtain ⟨-, w, w1, w2, w3⟩ := T
  obtain ⟨u1, u2⟩ := w1 k (by omega) (by omega)
  have hw : w k ≤ 5000 := by
    rcases (show k = 1 ∨ k = 2 ∨ k = 3 ∨ k = 4 ∨ k = 5 ∨ k = 6 ∨ k = 7 ∨ k = 8 ∨ k = 9 by omega) with rfl | rfl | rfl | rfl | rfl | rfl | rfl | rfl | rfl <;> omega
  rw [gob_n (by omega) (by omega), gob_n (by omega) (by omega), nI_clamp (by omega), u1, u2, b_s, noted_n (by omega), b_s]
  exact ⟨_, _, _, rfl, rfl, h.mono (by omega)⟩
