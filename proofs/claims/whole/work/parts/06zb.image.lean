/-! QUERIES of images -/
theorem image_c {σ τ : gS} {nb ni bu : Nat} {sz : Nat → Nat} (H : Rc1 σ (gM τ 1) nb ni bu sz) (a : Int32) : (qS_isImage σ a = 0 ∧ qM_isImage τ a = 0) ∨ ∃ i, i < ni ∧ a = nI i ∧ qS_isImage σ a = 1 ∧ qM_isImage τ a = 1 := by
  have hni := Rc_ni H
  have f170 : gM τ 1 170 = nI ni := H.2.2.2.1.2.2.2.2.2.1
  unfold qS_isImage qM_isImage
  rw [H.2.1, f170]
  rcases n_cases a ni (by omega) with ⟨p, hp, rfl⟩ | h | h
  · refine Or.inr ⟨p, hp, rfl, ?_, ?_⟩
    · rw [if_neg (nlt0 (by omega)), if_neg (nle (by omega) (by omega))]
    · exact in_yes (by rw [i0, nI_toInt (by omega)]; omega) (by rw [pred_i (by omega), nI_toInt (by omega)]; omega)
  · refine Or.inl ⟨by rw [if_pos h], ?_⟩
    rw [lt_i, i0] at h
    exact in_no (Or.inl (by rw [i0]; exact h))
  · refine Or.inl ⟨?_, ?_⟩
    · by_cases q : a < 0
      · rw [if_pos q]
      · rw [if_neg q, if_pos h]
    · rw [le_i, nI_toInt (by omega)] at h
      exact in_no (Or.inr (by rw [pred_i (by omega)]; omega))
theorem imgix (i : Nat) : (171 : Int32) + (131 : Int32) * nI i = nI (171 + 131 * i) := by
  rw [show (171 : Int32) = nI 171 from rfl, show (131 : Int32) = nI 131 from rfl, nI_mul, nI_add]
theorem sim_imaged {n : Nat} {σ τ : gS} (h : Rel n σ τ) (a b c : Int32) : ∃ r σ' τ', qF_imaged σ a b c = some (r, σ') ∧ qM_imaged τ a b c = some (r, τ') ∧ Rel (n + 1) σ' τ' := by
  obtain ⟨nb, ni, bu, sz, pl, sv, N, I, U, S, H, G, T, X⟩ := id h
  have hni := Rc_ni H
  unfold qF_imaged qM_imaged
  have bad : ∃ r σ' τ', ((qT_noted σ (-2)).bind fun r2 => some (r2.1, r2.2)) = some (r, σ') ∧ ((qM_bad τ).bind fun r2 => some (r2.1, r2.2)) = some (r, τ') ∧ Rel (n + 1) σ' τ' := by
    obtain ⟨σ', τ', b1, b2, b3⟩ := bad_c h
    rw [b1, b2]
    exact ⟨_, _, _, rfl, rfl, b3⟩
  rcases image_c H a with ⟨e1, e2⟩ | ⟨i, hi, rfl, e1, e2⟩
  · rw [e1, e2, if_pos z00, if_pos z00]; exact bad
  rw [e1, e2, if_neg n10, if_neg n10]
  by_cases h1 : c.toInt < 0
  · rw [if_neg (show ¬ 0 ≤ c by rw [le_i, i0]; omega), if_pos (show c < 0 by rw [lt_i, i0]; exact h1)]; exact bad
  rw [if_pos (show 0 ≤ c by rw [le_i, i0]; omega), if_neg (show ¬ c < 0 by rw [lt_i, i0]; exact h1), a_image (by omega), b_s, g_imn (by omega), imgix, gob_n (by omega) (by omega), nI_clamp (by omega)]
  obtain ⟨m, m1, m2, m3, m4, m5⟩ := H.2.2.2.2 i hi
  have m4 : gM τ 1 (171 + 131 * i) = nI m := m4
  unfold qI_isNode
  rw [m3, m4]
  rcases n_cases b m (by omega) with ⟨v, hv, rfl⟩ | hb | hb
  · obtain ⟨s, s1, s2, s3, s4, s5⟩ := (m5 v (by omega)).1 hv
    have s4 : gM τ 1 (171 + 131 * i + (1 + v)) = nI s := s4
    have s5 : ∀ j, j < 12 → (j < s → gM σ (11 + 3 * i + 2) (v * 12 + j) = gM τ 1 (171 + 131 * i + (11 + 12 * v + j))) ∧ (s ≤ j → gM σ (11 + 3 * i + 2) (v * 12 + j) = -1 ∧ gM τ 1 (171 + 131 * i + (11 + 12 * v + j)) = 0) := s5
    rw [if_neg (nlt0 (by omega)), if_neg (nle hv (by omega)), if_neg (nl10 (by omega)), if_neg n10, in_yes (lo := 0) (by rw [i0, nI_toInt (by omega)]; omega) (by rw [pred_i (by omega), nI_toInt (by omega)]; omega), if_neg n10, y_size (by omega), b_s, s3, nI1, nI_add, gob_n (by omega) (by omega), nI_clamp (by omega), show 171 + 131 * i + 1 + v = 171 + 131 * i + (1 + v) by omega, s4]
    obtain ⟨j, hj, rfl⟩ := nI_of (x := c) (by rw [lt_i, i0]; exact h1)
    by_cases h2 : j < s
    · have e : nI (171 + 131 * i) + (11 : Int32) + (12 : Int32) * nI v + nI j = nI (171 + 131 * i + (11 + 12 * v + j)) := by
        rw [show (11 : Int32) = nI 11 from rfl, show (12 : Int32) = nI 12 from rfl, nI_mul, nI_add, nI_add, nI_add]
        exact congrArg nI (by omega)
      rw [if_neg (nle h2 (by omega)), if_neg (nle h2 (by omega)), y_cell (by omega) (by omega), b_s, e, gob_n (by omega) (by omega), nI_clamp (by omega), (s5 j (by omega)).1 h2]
      exact ⟨_, _, _, rfl, rfl, h.mono (by omega)⟩
    · rw [if_pos ((nI_leI (by omega) hj).mpr (by omega)), if_pos ((nI_leI (by omega) hj).mpr (by omega))]
      exact ⟨_, _, _, rfl, rfl, h.mono (by omega)⟩
  · rw [if_pos hb, if_pos z00]
    rw [lt_i, i0] at hb
    rw [in_no (lo := 0) (Or.inl (by rw [i0]; exact hb)), if_pos z00]
    exact bad
  · have hb' := hb
    rw [le_i, nI_toInt (by omega)] at hb'
    rw [if_neg (show ¬ b < 0 by rw [lt_i, i0]; omega), if_pos hb, if_pos z00, in_no (lo := 0) (Or.inr (by rw [pred_i (by omega)]; omega)), if_pos z00]
    exact bad
