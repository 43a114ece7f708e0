theorem mix_c (τ : gS) (v : Int64) (x : Int32) : qM_mix (sL τ v) x.toInt64 = some (sL τ (qF_mixed v x)) := rfl
theorem Rel.sl {n : Nat} {σ τ : gS} (h : Rel n σ τ) (v : Int64) : Rel n σ (sL τ v) := h
theorem nin9 {j : Nat} (h : j < 10) : ¬ (9 : Int32) < nI j := by rw [lt_i, i9, nI_toInt (by omega)]; omega
theorem dg_count {n : Nat} {σ τ : gS} (h : Rel n σ τ) (hn : n ≤ 5000) (k : Int64 → Option Int64) (k2 : gS → Option (Int64 × gS)) : ∀ (d j f : Nat) (v : Int64), j + d = 10 → d < f → ∃ w, qF_digest_6 σ k f v (nI j) = k w ∧ qM_digest_9 k2 f (sL τ v) (nI j) = k2 (sL τ w) := by
  intro d
  induction d with
  | zero =>
    intro j f v e hf
    obtain ⟨m, rfl⟩ : ∃ m, f = m + 1 := ⟨f - 1, by omega⟩
    refine ⟨v, ?_, ?_⟩
    · rw [qF_digest_6, if_pos (show (9 : Int32) < nI j by rw [lt_i, i9, nI_toInt (by omega)]; omega)]
    · rw [qM_digest_9, if_pos (show (10 : Int32) ≤ nI j from (nI_leI (a := 10) (by omega) (by omega)).mpr (by omega))]
  | succ d ih =>
    intro j f v e hf
    obtain ⟨m, rfl⟩ : ∃ m, f = m + 1 := ⟨f - 1, by omega⟩
    obtain ⟨x, x1, x2⟩ := count_v (h.sl v) hn (show j < 10 by omega)
    rw [qF_digest_6, if_neg (nin9 (by omega)), x1, b_s, nI1, qM_digest_9, if_neg (nl10 (by omega)), x2, b_s, mix_c, b_s, nI1]
    exact ih (j + 1) m _ (by omega) (by omega)
theorem reason_v {n : Nat} {σ τ : gS} (h : Rel n σ τ) {k : Nat} (h1 : 1 ≤ k) (h9 : k ≤ 9) : qT_ofReason σ (nI k) = some (gM τ 5 k) := by
  obtain ⟨nb, ni, bu, sz, pl, sv, N, I, U, S, -, -, ⟨-, w, w1, -, -⟩, -⟩ := h
  unfold qT_ofReason
  rw [if_neg (show ¬ nI k < 1 by rw [lt_i, i1, nI_toInt (by omega)]; omega), if_neg (nin9 (by omega)), gob_n (by omega) (by omega), nI_clamp (by omega), (w1 k h1 h9).1, (w1 k h1 h9).2]
theorem dg_reason {n : Nat} {σ τ : gS} (h : Rel n σ τ) (k : Int64 → Option Int64) (k2 : gS → Option (Int64 × gS)) : ∀ (d j f : Nat) (v : Int64), 1 ≤ j → j + d = 10 → d < f → ∃ w, qF_digest_30 σ k f v (nI j) = k w ∧ qM_digest_33 k2 f (sL τ v) (nI j) = k2 (sL τ w) := by
  intro d
  induction d with
  | zero =>
    intro j f v _ e hf
    obtain ⟨m, rfl⟩ : ∃ m, f = m + 1 := ⟨f - 1, by omega⟩
    refine ⟨v, ?_, ?_⟩
    · rw [qF_digest_30, if_pos (show (9 : Int32) < nI j by rw [lt_i, i9, nI_toInt (by omega)]; omega)]
    · rw [qM_digest_33, if_pos (show (10 : Int32) ≤ nI j from (nI_leI (a := 10) (by omega) (by omega)).mpr (by omega))]
  | succ d ih =>
    intro j f v h1 e hf
    obtain ⟨m, rfl⟩ : ∃ m, f = m + 1 := ⟨f - 1, by omega⟩
    rw [qF_digest_30, if_neg (nin9 (by omega)), reason_v h h1 (by omega), b_s, nI1, qM_digest_33, if_neg (nl10 (by omega)), gob_n (by omega) (by omega), nI_clamp (by omega), show gM (sL τ v) 5 j = gM τ 5 j from rfl, mix_c, b_s, nI1]
    exact ih (j + 1) m _ (by omega) (by omega) (by omega)
