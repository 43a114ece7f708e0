theorem nin2 {j : Nat} (h : j < 3) : ¬ (2 : Int32) < nI j := by rw [lt_i, i2, nI_toInt (by omega)]; omega
theorem dg_reg1 {n : Nat} {σ τ : gS} (h : Rel n σ τ) {r : Nat} (hr : r < 6) (k : Int64 → Option Int64) (k2 : gS → Option (Int64 × gS)) : ∀ (d j f : Nat) (v : Int64), j + d = 3 → d < f → ∃ w, qF_digest_66 σ (nI r) k f v (nI j) = k w ∧ qM_digest_66 (nI r) k2 f (sL τ v) (nI j) = k2 (sL τ w) := by
  intro d
  induction d with
  | zero =>
    intro j f v e hf
    obtain ⟨m, rfl⟩ : ∃ m, f = m + 1 := ⟨f - 1, by omega⟩
    refine ⟨v, ?_, ?_⟩
    · rw [qF_digest_66, if_pos (show (2 : Int32) < nI j by rw [lt_i, i2, nI_toInt (by omega)]; omega)]
    · rw [qM_digest_66, if_pos (show (3 : Int32) ≤ nI j from (nI_leI (a := 3) (by omega) (by omega)).mpr (by omega))]
  | succ d ih =>
    intro j f v e hf
    obtain ⟨m, rfl⟩ : ∃ m, f = m + 1 := ⟨f - 1, by omega⟩
    obtain ⟨x, x1, x2⟩ := reg_v (h.sl v) hr (show j < 3 by omega)
    rw [qF_digest_66, if_neg (nin2 (by omega)), x1, b_s, nI1, qM_digest_66, if_neg (show ¬ (3 : Int32) ≤ nI j from nle (a := 3) (by omega) (by omega)), x2, b_s, mix_c, b_s, nI1]
    exact ih (j + 1) m _ (by omega) (by omega)
theorem dg_reg {n : Nat} {σ τ : gS} (h : Rel n σ τ) (k : Int64 → Option Int64) (k2 : gS → Option (Int64 × gS)) : ∀ (d j f : Nat) (v : Int64), j + d = 6 → d < f → ∃ w, qF_digest_57 σ k f v (nI j) = k w ∧ qM_digest_58 k2 f (sL τ v) (nI j) = k2 (sL τ w) := by
  intro d
  induction d with
  | zero =>
    intro j f v e hf
    obtain ⟨m, rfl⟩ : ∃ m, f = m + 1 := ⟨f - 1, by omega⟩
    have hle : (6 : Int32) ≤ nI j := (nI_leI (a := 6) (by omega) (by omega)).mpr (by omega)
    refine ⟨v, ?_, ?_⟩
    · rw [qF_digest_57, if_pos hle]
    · rw [qM_digest_58, if_pos hle]
  | succ d ih =>
    intro j f v e hf
    obtain ⟨m, rfl⟩ : ∃ m, f = m + 1 := ⟨f - 1, by omega⟩
    obtain ⟨w, w1, w2⟩ := dg_reg1 h (r := j) (by omega) (fun x10 => qF_digest_57 σ k m x10 (nI (j + 1))) (fun σ13 => qM_digest_58 k2 m σ13 (nI (j + 1))) 3 0 8192 v (by omega) (by omega)
    rw [show nI 0 = (0 : Int32) from rfl] at w1 w2
    rw [qF_digest_57, if_neg (nl6 (by omega)), nI1, w1, qM_digest_58, if_neg (nl6 (by omega)), nI1, w2]
    exact ih (j + 1) m _ (by omega) (by omega)
