theorem dg_blk1 {n : Nat} {σ τ : gS} (h : Rel n σ τ) {nb ni bu : Nat} {sz : Nat → Nat} (H : Rc1 σ (gM τ 1) nb ni bu sz) {p : Nat} (hp : p < nb) (k : Int64 → Option Int64) (k2 : gS → Option (Int64 × gS)) : ∀ (d j f : Nat) (v : Int64), j + d = 5 → d < f → ∃ w, qF_digestOfBlock_6 σ (nI p) k f v (nI j) = k w ∧ qM_digest_108 (nI p) k2 f (sL τ v) (nI j) = k2 (sL τ w) := by
  intro d
  induction d with
  | zero =>
    intro j f v e hf
    obtain ⟨m, rfl⟩ : ∃ m, f = m + 1 := ⟨f - 1, by omega⟩
    refine ⟨v, ?_, ?_⟩
    · rw [qF_digestOfBlock_6, if_pos (show (4 : Int32) < nI j from (nI_ltI (a := 4) (by omega) (by omega)).mpr (by omega))]
    · rw [qM_digest_108, if_pos (show (5 : Int32) ≤ nI j from (nI_leI (a := 5) (by omega) (by omega)).mpr (by omega))]
  | succ d ih =>
    intro j f v e hf
    obtain ⟨m, rfl⟩ : ∃ m, f = m + 1 := ⟨f - 1, by omega⟩
    obtain ⟨x, x1, x2⟩ := piece_v (h.sl v) (τ := sL τ v) H hp (show j < 5 by omega)
    rw [qF_digestOfBlock_6, if_neg (show ¬ (4 : Int32) < nI j from fun q => by have := (nI_ltI (a := 4) (by omega) (by omega)).mp q; omega), x1, b_s, nI1, qM_digest_108, if_neg (show ¬ (5 : Int32) ≤ nI j from nle (a := 5) (by omega) (by omega)), x2, b_s, mix_c, b_s, nI1]
    exact ih (j + 1) m _ (by omega) (by omega)
