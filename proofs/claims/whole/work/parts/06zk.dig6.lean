theorem dg_blk2 {σ τ : gS} {nb ni bu : Nat} {sz : Nat → Nat} (H : Rc1 σ (gM τ 1) nb ni bu sz) {p : Nat} (hp : p < nb) (k : Int64 → Option Int64) (k2 : gS → Option (Int64 × gS)) : ∀ (d j f : Nat) (v : Int64), j + d = sz p → d < f → ∃ w, qF_digestOfBlock_38 σ (nI p) k f v (nI j) = k w ∧ qM_digest_132 (nI p) k2 f (sL τ v) (nI j) = k2 (sL τ w) := by
  have hnb := Rc_nb H
  have hs := (Rc_blk H hp).2.1
  have B := gBk.st H hp
  have z1 : gM σ 5 p = nI (sz p) := (Rc_blk H hp).2.2.1
  have z2 : ∀ v, gM (sL τ v) 1 (1 + 15 * p) = nI (sz p) := fun v => (Rc_blk H hp).2.2.2.1
  intro d
  induction d with
  | zero =>
    intro j f v e hf
    obtain ⟨m, rfl⟩ : ∃ m, f = m + 1 := ⟨f - 1, by omega⟩
    have hle : nI (sz p) ≤ nI j := (nI_leI (by omega) (by omega)).mpr (by omega)
    refine ⟨v, ?_, ?_⟩
    · rw [qF_digestOfBlock_38, x_size (by omega), b_s, z1, if_pos hle]
    · rw [qM_digest_132, m_size (by omega), b_s, z2, if_pos hle]
  | succ d ih =>
    intro j f v e hf
    obtain ⟨m, rfl⟩ : ∃ m, f = m + 1 := ⟨f - 1, by omega⟩
    have hle : ¬ nI (sz p) ≤ nI j := nle (by omega) (by omega)
    have cell : qS_cellAt σ (nI p) (nI j) = some (gM τ 1 (1 + 15 * p + 3 + j)) := B.cell (by omega) (by omega) hs
    rw [qF_digestOfBlock_38, x_size (by omega), b_s, z1, if_neg hle, cell, b_s, nI1, qM_digest_132, m_size (by omega), b_s, z2, if_neg hle, m_bp, gob_n (by omega) (by omega), nI_clamp (by omega), show gM (sL τ v) 1 (1 + 15 * p + 3 + j) = gM τ 1 (1 + 15 * p + 3 + j) from rfl, mix_c, b_s, nI1]
    exact ih (j + 1) m _ (by omega) (by omega)
theorem dg_blk {n : Nat} {σ τ : gS} (h : Rel n σ τ) {nb ni bu : Nat} {sz : Nat → Nat} (H : Rc1 σ (gM τ 1) nb ni bu sz) (k : Int64 → Option Int64) (k2 : gS → Option (Int64 × gS)) : ∀ (d j f : Nat) (v : Int64), j + d = nb → d < f → ∃ w, qF_digest_101 σ k f v (nI j) = k w ∧ qM_digest_96 k2 f (sL τ v) (nI j) = k2 (sL τ w) := by
  have hnb := Rc_nb H
  have f0 : ∀ v, gM (sL τ v) 1 0 = nI nb := fun v => H.2.2.2.1.2.2.2.2.1
  intro d
  induction d with
  | zero =>
    intro j f v e hf
    obtain ⟨m, rfl⟩ : ∃ m, f = m + 1 := ⟨f - 1, by omega⟩
    have hle : nI nb ≤ nI j := (nI_leI (by omega) (by omega)).mpr (by omega)
    refine ⟨v, ?_, ?_⟩
    · rw [qF_digest_101, H.1, if_pos hle]
    · rw [qM_digest_96, f0, if_pos hle]
  | succ d ih =>
    intro j f v e hf
    obtain ⟨m, rfl⟩ : ∃ m, f = m + 1 := ⟨f - 1, by omega⟩
    have hle : ¬ nI nb ≤ nI j := nle (by omega) (by omega)
    have hs := (Rc_blk H (show j < nb by omega)).2.1
    obtain ⟨w1, a1, a2⟩ := dg_blk1 h H (show j < nb by omega) (fun x3 => qF_digestOfBlock_38 σ (nI j) (fun x7 => some x7) 8192 x3 (0 : Int32)) (fun σ19 => qM_digest_132 (nI j) (fun σ24 => qM_digest_96 k2 m σ24 (nI (j + 1))) 8192 σ19 (0 : Int32)) 5 0 8192 v (by omega) (by omega)
    obtain ⟨w2, b1, b2⟩ := dg_blk2 H (show j < nb by omega) (fun x7 => some x7) (fun σ24 => qM_digest_96 k2 m σ24 (nI (j + 1))) (sz j) 0 8192 w1 (by omega) (by omega)
    rw [show nI 0 = (0 : Int32) from rfl] at a1 a2 b1 b2
    rw [qF_digest_101, H.1, if_neg hle, qM_digest_96, f0, if_neg hle, nI1, a2, b2]
    unfold qF_digestOfBlock
    rw [a1, b1, b_s]
    exact ih (j + 1) m _ (by omega) (by omega)
