theorem sim_like {n : Nat} {σ τ : gS} (h : Rel n σ τ) (a : Int32) : ∃ r σ' τ', qF_like σ a = some (r, σ') ∧ qM_like τ a = some (r, τ') ∧ Rel (n + 1) σ' τ' := by
  obtain ⟨nb, ni, bu, sz, pl, sv, N, I, U, S, H, G, T, X⟩ := id h
  have hnb := Rc_nb H
  have hni := Rc_ni H
  unfold qF_like qM_like
  rcases block_c H a with ⟨e1, e2⟩ | ⟨p, hp, rfl, e1, e2⟩
  · rw [e1, e2, if_pos z00, if_pos z00]
    obtain ⟨σ', τ', b1, b2, b3⟩ := bad_c h
    rw [b1, b2]
    exact ⟨_, _, _, rfl, rfl, b3⟩
  rw [e1, e2, if_neg n10, if_neg n10]
  obtain ⟨σ1, τ1, c, l, r1, r2, R1, F1, G1, hc1⟩ := reach_c H hp
  obtain ⟨H1, X1, M1, K1⟩ := Rc_fr H F1 G1
  have L1 : Rel n σ1 τ1 := Rel.act G T X H1 (Nat.le_refl _) X1 M1
  rw [r1, b_s, r2, b_s]
  rcases alive H1 R1 with ⟨a1, a2⟩ | ⟨a1, a2⟩
  · rw [a1, b_s, a2, b_s, if_pos z00, if_pos z00]
    exact ⟨_, _, _, rfl, rfl, bump_c L1 (k := 1) (by decide)⟩
  rw [a1, b_s, a2, b_s, if_neg n10, if_neg n10]
  obtain ⟨σ2, τ2, d1, d2, B2, F2, G2⟩ := draw_c H1 R1 hc1
  obtain ⟨H2, X2, M2, K2⟩ := Rc_dr H1 F2 G2
  have L2 : Rel (n + 1) σ2 τ2 := (Rel.act G T X H2 (Nat.le_refl _) (X1.tr X2 (Nat.le_refl _)) (M1.tr M2)).mono (by omega)
  rw [d1, b_s, d2, b_s]
  rcases found_c H2 B2 with ⟨i1, i2⟩ | ⟨i, hi, i1, i2⟩
  · rw [i1, b_s, i2, b_s, H2.2.1, if_pos (Int32.le_refl _)]
    exact ⟨_, _, _, rfl, rfl, L2⟩
  · rw [i1, b_s, i2, b_s, H2.2.1, if_neg (nle hi (by omega))]
    exact ⟨_, _, _, rfl, rfl, L2⟩
theorem lit_n (k : Nat) (hk : k < 2 ^ 31) {b : Int32} (h : b.toInt = k) : b = nI k := Int32.toInt_inj.mp (h.trans (nI_toInt hk).symm)
theorem sim_piece {n : Nat} {σ τ : gS} (h : Rel n σ τ) (a b : Int32) : ∃ r σ' τ', qF_piece σ a b = some (r, σ') ∧ qM_piece τ a b = some (r, τ') ∧ Rel (n + 1) σ' τ' := by
  obtain ⟨nb, ni, bu, sz, pl, sv, N, I, U, S, H, G, T, X⟩ := id h
  have hnb := Rc_nb H
  unfold qF_piece qM_piece qS_blockProperty
  have bad : ∃ r σ' τ', ((some (-2 : Int32)).bind fun r1 => (qT_noted σ r1).bind fun r2 => some (r2.1, r2.2)) = some (r, σ') ∧ ((qM_bad τ).bind fun r2 => some (r2.1, r2.2)) = some (r, τ') ∧ Rel (n + 1) σ' τ' := by
    obtain ⟨σ', τ', b1, b2, b3⟩ := bad_c h
    rw [b_s, b1, b2]
    exact ⟨_, _, _, rfl, rfl, b3⟩
  rcases block_c H a with ⟨e1, e2⟩ | ⟨p, hp, rfl, e1, e2⟩
  · rw [e1, e2, if_pos z00, if_pos z00, if_pos z00]; exact bad
  have hs := (Rc_blk H hp).2.1
  obtain ⟨s1, s2, z1, z2, ⟨al, al1, al2, al3⟩, ⟨ac, ac1, ac2, ac3⟩, -, -⟩ := Rc_blk H hp
  have z2 : gM τ 1 (1 + 15 * p + 0) = nI (sz p) := z2
  have al3 : gM τ 1 (1 + 15 * p + 1) = nI al := al3
  have ac3 : gM τ 1 (1 + 15 * p + 2) = nI ac := ac3
  have good : ∀ v : Nat, v < 2 ^ 31 → ∃ r σ' τ', ((some (nI v)).bind fun r1 => (qT_noted σ r1).bind fun r2 => some (r2.1, r2.2)) = some (r, σ') ∧ some (nI v, τ) = some (r, τ') ∧ Rel (n + 1) σ' τ' := by
    intro v hv
    rw [b_s, noted_n hv]
    exact ⟨_, _, _, rfl, rfl, h.mono (by omega)⟩
  rw [e1, e2, if_neg n10, if_neg n10, if_neg n10]
  by_cases h1 : b.toInt < 0
  · have hn : ∀ k : Int32, 0 ≤ k.toInt → ¬ b = k := fun k hk q => by rw [q] at h1; omega
    rw [in_no (lo := 0) (hi := 5) (Or.inl (by rw [i0]; exact h1)), if_pos z00, if_neg (hn 5 (by decide)), if_neg (hn 0 (by decide)), if_neg (hn 1 (by decide)), if_neg (hn 2 (by decide)), if_neg (hn 3 (by decide)), if_neg (hn 4 (by decide))]
    exact bad
  by_cases h2 : b.toInt ≤ 5
  case neg =>
    have hn : ∀ k : Int32, k.toInt ≤ 5 → ¬ b = k := fun k hk q => by rw [q] at h2; omega
    rw [in_no (lo := 0) (hi := 5) (Or.inr (by rw [i5]; omega)), if_pos z00, if_neg (hn 5 (by decide)), if_neg (hn 0 (by decide)), if_neg (hn 1 (by decide)), if_neg (hn 2 (by decide)), if_neg (hn 3 (by decide)), if_neg (hn 4 (by decide))]
    exact bad
  rw [in_yes (lo := 0) (hi := 5) (by rw [i0]; omega) (by rw [i5]; omega), if_neg n10]
  unfold qM_ofPiece
  rcases (show b.toInt = (0 : Nat) ∨ b.toInt = (1 : Nat) ∨ b.toInt = (2 : Nat) ∨ b.toInt = (3 : Nat) ∨ b.toInt = (4 : Nat) ∨ b.toInt = (5 : Nat) by omega) with q | q | q | q | q | q
  · have := lit_n 0 (by decide) q
    subst this
    rw [if_neg (show ¬ nI 0 = 5 by decide), if_pos (show nI 0 = 0 from rfl), if_neg (show ¬ nI 0 = 3 by decide), if_neg (show ¬ nI 0 = 4 by decide), if_neg (show ¬ nI 0 = 5 by decide), gob_n (by omega) (by omega), nI_clamp (by omega), z1, m_pp, nI_add, gob_n (by omega) (by omega), nI_clamp (by omega), z2]
    exact good _ (by omega)
  · have := lit_n 1 (by decide) q
    subst this
    rw [if_neg (show ¬ nI 1 = 5 by decide), if_neg (show ¬ nI 1 = 0 by decide), if_pos (show nI 1 = 1 from rfl), if_neg (show ¬ nI 1 = 3 by decide), if_neg (show ¬ nI 1 = 4 by decide), if_neg (show ¬ nI 1 = 5 by decide), gob_n (by omega) (by omega), nI_clamp (by omega), al2, m_pp, nI_add, gob_n (by omega) (by omega), nI_clamp (by omega), al3]
    exact good _ (by omega)
  · have := lit_n 2 (by decide) q
    subst this
    rw [if_neg (show ¬ nI 2 = 5 by decide), if_neg (show ¬ nI 2 = 0 by decide), if_neg (show ¬ nI 2 = 1 by decide), if_pos (show nI 2 = 2 from rfl), if_neg (show ¬ nI 2 = 3 by decide), if_neg (show ¬ nI 2 = 4 by decide), if_neg (show ¬ nI 2 = 5 by decide), gob_n (by omega) (by omega), nI_clamp (by omega), ac2, m_pp, nI_add, gob_n (by omega) (by omega), nI_clamp (by omega), ac3]
    exact good _ (by omega)
  · have := lit_n 3 (by decide) q
    subst this
    obtain ⟨y, y1, y2, y3⟩ := cnt_u H hp (fun x5 => some x5) (fun x7 => some x7) (sz p) 0 8192 0 (by omega) (by omega) (by omega)
    rw [if_neg (show ¬ nI 3 = 5 by decide), if_neg (show ¬ nI 3 = 0 by decide), if_neg (show ¬ nI 3 = 1 by decide), if_neg (show ¬ nI 3 = 2 by decide), if_pos (show nI 3 = 3 from rfl), if_pos (show nI 3 = 3 from rfl)]
    unfold qS_uninitializedIn qM_bytesOf
    rw [show nI 0 = (0 : Int32) from rfl] at y2 y3
    rw [y2, y3, b_s, b_s, b_s]
    exact good y (by omega)
  · have := lit_n 4 (by decide) q
    subst this
    obtain ⟨y, y1, y2, y3⟩ := cnt_p H hp (fun x5 => some x5) (fun x7 => some x7) (sz p) 0 8192 0 (by omega) (by omega) (by omega)
    rw [if_neg (show ¬ nI 4 = 5 by decide), if_neg (show ¬ nI 4 = 0 by decide), if_neg (show ¬ nI 4 = 1 by decide), if_neg (show ¬ nI 4 = 2 by decide), if_neg (show ¬ nI 4 = 3 by decide), if_pos (show nI 4 = 4 from rfl), if_neg (show ¬ nI 4 = 3 by decide), if_pos (show nI 4 = 4 from rfl)]
    unfold qS_pointersIn qM_bytesOf
    rw [show nI 0 = (0 : Int32) from rfl] at y2 y3
    rw [y2, y3, b_s, b_s, b_s]
    exact good y (by omega)
  · have := lit_n 5 (by decide) q
    subst this
    obtain ⟨σ1, τ1, c, l, r1, r2, R1, F1, G1, hc1⟩ := reach_c H hp
    obtain ⟨H1, X1, M1, K1⟩ := Rc_fr H F1 G1
    rw [if_pos (show nI 5 = 5 from rfl), if_neg (show ¬ nI 5 = 3 by decide), if_neg (show ¬ nI 5 = 4 by decide), if_pos (show nI 5 = 5 from rfl)]
    unfold qM_reachedOf
    rw [r1, b_s, r2, b_s, R1.2.2.1]
    exact ⟨_, _, _, rfl, rfl, (Rel.act G T X H1 (Nat.le_refl _) X1 M1).mono (by omega)⟩
