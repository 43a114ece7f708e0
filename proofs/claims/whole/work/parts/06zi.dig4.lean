theorem bind_st {τ : gS} {q : Option Int32} {y : Int32 × gS} (h : (q.bind fun r1 => some (r1, τ)) = some y) : y.2 = τ := by
  cases q with
  | none => exact (nomatch h)
  | some x =>
    rw [b_s] at h
    rw [← Option.some.inj h]
theorem piece_st {τ : gS} {p k : Nat} (hk : k < 5) {y : Int32 × gS} (h : qM_ofPiece τ (nI p) (nI k) = some y) : y.2 = τ := by
  unfold qM_ofPiece at h
  have h5 : ¬ nI k = 5 := fun q => by
    have := nI_inj (a := k) (b := 5) (by omega) (by omega) q
    omega
  by_cases h3 : nI k = 3
  · rw [if_pos h3] at h; exact bind_st h
  by_cases h4 : nI k = 4
  · rw [if_neg h3, if_pos h4] at h; exact bind_st h
  rw [if_neg h3, if_neg h4, if_neg h5] at h
  unfold gob at h
  split at h
  · rw [← Option.some.inj h]
  · exact (nomatch h)
theorem piece_v {n : Nat} {σ τ : gS} (h : Rel n σ τ) {nb ni bu : Nat} {sz : Nat → Nat} (H : Rc1 σ (gM τ 1) nb ni bu sz) {p k : Nat} (hp : p < nb) (hk : k < 5) : ∃ x, qS_blockProperty σ (nI p) (nI k) = some x ∧ qM_ofPiece τ (nI p) (nI k) = some (x, τ) := by
  obtain ⟨x, σ', τ', e1, e2, -⟩ := sim_piece h (nI p) (nI k)
  have hnb := Rc_nb H
  have h5 : ¬ nI k = 5 := fun q => by
    have := nI_inj (a := k) (b := 5) (by omega) (by omega) q
    omega
  rcases block_c H (nI p) with ⟨b1, b2⟩ | ⟨-, -, -, b1, b2⟩
  · exfalso
    unfold qS_isBlock at b1
    rw [H.1, if_neg (nlt0 (by omega)), if_neg (nle hp (by omega)), if_neg (nl10 (by omega))] at b1
    exact n10 b1
  unfold qF_piece at e1
  unfold qM_piece at e2
  rw [b1, if_neg n10, if_neg h5] at e1
  rw [b2, if_neg n10, in_yes (lo := 0) (hi := 5) (by rw [i0, nI_toInt (by omega)]; omega) (by rw [i5, nI_toInt (by omega)]; omega), if_neg n10, b_eta] at e2
  have := piece_st hk e2
  have ht : τ' = τ := this
  rw [ht] at e2
  exact ⟨x, told_v e1, e2⟩
