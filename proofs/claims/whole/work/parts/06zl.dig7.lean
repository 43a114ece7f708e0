theorem image_v {n : Nat} {σ τ : gS} (h : Rel n σ τ) {nb ni bu : Nat} {sz : Nat → Nat} (H : Rc1 σ (gM τ 1) nb ni bu sz) {i k : Nat} (hi : i < ni) (hk : k < 3) : ∃ x, qI_property σ (11 + 3 * i) (nI k) = some x ∧ qM_ofImage τ (nI i) (nI k) = some x := by
  obtain ⟨x, σ', τ', e1, e2, -⟩ := sim_image h (nI i) (nI k)
  have hni := Rc_ni H
  rcases image_c H (nI i) with ⟨b1, b2⟩ | ⟨-, -, -, b1, b2⟩
  · exfalso
    unfold qS_isImage at b1
    rw [H.2.1, if_neg (nlt0 (by omega)), if_neg (nle hi (by omega))] at b1
    exact n10 b1
  unfold qF_image at e1
  unfold qM_image at e2
  rw [b1, if_neg n10, a_image (by omega), b_s, g_imn (by omega)] at e1
  rw [b2, if_neg n10, in_yes (lo := 0) (hi := 2) (by rw [i0, nI_toInt (by omega)]; omega) (by rw [i2, nI_toInt (by omega)]; omega), if_neg n10] at e2
  exact ⟨x, told_v e1, told_m e2⟩
theorem dg_img1 {n : Nat} {σ τ : gS} (h : Rel n σ τ) {nb ni bu : Nat} {sz : Nat → Nat} (H : Rc1 σ (gM τ 1) nb ni bu sz) {i : Nat} (hi : i < ni) (x2 : Int32) (k : Int64 → Option Int64) (k2 : gS → Option gS) : ∀ (d j f : Nat) (v : Int64), j + d = 3 → d < f → ∃ w, qF_digestOfImage_16 σ (11 + 3 * i) k f v (nI j) = k w ∧ qM_mixImage_12 (nI i) x2 k2 f (sL τ v) (nI j) = k2 (sL τ w) := by
  intro d
  induction d with
  | zero =>
    intro j f v e hf
    obtain ⟨m, rfl⟩ : ∃ m, f = m + 1 := ⟨f - 1, by omega⟩
    refine ⟨v, ?_, ?_⟩
    · rw [qF_digestOfImage_16, if_pos (show (2 : Int32) < nI j by rw [lt_i, i2, nI_toInt (by omega)]; omega)]
    · rw [qM_mixImage_12, if_pos (show (3 : Int32) ≤ nI j from (nI_leI (a := 3) (by omega) (by omega)).mpr (by omega))]
  | succ d ih =>
    intro j f v e hf
    obtain ⟨m, rfl⟩ : ∃ m, f = m + 1 := ⟨f - 1, by omega⟩
    obtain ⟨x, y1, y2⟩ := image_v (h.sl v) (τ := sL τ v) H hi (show j < 3 by omega)
    rw [qF_digestOfImage_16, if_neg (nin2 (by omega)), y1, b_s, nI1, qM_mixImage_12, if_neg (show ¬ (3 : Int32) ≤ nI j from nle (a := 3) (by omega) (by omega)), y2, b_s, mix_c, b_s, nI1]
    exact ih (j + 1) m _ (by omega) (by omega)
theorem dg_img2 {σ τ : gS} {q v0 s base : Nat} (hv : v0 < 10) (hs : s ≤ 12) (hb : base + 131 ≤ 1219) (s3 : gM σ (q + 1) v0 = nI s) (s4 : gM τ 1 (base + 1 + v0) = nI s) (s5 : ∀ j, j < s → gM σ (q + 2) (v0 * 12 + j) = gM τ 1 (base + 11 + 12 * v0 + j)) (k : Int64 → Option Int64) (k2 : gS → Option gS) : ∀ (d j f : Nat) (v : Int64), j + d = s → d < f → ∃ w, qF_digestOfImage_58 σ q (nI v0) k f v (nI j) = k w ∧ qM_mixImage_49 (nI base) (nI v0) k2 f (sL τ v) (nI j) = k2 (sL τ w) := by
  have e1 : nI base + (1 : Int32) + nI v0 = nI (base + 1 + v0) := by
    rw [show (1 : Int32) = nI 1 from rfl, nI_add, nI_add]
  have e11 : ∀ j, nI base + (11 : Int32) + (12 : Int32) * nI v0 + nI j = nI (base + 11 + 12 * v0 + j) := fun j => by
    rw [show (11 : Int32) = nI 11 from rfl, show (12 : Int32) = nI 12 from rfl, nI_mul, nI_add, nI_add, nI_add]
  intro d
  induction d with
  | zero =>
    intro j f v e hf
    obtain ⟨m, rfl⟩ : ∃ m, f = m + 1 := ⟨f - 1, by omega⟩
    have hle : nI s ≤ nI j := (nI_leI (by omega) (by omega)).mpr (by omega)
    refine ⟨v, ?_, ?_⟩
    · rw [qF_digestOfImage_58, y_size hv, b_s, s3, if_pos hle]
    · rw [qM_mixImage_49, e1, gob_n (by omega) (by omega), nI_clamp (by omega), show gM (sL τ v) 1 (base + 1 + v0) = nI s from s4, if_pos hle]
  | succ d ih =>
    intro j f v e hf
    obtain ⟨m, rfl⟩ : ∃ m, f = m + 1 := ⟨f - 1, by omega⟩
    have hle : ¬ nI s ≤ nI j := nle (by omega) (by omega)
    rw [qF_digestOfImage_58, y_size hv, b_s, s3, if_neg hle, y_cell hv (by omega), b_s, s5 j (by omega), nI1]
    rw [qM_mixImage_49, e1, gob_n (by omega) (by omega), nI_clamp (by omega), show gM (sL τ v) 1 (base + 1 + v0) = nI s from s4, if_neg hle, e11, gob_n (by omega) (by omega), nI_clamp (by omega), show gM (sL τ v) 1 (base + 11 + 12 * v0 + j) = gM τ 1 (base + 11 + 12 * v0 + j) from rfl, mix_c, b_s, nI1]
    exact ih (j + 1) m _ (by omega) (by omega)
