/-- the pointers of one node -/
theorem img_in {σ τ : gS} {k v s base : Nat} (hv : v < 10) (hs : s ≤ 12) (hb : base + 131 ≤ 1219) (s3 : gM σ (k + 1) v = nI s) (s4 : gM τ 1 (base + 1 + v) = nI s) (s5 : ∀ j, j < s → gM σ (k + 2) (v * 12 + j) = gM τ 1 (base + 11 + 12 * v + j)) (x1 x2 : Int32) (y2 y4 : Int32) (kk k2 : Int32 → Option Int32) : ∀ (d j n x : Nat), j + d = s → d < n → ∃ y, y ≤ x + 12 ∧ y ≤ x + d ∧ qI_property_28 σ k x1 x2 (nI v) kk n (nI x) (nI j) = kk (nI y) ∧ qM_ofImage_49 τ y2 (nI base) y4 (nI v) k2 n (nI x) (nI j) = k2 (nI y) := by
  have e1 : nI base + (1 : Int32) + nI v = nI (base + 1 + v) := by
    rw [show (1 : Int32) = nI 1 from rfl, nI_add, nI_add]
  have e11 : ∀ j, nI base + (11 : Int32) + (12 : Int32) * nI v + nI j = nI (base + 11 + 12 * v + j) := fun j => by
    rw [show (11 : Int32) = nI 11 from rfl, show (12 : Int32) = nI 12 from rfl, nI_mul, nI_add, nI_add, nI_add]
  intro d
  induction d with
  | zero =>
    intro j n x h hn
    obtain ⟨m, rfl⟩ : ∃ m, n = m + 1 := ⟨n - 1, by omega⟩
    have hle : nI s ≤ nI j := (nI_leI (by omega) (by omega)).mpr (by omega)
    refine ⟨x, by omega, by omega, ?_, ?_⟩
    · rw [qI_property_28, y_size hv, b_s, s3, if_pos hle]
    · rw [qM_ofImage_49, e1, gob_n (by omega) (by omega), nI_clamp (by omega), s4, if_pos hle]
  | succ d ih =>
    intro j n x h hn
    obtain ⟨m, rfl⟩ : ∃ m, n = m + 1 := ⟨n - 1, by omega⟩
    have hle : ¬ nI s ≤ nI j := nle (by omega) (by omega)
    rw [qI_property_28, y_size hv, b_s, s3, if_neg hle, y_cell hv (by omega), b_s, q_ptr, s5 j (by omega), nI1, nI1]
    rw [qM_ofImage_49, e1, gob_n (by omega) (by omega), nI_clamp (by omega), s4, if_neg hle, e11, gob_n (by omega) (by omega), nI_clamp (by omega), nI1, nI1, show nI x + (0 : Int32) = nI (x + 0) from nI_add x 0]
    by_cases q : gM τ 1 (base + 11 + 12 * v + j) < 1000
    · rw [if_pos q, if_pos q, if_pos z00]
      obtain ⟨y, a1, a2, a3, a4⟩ := ih (j + 1) m x (by omega) (by omega)
      exact ⟨y, a1, by omega, a3, a4⟩
    · rw [if_neg q, if_neg q, if_neg n10]
      obtain ⟨y, a1, a2, a3, a4⟩ := ih (j + 1) m (x + 1) (by omega) (by omega)
      exact ⟨y, by omega, by omega, a3, a4⟩
