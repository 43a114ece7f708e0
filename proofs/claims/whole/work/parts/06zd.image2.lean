theorem img_out {σ τ : gS} {k base c : Nat} (hb : base + 131 ≤ 1219) (hc : c ≤ 10) (c3 : gI σ k 2 = nI c) (c4 : gM τ 1 base = nI c) (c5 : ∀ v, v < c → ∃ s, s ≤ 12 ∧ gM σ (k + 1) v = nI s ∧ gM τ 1 (base + 1 + v) = nI s ∧ ∀ j, j < s → gM σ (k + 2) (v * 12 + j) = gM τ 1 (base + 11 + 12 * v + j)) (x1 y2 : Int32) (kk k2 : Int32 → Int32 → Option Int32) : ∀ (d v n x p : Nat), v + d = c → d < n → x ≤ 12 * v → p ≤ 12 * v → ∃ x' p', x' ≤ 120 ∧ p' ≤ 120 ∧ qI_property_7 σ k x1 kk n (nI x) (nI p) (nI v) = kk (nI x') (nI p') ∧ qM_ofImage_19 τ y2 (nI base) k2 n (nI x) (nI p) (nI v) = k2 (nI x') (nI p') := by
  intro d
  induction d with
  | zero =>
    intro v n x p h hn hx hp
    obtain ⟨m, rfl⟩ : ∃ m, n = m + 1 := ⟨n - 1, by omega⟩
    have hle : nI c ≤ nI v := (nI_leI (by omega) (by omega)).mpr (by omega)
    refine ⟨x, p, by omega, by omega, ?_, ?_⟩
    · rw [qI_property_7, c3, if_pos hle]
    · rw [qM_ofImage_19, gob_n (by omega) (by omega), nI_clamp (by omega), c4, if_pos hle]
  | succ d ih =>
    intro v n x p h hn hx hp
    obtain ⟨m, rfl⟩ : ∃ m, n = m + 1 := ⟨n - 1, by omega⟩
    have hle : ¬ nI c ≤ nI v := nle (by omega) (by omega)
    obtain ⟨s, s2, s3, s4, s5⟩ := c5 v (by omega)
    have e1 : nI base + (1 : Int32) + nI v = nI (base + 1 + v) := by
      rw [show (1 : Int32) = nI 1 from rfl, nI_add, nI_add]
    obtain ⟨y, a1, a2, a3, a4⟩ := img_in (σ := σ) (τ := τ) (k := k) (v := v) (s := s) (base := base) (by omega) s2 hb s3 s4 s5 x1 (nI (x + s)) y2 (nI (x + s)) (fun x7 => qI_property_7 σ k x1 kk m (nI (x + s)) x7 (nI (v + 1))) (fun x8 => qM_ofImage_19 τ y2 (nI base) k2 m (nI (x + s)) x8 (nI (v + 1))) s 0 8192 p (by omega) (by omega)
    rw [show nI 0 = (0 : Int32) from rfl] at a3 a4
    obtain ⟨x', p', b1, b2, b3, b4⟩ := ih (v + 1) m (x + s) y (by omega) (by omega) (by omega) (by omega)
    refine ⟨x', p', b1, b2, ?_, ?_⟩
    · rw [qI_property_7, c3, if_neg hle, y_size (by omega), b_s, s3, nI_add, nI1, a3]
      exact b3
    · rw [qM_ofImage_19, gob_n (by omega) (by omega), nI_clamp (by omega), c4, if_neg hle, e1, gob_n (by omega) (by omega), nI_clamp (by omega), s4, nI_add, nI1, a4]
      exact b4
theorem sim_image {n : Nat} {σ τ : gS} (h : Rel n σ τ) (a b : Int32) : ∃ r σ' τ', qF_image σ a b = some (r, σ') ∧ qM_image τ a b = some (r, τ') ∧ Rel (n + 1) σ' τ' := by
  obtain ⟨nb, ni, bu, sz, pl, sv, N, I, U, S, H, G, T, X⟩ := id h
  have hni := Rc_ni H
  unfold qF_image qM_image
  have bad : ∃ r σ' τ', ((qT_noted σ (-2)).bind fun r2 => some (r2.1, r2.2)) = some (r, σ') ∧ ((qM_bad τ).bind fun r2 => some (r2.1, r2.2)) = some (r, τ') ∧ Rel (n + 1) σ' τ' := by
    obtain ⟨σ', τ', b1, b2, b3⟩ := bad_c h
    rw [b1, b2]
    exact ⟨_, _, _, rfl, rfl, b3⟩
  rcases image_c H a with ⟨e1, e2⟩ | ⟨i, hi, rfl, e1, e2⟩
  · rw [e1, e2, if_pos z00, if_pos z00]; exact bad
  rw [e1, e2, if_neg n10, if_neg n10, a_image (by omega), b_s, g_imn (by omega)]
  obtain ⟨c, c1, c2, c3, c4, c5⟩ := H.2.2.2.2 i hi
  have c4 : gM τ 1 (171 + 131 * i) = nI c := c4
  have c6 : ∀ v, v < c → ∃ s, s ≤ 12 ∧ gM σ (11 + 3 * i + 1) v = nI s ∧ gM τ 1 (171 + 131 * i + 1 + v) = nI s ∧ ∀ j, j < s → gM σ (11 + 3 * i + 2) (v * 12 + j) = gM τ 1 (171 + 131 * i + 11 + 12 * v + j) := by
    intro v hv
    obtain ⟨s, s1, s2, s3, s4, s5⟩ := (c5 v (by omega)).1 hv
    refine ⟨s, s2, s3, ?_, fun j hj => ?_⟩
    · rw [show 171 + 131 * i + 1 + v = 171 + 131 * i + (1 + v) by omega]; exact s4
    · rw [show 171 + 131 * i + 11 + 12 * v + j = 171 + 131 * i + (11 + 12 * v + j) by omega]; exact (s5 j (by omega)).1 hj
  unfold qI_property qM_ofImage
  rw [imgix]
  obtain ⟨x', p', b1, b2, b3, b4⟩ := img_out (σ := σ) (τ := τ) (k := 11 + 3 * i) (base := 171 + 131 * i) (by omega) c2 c3 c4 c6 b b (fun x8 x9 => (if b = (0 : Int32) then some (gI σ (11 + 3 * i) 2) else if b = (1 : Int32) then some x8 else if b = (2 : Int32) then some x9 else some (-2 : Int32))) (fun x9 x10 => (if b = 0 then gob (nI (171 + 131 * i)) 1219 (some (gM τ 1 (nI (171 + 131 * i)).toNatClampNeg)) else (if b = (1 : Int32) then some x9 else some x10))) c 0 8192 0 0 (by omega) (by omega) (by omega) (by omega)
  rw [show nI 0 = (0 : Int32) from rfl] at b3 b4
  rw [b3, b4, gob_n (by omega) (by omega), nI_clamp (by omega), c3, c4]
  have good : ∀ (v : Nat), v < 2 ^ 31 → ∃ r σ' τ', ((some (nI v)).bind fun r1 => (qT_noted σ r1).bind fun r2 => some (r2.1, r2.2)) = some (r, σ') ∧ ((some (nI v)).bind fun r3 => some (r3, τ)) = some (r, τ') ∧ Rel (n + 1) σ' τ' := by
    intro v hv
    rw [b_s, b_s, noted_n hv]
    exact ⟨_, _, _, rfl, rfl, h.mono (by omega)⟩
  by_cases q0 : b = 0
  · subst q0
    rw [show qM_in 0 0 2 = 1 from rfl, if_neg n10, if_pos z00, if_pos z00]
    exact good c (by omega)
  by_cases q1 : b = 1
  · subst q1
    rw [show qM_in 1 0 2 = 1 from rfl, if_neg n10, if_neg n10, if_pos z11, if_neg n10, if_pos z11]
    exact good x' (by omega)
  by_cases q2 : b = 2
  · subst q2
    rw [show qM_in 2 0 2 = 1 from rfl, if_neg n10, if_neg n20, if_neg n21, if_pos z22, if_neg n20, if_neg n21]
    exact good p' (by omega)
  have hin : qM_in b 0 2 = 0 := by
    rw [q_in, if_neg]
    rintro ⟨d1, d2⟩
    rw [le_i, i0] at d1
    rw [le_i, i2] at d2
    rcases (show b.toInt = 0 ∨ b.toInt = 1 ∨ b.toInt = 2 by omega) with q | q | q
    · exact q0 (Int32.toInt_inj.mp (q.trans i0.symm))
    · exact q1 (Int32.toInt_inj.mp (q.trans i1.symm))
    · exact q2 (Int32.toInt_inj.mp (q.trans i2.symm))
  rw [hin, if_pos z00, if_neg q0, if_neg q1, if_neg q2, b_s]
  exact bad
