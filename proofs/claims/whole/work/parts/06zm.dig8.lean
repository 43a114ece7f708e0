theorem dg_img3 {σ τ : gS} {q c base : Nat} (hc : c ≤ 10) (hb : base + 131 ≤ 1219) (c3 : gI σ q 2 = nI c) (c4 : gM τ 1 base = nI c) (c6 : ∀ v, v < c → ∃ s, s ≤ 12 ∧ gM σ (q + 1) v = nI s ∧ gM τ 1 (base + 1 + v) = nI s ∧ ∀ j, j < s → gM σ (q + 2) (v * 12 + j) = gM τ 1 (base + 11 + 12 * v + j)) (k : Int64 → Option Int64) (k2 : gS → Option gS) : ∀ (d j f : Nat) (v : Int64), j + d = c → d < f → ∃ w, qF_digestOfImage_45 σ q k f v (nI j) = k w ∧ qM_mixImage_36 (nI base) k2 f (sL τ v) (nI j) = k2 (sL τ w) := by
  intro d
  induction d with
  | zero =>
    intro j f v e hf
    obtain ⟨m, rfl⟩ : ∃ m, f = m + 1 := ⟨f - 1, by omega⟩
    have hle : nI c ≤ nI j := (nI_leI (by omega) (by omega)).mpr (by omega)
    refine ⟨v, ?_, ?_⟩
    · rw [qF_digestOfImage_45, c3, if_pos hle]
    · rw [qM_mixImage_36, gob_n (by omega) (by omega), nI_clamp (by omega), show gM (sL τ v) 1 base = nI c from c4, if_pos hle]
  | succ d ih =>
    intro j f v e hf
    obtain ⟨m, rfl⟩ : ∃ m, f = m + 1 := ⟨f - 1, by omega⟩
    have hle : ¬ nI c ≤ nI j := nle (by omega) (by omega)
    obtain ⟨s, s1, s3, s4, s5⟩ := c6 j (by omega)
    obtain ⟨w, w1, w2⟩ := dg_img2 (σ := σ) (τ := τ) (show j < 10 by omega) s1 hb s3 s4 s5 (fun x9 => qF_digestOfImage_45 σ q k m x9 (nI (j + 1))) (fun σ11 => qM_mixImage_36 (nI base) k2 m σ11 (nI (j + 1))) s 0 8192 v (by omega) (by omega)
    rw [show nI 0 = (0 : Int32) from rfl] at w1 w2
    rw [qF_digestOfImage_45, c3, if_neg hle, nI1, w1, qM_mixImage_36, gob_n (by omega) (by omega), nI_clamp (by omega), show gM (sL τ v) 1 base = nI c from c4, if_neg hle, nI1, w2]
    exact ih (j + 1) m _ (by omega) (by omega)
theorem dg_image {n : Nat} {σ τ : gS} (h : Rel n σ τ) {nb ni bu : Nat} {sz : Nat → Nat} (H : Rc1 σ (gM τ 1) nb ni bu sz) {i : Nat} (hi : i < ni) (v : Int64) : ∃ w, qF_digestOfImage σ v (nI i) = some w ∧ qM_mixImage (sL τ v) (nI i) = some (sL τ w) := by
  have hni := Rc_ni H
  obtain ⟨c, c1, c2, c3, c4, c5⟩ := H.2.2.2.2 i hi
  have c4 : gM τ 1 (171 + 131 * i) = nI c := c4
  have c6 : ∀ v, v < c → ∃ s, s ≤ 12 ∧ gM σ (11 + 3 * i + 1) v = nI s ∧ gM τ 1 (171 + 131 * i + 1 + v) = nI s ∧ ∀ j, j < s → gM σ (11 + 3 * i + 2) (v * 12 + j) = gM τ 1 (171 + 131 * i + 11 + 12 * v + j) := by
    intro v hv
    obtain ⟨s, s1, s2, s3, s4, s5⟩ := (c5 v (by omega)).1 hv
    refine ⟨s, s2, s3, ?_, fun j hj => ?_⟩
    · rw [show 171 + 131 * i + 1 + v = 171 + 131 * i + (1 + v) by omega]; exact s4
    · rw [show 171 + 131 * i + 11 + 12 * v + j = 171 + 131 * i + (11 + 12 * v + j) by omega]; exact (s5 j (by omega)).1 hj
  obtain ⟨w1, a1, a2⟩ := dg_img1 h H hi (nI (171 + 131 * i)) (fun x4 => qF_digestOfImage_45 σ (11 + 3 * i) (fun x10 => some x10) 8192 x4 (0 : Int32)) (fun σ4 => qM_mixImage_36 (nI (171 + 131 * i)) (fun σ12 => some σ12) 8192 σ4 (0 : Int32)) 3 0 8192 v (by omega) (by omega)
  obtain ⟨w2, b1, b2⟩ := dg_img3 (σ := σ) (τ := τ) (q := 11 + 3 * i) c2 (show 171 + 131 * i + 131 ≤ 1219 by omega) c3 c4 c6 (fun x10 => some x10) (fun σ12 => some σ12) c 0 8192 w1 (by omega) (by omega)
  rw [show nI 0 = (0 : Int32) from rfl] at a1 a2 b1 b2
  refine ⟨w2, ?_, ?_⟩
  · unfold qF_digestOfImage
    rw [a_image (by omega), b_s, g_imn (by omega), a1, b1]
  · unfold qM_mixImage
    rw [imgix, a2, b2]
theorem dg_imgs {n : Nat} {σ τ : gS} (h : Rel n σ τ) {nb ni bu : Nat} {sz : Nat → Nat} (H : Rc1 σ (gM τ 1) nb ni bu sz) (k : Int64 → Option Int64) (k2 : gS → Option (Int64 × gS)) : ∀ (d j f : Nat) (v : Int64), j + d = ni → d < f → ∃ w, qF_digest_127 σ k f v (nI j) = k w ∧ qM_digest_170 k2 f (sL τ v) (nI j) = k2 (sL τ w) := by
  have hni := Rc_ni H
  have f0 : ∀ v, gM (sL τ v) 1 170 = nI ni := fun v => H.2.2.2.1.2.2.2.2.2.1
  intro d
  induction d with
  | zero =>
    intro j f v e hf
    obtain ⟨m, rfl⟩ : ∃ m, f = m + 1 := ⟨f - 1, by omega⟩
    have hle : nI ni ≤ nI j := (nI_leI (by omega) (by omega)).mpr (by omega)
    refine ⟨v, ?_, ?_⟩
    · rw [qF_digest_127, H.2.1, if_pos hle]
    · rw [qM_digest_170, f0, if_pos hle]
  | succ d ih =>
    intro j f v e hf
    obtain ⟨m, rfl⟩ : ∃ m, f = m + 1 := ⟨f - 1, by omega⟩
    have hle : ¬ nI ni ≤ nI j := nle (by omega) (by omega)
    obtain ⟨w1, a1, a2⟩ := dg_image h H (show j < ni by omega) v
    rw [qF_digest_127, H.2.1, if_neg hle, a1, b_s, nI1, qM_digest_170, f0, if_neg hle, a2, b_s, nI1]
    exact ih (j + 1) m _ (by omega) (by omega)
theorem sim_digest {n : Nat} {σ τ : gS} (h : Rel n σ τ) (hn : n ≤ 5000) : ∃ r τ', qF_digest σ = some r ∧ qM_digest τ = some (r, τ') ∧ Rel (n + 1) σ τ' := by
  obtain ⟨nb, ni, bu, sz, pl, sv, N, I, U, S, H, G, T, X⟩ := id h
  have hni := Rc_ni H
  have hnb := Rc_nb H
  obtain ⟨w1, a1, b1⟩ := dg_count h hn (fun x3 => qF_digest_30 σ (fun x6 => qF_digest_57 σ (fun x11 => qF_digest_101 σ (fun x14 => qF_digest_127 σ (fun x17 => some x17) 8192 x14 (0 : Int32)) 8192 x11 (0 : Int32)) 8192 x6 (0 : Int32)) 8192 x3 (1 : Int32)) (fun σ4 => qM_digest_33 (fun σ8 => qM_digest_58 (fun σ14 => qM_digest_96 (fun σ25 => qM_digest_170 (fun σ28 => some ((gL σ28), σ28)) 8192 σ25 (0 : Int32)) 8192 σ14 (0 : Int32)) 8192 σ8 (0 : Int32)) 8192 σ4 (1 : Int32)) 10 0 8192 2010 (by omega) (by omega)
  obtain ⟨w2, a2, b2⟩ := dg_reason h (fun x6 => qF_digest_57 σ (fun x11 => qF_digest_101 σ (fun x14 => qF_digest_127 σ (fun x17 => some x17) 8192 x14 (0 : Int32)) 8192 x11 (0 : Int32)) 8192 x6 (0 : Int32)) (fun σ8 => qM_digest_58 (fun σ14 => qM_digest_96 (fun σ25 => qM_digest_170 (fun σ28 => some ((gL σ28), σ28)) 8192 σ25 (0 : Int32)) 8192 σ14 (0 : Int32)) 8192 σ8 (0 : Int32)) 9 1 8192 w1 (by omega) (by omega) (by omega)
  obtain ⟨w3, a3, b3⟩ := dg_reg h (fun x11 => qF_digest_101 σ (fun x14 => qF_digest_127 σ (fun x17 => some x17) 8192 x14 (0 : Int32)) 8192 x11 (0 : Int32)) (fun σ14 => qM_digest_96 (fun σ25 => qM_digest_170 (fun σ28 => some ((gL σ28), σ28)) 8192 σ25 (0 : Int32)) 8192 σ14 (0 : Int32)) 6 0 8192 w2 (by omega) (by omega)
  obtain ⟨w4, a4, b4⟩ := dg_blk h H (fun x14 => qF_digest_127 σ (fun x17 => some x17) 8192 x14 (0 : Int32)) (fun σ25 => qM_digest_170 (fun σ28 => some ((gL σ28), σ28)) 8192 σ25 (0 : Int32)) nb 0 8192 w3 (by omega) (by omega)
  obtain ⟨w5, a5, b5⟩ := dg_imgs h H (fun x17 => some x17) (fun σ28 => some ((gL σ28), σ28)) ni 0 8192 w4 (by omega) (by omega)
  rw [show nI 0 = (0 : Int32) from rfl] at a1 b1 a3 b3 a4 b4 a5 b5
  rw [show nI 1 = (1 : Int32) from rfl] at a2 b2
  refine ⟨w5, sL τ w5, ?_, ?_, (h.sl w5).mono (by omega)⟩
  · unfold qF_digest
    rw [a1, a2, a3, a4, a5]
  · unfold qM_digest
    rw [b1, b2, b3, b4, b5]
    rfl
