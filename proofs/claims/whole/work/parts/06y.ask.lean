/-! QUERIES of blocks -/
theorem Rel.act {n : Nat} {σ τ σ' τ' : gS} {ni nb' ni' bu' pl sv : Nat} {sz' : Nat → Nat} {N I U : Nat → Nat} {S : Nat → Nat → Nat} (G : gRg σ τ ni pl sv N I U S) (T : gTl n σ τ) (X : gTx σ τ) (H' : Rc1 σ' (gM τ' 1) nb' ni' bu' sz') (hn : ni ≤ ni') (F : FX ni σ σ') (M : FM τ τ') : Rel n σ' τ' :=
  ⟨nb', ni', bu', sz', pl, sv, N, I, U, S, H', G.fx F hn (M.1 3 (by decide)) (funext fun i => M.2 3 i (by decide) (by decide) (by decide) (by decide)), T.cg (fun j => F.1 96 j (by decide)) (funext fun i => F.2.1 97 i (by decide)) (funext fun i => M.2 4 i (by decide) (by decide) (by decide) (by decide)) (funext fun i => M.2 5 i (by decide) (by decide) (by decide) (by decide)), X.cg (F.1 42 3 (by decide)) (fun i => F.2.1 43 i (by decide)) (M.1 7 (by decide)) (fun i => M.2 6 i (by decide) (by decide) (by decide) (by decide))⟩
theorem pred_i {m : Nat} (h : m < 2 ^ 31) : (nI m - (1 : Int32)).toInt = (m : Int) - 1 := by
  rw [Int32.toInt_sub, i1, nI_toInt h]
  exact Int.bmod_eq_of_le (by omega) (by omega)
theorem block_c {σ τ : gS} {nb ni bu : Nat} {sz : Nat → Nat} (H : Rc1 σ (gM τ 1) nb ni bu sz) (a : Int32) : (qS_isBlock σ a = 0 ∧ qM_isPiece τ a = 0) ∨ ∃ p, p < nb ∧ a = nI p ∧ qS_isBlock σ a = 1 ∧ qM_isPiece τ a = 1 := by
  have hnb := Rc_nb H
  have f0 : gM τ 1 0 = nI nb := H.2.2.2.1.2.2.2.2.1
  unfold qS_isBlock qM_isPiece
  rw [H.1, f0]
  rcases n_cases a nb (by omega) with ⟨p, hp, rfl⟩ | h | h
  · refine Or.inr ⟨p, hp, rfl, ?_, ?_⟩
    · rw [if_neg (nlt0 (by omega)), if_neg (nle (by omega) (by omega)), if_neg (nl10 (by omega))]
    · exact in_yes (by rw [i0, nI_toInt (by omega)]; omega) (by rw [pred_i (by omega), nI_toInt (by omega)]; omega)
  · refine Or.inl ⟨by rw [if_pos h], ?_⟩
    rw [lt_i, i0] at h
    exact in_no (Or.inl (by rw [i0]; exact h))
  · refine Or.inl ⟨?_, ?_⟩
    · by_cases q : a < 0
      · rw [if_pos q]
      · rw [if_neg q, if_pos h]
    · rw [le_i, nI_toInt (by omega)] at h
      exact in_no (Or.inr (by rw [pred_i (by omega)]; omega))
theorem cnt_u {σ τ : gS} {nb ni bu : Nat} {sz : Nat → Nat} (H : Rc1 σ (gM τ 1) nb ni bu sz) {p : Nat} (hp : p < nb) (k k2 : Int32 → Option Int32) : ∀ (d j n x : Nat), j + d = sz p → x ≤ j → d < n → ∃ y, y ≤ 12 ∧ qS_uninitializedIn_4 σ (nI p) k n (nI x) (nI j) = k (nI y) ∧ qM_bytesOf_5 τ (nI p) 0 k2 n (nI x) (nI j) = k2 (nI y) := by
  have hnb := Rc_nb H
  have hs := (Rc_blk H hp).2.1
  have B := gBk.st H hp
  have z1 : gM σ 5 p = nI (sz p) := (Rc_blk H hp).2.2.1
  have z2 : gM τ 1 (1 + 15 * p) = nI (sz p) := (Rc_blk H hp).2.2.2.1
  intro d
  induction d with
  | zero =>
    intro j n x h hx hn
    obtain ⟨m, rfl⟩ : ∃ m, n = m + 1 := ⟨n - 1, by omega⟩
    have hle : nI (sz p) ≤ nI j := (nI_leI (by omega) (by omega)).mpr (by omega)
    refine ⟨x, by omega, ?_, ?_⟩
    · rw [qS_uninitializedIn_4, x_size (by omega), b_s, z1, if_pos hle]
    · rw [qM_bytesOf_5, m_size (by omega), b_s, z2, if_pos hle]
  | succ d ih =>
    intro j n x h hx hn
    obtain ⟨m, rfl⟩ : ∃ m, n = m + 1 := ⟨n - 1, by omega⟩
    have hle : ¬ nI (sz p) ≤ nI j := nle (by omega) (by omega)
    have cell : qS_cellAt σ (nI p) (nI j) = some (gM τ 1 (1 + 15 * p + 3 + j)) := B.cell (by omega) (by omega) hs
    rw [qS_uninitializedIn_4, x_size (by omega), b_s, z1, if_neg hle, cell, b_s, qM_bytesOf_5, m_size (by omega), b_s, z2, if_neg hle, m_bp, gob_n (by omega) (by omega), nI_clamp (by omega), if_pos z00, nI1, nI1, show nI x + (0 : Int32) = nI (x + 0) from nI_add x 0]
    by_cases q : gM τ 1 (1 + 15 * p + 3 + j) = -1
    · rw [if_pos q, if_pos q]
      exact ih (j + 1) m (x + 1) (by omega) (by omega) (by omega)
    · rw [if_neg q, if_neg q]
      exact ih (j + 1) m x (by omega) (by omega) (by omega)
theorem cnt_p {σ τ : gS} {nb ni bu : Nat} {sz : Nat → Nat} (H : Rc1 σ (gM τ 1) nb ni bu sz) {p : Nat} (hp : p < nb) (k k2 : Int32 → Option Int32) : ∀ (d j n x : Nat), j + d = sz p → x ≤ j → d < n → ∃ y, y ≤ 12 ∧ qS_pointersIn_4 σ (nI p) k n (nI x) (nI j) = k (nI y) ∧ qM_bytesOf_5 τ (nI p) 1 k2 n (nI x) (nI j) = k2 (nI y) := by
  have hnb := Rc_nb H
  have hs := (Rc_blk H hp).2.1
  have B := gBk.st H hp
  have z1 : gM σ 5 p = nI (sz p) := (Rc_blk H hp).2.2.1
  have z2 : gM τ 1 (1 + 15 * p) = nI (sz p) := (Rc_blk H hp).2.2.2.1
  intro d
  induction d with
  | zero =>
    intro j n x h hx hn
    obtain ⟨m, rfl⟩ : ∃ m, n = m + 1 := ⟨n - 1, by omega⟩
    have hle : nI (sz p) ≤ nI j := (nI_leI (by omega) (by omega)).mpr (by omega)
    refine ⟨x, by omega, ?_, ?_⟩
    · rw [qS_pointersIn_4, x_size (by omega), b_s, z1, if_pos hle]
    · rw [qM_bytesOf_5, m_size (by omega), b_s, z2, if_pos hle]
  | succ d ih =>
    intro j n x h hx hn
    obtain ⟨m, rfl⟩ : ∃ m, n = m + 1 := ⟨n - 1, by omega⟩
    have hle : ¬ nI (sz p) ≤ nI j := nle (by omega) (by omega)
    have cell : qS_cellAt σ (nI p) (nI j) = some (gM τ 1 (1 + 15 * p + 3 + j)) := B.cell (by omega) (by omega) hs
    rw [qS_pointersIn_4, x_size (by omega), b_s, z1, if_neg hle, cell, b_s, q_ptr, qM_bytesOf_5, m_size (by omega), b_s, z2, if_neg hle, m_bp, gob_n (by omega) (by omega), nI_clamp (by omega), if_neg n10, nI1, nI1, show nI x + (0 : Int32) = nI (x + 0) from nI_add x 0]
    by_cases q : gM τ 1 (1 + 15 * p + 3 + j) < 1000
    · rw [if_pos q, if_pos q, if_pos z00]
      exact ih (j + 1) m x (by omega) (by omega) (by omega)
    · rw [if_neg q, if_neg q, if_neg n10]
      exact ih (j + 1) m (x + 1) (by omega) (by omega) (by omega)
theorem byte_n {nb : Nat} {sz : Nat → Nat} (hnb : nb ≤ 10) (hsz : ∀ b, b < nb → sz b ≤ 12) {x : Int32} (h : cOk nb sz x) : x = -1 ∨ ∃ m, m < 2 ^ 31 ∧ x = nI m := by
  rcases h with rfl | ⟨v, hv, rfl⟩ | rfl | ⟨b, q, hb, hq, rfl⟩
  · exact Or.inl rfl
  · exact Or.inr ⟨v, by omega, rfl⟩
  · exact Or.inr ⟨999, by decide, rfl⟩
  · have := hsz b hb
    exact Or.inr ⟨1000 + 100 * b + q, by omega, rfl⟩
theorem sim_at {n : Nat} {σ τ : gS} (h : Rel n σ τ) (a b : Int32) : ∃ r σ' τ', qF_at σ a b = some (r, σ') ∧ qM_at τ a b = some (r, τ') ∧ Rel (n + 1) σ' τ' := by
  obtain ⟨nb, ni, bu, sz, pl, sv, N, I, U, S, H, G, T, X⟩ := id h
  have hnb := Rc_nb H
  have hszs : ∀ b, b < nb → sz b ≤ 12 := fun b hb => (Rc_blk H hb).2.1
  unfold qF_at qM_at
  have bad : ∃ r σ' τ', ((qT_noted σ (-2)).bind fun r2 => some (r2.1, r2.2)) = some (r, σ') ∧ ((qM_bad τ).bind fun r2 => some (r2.1, r2.2)) = some (r, τ') ∧ Rel (n + 1) σ' τ' := by
    obtain ⟨σ', τ', b1, b2, b3⟩ := bad_c h
    rw [b1, b2]
    exact ⟨_, _, _, rfl, rfl, b3⟩
  rcases block_c H a with ⟨e1, e2⟩ | ⟨p, hp, rfl, e1, e2⟩
  · rw [e1, e2, if_pos z00, if_pos z00]; exact bad
  have hs := hszs p hp
  rw [e1, e2, if_neg n10, if_neg n10, m_size (by omega), b_s, show gM τ 1 (1 + 15 * p) = nI (sz p) from (Rc_blk H hp).2.2.2.1]
  by_cases h1 : b.toInt < 0
  · rw [if_pos (show b < 0 by rw [lt_i, i0]; exact h1), in_no (lo := 0) (Or.inl (by rw [i0]; exact h1)), if_pos z00]; exact bad
  rw [if_neg (show ¬ b < 0 by rw [lt_i, i0]; exact h1), x_size (by omega), b_s, (Rc_blk H hp).2.2.1]
  obtain ⟨j, hj, rfl⟩ := nI_of (x := b) (by rw [lt_i, i0]; exact h1)
  by_cases h2 : j < sz p
  case neg =>
    rw [if_pos ((nI_leI (by omega) hj).mpr (by omega)), in_no (lo := 0) (Or.inr (by rw [pred_i (by omega), nI_toInt hj]; omega)), if_pos z00]; exact bad
  rw [if_neg (nle h2 (by omega)), (gBk.st H hp).cell (by omega) h2 hs, b_s, in_yes (lo := 0) (by rw [i0, nI_toInt hj]; omega) (by rw [pred_i (by omega), nI_toInt hj]; omega), if_neg n10, m_bp, gob_n (by omega) (by omega), nI_clamp (by omega)]
  obtain ⟨t1, t2⟩ := told_c h (byte_n hnb hszs (g_bok H hp j h2).1)
  rw [t1]
  exact ⟨_, _, _, rfl, rfl, t2⟩
