/-! COUNT -/
theorem live_n {σ τ : gS} {nb ni bu : Nat} {sz : Nat → Nat} (H : Rc1 σ (gM τ 1) nb ni bu sz) (k k2 : Int32 → Option Int32) : ∀ (d j n x : Nat), j + d = nb → x ≤ j → d < n → ∃ y, y ≤ 10 ∧ qS_liveBlocks_4 σ k n (nI x) (nI j) = k (nI y) ∧ qM_livePieces_4 τ k2 n (nI x) (nI j) = k2 (nI y) := by
  have hnb := Rc_nb H
  have f0 : gM τ 1 0 = nI nb := H.2.2.2.1.2.2.2.2.1
  intro d
  induction d with
  | zero =>
    intro j n x h hx hn
    obtain ⟨m, rfl⟩ : ∃ m, n = m + 1 := ⟨n - 1, by omega⟩
    have hle : nI nb ≤ nI j := (nI_leI (by omega) (by omega)).mpr (by omega)
    refine ⟨x, by omega, ?_, ?_⟩
    · rw [qS_liveBlocks_4, H.1, if_pos hle]
    · rw [qM_livePieces_4, f0, if_pos hle]
  | succ d ih =>
    intro j n x h hx hn
    obtain ⟨m, rfl⟩ : ∃ m, n = m + 1 := ⟨n - 1, by omega⟩
    have hle : ¬ nI nb ≤ nI j := nle (by omega) (by omega)
    rw [qS_liveBlocks_4, H.1, if_neg hle, qM_livePieces_4, f0, if_neg hle, nI1, nI1, show nI x + (0 : Int32) = nI (x + 0) from nI_add x 0]
    rcases live_c H (show j < nb by omega) with ⟨l1, l2, -, -⟩ | ⟨l1, l2, -, -⟩
    · rw [l1, l2, b_s, b_s, if_pos z00, if_pos z00]
      exact ih (j + 1) m x (by omega) (by omega) (by omega)
    · rw [l1, l2, b_s, b_s, if_neg n10, if_neg n10]
      exact ih (j + 1) m (x + 1) (by omega) (by omega) (by omega)
theorem sum_c {σ : gS} {w : Nat → Nat} (h : ∀ k, 1 ≤ k → k ≤ 9 → gM σ 97 k = nI (w k)) : qT_ofAllReasons σ = some (nI (w 1 + w 2 + w 3 + w 4 + w 5 + w 6 + w 7 + w 8 + w 9)) := by
  have st : ∀ (n x v : Nat) (k : Int32 → Option Int32), 1 ≤ v → v ≤ 9 → qT_ofAllReasons_4 σ k (n + 1) (nI x) (nI v) = qT_ofAllReasons_4 σ k n (nI (x + w v)) (nI (v + 1)) := by
    intro n x v k h1 h2
    rw [qT_ofAllReasons_4, if_neg (show ¬ (9 : Int32) < nI v by rw [lt_i, i9, nI_toInt (by omega)]; omega), gob_n (by omega) (by omega), nI_clamp (by omega), h v h1 h2, nI_add, nI1]
  unfold qT_ofAllReasons
  rw [show (0 : Int32) = nI 0 from rfl, show (1 : Int32) = nI 1 from rfl, show (8192 : Nat) = 8182 + 1 + 1 + 1 + 1 + 1 + 1 + 1 + 1 + 1 + 1 from rfl, st _ _ 1 _ (by decide) (by decide), st _ _ 2 _ (by decide) (by decide), st _ _ 3 _ (by decide) (by decide), st _ _ 4 _ (by decide) (by decide), st _ _ 5 _ (by decide) (by decide), st _ _ 6 _ (by decide) (by decide), st _ _ 7 _ (by decide) (by decide), st _ _ 8 _ (by decide) (by decide), st _ _ 9 _ (by decide) (by decide), qT_ofAllReasons_4, if_pos (show (9 : Int32) < nI 10 by decide), Nat.zero_add]
theorem sim_count {n : Nat} {σ τ : gS} (h : Rel n σ τ) (hn : n ≤ 5000) (a : Int32) : ∃ r σ' τ', qF_count σ a = some (r, σ') ∧ qM_count τ a = some (r, τ') ∧ Rel (n + 1) σ' τ' := by
  obtain ⟨nb, ni, bu, sz, pl, sv, N, I, U, S, H, G, T, X⟩ := id h
  have hnb := Rc_nb H
  have hni := Rc_ni H
  unfold qF_count qM_count qF_counted
  have good : ∀ (v : Nat), v < 2 ^ 31 → ∀ x y : Option Int32, x = some (nI v) → y = some (nI v) → ∃ r σ' τ', (x.bind fun r1 => (qT_noted σ r1).bind fun r2 => some (r2.1, r2.2)) = some (r, σ') ∧ (y.bind fun r3 => some (r3, τ)) = some (r, τ') ∧ Rel (n + 1) σ' τ' := by
    intro v hv x y hx hy
    rw [hx, hy, b_s, noted_n hv]
    exact ⟨_, _, _, rfl, rfl, h.mono (by omega)⟩
  by_cases h1 : a.toInt < 0 ∨ 9 < a.toInt
  · have hne : ∀ k : Int32, 0 ≤ k.toInt → k.toInt ≤ 9 → ¬ a = k := fun k h2 h3 q => by rw [q] at h1; omega
    rw [in_no (lo := 0) (hi := 9) (by rw [i0, i9]; exact h1), if_pos z00, if_neg (hne 0 (by decide) (by decide)), if_neg (hne 1 (by decide) (by decide)), if_neg (hne 2 (by decide) (by decide)), if_neg (hne 3 (by decide) (by decide)), if_neg (hne 4 (by decide) (by decide)), if_neg (hne 5 (by decide) (by decide)), if_neg (hne 6 (by decide) (by decide)), if_neg (hne 7 (by decide) (by decide)), if_neg (hne 8 (by decide) (by decide)), if_neg (hne 9 (by decide) (by decide)), b_s]
    obtain ⟨σ', τ', b1, b2, b3⟩ := bad_c h
    rw [b1, b2]
    exact ⟨_, _, _, rfl, rfl, b3⟩
  rw [in_yes (lo := 0) (hi := 9) (by rw [i0]; omega) (by rw [i9]; omega), if_neg n10]
  obtain ⟨k, hk, rfl⟩ := nI_of (x := a) (by rw [lt_i, i0]; omega)
  rw [nI_toInt hk] at h1
  have ne : ∀ j : Nat, j < 10 → k ≠ j → ¬ nI k = nI j := fun j hj q e => q (nI_inj hk (by omega) e)
  obtain ⟨T1, w, w1, w2, w3⟩ := id T
  obtain ⟨t, x1, x2, x3, -⟩ := X
  have hbu := H.2.2.2.1.2.2.2.1
  have f0 : gM τ 1 0 = nI nb := H.2.2.2.1.2.2.2.2.1
  have f170 : gM τ 1 170 = nI ni := H.2.2.2.1.2.2.2.2.2.1
  have f169 : gM τ 1 169 = nI bu := H.2.2.2.1.2.2.2.2.2.2.1
  unfold qM_countOf
  rcases (show k = 0 ∨ k = 1 ∨ k = 2 ∨ k = 3 ∨ k = 4 ∨ k = 5 ∨ k = 6 ∨ k = 7 ∨ k = 8 ∨ k = 9 by omega) with rfl | rfl | rfl | rfl | rfl | rfl | rfl | rfl | rfl | rfl
  · exact good nb (by omega) _ _ (by rw [if_pos (show nI 0 = 0 from rfl), H.1]) (by rw [if_pos (show nI 0 = 0 from rfl), f0])
  · exact good ni (by omega) _ _ (by rw [if_neg (show ¬ nI 1 = 0 by decide), if_pos (show nI 1 = 1 from rfl), H.2.1]) (by rw [if_neg (show ¬ nI 1 = 0 by decide), if_pos (show nI 1 = 1 from rfl), f170])
  · obtain ⟨y, y1, y2, y3⟩ := live_n H (fun x4 => some x4) (fun x4 => some x4) nb 0 8192 0 (by omega) (by omega) (by omega)
    refine good y (by omega) _ _ ?_ ?_
    · rw [if_neg (show ¬ nI 2 = 0 by decide), if_neg (show ¬ nI 2 = 1 by decide), if_pos (show nI 2 = 2 from rfl)]
      unfold qS_liveBlocks
      rw [show (0 : Int32) = nI 0 from rfl, y2, b_s]
    · rw [if_neg (show ¬ nI 2 = 0 by decide), if_neg (show ¬ nI 2 = 1 by decide), if_pos (show nI 2 = 2 from rfl)]
      unfold qM_livePieces
      rw [show (0 : Int32) = nI 0 from rfl, y3, b_s]
  · exact good bu (by omega) _ _ (by rw [if_neg (show ¬ nI 3 = 0 by decide), if_neg (show ¬ nI 3 = 1 by decide), if_neg (show ¬ nI 3 = 2 by decide), if_pos (show nI 3 = 3 from rfl), H.2.2.1]) (by rw [if_neg (show ¬ nI 3 = 0 by decide), if_neg (show ¬ nI 3 = 1 by decide), if_neg (show ¬ nI 3 = 2 by decide), if_pos (show nI 3 = 3 from rfl), f169])
  · obtain ⟨c, c1, c2, c3⟩ := T1 0 (by decide)
    refine good c (by omega) _ _ ?_ ?_
    · rw [if_neg (show ¬ nI 4 = 0 by decide), if_neg (show ¬ nI 4 = 1 by decide), if_neg (show ¬ nI 4 = 2 by decide), if_neg (show ¬ nI 4 = 3 by decide), if_pos (show nI 4 = 4 from rfl)]
      exact congrArg some c2
    · rw [if_neg (show ¬ nI 4 = 0 by decide), if_neg (show ¬ nI 4 = 1 by decide), if_neg (show ¬ nI 4 = 2 by decide), if_neg (show ¬ nI 4 = 3 by decide), if_neg (show ¬ nI 4 = 7 by decide), if_neg (show ¬ nI 4 = 8 by decide), if_neg (show ¬ nI 4 = 9 by decide), show nI 4 - (4 : Int32) = nI 0 from by decide +kernel, gob_n (by omega) (by omega), nI_clamp (by omega)]
      exact congrArg some c3
  · obtain ⟨c, c1, c2, c3⟩ := T1 1 (by decide)
    refine good c (by omega) _ _ ?_ ?_
    · rw [if_neg (show ¬ nI 5 = 0 by decide), if_neg (show ¬ nI 5 = 1 by decide), if_neg (show ¬ nI 5 = 2 by decide), if_neg (show ¬ nI 5 = 3 by decide), if_neg (show ¬ nI 5 = 4 by decide), if_pos (show nI 5 = 5 from rfl)]
      exact congrArg some c2
    · rw [if_neg (show ¬ nI 5 = 0 by decide), if_neg (show ¬ nI 5 = 1 by decide), if_neg (show ¬ nI 5 = 2 by decide), if_neg (show ¬ nI 5 = 3 by decide), if_neg (show ¬ nI 5 = 7 by decide), if_neg (show ¬ nI 5 = 8 by decide), if_neg (show ¬ nI 5 = 9 by decide), show nI 5 - (4 : Int32) = nI 1 from by decide +kernel, gob_n (by omega) (by omega), nI_clamp (by omega)]
      exact congrArg some c3
  · obtain ⟨c, c1, c2, c3⟩ := T1 2 (by decide)
    refine good c (by omega) _ _ ?_ ?_
    · rw [if_neg (show ¬ nI 6 = 0 by decide), if_neg (show ¬ nI 6 = 1 by decide), if_neg (show ¬ nI 6 = 2 by decide), if_neg (show ¬ nI 6 = 3 by decide), if_neg (show ¬ nI 6 = 4 by decide), if_neg (show ¬ nI 6 = 5 by decide), if_pos (show nI 6 = 6 from rfl)]
      exact congrArg some c2
    · rw [if_neg (show ¬ nI 6 = 0 by decide), if_neg (show ¬ nI 6 = 1 by decide), if_neg (show ¬ nI 6 = 2 by decide), if_neg (show ¬ nI 6 = 3 by decide), if_neg (show ¬ nI 6 = 7 by decide), if_neg (show ¬ nI 6 = 8 by decide), if_neg (show ¬ nI 6 = 9 by decide), show nI 6 - (4 : Int32) = nI 2 from by decide +kernel, gob_n (by omega) (by omega), nI_clamp (by omega)]
      exact congrArg some c3
  · refine good (w 1 + w 2 + w 3 + w 4 + w 5 + w 6 + w 7 + w 8 + w 9) (by omega) _ _ ?_ ?_
    · rw [if_neg (show ¬ nI 7 = 0 by decide), if_neg (show ¬ nI 7 = 1 by decide), if_neg (show ¬ nI 7 = 2 by decide), if_neg (show ¬ nI 7 = 3 by decide), if_neg (show ¬ nI 7 = 4 by decide), if_neg (show ¬ nI 7 = 5 by decide), if_neg (show ¬ nI 7 = 6 by decide), if_pos (show nI 7 = 7 from rfl), sum_c (fun k h1 h2 => (w1 k h1 h2).1), b_s]
    · rw [if_neg (show ¬ nI 7 = 0 by decide), if_neg (show ¬ nI 7 = 1 by decide), if_neg (show ¬ nI 7 = 2 by decide), if_neg (show ¬ nI 7 = 3 by decide), if_pos (show nI 7 = 7 from rfl), w2]
  · exact good t (by omega) _ _ (by rw [if_neg (show ¬ nI 8 = 0 by decide), if_neg (show ¬ nI 8 = 1 by decide), if_neg (show ¬ nI 8 = 2 by decide), if_neg (show ¬ nI 8 = 3 by decide), if_neg (show ¬ nI 8 = 4 by decide), if_neg (show ¬ nI 8 = 5 by decide), if_neg (show ¬ nI 8 = 6 by decide), if_neg (show ¬ nI 8 = 7 by decide), if_pos (show nI 8 = 8 from rfl), x2]) (by rw [if_neg (show ¬ nI 8 = 0 by decide), if_neg (show ¬ nI 8 = 1 by decide), if_neg (show ¬ nI 8 = 2 by decide), if_neg (show ¬ nI 8 = 3 by decide), if_neg (show ¬ nI 8 = 7 by decide), if_pos (show nI 8 = 8 from rfl), x3])
  · exact good sv (by have := G.2.1; omega) _ _ (by rw [if_neg (show ¬ nI 9 = 0 by decide), if_neg (show ¬ nI 9 = 1 by decide), if_neg (show ¬ nI 9 = 2 by decide), if_neg (show ¬ nI 9 = 3 by decide), if_neg (show ¬ nI 9 = 4 by decide), if_neg (show ¬ nI 9 = 5 by decide), if_neg (show ¬ nI 9 = 6 by decide), if_neg (show ¬ nI 9 = 7 by decide), if_neg (show ¬ nI 9 = 8 by decide), if_pos (show nI 9 = 9 from rfl), G.2.2.2.1]) (by rw [if_neg (show ¬ nI 9 = 0 by decide), if_neg (show ¬ nI 9 = 1 by decide), if_neg (show ¬ nI 9 = 2 by decide), if_neg (show ¬ nI 9 = 3 by decide), if_neg (show ¬ nI 9 = 7 by decide), if_neg (show ¬ nI 9 = 8 by decide), if_pos (show nI 9 = 9 from rfl), G.2.2.2.2.1])
