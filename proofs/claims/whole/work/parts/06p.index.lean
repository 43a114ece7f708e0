/-! FREEZE -/
theorem rowix (i v : Nat) : (171 : Int32) + (131 : Int32) * nI i + nI v = nI (171 + 131 * i + v) := by
  rw [show (171 : Int32) = nI 171 from rfl, show (131 : Int32) = nI 131 from rfl, nI_mul, nI_add, nI_add]
theorem same_m {τ : gS} {i : Nat} (hi : i < 8) (kk : Int32 → Option Int32) : ∀ (d v n : Nat), v + d = 131 → d + 1 < n → ((∀ j, v ≤ j → j < 131 → gM τ 1 (171 + 131 * i + j) = gM τ 9 j) ∧ qM_imageLaid_18 τ (nI i) kk n 1 (nI v) = kk 1) ∨ ((∃ j, j < 131 ∧ ¬ gM τ 1 (171 + 131 * i + j) = gM τ 9 j) ∧ qM_imageLaid_18 τ (nI i) kk n 1 (nI v) = kk 0) := by
  intro d
  induction d with
  | zero =>
    intro v n h hn
    obtain ⟨m, rfl⟩ : ∃ m, n = m + 1 := ⟨n - 1, by omega⟩
    refine Or.inl ⟨fun i h1 h2 => by omega, ?_⟩
    rw [qM_imageLaid_18, if_pos (show (131 : Int32) ≤ nI v from (nI_leI (a := 131) (by omega) (by omega)).mpr (by omega))]
  | succ d ih =>
    intro v n h hn
    obtain ⟨m, rfl⟩ : ∃ m, n = m + 1 := ⟨n - 1, by omega⟩
    rw [qM_imageLaid_18, if_neg (show ¬ (131 : Int32) ≤ nI v from nle (a := 131) (by omega) (by omega)), if_neg n10, rowix, gob_n (by omega) (by omega), gob_n (by omega) (by omega), nI_clamp (by omega), nI_clamp (by omega)]
    by_cases q : gM τ 1 (171 + 131 * i + v) = gM τ 9 v
    · rw [if_pos q, nI1]
      rcases ih (v + 1) m (by omega) (by omega) with ⟨a, b⟩ | ⟨a, b⟩
      · refine Or.inl ⟨fun j h1 h2 => ?_, b⟩
        by_cases w : j = v
        · rw [w]; exact q
        · exact a j (by omega) h2
      · exact Or.inr ⟨a, b⟩
    · rw [if_neg q, nI1]
      refine Or.inr ⟨⟨v, by omega, q⟩, ?_⟩
      obtain ⟨m', rfl⟩ : ∃ m', m = m' + 1 := ⟨m - 1, by omega⟩
      rw [qM_imageLaid_18]
      by_cases w : (131 : Int32) ≤ nI (v + 1)
      · rw [if_pos w]
      · rw [if_neg w, if_pos z00]
theorem index_c {σ τ : gS} {ni : Nat} (hni : ni ≤ 8) (g8 : gI σ 1 8 = nI ni) (f170 : gM τ 1 170 = nI ni) (A : Rims σ ni (gM τ 1)) (B : Rim σ (11 + 3 * ni) (gM τ 9)) (k k2 : Unit → Option Int32) : ∀ (d v n : Nat), v + d = ni → d < n →
    (qA_indexOfDrawn_11 σ (11 + 3 * ni) k n (nI v) = k () ∧ qM_imageLaid_2 τ k2 n (nI v) = k2 ()) ∨ ∃ i, i < ni ∧ qA_indexOfDrawn_11 σ (11 + 3 * ni) k n (nI v) = some (nI i) ∧ qM_imageLaid_2 τ k2 n (nI v) = some (nI i) := by
  intro d
  induction d with
  | zero =>
    intro v n h hn
    obtain ⟨m, rfl⟩ : ∃ m, n = m + 1 := ⟨n - 1, by omega⟩
    have hle : nI ni ≤ nI v := (nI_leI (by omega) (by omega)).mpr (by omega)
    refine Or.inl ⟨?_, ?_⟩
    · rw [qA_indexOfDrawn_11, g8, if_pos hle]
    · rw [qM_imageLaid_2, f170, if_pos hle]
  | succ d ih =>
    intro v n h hn
    obtain ⟨m, rfl⟩ : ∃ m, n = m + 1 := ⟨n - 1, by omega⟩
    have hle : ¬ nI ni ≤ nI v := nle (by omega) (by omega)
    rw [qA_indexOfDrawn_11, g8, if_neg hle, a_image (by omega), b_s, g_imn (by omega)]
    rw [qM_imageLaid_2, f170, if_neg hle]
    have hv := A v (by omega)
    have iff := same_iff hv B
    obtain ⟨c, c1, c2, c3, -⟩ := id hv
    rcases same_m (τ := τ) (i := v) (by omega) (fun x7 => (if x7 = 0 then qM_imageLaid_2 τ k2 m (nI v + 1) else some (nI v))) 131 0 8192 (by omega) (by omega) with ⟨a1, a2⟩ | ⟨⟨j, j1, j2⟩, a2⟩
    · rw [show nI 0 = (0 : Int32) from rfl] at a2
      rw [a2, if_neg n10]
      rcases same_x (k' := 11 + 3 * ni) c2 c3 with ⟨b1, b2⟩ | ⟨b1, b2⟩
      · rw [b2, b_s, if_neg n10]
        exact Or.inr ⟨v, by omega, rfl, rfl⟩
      · exact absurd (iff.mpr fun j hj => a1 j (Nat.zero_le _) hj) b1
    · rw [show nI 0 = (0 : Int32) from rfl] at a2
      rw [a2, if_pos z00]
      rcases same_x (k' := 11 + 3 * ni) c2 c3 with ⟨b1, b2⟩ | ⟨b1, b2⟩
      · exact absurd (iff.mp b1 j j1) j2
      · rw [b2, b_s, if_pos z00, nI1]
        exact ih (v + 1) m (by omega) (by omega)
theorem found_c {σ τ : gS} {nb ni bu : Nat} {sz : Nat → Nat} (H : Rc1 σ (gM τ 1) nb ni bu sz) (B : Rim σ (11 + 3 * ni) (gM τ 9)) :
    (qA_indexOfDrawn σ = some (nI ni) ∧ qM_imageLaid τ = some (-1)) ∨ ∃ i, i < ni ∧ qA_indexOfDrawn σ = some (nI i) ∧ qM_imageLaid τ = some (nI i) := by
  have hni := Rc_ni H
  unfold qA_indexOfDrawn qM_imageLaid
  rw [H.2.1, a_image (by omega), b_s, g_imn (by omega)]
  have := index_c hni H.2.1 (H.2.2.2.1.2.2.2.2.2.1) H.2.2.2.2 B (fun _ => some (nI ni)) (fun _ => some (-1 : Int32)) ni 0 8192 (by omega) (by omega)
  rw [show nI 0 = (0 : Int32) from rfl] at this
  exact this
/-- the blocks of the walk are constant from now on -/
theorem mark_c {nb ni bu c : Nat} {sz l : Nat → Nat} {f3 : Int32} (k : gS → Option gS) (k2 : gS → Option (Int32 × gS)) : ∀ (d v n : Nat) (σ τ : gS), Rc1 σ (gM τ 1) nb ni bu sz → gRR σ τ nb c l → v + d = c → d < n →
    ∃ σ' τ', qA_markReachedConstant_2 k n σ (nI v) = k σ' ∧ qM_freezes_154 f3 k2 n τ (nI v) = k2 τ' ∧ Rc1 σ' (gM τ' 1) nb ni bu sz ∧ ((∀ a j, gI σ' a j = gI σ a j) ∧ ∀ a, a ≠ 7 → gM σ' a = gM σ a) ∧ ((∀ a j, gI τ' a j = gI τ a j) ∧ (∀ a, a ≠ 1 → gM τ' a = gM τ a) ∧ ∀ i, 151 ≤ i → gM τ' 1 i = gM τ 1 i) := by
  intro d
  induction d with
  | zero =>
    intro v n σ τ H R h hn
    obtain ⟨m, rfl⟩ : ∃ m, n = m + 1 := ⟨n - 1, by omega⟩
    have hc := R.1
    have hle : nI c ≤ nI v := (nI_leI (by omega) (by omega)).mpr (by omega)
    refine ⟨σ, τ, ?_, ?_, H, ⟨fun _ _ => rfl, fun _ _ => rfl⟩, ⟨fun _ _ => rfl, fun _ _ => rfl, fun _ _ => rfl⟩⟩
    · rw [qA_markReachedConstant_2, R.2.1, if_pos hle]
    · rw [qM_freezes_154, R.2.2.1, if_pos hle]
  | succ d ih =>
    intro v n σ τ H R h hn
    obtain ⟨m, rfl⟩ : ∃ m, n = m + 1 := ⟨n - 1, by omega⟩
    have hc := R.1
    have hnb := Rc_nb H
    have hni := Rc_ni H
    have hle : ¬ nI c ≤ nI v := nle (by omega) (by omega)
    obtain ⟨r1, r2, r3, r4⟩ := R.2.2.2.1 v (by omega)
    have hq : FQ σ (sM σ 7 (l v) 1) := ⟨fun _ _ _ _ => rfl, fun k i h _ _ _ => by rw [gMs_n (by omega)]⟩
    have H1 : Rc1 (sM σ 7 (l v) 1) (gM (sM τ 1 (1 + 15 * l v + 2) 1) 1) nb ni bu sz := by
      refine Rc1_blk H hq r1 rfl rfl rfl (gMs_n (by decide)) (gMs_n (by decide)) (gMs_n (by decide)) (fun q hq => ⟨by rw [gMs_n (by decide)], by rw [gMs_n (by decide)], by rw [gMs_s, upd_n hq]⟩) (fun q j hq hj => by rw [gMs_n (by decide)]) (fun i hi => by rw [gMs_s, upd_n (by omega)]) ?_
      obtain ⟨q1, q2, q3, q4, q5, q6, q7, q8⟩ := Rc_blk H r1
      rw [gMs_n (show 5 ≠ 7 by decide), gMs_s, upd_s, gMs_n (show 6 ≠ 7 by decide), gMs_n (show 8 ≠ 7 by decide), gMs_s]
      have hh : ∀ j, j ≠ 2 → upd (gM τ 1) (1 + 15 * l v + 2) 1 (1 + 15 * l v + j) = gM τ 1 (1 + 15 * l v + j) := fun j hj => upd_n (by omega)
      refine ⟨q1, q2, q3, (hh 0 (by decide)).trans q4, ?_, ⟨1, by decide, rfl, upd_s _ _ _⟩, ?_, ?_⟩
      · obtain ⟨a, a1, a2, a3⟩ := q5
        exact ⟨a, a1, a2, (hh 1 (by decide)).trans a3⟩
      · intro j hj
        have := q7 j hj
        show gM σ 8 (l v * 12 + j) = if j < sz (l v) then upd (gM τ 1) (1 + 15 * l v + 2) 1 (1 + 15 * l v + (3 + j)) else -1
        rw [hh (3 + j) (by omega)]
        exact this
      · have : (fun j => upd (gM τ 1) (1 + 15 * l v + 2) 1 (1 + 15 * l v + (3 + j))) = fun j => gM τ 1 (1 + 15 * l v + (3 + j)) := by
          funext j; exact hh (3 + j) (by omega)
        show bOk nb sz (sz (l v)) (fun j => upd (gM τ 1) (1 + 15 * l v + 2) 1 (1 + 15 * l v + (3 + j)))
        rw [this]; exact q8
    have R1 : gRR (sM σ 7 (l v) 1) (sM τ 1 (1 + 15 * l v + 2) 1) nb c l := by
      unfold gRR
      rw [gMs_n (show 38 ≠ 7 by decide), gMs_n (show 39 ≠ 7 by decide), gMs_n (show 8 ≠ 1 by decide)]
      exact R
    obtain ⟨σ2, τ2, t1, t2, t3, t4, t5⟩ := ih (v + 1) m _ _ H1 R1 (by omega) (by omega)
    refine ⟨σ2, τ2, ?_, ?_, t3, ⟨fun a j => t4.1 a j, fun a ha => by rw [t4.2 a ha, gMs_n ha]⟩, ⟨fun a j => t5.1 a j, fun a ha => by rw [t5.2.1 a ha, gMs_n ha], fun i hi => by rw [t5.2.2 i hi, gMs_s, upd_n (by omega)]⟩⟩
    · rw [qA_markReachedConstant_2, R.2.1, if_neg hle, if_neg (nl10 (by omega)), gob_n (by omega) (by omega), nI_clamp (by omega), r2, x_markC (by omega), b_s, nI1]
      exact t1
    · rw [qM_freezes_154, R.2.2.1, if_neg hle, gob_n (by omega) (by omega), nI_clamp (by omega), r3, m_pp, nI2, gob_n (by omega) (by omega), nI_clamp (by omega), nI1]
      exact t2
theorem lay_row {ni : Nat} (hni : ni < 8) (k : gS → Option (Int32 × gS)) : ∀ (d v n : Nat) (τ : gS), v + d = 131 → d < n → ∃ τ', qM_freezes_101 (nI ni) k n τ (nI v) = k τ' ∧ (∀ a j, gI τ' a j = gI τ a j) ∧ (∀ a, a ≠ 1 → gM τ' a = gM τ a) ∧ ∀ i, gM τ' 1 i = if 171 + 131 * ni + v ≤ i ∧ i < 171 + 131 * ni + 131 then gM τ 9 (i - (171 + 131 * ni)) else gM τ 1 i := by
  intro d
  induction d with
  | zero =>
    intro v n σ h hn
    obtain ⟨m, rfl⟩ : ∃ m, n = m + 1 := ⟨n - 1, by omega⟩
    refine ⟨σ, ?_, fun _ _ => rfl, fun _ _ => rfl, fun i => by rw [if_neg (by omega)]⟩
    rw [qM_freezes_101, if_pos (show (131 : Int32) ≤ nI v from (nI_leI (a := 131) (by omega) (by omega)).mpr (by omega))]
  | succ d ih =>
    intro v n σ h hn
    obtain ⟨m, rfl⟩ : ∃ m, n = m + 1 := ⟨n - 1, by omega⟩
    obtain ⟨σ', e, g1, g2, g3⟩ := ih (v + 1) m (sM σ 1 (171 + 131 * ni + v) (gM σ 9 v)) (by omega) (by omega)
    refine ⟨σ', ?_, fun a j => g1 a j, fun a ha => by rw [g2 a ha, gMs_n ha], fun i => ?_⟩
    · rw [qM_freezes_101, if_neg (show ¬ (131 : Int32) ≤ nI v from nle (a := 131) (by omega) (by omega)), rowix, gob_n (by omega) (by omega), gob_n (by omega) (by omega), nI_clamp (by omega), nI_clamp (by omega), nI1]
      exact e
    · rw [g3, gMs_s, gMs_n (show 9 ≠ 1 by decide)]
      by_cases h1 : i = 171 + 131 * ni + v
      · subst h1
        rw [if_neg (by omega), if_pos (by omega), upd_s, show 171 + 131 * ni + v - (171 + 131 * ni) = v by omega]
      · rw [upd_n h1]
        by_cases h2 : 171 + 131 * ni + (v + 1) ≤ i ∧ i < 171 + 131 * ni + 131
        · rw [if_pos h2, if_pos (by omega)]
        · rw [if_neg h2, if_neg (by omega)]
