theorem back_l {s : Nat} (hs : s < 5) (k : gS → Option (Int32 × gS)) : ∀ (d v n : Nat) (τ : gS), gI τ 0 3 = nI s → v + d = 1219 → d < n → ∃ τ', qM_back_32 k n τ (nI v) = k τ' ∧ (∀ a j, gI τ' a j = gI τ a j) ∧ (∀ a, a ≠ 1 → gM τ' a = gM τ a) ∧ ∀ i, gM τ' 1 i = if v ≤ i ∧ i < 1219 then gM τ 3 (1219 * s + i) else gM τ 1 i := by
  intro d
  induction d with
  | zero =>
    intro v n σ _ h hn
    obtain ⟨m, rfl⟩ : ∃ m, n = m + 1 := ⟨n - 1, by omega⟩
    refine ⟨σ, ?_, fun _ _ => rfl, fun _ _ => rfl, fun i => by rw [if_neg (by omega)]⟩
    rw [qM_back_32, if_pos (show (1219 : Int32) ≤ nI v from (nI_leI (a := 1219) (by omega) (by omega)).mpr (by omega))]
  | succ d ih =>
    intro v n σ h0 h hn
    obtain ⟨m, rfl⟩ : ∃ m, n = m + 1 := ⟨n - 1, by omega⟩
    obtain ⟨σ', e, g1, g2, g3⟩ := ih (v + 1) m (sM σ 1 v (gM σ 3 (1219 * s + v))) h0 (by omega) (by omega)
    refine ⟨σ', ?_, fun a j => g1 a j, fun a ha => by rw [g2 a ha, gMs_n ha], fun i => ?_⟩
    · rw [qM_back_32, if_neg (show ¬ (1219 : Int32) ≤ nI v from nle (a := 1219) (by omega) (by omega)), h0, past_ix, gob_n (by omega) (by omega), gob_n (by omega) (by omega), nI_clamp (by omega), nI_clamp (by omega), nI1]
      exact e
    · rw [g3, gMs_s, gMs_n (show 3 ≠ 1 by decide)]
      by_cases h1 : i = v
      · subst h1
        rw [if_neg (by omega), if_pos (by omega), upd_s]
      · rw [upd_n h1]
        by_cases h2 : v + 1 ≤ i ∧ i < 1219
        · rw [if_pos h2, if_pos (by omega)]
        · rw [if_neg h2, if_neg (by omega)]
theorem sim_back {n : Nat} {σ τ : gS} (h : Rel n σ τ) : ∃ r σ' τ', qF_back σ = some (r, σ') ∧ qM_back τ = some (r, τ') ∧ Rel (n + 1) σ' τ' := by
  obtain ⟨nb, ni, bu, sz, pl, sv, N, I, U, S, H, G, T, X⟩ := id h
  obtain ⟨g1, g2, g3, g4, g5, g6⟩ := id G
  unfold qF_back qM_back qH_bringBack
  by_cases h0 : sv = 0
  · subst h0
    rw [g4, g5, if_pos (show nI 0 = 0 from rfl), if_pos (show nI 0 = 0 from rfl), b_s]
    exact ⟨_, _, _, rfl, rfl, bump_c h (k := 1) (by decide)⟩
  · have hne : ¬ nI sv = 0 := nI_ne0 (by omega) (by omega)
    have hni := Rc_ni H
    have ep : (gI σ 46 1 + (6 : Int32) - (1 : Int32)) - (gI σ 46 1 + (6 : Int32) - (1 : Int32)) / (6 : Int32) * (6 : Int32) = nI ((pl + 5) % 6) := by
      have e : gI σ 46 1 + (6 : Int32) - (1 : Int32) = nI (pl + 5) := by
        rw [g3, show (6 : Int32) = nI 6 from rfl, show (1 : Int32) = nI 1 from rfl, nI_add, nI_sub (by omega)]
        exact congrArg nI (by omega)
      rw [e, show (6 : Int32) = nI 6 from rfl, pk_rem (by omega) (by decide) (by decide)]
    have es : nI sv - (1 : Int32) = nI (sv - 1) := by rw [show (1 : Int32) = nI 1 from rfl, nI_sub (by omega)]
    rw [ep, show gI (sI σ 46 1 (nI ((pl + 5) % 6))) 46 2 = nI sv by rw [gI_sI, if_neg (by omega)]; exact g4, es, g4, g5, if_neg hne, if_neg hne, es]
    rw [wait_c (pl := (pl + 5) % 6) (Nat.mod_lt _ (by decide)) (by rw [gI_sI, if_neg (by omega), gI_sI, if_pos (by omega)]), b_s, g_stn (by omega)]
    obtain ⟨σ', e, a1, a2, a3, a4, a5, a6, a7, a8⟩ := become_c (σ := sI (sI σ 46 1 (nI ((pl + 5) % 6))) 46 2 (nI (sv - 1))) (k := 1) (k2 := 48 + 8 * ((pl + 5) % 6)) (by omega)
    obtain ⟨τ', y1, y2, y3, y4⟩ := back_l (s := sv - 1) (by omega) (fun σ5 => some ((gI σ5 0 3), σ5)) 1219 0 8192 (sI τ 0 3 (nI (sv - 1))) (by rw [gI_sI, if_pos (by omega)]) (by omega) (by omega)
    rw [show nI 0 = (0 : Int32) from rfl] at y1
    have er : gI σ' 46 2 = nI (sv - 1) := by rw [a1 46 2 (by omega), gI_sI, if_pos (by omega)]
    have et : gI τ' 0 3 = nI (sv - 1) := by rw [y2, gI_sI, if_pos (by omega)]
    rw [e, b_s, b_s, er, noted_n (by omega), b_s, y1, et]
    have gi : ∀ a j, a ≠ 1 → a ≠ 46 → gI σ' a j = gI σ a j := fun a j h1 h2 => by rw [a1 a j h1, gI_sI, if_neg (by omega), gI_sI, if_neg (by omega)]
    have gm : ∀ a, (a < 2 ∨ 9 ≤ a) → gM σ' a = gM σ a := fun a h => by rw [a5 a (by omega)]; rfl
    have im : ∀ n, n < 8 → gI σ' (11 + 3 * n) 2 = gI σ (11 + 3 * n) 2 ∧ (∀ i, gM σ' (11 + 3 * n + 1) i = gM σ (11 + 3 * n + 1) i) ∧ ∀ i, gM σ' (11 + 3 * n + 2) i = gM σ (11 + 3 * n + 2) i := fun n hn => ⟨gi _ _ (by omega) (by omega), fun i => by rw [gm _ (by omega)], fun i => by rw [gm _ (by omega)]⟩
    obtain ⟨b1, b2, b3⟩ := g6 (sv - 1) (by omega)
    rw [show (pl + 6 - sv + (sv - 1)) % 6 = (pl + 5) % 6 by omega] at b1
    have hnj := b1.2.2.2.1.2.1
    have kI : ∀ j, 7 ≤ j → gI (sI (sI σ 46 1 (nI ((pl + 5) % 6))) 46 2 (nI (sv - 1))) (48 + 8 * ((pl + 5) % 6)) j = gI σ (48 + 8 * ((pl + 5) % 6)) j := fun j _ => by rw [gI_sI, if_neg (by omega), gI_sI, if_neg (by omega)]
    refine ⟨_, _, _, rfl, rfl, N (sv - 1), I (sv - 1), U (sv - 1), S (sv - 1), (pl + 5) % 6, sv - 1, N, I, U, S, ?_, ⟨Nat.mod_lt _ (by decide), by omega, ?_, er, et, fun j hj => ?_⟩, (T.mono (by omega)).cg (fun j => gi 96 j (by decide) (by decide)) (gm 97 (by decide)) (by rw [y3 4 (by decide)]; rfl) (by rw [y3 5 (by decide)]; rfl), X.cg (gi 42 3 (by decide) (by decide)) (fun i => by rw [gm 43 (by decide)]) (by rw [y2, gI_sI, if_neg (by omega)]) (fun i => by rw [y3 6 (by decide)]; rfl)⟩
    · exact Rc_at b1 (a2.trans (kI 7 (by decide))) (a3.trans (kI 8 (by decide))) (a4.trans (kI 9 (by decide))) (fun i hi => a6 i hi) (fun i hi => a7 i hi) (fun i hi => a8 i hi) (fun n hn => im n (by omega)) (fun i hi => by rw [y4, if_pos (by omega)]; rfl)
    · rw [a1 46 1 (by omega), gI_sI, if_neg (by omega), gI_sI, if_pos (by omega)]
    · obtain ⟨d1, d2, d3⟩ := g6 j (by omega)
      refine ⟨?_, d3 (sv - 1) (by omega) (by omega), fun j' x y => d3 j' x (by omega)⟩
      rw [show ((pl + 5) % 6 + 6 - (sv - 1) + j) % 6 = (pl + 6 - sv + j) % 6 by omega]
      have hnd := d1.2.2.2.1.2.1
      exact Rc_at d1 (gi _ _ (by omega) (by omega)) (gi _ _ (by omega) (by omega)) (gi _ _ (by omega) (by omega)) (fun i _ => ⟨by rw [gm _ (by omega)], by rw [gm _ (by omega)], by rw [gm _ (by omega)]⟩) (fun i _ => ⟨by rw [gm _ (by omega)], by rw [gm _ (by omega)], by rw [gm _ (by omega)]⟩) (fun i _ => by rw [gm _ (by omega)]) (fun n hn => im n (by omega)) (fun i _ => by rw [y3 3 (by decide)]; rfl)
theorem told_c {n : Nat} {σ τ : gS} (h : Rel n σ τ) {v : Int32} (hv : v = -1 ∨ ∃ m, m < 2 ^ 31 ∧ v = nI m) : qT_noted σ v = some (v, σ) ∧ Rel (n + 1) σ τ := by
  refine ⟨?_, h.mono (by omega)⟩
  rcases hv with rfl | ⟨m, hm, rfl⟩
  · rfl
  · exact noted_n hm
theorem sim_register {n : Nat} {σ τ : gS} (h : Rel n σ τ) (a b : Int32) : ∃ r σ' τ', qF_register σ a b = some (r, σ') ∧ qM_register τ a b = some (r, τ') ∧ Rel (n + 1) σ' τ' := by
  obtain ⟨nb, ni, bu, sz, pl, sv, N, I, U, S, H, G, T, X⟩ := id h
  unfold qF_register qM_register qS_registerProperty
  have bad : ∃ r σ' τ', ((some (-2 : Int32)).bind fun r1 => (qT_noted σ r1).bind fun r2 => some (r2.1, r2.2)) = some (r, σ') ∧ ((qM_bad τ).bind fun r2 => some (r2.1, r2.2)) = some (r, τ') ∧ Rel (n + 1) σ' τ' := by
    obtain ⟨σ', τ', b1, b2, b3⟩ := bad_c h
    rw [b_s, b1, b2]
    exact ⟨_, _, _, rfl, rfl, b3⟩
  have good : ∀ v : Int32, (v = -1 ∨ ∃ m, m < 2 ^ 31 ∧ v = nI m) → ∃ r σ' τ', ((some v).bind fun r1 => (qT_noted σ r1).bind fun r2 => some (r2.1, r2.2)) = some (r, σ') ∧ ((some v).bind fun r5 => some (r5, τ)) = some (r, τ') ∧ Rel (n + 1) σ' τ' := by
    intro v hv
    obtain ⟨b1, b2⟩ := told_c h hv
    rw [b_s, b1]
    exact ⟨_, _, _, rfl, rfl, b2⟩
  rcases q_reg a with ⟨e1, e2⟩ | ⟨r, hr, rfl, e1, e2⟩
  · rw [e1, e2, if_pos z00, if_pos z00]
    exact bad
  rw [e1, e2, if_neg n10, if_neg n10]
  have hnb := Rc_nb H
  have hszs : ∀ b, b < nb → sz b ≤ 12 := fun b hb => (Rc_blk H hb).2.1
  by_cases hb : b = 0 ∨ b = 1 ∨ b = 2
  · have hin : qM_in b 0 2 = 1 := by
      rcases hb with rfl | rfl | rfl <;> rfl
    rw [hin, if_neg n10]
    unfold qM_ofRegister
    rw [gob_n (by omega) (by omega), gob_n (by omega) (by omega), gob_n (by omega) (by omega), nI_clamp (by omega), m_kind hr, m_val hr, m_place hr]
    rcases hb with rfl | rfl | rfl
    · rw [if_pos z00, if_pos z00, b_s, b_s]
      obtain ⟨k1, k2⟩ := Rg_kind (Rc_reg H hr)
      rw [← k1]
      refine good _ (Or.inr ?_)
      rcases Rc_reg H hr with ⟨k1, k2⟩ | ⟨k1, k2, -⟩ | ⟨k1, k2, -⟩
      · exact ⟨0, by decide, k1⟩
      · exact ⟨1, by decide, k1⟩
      · exact ⟨2, by decide, k1⟩
    · rw [if_neg n10, if_pos z11, if_neg n10, if_pos z11, b_s, b_s]
      rcases Rc_reg H hr with ⟨k1, k2⟩ | ⟨k1, k2, v, hv, v1, v2⟩ | ⟨k1, k2, p, o, hp, ho, v1, v2, o1, o2⟩
      · rw [k1, k2, if_pos z00, if_pos z00]
        exact good _ (Or.inl rfl)
      · rw [k1, k2, if_neg n10, if_neg n10, v1, v2]
        exact good _ (Or.inr ⟨v, by omega, rfl⟩)
      · rw [k1, k2, if_neg n20, if_neg n20, v1, v2]
        exact good _ (Or.inr ⟨p, by omega, rfl⟩)
    · rw [if_neg n20, if_neg n21, if_pos z22, if_neg n20, if_neg n21, b_s, b_s]
      rcases Rc_reg H hr with ⟨k1, k2⟩ | ⟨k1, k2, v, hv, v1, v2⟩ | ⟨k1, k2, p, o, hp, ho, v1, v2, o1, o2⟩
      · rw [k1, k2, if_neg n02, if_neg n02]
        exact good _ (Or.inl rfl)
      · rw [k1, k2, if_neg n12, if_neg n12]
        exact good _ (Or.inl rfl)
      · rw [k1, k2, if_pos z22, if_pos z22, o1, o2]
        exact good _ (Or.inr ⟨o, by have := hszs p hp; omega, rfl⟩)
  · have hin : qM_in b 0 2 = 0 := by
      rw [q_in, if_neg]
      rintro ⟨c1, c2⟩
      rw [le_i, i0] at c1
      rw [le_i, i2] at c2
      apply hb
      rcases (show b.toInt = 0 ∨ b.toInt = 1 ∨ b.toInt = 2 by omega) with q | q | q
      · exact Or.inl (Int32.toInt_inj.mp (q.trans i0.symm))
      · exact Or.inr (Or.inl (Int32.toInt_inj.mp (q.trans i1.symm)))
      · exact Or.inr (Or.inr (Int32.toInt_inj.mp (q.trans i2.symm)))
    rw [hin, if_pos z00, if_neg (fun q => hb (Or.inl q)), if_neg (fun q => hb (Or.inr (Or.inl q))), if_neg (fun q => hb (Or.inr (Or.inr q)))]
    exact bad
