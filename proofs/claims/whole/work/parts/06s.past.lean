theorem copies_l (k : gS → Option gS) : ∀ (d v n : Nat) (τ : gS), v + d = 1219 → d < n → ∃ τ', qM_copies_2 k n τ (nI v) = k τ' ∧ (∀ a j, gI τ' a j = gI τ a j) ∧ (∀ a, a ≠ 2 → gM τ' a = gM τ a) ∧ ∀ i, gM τ' 2 i = if v ≤ i ∧ i < 1219 then gM τ 1 i else gM τ 2 i := by
  intro d
  induction d with
  | zero =>
    intro v n σ h hn
    obtain ⟨m, rfl⟩ : ∃ m, n = m + 1 := ⟨n - 1, by omega⟩
    refine ⟨σ, ?_, fun _ _ => rfl, fun _ _ => rfl, fun i => by rw [if_neg (by omega)]⟩
    rw [qM_copies_2, if_pos (show (1219 : Int32) ≤ nI v from (nI_leI (a := 1219) (by omega) (by omega)).mpr (by omega))]
  | succ d ih =>
    intro v n σ h hn
    obtain ⟨m, rfl⟩ : ∃ m, n = m + 1 := ⟨n - 1, by omega⟩
    obtain ⟨σ', e, g1, g2, g3⟩ := ih (v + 1) m (sM σ 2 v (gM σ 1 v)) (by omega) (by omega)
    refine ⟨σ', ?_, fun a j => g1 a j, fun a ha => by rw [g2 a ha, gMs_n ha], fun i => ?_⟩
    · rw [qM_copies_2, if_neg (show ¬ (1219 : Int32) ≤ nI v from nle (a := 1219) (by omega) (by omega)), gob_n (by omega) (by omega), nI_clamp (by omega), nI1]
      exact e
    · rw [g3, gMs_s, gMs_n (show 1 ≠ 2 by decide)]
      by_cases h1 : i = v
      · subst h1
        rw [if_neg (by omega), if_pos (by omega), upd_s]
      · rw [upd_n h1]
        by_cases h2 : v + 1 ≤ i ∧ i < 1219
        · rw [if_pos h2, if_pos (by omega)]
        · rw [if_neg h2, if_neg (by omega)]
theorem copies_c (τ : gS) : ∃ τ', qM_copies τ = some τ' ∧ (∀ a j, gI τ' a j = gI τ a j) ∧ (∀ a, a ≠ 2 → gM τ' a = gM τ a) ∧ ∀ i, i < 1219 → gM τ' 2 i = gM τ 1 i := by
  unfold qM_copies
  obtain ⟨τ', e, a, b, c⟩ := copies_l (fun σ3 => some σ3) 1219 0 8192 τ (by omega) (by omega)
  rw [show nI 0 = (0 : Int32) from rfl] at e
  exact ⟨τ', e, a, b, fun i hi => by rw [c, if_pos (by omega)]⟩
theorem past_ix (s v : Nat) : (1219 : Int32) * nI s + nI v = nI (1219 * s + v) := by
  rw [show (1219 : Int32) = nI 1219 from rfl, nI_mul, nI_add]
theorem rem_51 {s : Nat} (hs : s < 5) (k : gS → Option gS) : ∀ (d v n : Nat) (τ : gS), gI τ 0 3 = nI s → v + d = 1219 → d < n → ∃ τ', qM_remembers_51 k n τ (nI v) = k τ' ∧ (∀ a j, gI τ' a j = gI τ a j) ∧ (∀ a, a ≠ 3 → gM τ' a = gM τ a) ∧ ∀ i, gM τ' 3 i = if 1219 * s + v ≤ i ∧ i < 1219 * s + 1219 then gM τ 2 (i - 1219 * s) else gM τ 3 i := by
  intro d
  induction d with
  | zero =>
    intro v n σ _ h hn
    obtain ⟨m, rfl⟩ : ∃ m, n = m + 1 := ⟨n - 1, by omega⟩
    refine ⟨σ, ?_, fun _ _ => rfl, fun _ _ => rfl, fun i => by rw [if_neg (by omega)]⟩
    rw [qM_remembers_51, if_pos (show (1219 : Int32) ≤ nI v from (nI_leI (a := 1219) (by omega) (by omega)).mpr (by omega))]
  | succ d ih =>
    intro v n σ h0 h hn
    obtain ⟨m, rfl⟩ : ∃ m, n = m + 1 := ⟨n - 1, by omega⟩
    obtain ⟨σ', e, g1, g2, g3⟩ := ih (v + 1) m (sM σ 3 (1219 * s + v) (gM σ 2 v)) h0 (by omega) (by omega)
    refine ⟨σ', ?_, fun a j => g1 a j, fun a ha => by rw [g2 a ha, gMs_n ha], fun i => ?_⟩
    · rw [qM_remembers_51, if_neg (show ¬ (1219 : Int32) ≤ nI v from nle (a := 1219) (by omega) (by omega)), h0, past_ix, gob_n (by omega) (by omega), gob_n (by omega) (by omega), nI_clamp (by omega), nI_clamp (by omega), nI1]
      exact e
    · rw [g3, gMs_s, gMs_n (show 2 ≠ 3 by decide)]
      by_cases h1 : i = 1219 * s + v
      · subst h1
        rw [if_neg (by omega), if_pos (by omega), upd_s, show 1219 * s + v - 1219 * s = v by omega]
      · rw [upd_n h1]
        by_cases h2 : 1219 * s + (v + 1) ≤ i ∧ i < 1219 * s + 1219
        · rw [if_pos h2, if_pos (by omega)]
        · rw [if_neg h2, if_neg (by omega)]
theorem rem_10 (k : gS → Option gS) : ∀ (d v n : Nat) (τ : gS), v + d = 4876 → d < n → ∃ τ', qM_remembers_10 k n τ (nI v) = k τ' ∧ (∀ a j, gI τ' a j = gI τ a j) ∧ (∀ a, a ≠ 3 → gM τ' a = gM τ a) ∧ ∀ i, gM τ' 3 i = if v ≤ i ∧ i < 4876 then gM τ 3 (i + 1219) else gM τ 3 i := by
  intro d
  induction d with
  | zero =>
    intro v n σ h hn
    obtain ⟨m, rfl⟩ : ∃ m, n = m + 1 := ⟨n - 1, by omega⟩
    refine ⟨σ, ?_, fun _ _ => rfl, fun _ _ => rfl, fun i => by rw [if_neg (by omega)]⟩
    rw [qM_remembers_10, if_pos (show (4876 : Int32) ≤ nI v from (nI_leI (a := 4876) (by omega) (by omega)).mpr (by omega))]
  | succ d ih =>
    intro v n σ h hn
    obtain ⟨m, rfl⟩ : ∃ m, n = m + 1 := ⟨n - 1, by omega⟩
    obtain ⟨σ', e, g1, g2, g3⟩ := ih (v + 1) m (sM σ 3 v (gM σ 3 (v + 1219))) (by omega) (by omega)
    refine ⟨σ', ?_, fun a j => g1 a j, fun a ha => by rw [g2 a ha, gMs_n ha], fun i => ?_⟩
    · rw [qM_remembers_10, if_neg (show ¬ (4876 : Int32) ≤ nI v from nle (a := 4876) (by omega) (by omega)), show nI v + (1219 : Int32) = nI (v + 1219) from nI_add v 1219, gob_n (by omega) (by omega), gob_n (by omega) (by omega), nI_clamp (by omega), nI_clamp (by omega), nI1]
      exact e
    · rw [g3, gMs_s]
      by_cases h1 : i = v
      · subst h1
        rw [if_neg (by omega), if_pos (by omega), upd_s]
      · rw [upd_n h1]
        by_cases h2 : v + 1 ≤ i ∧ i < 4876
        · rw [if_pos h2, if_pos (by omega), upd_n (by omega)]
        · rw [if_neg h2, if_neg (by omega)]
theorem rem_c {τ : gS} {sv : Nat} (hs : sv ≤ 5) (h0 : gI τ 0 3 = nI sv) : ∃ τ', qM_remembers τ = some τ' ∧ (∀ a j, a ≠ 0 ∨ j ≠ 3 → gI τ' a j = gI τ a j) ∧ (∀ a, a ≠ 3 → gM τ' a = gM τ a) ∧
    ((sv < 5 ∧ gI τ' 0 3 = nI (sv + 1) ∧ (∀ i, i < 1219 * sv → gM τ' 3 i = gM τ 3 i) ∧ ∀ i, i < 1219 → gM τ' 3 (1219 * sv + i) = gM τ 2 i) ∨ (sv = 5 ∧ gI τ' 0 3 = nI 5 ∧ (∀ i, i < 4876 → gM τ' 3 i = gM τ 3 (i + 1219)) ∧ ∀ i, i < 1219 → gM τ' 3 (1219 * 4 + i) = gM τ 2 i)) := by
  unfold qM_remembers
  by_cases h5 : sv = 5
  · subst h5
    rw [h0, if_pos (show nI 5 = 5 from rfl)]
    obtain ⟨τ1, e1, a1, b1, c1⟩ := rem_10 (fun σ9 => qM_remembers_51 (fun σ10 => some (sI σ10 0 3 ((gI σ10 0 3) + (1 : Int32)))) 8192 (sI σ9 0 3 ((gI σ9 0 3) - (1 : Int32))) (0 : Int32)) 4876 0 8192 τ (by omega) (by omega)
    rw [show nI 0 = (0 : Int32) from rfl] at e1
    have e3 : gI τ1 0 3 - (1 : Int32) = nI 4 := by rw [a1, h0, show (1 : Int32) = nI 1 from rfl, nI_sub (by omega)]
    rw [e1, e3]
    obtain ⟨τ2, e2, a2, b2, c2⟩ := rem_51 (s := 4) (by decide) (fun σ10 => some (sI σ10 0 3 ((gI σ10 0 3) + (1 : Int32)))) 1219 0 8192 (sI τ1 0 3 (nI 4)) (by rw [gI_sI, if_pos (by omega)]) (by omega) (by omega)
    rw [show nI 0 = (0 : Int32) from rfl] at e2
    have e4 : gI τ2 0 3 + (1 : Int32) = nI 5 := by rw [a2, gI_sI, if_pos (by omega), nI1]
    rw [e2, e4]
    refine ⟨_, rfl, fun a j h => ?_, fun a h => ?_, Or.inr ⟨rfl, ?_, fun i hi => ?_, fun i hi => ?_⟩⟩
    · rw [gI_sI, if_neg (by omega), a2, gI_sI, if_neg (by omega), a1]
    · rw [gMI, b2 a h, gMI, b1 a h]
    · rw [gI_sI, if_pos (by omega)]
    · rw [gMI, c2, if_neg (by omega), gMI, c1, if_pos (by omega)]
    · rw [gMI, c2, if_pos (by omega), gMI, b1 2 (by decide)]
      exact congrArg _ (by omega)
  · rw [h0, if_neg (show ¬ nI sv = 5 from fun q => h5 (nI_inj (b := 5) (by omega) (by omega) q))]
    obtain ⟨τ2, e2, a2, b2, c2⟩ := rem_51 (s := sv) (by omega) (fun σ10 => some (sI σ10 0 3 ((gI σ10 0 3) + (1 : Int32)))) 1219 0 8192 τ h0 (by omega) (by omega)
    rw [show nI 0 = (0 : Int32) from rfl] at e2
    have e4 : gI τ2 0 3 + (1 : Int32) = nI (sv + 1) := by rw [a2, h0, nI1]
    rw [e2, e4]
    refine ⟨_, rfl, fun a j h => ?_, fun a h => ?_, Or.inl ⟨by omega, ?_, fun i hi => ?_, fun i hi => ?_⟩⟩
    · rw [gI_sI, if_neg (by omega), a2]
    · rw [gMI, b2 a h]
    · rw [gI_sI, if_pos (by omega)]
    · rw [gMI, c2, if_neg (by omega)]
    · rw [gMI, c2, if_pos (by omega)]
      exact congrArg _ (by omega)
theorem keep_x {σ : gS} {pl sv : Nat} (hp : pl < 6) (hs : sv ≤ 5) (e1 : gI σ 46 1 = nI pl) (e2 : gI σ 46 2 = nI sv) : ∃ σ', qH_keep σ = some σ' ∧ (∀ a j, a ≠ 46 → gI σ' a j = gI σ a j) ∧ (∀ a, gM σ' a = gM σ a) ∧ gI σ' 46 1 = nI ((pl + 1) % 6) ∧ gI σ' 46 2 = nI (if sv < 5 then sv + 1 else 5) := by
  have ep : (gI σ 46 1 + (1 : Int32)) - (gI σ 46 1 + (1 : Int32)) / (6 : Int32) * (6 : Int32) = nI ((pl + 1) % 6) := by
    rw [e1, nI1, show (6 : Int32) = nI 6 from rfl, pk_rem (by omega) (by decide) (by decide)]
  unfold qH_keep
  rw [ep, show gI (sI σ 46 1 (nI ((pl + 1) % 6))) 46 2 = nI sv by rw [gI_sI, if_neg (by omega)]; exact e2]
  by_cases h5 : sv < 5
  · rw [if_neg (show ¬ (5 : Int32) ≤ nI sv from nle (a := 5) (by omega) (by omega)), nI1, if_pos h5]
    refine ⟨_, rfl, fun a j h => ?_, fun a => rfl, ?_, ?_⟩
    · rw [gI_sI, if_neg (by omega), gI_sI, if_neg (by omega)]
    · rw [gI_sI, if_neg (by omega), gI_sI, if_pos (by omega)]
    · rw [gI_sI, if_pos (by omega)]
  · rw [if_pos (show (5 : Int32) ≤ nI sv from (nI_leI (a := 5) (by omega) (by omega)).mpr (by omega)), if_neg h5]
    refine ⟨_, rfl, fun a j h => ?_, fun a => rfl, ?_, ?_⟩
    · rw [gI_sI, if_neg (by omega)]
    · rw [gI_sI, if_pos (by omega)]
    · rw [gI_sI, if_neg (by omega), e2, show sv = 5 by omega]
