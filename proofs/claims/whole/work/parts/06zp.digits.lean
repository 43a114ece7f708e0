theorem gQ.at {σ0 τ0 σ τ σ' τ' : gS} {p p' O : Nat} (h : gQ σ0 τ0 σ τ p O) (a : fX σ0 σ') (b : fM τ0 τ') (e1 : gI σ' 42 4 = gI σ 42 4) (e2 : gI τ' 0 14 = gI τ 0 14) (e3 : gI τ' 0 15 = nI p') (e4 : ∀ i, i < O → gM σ' 44 i = gM σ 44 i ∧ gM τ' 10 i = gM τ 10 i) (e5 : ∀ i, i < 3 * O → gM σ' 45 i = gM σ 45 i ∧ gM τ' 11 i = gM τ 11 i) : gQ σ0 τ0 σ' τ' p' O := by
  obtain ⟨h1, h2, h3, h4, h5, h6⟩ := h
  exact ⟨a, b, e1.trans h3, e2.trans h4, e3, h6.cg e4 e5⟩
theorem ten_c (s a b : Int32) : (s * a) * 10 + s * b = s * (a * 10 + b) := by
  rw [Int32.mul_add, Int32.mul_assoc]
theorem isDg {σ0 τ0 τ : gS} {t : Nat} {ch : Nat → Nat} (X : gTxc σ0 τ0 t ch) (F : fM τ0 τ) {p : Nat} (e : gI τ 0 15 = nI p) (hp : p < t) : qM_isAt τ 48 57 = some (if 48 ≤ ch p ∧ ch p ≤ 57 then 1 else 0) := isAt_y X F (lo := 48) (hi := 57) e hp (by omega) (by omega)
/-- the digits behind the first -/
theorem digits_c {σ0 τ0 : gS} {t : Nat} {ch : Nat → Nat} (X : gTxc σ0 τ0 t ch) {O c M s b : Nat} (hs : s < M) (sg a1 z : Int32) (k : gS → Int32 → Option (Int32 × gS)) : ∀ (d p dg w n : Nat) (σ τ : gS), p + d = t → d < n → gW σ0 τ0 σ τ p O c M (s + 1) dg → gI σ 42 8 = 0 → gI σ 42 9 = sg → gM σ 45 (3 * O + s) = sg * nI w → b + dg = p → 1 ≤ dg → dg ≤ 5 → w < 10 ^ dg → (∀ j, j < s → gOp σ τ c (3 * O + j)) →
    gF σ0 τ0 (gZp σ p) (qM_takesNumber_52 a1 z (nI b) k n τ (nI w)) ∨ ∃ p' σ' τ' dg' w', p ≤ p' ∧ p' ≤ t ∧ gZp σ p = gZp σ' p' ∧ qM_takesNumber_52 a1 z (nI b) k n τ (nI w) = k τ' (nI w') ∧ gW σ0 τ0 σ' τ' p' O c M (s + 1) dg' ∧ gI σ' 42 8 = 0 ∧ gM σ' 45 (3 * O + s) = sg * nI w' ∧ w' < 2 ^ 31 ∧ b < p' ∧ (p' < t → ¬ (48 ≤ ch p' ∧ ch p' ≤ 57)) ∧ ∀ j, j < s → gOp σ' τ' c (3 * O + j) := by
  intro d
  induction d with
  | zero =>
    intro p dg w n σ τ hp hn W e8 e9 ev hb h1 h5 hw hop
    obtain ⟨m, rfl⟩ : ∃ m, n = m + 1 := ⟨n - 1, by omega⟩
    obtain rfl : p = t := by omega
    refine Or.inr ⟨p, σ, τ, dg, w, Nat.le_refl _, Nat.le_refl _, rfl, ?_, W, e8, ev, ?_, by omega, fun q => absurd q (by omega), hop⟩
    · rw [qM_takesNumber_52, isAt_e X W.1.2.1 W.1.2.2.2.2.1, b_s, if_pos z00]
    · have : 10 ^ dg ≤ 10 ^ 5 := Nat.pow_le_pow_right (by omega) h5
      omega
  | succ d ih =>
    intro p dg w n σ τ hp hn W e8 e9 ev hb h1 h5 hw hop
    obtain ⟨m, rfl⟩ : ∃ m, n = m + 1 := ⟨n - 1, by omega⟩
    obtain ⟨⟨q1, q2, q3, q4, q5, q6⟩, lt, l5, l6, l7, l8, l9, l10, l11⟩ := id W
    have hl := lt.le
    have ht := X.1
    have hpt : p < t := by omega
    obtain ⟨c1, c2, c3⟩ := X.2.2.2 p hpt
    have hpow : 10 ^ dg ≤ 10 ^ 5 := Nat.pow_le_pow_right (by omega) h5
    by_cases q : 48 ≤ ch p ∧ ch p ≤ 57
    case neg =>
      refine Or.inr ⟨p, σ, τ, dg, w, Nat.le_refl _, by omega, rfl, ?_, W, e8, ev, by omega, by omega, fun _ => q, hop⟩
      rw [qM_takesNumber_52, isDg X q2 q5 hpt, if_neg q, b_s, if_pos z00]
    rw [qM_takesNumber_52, isDg X q2 q5 hpt, if_pos q, b_s, if_neg n10, q5, show nI b + (5 : Int32) = nI (b + 5) from nI_add b 5, gZp_s X q1 hpt, acc_d l5 (by omega) q.1 q.2, dig_eq, l7, if_neg (nI_ne0 (by omega) (by omega))]
    by_cases h : dg = 5
    · subst h
      rw [if_pos (show nI p = nI (b + 5) by rw [hb])]
      unfold gDg
      rw [l7, if_pos (show nI 5 = 5 from rfl), b_s, gbo0, b_s, if_pos z00]
      exact Or.inl ⟨p, σ, sI τ 0 16 (nI p), by omega, rfl, rfl, by rw [gI_sI, if_pos (by omega)], q1, q2.sI (by omega) _⟩
    rw [if_neg (nI_ne (by omega) (by omega) (by omega)), gob_n (by omega) (by omega), nI1, nI_clamp (by omega), q2.2 6 (by decide) (by decide), c3, dg_c q3 l6 l7 (by omega) (by omega) (by omega), b_s, gbo1, b_s, if_neg n10, ev, e9, ten_c]
    have ew : (10 : Int32) * nI w + nI (ch p) - (48 : Int32) = nI (10 * w + (ch p - 48)) := by
      rw [show (10 : Int32) = nI 10 from rfl, show (48 : Int32) = nI 48 from rfl, nI_mul, nI_add, nI_sub (by omega)]
      exact congrArg nI (by omega)
    have ew2 : nI w * (10 : Int32) + nI (ch p - 48) = nI (10 * w + (ch p - 48)) := by
      rw [show (10 : Int32) = nI 10 from rfl, nI_mul, nI_add]
      exact congrArg nI (by omega)
    rw [ew, ew2]
    have W' : gW σ0 τ0 (sM (sI σ 42 7 (nI (dg + 1))) 45 (3 * O + s) (sg * nI (10 * w + (ch p - 48)))) (sI τ 0 15 (nI (p + 1))) (p + 1) O c M (s + 1) (dg + 1) := by
      refine ⟨W.1.at ((q1.sI (by omega) _).sM (by omega) _ _) (q2.sI (by omega) _) ?_ ?_ ?_ (fun i hi => ⟨?_, rfl⟩) (fun i hi => ⟨?_, rfl⟩), lt, ?_, ?_, ?_, l8, by omega, ?_, l11⟩
      · show gI (sI σ 42 7 (nI (dg + 1))) 42 4 = _
        rw [gI_sI, if_neg (by omega)]
      · rw [gI_sI, if_neg (by omega)]
      · rw [gI_sI, if_pos (by omega)]
      · rw [gMs_n (by decide)]; rfl
      · rw [gMs_s, upd_n (by omega)]; rfl
      · show gI (sI σ 42 7 (nI (dg + 1))) 42 5 = _
        rw [gI_sI, if_neg (by omega)]; exact l5
      · show gI (sI σ 42 7 (nI (dg + 1))) 42 6 = _
        rw [gI_sI, if_neg (by omega)]; exact l6
      · show gI (sI σ 42 7 (nI (dg + 1))) 42 7 = _
        rw [gI_sI, if_pos (by omega)]
      · rw [gMs_n (by decide)]; exact l10
    have hlt : 10 * w + (ch p - 48) < 10 ^ (dg + 1) := by rw [Nat.pow_succ]; omega
    rcases ih (p + 1) (dg + 1) (10 * w + (ch p - 48)) m _ _ (by omega) (by omega) W' (by show gI (sI σ 42 7 (nI (dg + 1))) 42 8 = _; rw [gI_sI, if_neg (by omega)]; exact e8) (by show gI (sI σ 42 7 (nI (dg + 1))) 42 9 = _; rw [gI_sI, if_neg (by omega)]; exact e9) (by rw [gMs_s, upd_s]) (by omega) (by omega) (by omega) hlt (fun j hj => (hop j hj).cg (by rw [gMs_s, upd_n (by omega)]; rfl) rfl) with g | ⟨p', σ', τ', dg', w', a1, a2, a3, a4, a5, a6, a7, a8, a9, a10, a11⟩
    · exact Or.inl g
    · exact Or.inr ⟨p', σ', τ', dg', w', by omega, a2, a3, a4, a5, a6, a7, a8, a9, a10, a11⟩
