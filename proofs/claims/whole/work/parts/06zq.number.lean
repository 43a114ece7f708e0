/-- the first digit: an operand begins -/
theorem first_c {σ : gS} {O c M s : Nat} {sg : Int32} (lt : gLt c M) (e4 : gI σ 42 4 = nI O) (e5 : gI σ 42 5 = nI c) (e6 : gI σ 42 6 = nI s) (e7 : gI σ 42 7 = 0) (hs : s < M) (hO : O < 40) (h8 : (gI σ 42 8 = 0 ∧ sg = 1) ∨ (gI σ 42 8 = 1 ∧ sg = -1)) (a : Int32) : qP_acceptsDigit σ a = some (1, sM (sI (sM (gBg σ sg) 45 (3 * O + s) 0) 42 7 (nI 1)) 45 (3 * O + s) (sg * a)) := by
  have hl := lt.le
  have ex : ∀ sg : Int32, (qP_putOperand (gBg σ sg) 0).bind (fun r => gDg r a) = some (1, sM (sI (sM (gBg σ sg) 45 (3 * O + s) 0) 42 7 (nI 1)) 45 (3 * O + s) (sg * a)) := by
    intro sg
    have b4 : gI (gBg σ sg) 42 4 = nI O := e4
    have b6 : gI (gBg σ sg) 42 6 = nI (s + 1) := by
      unfold gBg
      rw [gI_sI, if_pos (by omega), gI_sI, if_neg (by omega), gI_sI, if_neg (by omega), e6, nI1]
    have b7 : gI (gBg σ sg) 42 7 = nI 0 := e7
    have b9 : gI (gBg σ sg) 42 9 = sg := rfl
    rw [put_c b4 b6 hO (by omega), b_s, dg_c (σ := sM (gBg σ sg) 45 (3 * O + s) 0) b4 b6 b7 (by omega) hO (by omega), gMs_s, upd_s, show gI (sM (gBg σ sg) 45 (3 * O + s) 0) 42 9 = sg from rfl, Int32.zero_mul, Int32.zero_add]
  rw [dig_eq, e7, if_pos z00, e5, e6, lt.op.1, if_neg (nI_ne (by omega) (by omega) (by omega))]
  rcases h8 with ⟨h, rfl⟩ | ⟨h, rfl⟩
  · rw [h, if_pos z00]; exact ex 1
  · rw [h, if_neg n10]; exact ex (-1)
/-- where an operand is wanted, what is no digit is refused -/
theorem want_c {σ : gS} {c M s x : Nat} (lt : gLt c M) (e5 : gI σ 42 5 = nI c) (e6 : gI σ 42 6 = nI s) (hs : s < M) (hx : x < 128) (h : ¬ (48 ≤ x ∧ x ≤ 57)) (h8 : gI σ 42 8 = 0 ∧ x ≠ 32 ∧ (x = 45 → ¬ (c = 118 ∧ s = 1)) ∨ gI σ 42 8 = 1) : qP_accepts σ (nI x) = some (0, σ) := by
  have hl := lt.le
  rcases h8 with ⟨e8, h1, h2⟩ | e8
  · rw [acc_n e5 (by omega) hx h e8, if_neg (show ¬ nI x = (32 : Int32) from nI_ne (b := 32) (by omega) (by omega) h1)]
    by_cases q : x = 45
    · rw [if_pos (show nI x = 45 from congrArg nI q)]
      unfold qP_acceptsMinus
      rw [e5, e6]
      by_cases q1 : c = 118
      · rw [if_pos (show nI c = 118 from congrArg nI q1), if_neg (show ¬ nI s = (1 : Int32) from nI_ne (b := 1) (by omega) (by omega) (fun q2 => h2 q ⟨q1, q2⟩)), b_s, gbo0]
      · rw [if_neg (show ¬ nI c = (118 : Int32) from nI_ne (b := 118) (by omega) (by omega) q1), b_s, gbo0]
    rw [if_neg (show ¬ nI x = (45 : Int32) from nI_ne (b := 45) (by omega) (by omega) q)]
    by_cases q3 : x = 59
    · rw [if_pos (show nI x = 59 from congrArg nI q3)]
      unfold qP_acceptsSemicolon
      rw [e5, e6, lt.op.1, if_neg (nI_ne (by omega) (by omega) (by omega)), b_s, gbo0]
    · rw [if_neg (show ¬ nI x = (59 : Int32) from nI_ne (b := 59) (by omega) (by omega) q3)]
  · exact acc_m e5 (by omega) hx h (by rw [e8]; exact n10)
/-- a number, its minus behind it -/
theorem num_c {σ0 τ0 : gS} {t : Nat} {ch : Nat → Nat} (X : gTxc σ0 τ0 t ch) {O c M s p dg : Nat} (hs : s < M) {σ τ : gS} (hp : p ≤ t) (W : gW σ0 τ0 σ τ p O c M s dg) (hr : dg = 0 ∨ (p < t → ¬ (48 ≤ ch p ∧ ch p ≤ 57))) {sg : Int32} (h8 : gI σ 42 8 = 0 ∧ sg = 1 ∧ (p < t → ch p ≠ 32) ∧ (p < t → ch p = 45 → ¬ (c = 118 ∧ s = 1)) ∨ gI σ 42 8 = 1 ∧ sg = -1) (hop : ∀ j, j < s → gOp σ τ c (3 * O + j)) (a1 z : Int32) (k : gS → Int32 → Option (Int32 × gS)) :
    ((∃ σ', gZp σ p = some (nI p, σ') ∧ fX σ0 σ') ∧ qM_takesNumber_52 a1 z (nI p) k 8192 τ 0 = k τ 0) ∨ gF σ0 τ0 (gZp σ p) (qM_takesNumber_52 a1 z (nI p) k 8192 τ 0) ∨ ∃ p' σ' τ' dg' w', p < p' ∧ p' ≤ t ∧ gZp σ p = gZp σ' p' ∧ qM_takesNumber_52 a1 z (nI p) k 8192 τ 0 = k τ' (nI w') ∧ gW σ0 τ0 σ' τ' p' O c M (s + 1) dg' ∧ gI σ' 42 8 = 0 ∧ gM σ' 45 (3 * O + s) = sg * nI w' ∧ w' < 2 ^ 31 ∧ (p' < t → ¬ (48 ≤ ch p' ∧ ch p' ≤ 57)) ∧ ∀ j, j < s → gOp σ' τ' c (3 * O + j) := by
  obtain ⟨⟨q1, q2, q3, q4, q5, q6⟩, lt, l5, l6, l7, l8, l9, l10, l11⟩ := id W
  have hl := lt.le
  have ht := X.1
  rw [show (8192 : Nat) = 8191 + 1 from rfl]
  by_cases hpt : p = t
  · subst hpt
    refine Or.inl ⟨⟨σ, ?_, q1⟩, ?_⟩
    · rw [gZp_e X q1, l5, if_neg (nI_neg1_ne c (by omega))]
    · rw [qM_takesNumber_52, isAt_e X q2 q5, b_s, if_pos z00]
  have hpt : p < t := by omega
  obtain ⟨c1, c2, c3⟩ := X.2.2.2 p hpt
  by_cases q : 48 ≤ ch p ∧ ch p ≤ 57
  case neg =>
    refine Or.inl ⟨⟨σ, ?_, q1⟩, ?_⟩
    · rw [gZp_s X q1 hpt, want_c lt l5 l6 hs c1 q (by
        rcases h8 with ⟨a, -, b, d⟩ | ⟨a, -⟩
        · exact Or.inl ⟨a, b hpt, d hpt⟩
        · exact Or.inr a), b_s, if_pos z00]
    · rw [qM_takesNumber_52, isDg X q2 q5 hpt, if_neg q, b_s, if_pos z00]
  have hd : dg = 0 := by
    rcases hr with h | h
    · exact h
    · exact absurd q (h hpt)
  subst hd
  refine Or.inr ?_
  have f1 := first_c lt q3 l5 l6 l7 hs (by omega) (by
    rcases h8 with ⟨a, b, -⟩ | ⟨a, b⟩
    · exact Or.inl ⟨a, b⟩
    · exact Or.inr ⟨a, b⟩) (nI (ch p - 48))
  rw [qM_takesNumber_52, isDg X q2 q5 hpt, if_pos q, b_s, if_neg n10, q5, show nI p + (5 : Int32) = nI (p + 5) from nI_add p 5, if_neg (nI_ne (by omega) (by omega) (by omega)), gob_n (by omega) (by omega), nI1, nI_clamp (by omega), q2.2 6 (by decide) (by decide), c3, gZp_s X q1 hpt, acc_d l5 (by omega) q.1 q.2, f1, b_s, gbo1, b_s, if_neg n10]
  have ew : (10 : Int32) * 0 + nI (ch p) - (48 : Int32) = nI (ch p - 48) := by
    rw [Int32.mul_zero, Int32.zero_add, show (48 : Int32) = nI 48 from rfl, nI_sub (by omega)]
  rw [ew]
  have W' : gW σ0 τ0 (sM (sI (sM (gBg σ sg) 45 (3 * O + s) 0) 42 7 (nI 1)) 45 (3 * O + s) (sg * nI (ch p - 48))) (sI τ 0 15 (nI (p + 1))) (p + 1) O c M (s + 1) 1 := by
    have fb : fX σ0 (gBg σ sg) := ((q1.sI (by omega) _).sI (by omega) _).sI (by omega) _
    refine ⟨W.1.at (((fb.sM (by omega) _ _).sI (by omega) _).sM (by omega) _ _) (q2.sI (by omega) _) rfl ?_ ?_ (fun i hi => ⟨?_, rfl⟩) (fun i hi => ⟨?_, rfl⟩), lt, l5, ?_, rfl, by omega, by omega, ?_, l11⟩
    · rw [gI_sI, if_neg (by omega)]
    · rw [gI_sI, if_pos (by omega)]
    · rw [gMs_n (by decide)]
      show gM (sM (gBg σ sg) 45 (3 * O + s) 0) 44 i = _
      rw [gMs_n (by decide)]; rfl
    · rw [gMs_s, upd_n (by omega)]
      show gM (sM (gBg σ sg) 45 (3 * O + s) 0) 45 i = _
      rw [gMs_s, upd_n (by omega)]; rfl
    · show gI (gBg σ sg) 42 6 = _
      unfold gBg
      rw [gI_sI, if_pos (by omega), gI_sI, if_neg (by omega), gI_sI, if_neg (by omega), l6, nI1]
    · rw [gMs_n (by decide)]
      show gM (sM (gBg σ sg) 45 (3 * O + s) 0) 44 O = _
      rw [gMs_n (by decide)]; exact l10
  rcases digits_c (b := p) X hs sg a1 z k (t - (p + 1)) (p + 1) 1 (ch p - 48) 8191 _ _ (by omega) (by omega) W' rfl rfl (by rw [gMs_s, upd_s]) (by omega) (by omega) (by omega) (by omega) (fun j hj => (hop j hj).cg (by
      rw [gMs_s, upd_n (by omega)]
      show gM (sM (gBg σ sg) 45 (3 * O + s) 0) 45 _ = _
      rw [gMs_s, upd_n (by omega)]; rfl) rfl) with g | ⟨p', σ', τ', dg', w', a1, a2, a3, a4, a5, a6, a7, a8, a9, a10, a11⟩
  · exact Or.inl g
  · exact Or.inr ⟨p', σ', τ', dg', w', by omega, a2, a3, a4, a5, a6, a7, a8, a10, a11⟩
