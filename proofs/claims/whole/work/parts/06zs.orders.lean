theorem operands_c {σ0 τ0 : gS} {t : Nat} {ch : Nat → Nat} (X : gTxc σ0 τ0 t ch) {O c M : Nat} (k : gS → Option (Int32 × gS)) : ∀ (d s n p dg : Nat) (σ τ : gS), s + d = M → d < n → p ≤ t → gW σ0 τ0 σ τ p O c M s dg → gI σ 42 8 = 0 → (dg = 0 ∨ (p < t → ¬ (48 ≤ ch p ∧ ch p ≤ 57))) → (∀ j, j < s → gOp σ τ c (3 * O + j)) →
    gF σ0 τ0 (gZp σ p) (qM_takesOrder_50 (nI c) (nI M) k n τ (nI s)) ∨ ∃ p' σ' τ' dg', p ≤ p' ∧ p' ≤ t ∧ gZp σ p = gZp σ' p' ∧ qM_takesOrder_50 (nI c) (nI M) k n τ (nI s) = k τ' ∧ gW σ0 τ0 σ' τ' p' O c M M dg' ∧ gI σ' 42 8 = 0 ∧ (dg' = 0 ∨ (p' < t → ¬ (48 ≤ ch p' ∧ ch p' ≤ 57))) ∧ ∀ j, j < M → gOp σ' τ' c (3 * O + j) := by
  intro d
  induction d with
  | zero =>
    intro s n p dg σ τ hs hn hp W e8 hr hop
    obtain ⟨n, rfl⟩ : ∃ m, n = m + 1 := ⟨n - 1, by omega⟩
    obtain rfl : s = M := by omega
    have hl := W.2.1.le
    refine Or.inr ⟨p, σ, τ, dg, Nat.le_refl _, hp, rfl, ?_, W, e8, hr, hop⟩
    rw [qM_takesOrder_50, if_pos ((nI_leI (by omega) (by omega)).mpr (Nat.le_refl _))]
  | succ d ih =>
    intro s n p dg σ τ hs hn hp W e8 hr hop
    obtain ⟨n, rfl⟩ : ∃ m, n = m + 1 := ⟨n - 1, by omega⟩
    have hl := W.2.1.le
    have ei : (3 : Int32) * gI τ 0 14 + nI s = nI (3 * O + s) := by
      rw [W.1.2.2.2.1, show (3 : Int32) = nI 3 from rfl, nI_mul, nI_add]
    have go : ∀ a2 : Int32, ((a2 = 0 ∧ ¬ (c = 118 ∧ s = 1)) ∨ (a2 = 1 ∧ c = 118 ∧ s = 1)) → gF σ0 τ0 (gZp σ p) ((qM_takesNumber τ (nI (3 * O + s)) a2).bind (fun r => if r.1 = 0 then some ((0 : Int32), r.2) else qM_takesOrder_50 (nI c) (nI M) k n r.2 (nI (s + 1)))) ∨ ∃ p' σ' τ' dg', p ≤ p' ∧ p' ≤ t ∧ gZp σ p = gZp σ' p' ∧ (qM_takesNumber τ (nI (3 * O + s)) a2).bind (fun r => if r.1 = 0 then some ((0 : Int32), r.2) else qM_takesOrder_50 (nI c) (nI M) k n r.2 (nI (s + 1))) = k τ' ∧ gW σ0 τ0 σ' τ' p' O c M M dg' ∧ gI σ' 42 8 = 0 ∧ (dg' = 0 ∨ (p' < t → ¬ (48 ≤ ch p' ∧ ch p' ≤ 57))) ∧ ∀ j, j < M → gOp σ' τ' c (3 * O + j) := by
      intro a2 ha
      rcases number_c X (show s < M by omega) hp W e8 hr hop ha with ⟨q, σ', τ', g1, g2, g3, g4, g5, g6⟩ | ⟨p', σ', τ', dg', a1, a3, a4, a5, a6, a7, a8, a9⟩
      · rw [g3, b_s, if_pos z00]
        exact Or.inl ⟨q, σ', τ', g1, g2, rfl, g4, g5, g6⟩
      · rw [a5, b_s, if_neg n10, a4]
        rcases ih (s + 1) n p' dg' σ' τ' (by omega) (by omega) a3 a6 a7 (Or.inr a8) a9 with g | ⟨p2, σ2, τ2, dg2, b1, b2, b3, b4, b5⟩
        · exact Or.inl g
        · exact Or.inr ⟨p2, σ2, τ2, dg2, by omega, b2, b3, b4, b5⟩
    rw [qM_takesOrder_50, if_neg (nle (by omega) (by omega)), ei, nI1]
    by_cases h1 : c = 118
    · rw [if_pos (show nI c = (118 : Int32) from congrArg nI h1)]
      by_cases h2 : s = 1
      · rw [if_pos (show nI s = (1 : Int32) from congrArg nI h2)]
        exact go 1 (Or.inr ⟨rfl, h1, h2⟩)
      · rw [if_neg (show ¬ nI s = (1 : Int32) from nI_ne (b := 1) (by omega) (by omega) h2)]
        exact go 0 (Or.inl ⟨rfl, fun h => h2 h.2⟩)
    · rw [if_neg (show ¬ nI c = (118 : Int32) from nI_ne (b := 118) (by omega) (by omega) h1)]
      exact go 0 (Or.inl ⟨rfl, fun h => h1 h.1⟩)
/-- the end of an order -/
def gKs : gS → Option (Int32 × gS) := fun σ13 => (qM_blanks σ13).bind (fun r14 => (qM_isAt r14 (59 : Int32) (59 : Int32)).bind (fun r15 => (if r15 = 0 then (qM_fails r14 (gI r14 0 15)).bind (fun r17 => gbo r17.1 (some (r17.1, r17.2))) else some ((1 : Int32), (sI (sI r14 0 15 ((gI r14 0 15) + (1 : Int32))) 0 14 ((gI (sI r14 0 15 ((gI r14 0 15) + (1 : Int32))) 0 14) + (1 : Int32)))))))
theorem semi_c {σ0 τ0 : gS} {t : Nat} {ch : Nat → Nat} (X : gTxc σ0 τ0 t ch) {O c M p dg : Nat} {σ τ : gS} (hp : p ≤ t) (W : gW σ0 τ0 σ τ p O c M M dg) (e8 : gI σ 42 8 = 0) (hr : dg = 0 ∨ (p < t → ¬ (48 ≤ ch p ∧ ch p ≤ 57))) (hop : ∀ j, j < M → gOp σ τ c (3 * O + j)) :
    gF σ0 τ0 (gZp σ p) (gKs τ) ∨ ∃ p' σ' τ', p < p' ∧ p' ≤ t ∧ gZp σ p = gZp σ' p' ∧ gKs τ = some (1, τ') ∧ gB σ0 τ0 σ' τ' p' (O + 1) := by
  have ht := X.1
  obtain ⟨p1, σ1, τ1, dg1, a1, a2, a3, a4, W1, a6, a7, a8, a9, a10⟩ := blanks_w X (fun σ3 => some σ3) (t - p) p dg 8192 σ τ (by omega) (by omega) W e8 hr
  have hb : qM_blanks τ = some τ1 := a4
  unfold gKs
  rw [hb, b_s, a3]
  obtain ⟨⟨q1, q2, q3, q4, q5, q6⟩, lt, l5, l6, l7, l8, l9, l10, l11⟩ := id W1
  have hl := lt.le
  by_cases hpt : p1 = t
  · subst hpt
    rw [isAt_e X q2 q5, b_s, if_pos z00, gZp_e X q1, l5, if_neg (nI_neg1_ne c (by omega)), q5]
    exact Or.inl ⟨p1, σ1, _, by omega, rfl, rfl, rfl, q1, q2.sI (by omega) _⟩
  have hpt : p1 < t := by omega
  obtain ⟨c1, c2, c3⟩ := X.2.2.2 p1 hpt
  have ia : qM_isAt τ1 59 59 = some (if 59 ≤ ch p1 ∧ ch p1 ≤ 59 then 1 else 0) := isAt_y X q2 (lo := 59) (hi := 59) q5 hpt (by omega) (by omega)
  by_cases q : ch p1 = 59
  case neg =>
    rw [ia, if_neg (show ¬ (59 ≤ ch p1 ∧ ch p1 ≤ 59) by omega), b_s, if_pos z00, q5]
    have hrej : qP_accepts σ1 (nI (ch p1)) = some (0, σ1) := by
      by_cases dq : 48 ≤ ch p1 ∧ ch p1 ≤ 57
      · have hd : dg1 = 0 := by
          rcases a8 with h | h
          · exact h
          · exact absurd dq (h hpt)
        rw [acc_d l5 (by omega) dq.1 dq.2, dig_eq, l7, hd, if_pos (show nI 0 = 0 from rfl), l6, l5, lt.op.1, if_pos rfl, b_s, gbo0]
      · rw [acc_n l5 (by omega) c1 dq a6, if_neg (show ¬ nI (ch p1) = (32 : Int32) from nI_ne (b := 32) (by omega) (by omega) (a7 hpt)), if_neg (show ¬ nI (ch p1) = (59 : Int32) from nI_ne (b := 59) (by omega) (by omega) q)]
        by_cases qm : ch p1 = 45
        · rw [if_pos (show nI (ch p1) = (45 : Int32) from congrArg nI qm)]
          unfold qP_acceptsMinus
          rw [l5, l6]
          by_cases q1 : c = 118
          · have hM : M = 2 := by unfold gLt at lt; omega
            rw [if_pos (show nI c = (118 : Int32) from congrArg nI q1), if_neg (show ¬ nI M = (1 : Int32) from nI_ne (b := 1) (by omega) (by omega) (by omega)), b_s, gbo0]
          · rw [if_neg (show ¬ nI c = (118 : Int32) from nI_ne (b := 118) (by omega) (by omega) q1), b_s, gbo0]
        · rw [if_neg (show ¬ nI (ch p1) = (45 : Int32) from nI_ne (b := 45) (by omega) (by omega) qm)]
    rw [gZp_s X q1 hpt, hrej, b_s, if_pos z00]
    exact Or.inl ⟨p1, σ1, _, by omega, rfl, rfl, rfl, q1, q2.sI (by omega) _⟩
  rw [ia, if_pos (show 59 ≤ ch p1 ∧ ch p1 ≤ 59 by omega), b_s, if_neg n10]
  have acc : qP_accepts σ1 (nI (ch p1)) = some (1, sI (sI σ1 42 4 (nI (O + 1))) 42 5 (-1)) := by
    rw [acc_n l5 (by omega) c1 (by omega) a6, q, if_neg (show ¬ nI 59 = (32 : Int32) by decide), if_neg (show ¬ nI 59 = (45 : Int32) by decide), if_pos (show nI 59 = (59 : Int32) from rfl)]
    unfold qP_acceptsSemicolon
    rw [l5, l6, lt.op.1, if_pos rfl, b_s, gbo1, q3, nI1]
  refine Or.inr ⟨p1 + 1, sI (sI σ1 42 4 (nI (O + 1))) 42 5 (-1), sI (sI τ1 0 15 (nI (p1 + 1))) 0 14 (nI (O + 1)), by omega, by omega, ?_, ?_, ⟨(q1.sI (by omega) _).sI (by omega) _, (q2.sI (by omega) _).sI (by omega) _, ?_, ?_, ?_, ?_⟩, ?_, by omega⟩
  · rw [gZp_s X q1 hpt, acc, b_s, if_neg n10]
  · rw [gI_sI, if_neg (show ¬ (0 = 0 ∧ 14 = 15) by omega), q4, q5, nI1, nI1]
  · rw [gI_sI, if_neg (by omega), gI_sI, if_pos (by omega)]
  · rw [gI_sI, if_pos (by omega)]
  · rw [gI_sI, if_neg (by omega), gI_sI, if_pos (by omega)]
  · intro i hi
    by_cases e : i = O
    · subst e
      exact ⟨c, M, lt, l10, l11, fun j hj => (hop j hj).cg (a9 _) (a10 _)⟩
    · exact q6 i (by omega)
  · rw [gI_sI, if_pos (by omega)]
/-- an order -/
theorem order_c {σ0 τ0 : gS} {t : Nat} {ch : Nat → Nat} (X : gTxc σ0 τ0 t ch) {O p : Nat} {σ τ : gS} (hp : p < t) (B : gB σ0 τ0 σ τ p O) (h32 : ch p ≠ 32) :
    gF σ0 τ0 (gZp σ p) (qM_takesOrder τ) ∨ ∃ p' σ' τ', p < p' ∧ p' ≤ t ∧ gZp σ p = gZp σ' p' ∧ qM_takesOrder τ = some (1, τ') ∧ gB σ0 τ0 σ' τ' p' (O + 1) := by
  have ht := X.1
  obtain ⟨⟨q1, q2, q3, q4, q5, q6⟩, l5, l9⟩ := id B
  obtain ⟨c1, c2, c3⟩ := X.2.2.2 p hp
  have et : qM_takesOrder τ = if 0 ≤ qM_manyOf (nI (ch p)) then qM_takesOrder_50 (nI (ch p)) (qM_manyOf (nI (ch p))) gKs 8192 (sI (sM τ 10 O (nI (ch p))) 0 15 (nI (p + 1))) (0 : Int32) else (qM_fails τ (nI p)).bind (fun r19 => gbo r19.1 (some (r19.1, r19.2))) := by
    unfold qM_takesOrder
    rw [q5, q4, gob_n (by omega) (by omega), nI_clamp (by omega), q2.2 6 (by decide) (by decide), c3, gob_n (by omega) (by omega), nI_clamp (by omega), show gI (sM τ 10 O (nI (ch p))) 0 15 = nI p from q5, nI1]
    rfl
  have ea : qP_accepts σ (nI (ch p)) = (qP_acceptsLetter σ (nI (ch p))).bind (fun r17 => (if r17.1 = 0 then some ((0 : Int32), r17.2) else some ((1 : Int32), r17.2))) := by
    unfold qP_accepts
    rw [l5, if_pos rfl, if_neg (show ¬ nI (ch p) = (32 : Int32) from nI_ne (b := 32) (by omega) (by omega) h32)]
  rw [et]
  rcases let_c c1 with ⟨M, lt⟩ | ⟨o1, o2⟩
  case inr =>
    rw [o2, if_neg (show ¬ (0 : Int32) ≤ -1 by decide), gZp_s X q1 hp, ea]
    unfold qP_acceptsLetter
    rw [o1, if_pos z00, b_s, if_pos z00, b_s, if_pos z00]
    exact Or.inl ⟨p, σ, _, by omega, rfl, rfl, rfl, q1, q2.sI (by omega) _⟩
  have hl := lt.le
  rw [lt.op.2, if_pos (nI_pos' (by omega))]
  have st : gZp σ p = gZp (sI (sI (sI (sI (sM σ 44 O (nI (ch p))) 42 5 (nI (ch p))) 42 6 0) 42 7 0) 42 8 0) (p + 1) := by
    rw [gZp_s X q1 hp, ea]
    unfold qP_acceptsLetter
    rw [lt.op.1, if_neg (nI_ne0 (n := M) (by omega) (by omega)), q3, if_neg (nlt0 (by omega)), if_pos (show nI O < (40 : Int32) from (nI_ltI (b := 40) (by omega) (by omega)).mpr (by omega)), gob_n (by omega) (by omega), nI_clamp (by omega), b_s, if_neg n10, b_s, if_neg n10]
  have W : gW σ0 τ0 (sI (sI (sI (sI (sM σ 44 O (nI (ch p))) 42 5 (nI (ch p))) 42 6 0) 42 7 0) 42 8 0) (sI (sM τ 10 O (nI (ch p))) 0 15 (nI (p + 1))) (p + 1) O (ch p) M 0 0 := by
    refine ⟨B.1.at (((((q1.sM (by omega) _ _).sI (by omega) _).sI (by omega) _).sI (by omega) _).sI (by omega) _) ((q2.sM (by omega) _ _).sI (by omega) _) rfl ?_ ?_ (fun i hi => ⟨?_, ?_⟩) (fun i hi => ⟨?_, ?_⟩), lt, rfl, rfl, rfl, by omega, by omega, ?_, ?_⟩
    · rw [gI_sI, if_neg (by omega)]; rfl
    · rw [gI_sI, if_pos (by omega)]
    · show gM (sM σ 44 O (nI (ch p))) 44 i = _
      rw [gMs_s, upd_n (by omega)]
    · show gM (sM τ 10 O (nI (ch p))) 10 i = _
      rw [gMs_s, upd_n (by omega)]
    · show gM (sM σ 44 O (nI (ch p))) 45 i = _
      rw [gMs_n (by decide)]
    · show gM (sM τ 10 O (nI (ch p))) 11 i = _
      rw [gMs_n (by decide)]
    · show gM (sM σ 44 O (nI (ch p))) 44 O = _
      rw [gMs_s, upd_s]
    · show gM (sM τ 10 O (nI (ch p))) 10 O = _
      rw [gMs_s, upd_s]
  rw [st]
  rcases operands_c X gKs M 0 8192 (p + 1) 0 _ _ (by omega) (by omega) (by omega) W rfl (Or.inl rfl) (fun j hj => absurd hj (by omega)) with g | ⟨p1, σ1, τ1, dg1, a1, a2, a3, a4, a5, a6, a7, a8⟩
  · exact Or.inl g
  · rw [show (0 : Int32) = nI 0 from rfl, a4]
    rcases semi_c X a2 a5 a6 a7 a8 with g | ⟨p2, σ2, τ2, b1, b2, b3, b4, b5⟩
    · rw [← a3] at g
      exact Or.inl g
    · exact Or.inr ⟨p2, σ2, τ2, by omega, b2, a3.trans b3, b4, b5⟩
/-- the whole text -/
def gOut (σ0 τ0 : gS) (x y : Option (Int32 × gS)) : Prop := gF σ0 τ0 x y ∨ ∃ σ' τ' O, x = some (-1, σ') ∧ y = some (1, τ') ∧ fX σ0 σ' ∧ fM τ0 τ' ∧ 1 ≤ O ∧ O ≤ 40 ∧ gI σ' 42 4 = nI O ∧ gI τ' 0 14 = nI O ∧ gOrd σ' τ' O
def gKr : gS → Option (Int32 × gS) := fun σ6 => (if 0 < (gI σ6 0 14) then some ((1 : Int32), σ6) else (qM_fails σ6 (gI σ6 0 7)).bind (fun r8 => (if r8.1 = 0 then some ((0 : Int32), r8.2) else some ((1 : Int32), r8.2))))
theorem text_c {σ0 τ0 : gS} {t : Nat} {ch : Nat → Nat} (X : gTxc σ0 τ0 t ch) : ∀ (d p O n : Nat) (σ τ : gS), t ≤ p + d → d < n → p ≤ t → gB σ0 τ0 σ τ p O → (p < t → ch p ≠ 32) → gOut σ0 τ0 (gZp σ p) (qM_isRead_14 gKr n τ) := by
  have ht := X.1
  intro d
  induction d with
  | zero =>
    intro p O n σ τ h1 hn hp B hc
    obtain ⟨n, rfl⟩ : ∃ m, n = m + 1 := ⟨n - 1, by omega⟩
    obtain rfl : p = t := by omega
    obtain ⟨⟨q1, q2, q3, q4, q5, q6⟩, l5, l9⟩ := id B
    rw [qM_isRead_14, q2.1 0 7 (by omega), X.2.2.1, q5, if_pos ((nI_leI (by omega) (by omega)).mpr (Nat.le_refl _)), gZp_e X q1, l5, if_pos rfl, q3]
    unfold gKr
    rw [q4]
    by_cases h0 : O = 0
    · rw [h0, if_pos (show nI 0 ≤ 0 from Int32.le_refl _), if_neg (show ¬ (0 : Int32) < nI 0 from fun h => Int32.lt_irrefl h), q2.1 0 7 (by omega), X.2.2.1]
      exact Or.inl ⟨p, σ, _, by omega, rfl, rfl, rfl, q1, q2.sI (by omega) _⟩
    · rw [if_neg (show ¬ nI O ≤ (0 : Int32) from nle (b := 0) (by omega) (by omega)), if_pos (show (0 : Int32) < nI O from (nI_ltI (a := 0) (by omega) (by omega)).mpr (by omega))]
      exact Or.inr ⟨σ, τ, O, rfl, rfl, q1, q2, by omega, by omega, q3, q4, q6⟩
  | succ d ih =>
    intro p O n σ τ h1 hn hp B hc
    by_cases hpt : p = t
    · exact ih p O n σ τ (by omega) (by omega) hp B hc
    obtain ⟨n, rfl⟩ : ∃ m, n = m + 1 := ⟨n - 1, by omega⟩
    have hpt : p < t := by omega
    have q2 := B.1.2.1
    have q5 := B.1.2.2.2.2.1
    rw [qM_isRead_14, q2.1 0 7 (by omega), X.2.2.1, q5, if_neg (nle hpt (by omega))]
    rcases order_c X hpt B (hc hpt) with ⟨q, σ', τ', g1, g2, g3, g4, g5, g6⟩ | ⟨p1, σ1, τ1, a1, a2, a3, a4, a5⟩
    · rw [g3, b_s, if_pos z00]
      exact Or.inl ⟨q, σ', τ', g1, g2, rfl, g4, g5, g6⟩
    · rw [a4, b_s, if_neg n10, a3]
      obtain ⟨p2, τ2, b1, b2, b3, b4, b5, b6⟩ := blanks_b X (fun σ3 => some σ3) (t - p1) p1 8192 σ1 τ1 (by omega) (by omega) a5
      have hb : qM_blanks τ1 = some τ2 := b4
      rw [hb, b_s, b3]
      exact ih p2 (O + 1) n σ1 τ2 (by omega) (by omega) b2 b5 b6
theorem parse_c {σ0 τ0 : gS} {t : Nat} {ch : Nat → Nat} (X : gTxc σ0 τ0 t ch) : gOut σ0 τ0 (qP_parse σ0) (qM_isRead τ0) := by
  have ht := X.1
  have er : qM_isRead τ0 = (qM_blanks (sI (sI τ0 0 15 (0 : Int32)) 0 14 (0 : Int32))).bind (fun r1 => qM_isRead_14 gKr 8192 r1) := rfl
  have B : gB σ0 τ0 (sI (sI σ0 42 4 (0 : Int32)) 42 5 (-1 : Int32)) (sI (sI τ0 0 15 (0 : Int32)) 0 14 (0 : Int32)) 0 0 :=
    ⟨⟨(fX.rf.sI (by omega) _).sI (by omega) _, (fM.rf.sI (by omega) _).sI (by omega) _, rfl, rfl, rfl, fun i hi => absurd hi (by omega)⟩, rfl, by omega⟩
  obtain ⟨p2, τ2, b1, b2, b3, b4, b5, b6⟩ := blanks_b X (fun σ3 => some σ3) t 0 8192 _ _ (by omega) (by omega) B
  have hb : qM_blanks (sI (sI τ0 0 15 (0 : Int32)) 0 14 (0 : Int32)) = some τ2 := b4
  rw [er, hb, b_s, gZp_0, b3]
  exact text_c X t p2 0 8192 _ τ2 (by omega) (by omega) b2 b5 b6
