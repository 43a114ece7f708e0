/-- blanks within an order -/
theorem blanks_w {σ0 τ0 : gS} {t : Nat} {ch : Nat → Nat} (X : gTxc σ0 τ0 t ch) {O c M m : Nat} (k : gS → Option gS) : ∀ (d p dg n : Nat) (σ τ : gS), p + d = t → d < n → gW σ0 τ0 σ τ p O c M m dg → gI σ 42 8 = 0 → (dg = 0 ∨ (p < t → ¬ (48 ≤ ch p ∧ ch p ≤ 57))) →
    ∃ p' σ' τ' dg', p ≤ p' ∧ p' ≤ t ∧ gZp σ p = gZp σ' p' ∧ qM_blanks_0 k n τ = k τ' ∧ gW σ0 τ0 σ' τ' p' O c M m dg' ∧ gI σ' 42 8 = 0 ∧ (p' < t → ch p' ≠ 32) ∧ (dg' = 0 ∨ (p' < t → ¬ (48 ≤ ch p' ∧ ch p' ≤ 57))) ∧ (∀ i, gM σ' 45 i = gM σ 45 i) ∧ ∀ i, gM τ' 11 i = gM τ 11 i := by
  intro d
  induction d with
  | zero =>
    intro p dg n σ τ hp hn W e8 hr
    obtain ⟨n, rfl⟩ : ∃ m, n = m + 1 := ⟨n - 1, by omega⟩
    obtain rfl : p = t := by omega
    refine ⟨p, σ, τ, dg, Nat.le_refl _, Nat.le_refl _, rfl, ?_, W, e8, fun q => absurd q (by omega), hr, fun _ => rfl, fun _ => rfl⟩
    rw [qM_blanks_0, isAt_e X W.1.2.1 W.1.2.2.2.2.1, b_s, if_pos z00]
  | succ d ih =>
    intro p dg n σ τ hp hn W e8 hr
    obtain ⟨n, rfl⟩ : ∃ m, n = m + 1 := ⟨n - 1, by omega⟩
    obtain ⟨⟨q1, q2, q3, q4, q5, q6⟩, lt, l5, l6, l7, l8, l9, l10, l11⟩ := id W
    have hl := lt.le
    have ht := X.1
    have hpt : p < t := by omega
    obtain ⟨c1, c2, c3⟩ := X.2.2.2 p hpt
    have ia : qM_isAt τ 32 32 = some (if 32 ≤ ch p ∧ ch p ≤ 32 then 1 else 0) := isAt_y X q2 (lo := 32) (hi := 32) q5 hpt (by omega) (by omega)
    by_cases q : ch p = 32
    case neg =>
      refine ⟨p, σ, τ, dg, Nat.le_refl _, by omega, rfl, ?_, W, e8, fun _ => q, hr, fun _ => rfl, fun _ => rfl⟩
      rw [qM_blanks_0, ia, if_neg (by omega), b_s, if_pos z00]
    have W' : gW σ0 τ0 (sI σ 42 7 0) (sI τ 0 15 (nI (p + 1))) (p + 1) O c M m 0 := by
      refine ⟨W.1.at (q1.sI (by omega) _) (q2.sI (by omega) _) ?_ ?_ ?_ (fun i hi => ⟨rfl, rfl⟩) (fun i hi => ⟨rfl, rfl⟩), lt, ?_, ?_, ?_, l8, by omega, l10, l11⟩
      · rw [gI_sI, if_neg (by omega)]
      · rw [gI_sI, if_neg (by omega)]
      · rw [gI_sI, if_pos (by omega)]
      · rw [gI_sI, if_neg (by omega)]; exact l5
      · rw [gI_sI, if_neg (by omega)]; exact l6
      · rw [gI_sI, if_pos (by omega)]; rfl
    obtain ⟨p', σ', τ', dg', a1, a2, a3, a4, a5, a6, a7, a8, a9, a10⟩ := ih (p + 1) 0 n _ _ (by omega) (by omega) W' (by rw [gI_sI, if_neg (by omega)]; exact e8) (Or.inl rfl)
    refine ⟨p', σ', τ', dg', by omega, a2, ?_, ?_, a5, a6, a7, a8, a9, a10⟩
    · rw [gZp_s X q1 hpt, acc_n l5 (by omega) c1 (by omega) e8, q, if_pos (show nI 32 = 32 from rfl), b_s, if_neg n10]
      exact a3
    · rw [qM_blanks_0, ia, if_pos (by omega), b_s, if_neg n10, q5, nI1]
      exact a4
/-- blanks between orders -/
theorem blanks_b {σ0 τ0 : gS} {t : Nat} {ch : Nat → Nat} (X : gTxc σ0 τ0 t ch) {O : Nat} (k : gS → Option gS) : ∀ (d p n : Nat) (σ τ : gS), p + d = t → d < n → gB σ0 τ0 σ τ p O →
    ∃ p' τ', p ≤ p' ∧ p' ≤ t ∧ gZp σ p = gZp σ p' ∧ qM_blanks_0 k n τ = k τ' ∧ gB σ0 τ0 σ τ' p' O ∧ (p' < t → ch p' ≠ 32) := by
  intro d
  induction d with
  | zero =>
    intro p n σ τ hp hn B
    obtain ⟨n, rfl⟩ : ∃ m, n = m + 1 := ⟨n - 1, by omega⟩
    obtain rfl : p = t := by omega
    refine ⟨p, τ, Nat.le_refl _, Nat.le_refl _, rfl, ?_, B, fun q => absurd q (by omega)⟩
    rw [qM_blanks_0, isAt_e X B.1.2.1 B.1.2.2.2.2.1, b_s, if_pos z00]
  | succ d ih =>
    intro p n σ τ hp hn B
    obtain ⟨n, rfl⟩ : ∃ m, n = m + 1 := ⟨n - 1, by omega⟩
    obtain ⟨⟨q1, q2, q3, q4, q5, q6⟩, l5, l9⟩ := id B
    have ht := X.1
    have hpt : p < t := by omega
    obtain ⟨c1, c2, c3⟩ := X.2.2.2 p hpt
    have ia : qM_isAt τ 32 32 = some (if 32 ≤ ch p ∧ ch p ≤ 32 then 1 else 0) := isAt_y X q2 (lo := 32) (hi := 32) q5 hpt (by omega) (by omega)
    by_cases q : ch p = 32
    case neg =>
      refine ⟨p, τ, Nat.le_refl _, by omega, rfl, ?_, B, fun _ => q⟩
      rw [qM_blanks_0, ia, if_neg (by omega), b_s, if_pos z00]
    have B' : gB σ0 τ0 σ (sI τ 0 15 (nI (p + 1))) (p + 1) O := by
      refine ⟨B.1.at q1 (q2.sI (by omega) _) rfl ?_ ?_ (fun i hi => ⟨rfl, rfl⟩) (fun i hi => ⟨rfl, rfl⟩), l5, by omega⟩
      · rw [gI_sI, if_neg (by omega)]
      · rw [gI_sI, if_pos (by omega)]
    obtain ⟨p', τ', a1, a2, a3, a4, a5, a6⟩ := ih (p + 1) n _ _ (by omega) (by omega) B'
    refine ⟨p', τ', by omega, a2, ?_, ?_, a5, a6⟩
    · rw [gZp_s X q1 hpt, q]
      unfold qP_accepts
      rw [l5, if_pos rfl, if_pos (show nI 32 = 32 from rfl), b_s, if_neg n10]
      exact a3
    · rw [qM_blanks_0, ia, if_pos (by omega), b_s, if_neg n10, q5, nI1]
      exact a4
/-- what the reference does behind a number's digits -/
def gKn (b a1 : Int32) (f : Int32 → Int32) : gS → Int32 → Option (Int32 × gS) := fun σ10 x11 => gob a1 180 ((if b < (gI (sM σ10 11 a1.toNatClampNeg (f x11)) 0 15) then some ((1 : Int32), (sM σ10 11 a1.toNatClampNeg (f x11))) else (qM_fails (sM σ10 11 a1.toNatClampNeg (f x11)) (gI (sM σ10 11 a1.toNatClampNeg (f x11)) 0 15)).bind (fun r15 => (if r15.1 = 0 then some ((0 : Int32), r15.2) else some ((1 : Int32), r15.2)))))
theorem num_eq (τ : gS) (a1 a2 : Int32) : qM_takesNumber τ a1 a2 = (qM_blanks τ).bind (fun r1 => if a2 = 0 then qM_takesNumber_52 a1 0 (gI (sI r1 0 15 (gI r1 0 15 + 0)) 0 15) (gKn (gI (sI r1 0 15 (gI r1 0 15 + 0)) 0 15) a1 (fun x => x)) 8192 (sI r1 0 15 (gI r1 0 15 + 0)) 0 else (qM_isAt r1 45 45).bind (fun r17 => if r17 = 0 then qM_takesNumber_52 a1 0 (gI (sI r1 0 15 (gI r1 0 15 + 0)) 0 15) (gKn (gI (sI r1 0 15 (gI r1 0 15 + 0)) 0 15) a1 (fun x => x)) 8192 (sI r1 0 15 (gI r1 0 15 + 0)) 0 else qM_takesNumber_52 a1 1 (gI (sI r1 0 15 (gI r1 0 15 + 1)) 0 15) (gKn (gI (sI r1 0 15 (gI r1 0 15 + 1)) 0 15) a1 (fun x => -x)) 8192 (sI r1 0 15 (gI r1 0 15 + 1)) 0)) := rfl
theorem plain_c {σ0 τ0 : gS} {t : Nat} {ch : Nat → Nat} (X : gTxc σ0 τ0 t ch) {O c M s p dg : Nat} (hs : s < M) {σ τ : gS} (hp : p ≤ t) (W : gW σ0 τ0 σ τ p O c M s dg) (hr : dg = 0 ∨ (p < t → ¬ (48 ≤ ch p ∧ ch p ≤ 57))) {sg : Int32} (h8 : gI σ 42 8 = 0 ∧ sg = 1 ∧ (p < t → ch p ≠ 32) ∧ (p < t → ch p = 45 → ¬ (c = 118 ∧ s = 1)) ∨ gI σ 42 8 = 1 ∧ sg = -1) (h106 : c = 106 → sg = 1) (hop : ∀ j, j < s → gOp σ τ c (3 * O + j)) (z : Int32) {f : Int32 → Int32} (hf : ∀ x, f x = sg * x) :
    gF σ0 τ0 (gZp σ p) (qM_takesNumber_52 (nI (3 * O + s)) z (nI p) (gKn (nI p) (nI (3 * O + s)) f) 8192 τ 0) ∨ ∃ p' σ' τ' dg', p < p' ∧ p' ≤ t ∧ gZp σ p = gZp σ' p' ∧ qM_takesNumber_52 (nI (3 * O + s)) z (nI p) (gKn (nI p) (nI (3 * O + s)) f) 8192 τ 0 = some (1, τ') ∧ gW σ0 τ0 σ' τ' p' O c M (s + 1) dg' ∧ gI σ' 42 8 = 0 ∧ (p' < t → ¬ (48 ≤ ch p' ∧ ch p' ≤ 57)) ∧ ∀ j, j < s + 1 → gOp σ' τ' c (3 * O + j) := by
  have hl := W.2.1.le
  have h9 := W.2.2.2.2.2.2.1
  have ht := X.1
  rcases num_c X hs hp W hr h8 hop (nI (3 * O + s)) z (gKn (nI p) (nI (3 * O + s)) f) with ⟨⟨σ', e1, e2⟩, e3⟩ | g | ⟨p', σ', τ', dg', w', a1, a2, a3, a4, a5, a6, a7, a8, a9, a10⟩
  · rw [e1, e3]
    unfold gKn
    rw [gob_n (by omega) (by omega), nI_clamp (by omega), show gI (sM τ 11 (3 * O + s) (f 0)) 0 15 = nI p from W.1.2.2.2.2.1, if_neg (show ¬ nI p < nI p from fun h => Int32.lt_irrefl h)]
    exact Or.inl ⟨p, σ', _, by omega, rfl, rfl, rfl, e2, (W.1.2.1.sM (by omega) _ _).sI (by omega) _⟩
  · exact Or.inl g
  · refine Or.inr ⟨p', σ', sM τ' 11 (3 * O + s) (f (nI w')), dg', a1, a2, a3, ?_, ?_, a6, a9, fun j hj => ?_⟩
    · rw [a4]
      unfold gKn
      rw [gob_n (by omega) (by omega), nI_clamp (by omega), show gI (sM τ' 11 (3 * O + s) (f (nI w'))) 0 15 = nI p' from a5.1.2.2.2.2.1, if_pos ((nI_ltI (by omega) (by omega)).mpr a1)]
    · obtain ⟨⟨q1, q2, q3, q4, q5, q6⟩, r⟩ := a5
      refine ⟨⟨q1, q2.sM (by omega) _ _, q3, q4, q5, q6.cg (fun i hi => ⟨rfl, ?_⟩) (fun i hi => ⟨rfl, ?_⟩)⟩, r.1, r.2.1, r.2.2.1, r.2.2.2.1, r.2.2.2.2.1, r.2.2.2.2.2.1, r.2.2.2.2.2.2.1, ?_⟩
      · rw [gMs_n (by decide)]
      · rw [gMs_s, upd_n (by omega)]
      · rw [gMs_n (by decide)]; exact r.2.2.2.2.2.2.2
    · by_cases e : j = s
      · subst e
        refine ⟨?_, fun h => ⟨w', a8, ?_⟩⟩
        · rw [gMs_s, upd_s, a7, hf]
        · rw [gMs_s, upd_s, hf, h106 h, Int32.one_mul]
      · exact (a10 j (by omega)).cg rfl (by rw [gMs_s, upd_n (by omega)])
theorem number_c {σ0 τ0 : gS} {t : Nat} {ch : Nat → Nat} (X : gTxc σ0 τ0 t ch) {O c M s p dg : Nat} (hs : s < M) {σ τ : gS} (hp : p ≤ t) (W : gW σ0 τ0 σ τ p O c M s dg) (e8 : gI σ 42 8 = 0) (hr : dg = 0 ∨ (p < t → ¬ (48 ≤ ch p ∧ ch p ≤ 57))) (hop : ∀ j, j < s → gOp σ τ c (3 * O + j)) {a2 : Int32} (ha : (a2 = 0 ∧ ¬ (c = 118 ∧ s = 1)) ∨ (a2 = 1 ∧ c = 118 ∧ s = 1)) :
    gF σ0 τ0 (gZp σ p) (qM_takesNumber τ (nI (3 * O + s)) a2) ∨ ∃ p' σ' τ' dg', p < p' ∧ p' ≤ t ∧ gZp σ p = gZp σ' p' ∧ qM_takesNumber τ (nI (3 * O + s)) a2 = some (1, τ') ∧ gW σ0 τ0 σ' τ' p' O c M (s + 1) dg' ∧ gI σ' 42 8 = 0 ∧ (p' < t → ¬ (48 ≤ ch p' ∧ ch p' ≤ 57)) ∧ ∀ j, j < s + 1 → gOp σ' τ' c (3 * O + j) := by
  have ht := X.1
  obtain ⟨p1, σ1, τ1, dg1, a1, a2, a3, a4, W1, a6, a7, a8, a9, a10⟩ := blanks_w X (fun σ3 => some σ3) (t - p) p dg 8192 σ τ (by omega) (by omega) W e8 hr
  have hb : qM_blanks τ = some τ1 := a4
  rw [num_eq, hb, b_s, a3]
  have hop1 : ∀ j, j < s → gOp σ1 τ1 c (3 * O + j) := fun j hj => (hop j hj).cg (a9 _) (a10 _)
  obtain ⟨⟨q1, q2, q3, q4, q5, q6⟩, lt, l5, l6, l7, l8, l9, l10, l11⟩ := id W1
  have hl := lt.le
  have ps : gI (sI τ1 0 15 (gI τ1 0 15 + 0)) 0 15 = nI p1 := by
    rw [gI_sI, if_pos (by omega), q5, show nI p1 + (0 : Int32) = nI (p1 + 0) from nI_add p1 0]; rfl
  have W2 : gW σ0 τ0 σ1 (sI τ1 0 15 (gI τ1 0 15 + 0)) p1 O c M s dg1 := ⟨W1.1.at q1 (q2.sI (by omega) _) rfl (by rw [gI_sI, if_neg (by omega)]) ps (fun i hi => ⟨rfl, rfl⟩) (fun i hi => ⟨rfl, rfl⟩), lt, l5, l6, l7, l8, l9, l10, l11⟩
  have good : (p1 < t → ch p1 = 45 → ¬ (c = 118 ∧ s = 1)) → gF σ0 τ0 (gZp σ1 p1) (qM_takesNumber_52 (nI (3 * O + s)) 0 (gI (sI τ1 0 15 (gI τ1 0 15 + 0)) 0 15) (gKn (gI (sI τ1 0 15 (gI τ1 0 15 + 0)) 0 15) (nI (3 * O + s)) (fun x => x)) 8192 (sI τ1 0 15 (gI τ1 0 15 + 0)) 0) ∨ ∃ p' σ' τ' dg', p < p' ∧ p' ≤ t ∧ gZp σ1 p1 = gZp σ' p' ∧ (qM_takesNumber_52 (nI (3 * O + s)) 0 (gI (sI τ1 0 15 (gI τ1 0 15 + 0)) 0 15) (gKn (gI (sI τ1 0 15 (gI τ1 0 15 + 0)) 0 15) (nI (3 * O + s)) (fun x => x)) 8192 (sI τ1 0 15 (gI τ1 0 15 + 0)) 0) = some (1, τ') ∧ gW σ0 τ0 σ' τ' p' O c M (s + 1) dg' ∧ gI σ' 42 8 = 0 ∧ (p' < t → ¬ (48 ≤ ch p' ∧ ch p' ≤ 57)) ∧ ∀ j, j < s + 1 → gOp σ' τ' c (3 * O + j) := by
    intro hm
    rw [ps]
    rcases plain_c X hs a2 W2 a8 (sg := 1) (Or.inl ⟨a6, rfl, a7, hm⟩) (fun _ => rfl) hop1 0 (f := fun x => x) (fun x => (Int32.one_mul x).symm) with g | ⟨p', σ', τ', dg', b1, b2⟩
    · exact Or.inl g
    · exact Or.inr ⟨p', σ', τ', dg', by omega, b2⟩
  rcases ha with ⟨rfl, hc⟩ | ⟨rfl, hc, h1⟩
  · rw [if_pos z00]
    exact good (fun _ _ => hc)
  · rw [if_neg n10]
    have ia : p1 < t → qM_isAt τ1 45 45 = some (if 45 ≤ ch p1 ∧ ch p1 ≤ 45 then 1 else 0) := fun h => isAt_y X q2 (lo := 45) (hi := 45) q5 h (by omega) (by omega)
    by_cases hpt : p1 = t
    · rw [isAt_e X q2 (by rw [q5, hpt]), b_s, if_pos z00]
      exact good (fun h => absurd h (by omega))
    have hpt : p1 < t := by omega
    rw [ia hpt]
    by_cases q : ch p1 = 45
    case neg =>
      rw [if_neg (show ¬ (45 ≤ ch p1 ∧ ch p1 ≤ 45) by omega), b_s, if_pos z00]
      exact good (fun _ h => absurd h q)
    rw [if_pos (show 45 ≤ ch p1 ∧ ch p1 ≤ 45 by omega), b_s, if_neg n10]
    obtain ⟨c1, c2, c3⟩ := X.2.2.2 p1 hpt
    have pm : gI (sI τ1 0 15 (gI τ1 0 15 + 1)) 0 15 = nI (p1 + 1) := by
      rw [gI_sI, if_pos (by omega), q5, nI1]
    have W3 : gW σ0 τ0 (sI (sI σ1 42 7 0) 42 8 1) (sI τ1 0 15 (gI τ1 0 15 + 1)) (p1 + 1) O c M s 0 := ⟨W1.1.at ((q1.sI (by omega) _).sI (by omega) _) (q2.sI (by omega) _) rfl (by rw [gI_sI, if_neg (by omega)]) pm (fun i hi => ⟨rfl, rfl⟩) (fun i hi => ⟨rfl, rfl⟩), lt, l5, l6, rfl, l8, by omega, l10, l11⟩
    have st : gZp σ1 p1 = gZp (sI (sI σ1 42 7 0) 42 8 1) (p1 + 1) := by
      rw [gZp_s X q1 hpt, acc_n l5 (by omega) c1 (by omega) a6, q, if_neg (show ¬ nI 45 = (32 : Int32) by decide), if_pos (show nI 45 = (45 : Int32) from rfl)]
      unfold qP_acceptsMinus
      rw [l5, hc, if_pos (show nI 118 = (118 : Int32) from rfl), l6, h1, if_pos (show nI 1 = (1 : Int32) from rfl), b_s, gbo1, b_s, if_neg n10]
    rw [st, pm]
    rcases plain_c X hs (show p1 + 1 ≤ t by omega) W3 (Or.inl rfl) (sg := -1) (Or.inr ⟨rfl, rfl⟩) (fun h => absurd h (by omega)) (fun j hj => (hop1 j hj).cg rfl rfl) 1 (f := fun x => -x) (fun x => by rw [Int32.neg_mul, Int32.one_mul]) with g | ⟨p', σ', τ', dg', b1, b2⟩
    · exact Or.inl g
    · exact Or.inr ⟨p', σ', τ', dg', by omega, b2⟩
