/-! DIGEST: what both mix is alike -/
theorem noted_fst {σ s : gS} {x y : Int32} (h : qT_noted σ x = some (y, s)) : x = y := by
  unfold qT_noted gob at h
  repeat' split at h
  all_goals first | exact congrArg Prod.fst (Option.some.inj h) | exact (nomatch h)
/-- a value that is told by the class through its tally -/
theorem told_v {σ s : gS} {q : Option Int32} {r : Int32} (h : (q.bind fun r1 => (qT_noted σ r1).bind fun r2 => some (r2.1, r2.2)) = some (r, s)) : q = some r := by
  cases q with
  | none => exact (nomatch h)
  | some x =>
    rw [b_s] at h
    cases e : qT_noted σ x with
    | none => rw [e] at h; exact (nomatch h)
    | some y =>
      rw [e, b_s] at h
      have h1 : y.1 = r := congrArg Prod.fst (Option.some.inj h)
      have h2 : x = y.1 := noted_fst (s := y.2) e
      rw [h2, h1]
theorem told_m {τ s : gS} {q : Option Int32} {r : Int32} (h : (q.bind fun r3 => some (r3, τ)) = some (r, s)) : q = some r := by
  cases q with
  | none => exact (nomatch h)
  | some x =>
    rw [b_s] at h
    have : x = r := congrArg Prod.fst (Option.some.inj h)
    rw [this]
theorem count_v {n : Nat} {σ τ : gS} (h : Rel n σ τ) (hn : n ≤ 5000) {k : Nat} (hk : k < 10) : ∃ x, qF_counted σ (nI k) = some x ∧ qM_countOf τ (nI k) = some x := by
  obtain ⟨r, σ', τ', e1, e2, -⟩ := sim_count h hn (nI k)
  unfold qF_count at e1
  unfold qM_count at e2
  rw [in_yes (lo := 0) (hi := 9) (by rw [i0, nI_toInt (by omega)]; omega) (by rw [i9, nI_toInt (by omega)]; omega), if_neg n10] at e2
  exact ⟨r, told_v e1, told_m e2⟩
theorem reg_v {n : Nat} {σ τ : gS} (h : Rel n σ τ) {r k : Nat} (hr : r < 6) (hk : k < 3) : ∃ x, qS_registerProperty σ (nI r) (nI k) = some x ∧ qM_ofRegister τ (nI r) (nI k) = some x := by
  obtain ⟨x, σ', τ', e1, e2, -⟩ := sim_register h (nI r) (nI k)
  unfold qF_register at e1
  unfold qM_register qM_isRegister at e2
  rw [in_yes (lo := 0) (hi := 5) (by rw [i0, nI_toInt (by omega)]; omega) (by rw [i5, nI_toInt (by omega)]; omega), if_neg n10, in_yes (lo := 0) (hi := 2) (by rw [i0, nI_toInt (by omega)]; omega) (by rw [i2, nI_toInt (by omega)]; omega), if_neg n10] at e2
  exact ⟨x, told_v e1, told_m e2⟩
