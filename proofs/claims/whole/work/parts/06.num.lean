/-! NUMBERS: what the mirrors ask of Int32, in Nat -/
theorem nT {n : Nat} (h : n < 2 ^ 31) : (nI n).toInt = (n : Int) := nI_toInt h
theorem gob_n {α : Type} {i n : Nat} {x : Option α} (h : i < n) (hn : n < 2 ^ 31) : gob (nI i) n x = x := by
  unfold gob
  rw [if_pos]
  rw [nI_toInt (by omega)]
  omega
theorem gor_n {α : Type} {ts : List Nat} {i d : Nat} {f : Nat → Option α} (h : ts[i]? = some d) (hi : i < 2 ^ 31) : gor ts (nI i) f = f d := by
  unfold gor
  rw [if_pos (by rw [nI_toInt hi]; omega), nI_clamp hi, h]
  rfl
theorem b_s {α β : Type} (a : α) (f : α → Option β) : (some a).bind f = f a := rfl
theorem nI_inj {a b : Nat} (ha : a < 2 ^ 31) (hb : b < 2 ^ 31) (h : nI a = nI b) : a = b := (nI_eq ha hb).mp h
theorem nI_sub {a b : Nat} (h : b ≤ a) : nI a - nI b = nI (a - b) := pk_sub h
theorem nI_mul (a b : Nat) : nI a * nI b = nI (a * b) := pk_mul a b
theorem nI_neg1_ne (n : Nat) (h : n < 2 ^ 31) : ¬ nI n = (-1 : Int32) := by
  intro q
  have := congrArg Int32.toInt q
  rw [nI_toInt h, show (-1 : Int32).toInt = -1 from by decide] at this
  omega
theorem le_n {a b : Nat} (ha : a < 2 ^ 31) (hb : b < 2 ^ 31) : (nI a ≤ nI b) = (a ≤ b) := propext (nI_leI ha hb)
theorem lt_n {a b : Nat} (ha : a < 2 ^ 31) (hb : b < 2 ^ 31) : (nI a < nI b) = (a < b) := propext (nI_ltI ha hb)
theorem eq_n {a b : Nat} (ha : a < 2 ^ 31) (hb : b < 2 ^ 31) : (nI a = nI b) = (a = b) := propext (nI_eq ha hb)
/-- an argument is a place of a row, or it isn't -/
theorem n_cases (a : Int32) (N : Nat) (hN : N < 2 ^ 31) : (∃ r, r < N ∧ a = nI r) ∨ (a < 0 ∨ nI N ≤ a) := by
  by_cases h : a < 0
  · exact Or.inr (Or.inl h)
  · by_cases h2 : nI N ≤ a
    · exact Or.inr (Or.inr h2)
    · obtain ⟨j, hj, e⟩ := nI_of h
      refine Or.inl ⟨j, ?_, e⟩
      rw [e, nI_leI (by omega) hj] at h2
      omega
theorem q_in (a lo hi : Int32) : qM_in a lo hi = if lo ≤ a ∧ a ≤ hi then 1 else 0 := by
  unfold qM_in
  by_cases h1 : a < lo
  · rw [if_pos h1, if_neg (fun h => absurd h.1 (Int32.not_le.mpr h1))]
  · rw [if_neg h1]
    by_cases h2 : hi < a
    · rw [if_pos h2, if_neg (fun h => absurd h.2 (Int32.not_le.mpr h2))]
    · rw [if_neg h2, if_pos ⟨Int32.not_lt.mp h1, Int32.not_lt.mp h2⟩]
theorem q_reg (a : Int32) : (qF_isRegister a = 0 ∧ qM_isRegister a = 0) ∨ ∃ r : Nat, r < 6 ∧ a = nI r ∧ qF_isRegister a = 1 ∧ qM_isRegister a = 1 := by
  rcases n_cases a 6 (by decide) with ⟨r, hr, rfl⟩ | h | h
  · refine Or.inr ⟨r, hr, rfl, ?_, ?_⟩
    · unfold qF_isRegister
      rw [if_neg (nI_pos (by omega)), if_neg]
      intro q
      exact absurd ((nI_leI (a := 6) (by omega) (by omega)).mp q) (by omega)
    · unfold qM_isRegister
      rw [q_in, if_pos]
      exact ⟨nI_pos' (by omega), (nI_leI (b := 5) (by omega) (by omega)).mpr (by omega)⟩
  · refine Or.inl ⟨?_, ?_⟩
    · unfold qF_isRegister
      rw [if_pos h]
    · unfold qM_isRegister
      rw [q_in, if_neg (fun q => absurd q.1 (Int32.not_le.mpr h))]
  · refine Or.inl ⟨?_, ?_⟩
    · unfold qF_isRegister
      by_cases h0 : a < 0
      · rw [if_pos h0]
      · rw [if_neg h0, if_pos (show (6 : Int32) ≤ a from h)]
    · unfold qM_isRegister
      rw [q_in, if_neg]
      intro q
      have h6 : (nI 6).toInt ≤ a.toInt := Int32.le_iff_toInt_le.mp h
      have h5 : a.toInt ≤ (5 : Int32).toInt := Int32.le_iff_toInt_le.mp q.2
      rw [nI_toInt (by decide), show (5 : Int32).toInt = 5 from by decide] at *
      omega
