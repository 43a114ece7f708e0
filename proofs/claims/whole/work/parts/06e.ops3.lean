/-! ACTS, third part: compare, jumps, move, forget, budget -/
theorem order_n {a b : Nat} (ha : a < 2 ^ 31) (hb : b < 2 ^ 31) : ∃ v, v ≤ 2 ∧ qO_order (nI a) (nI b) = nI v ∧ (if nI b ≤ nI a then (if nI a = nI b then some (1 : Int32) else some 2) else some 0) = some (nI v) := by
  unfold qO_order
  by_cases h : a = b
  · subst h
    exact ⟨1, by decide, by rw [if_pos rfl]; rfl, by rw [if_pos (Int32.le_refl _), if_pos rfl]; rfl⟩
  · rw [if_neg (fun q => h (nI_inj ha hb q))]
    by_cases h2 : b ≤ a
    · rw [if_pos ((nI_leI hb ha).mpr h2), if_pos ((nI_leI hb ha).mpr h2), if_neg (fun q => h (nI_inj ha hb q))]
      exact ⟨2, by decide, rfl, rfl⟩
    · rw [if_neg (fun q => h2 ((nI_leI hb ha).mp q)), if_neg (fun q => h2 ((nI_leI hb ha).mp q))]
      exact ⟨0, by decide, rfl, rfl⟩
theorem compare_c {σ τ : gS} {nb ni bu : Nat} {sz : Nat → Nat} (H : Rc1 σ (gM τ 1) nb ni bu sz) (a b : Int32) :
    ∃ v, qO_compareRegisters σ a b = some v ∧ qM_comparesTo τ a b = some v ∧ (v = -2 ∨ (∃ k, 1 ≤ k ∧ k ≤ 9 ∧ v = -10 - nI k) ∨ ∃ n, n ≤ 2 ∧ v = nI n) := by
  unfold qO_compareRegisters qM_comparesTo
  rcases q_reg a with ⟨e1, e2⟩ | ⟨r, hr, rfl, e1, e2⟩
  · rw [e1, e2, if_pos z00, if_pos z00]; exact ⟨_, rfl, rfl, Or.inl rfl⟩
  · rw [e1, e2, if_neg n10, if_neg n10]
    rcases q_reg b with ⟨e1, e2⟩ | ⟨q, hq, rfl, e1, e2⟩
    · rw [e1, e2, if_pos z00, if_pos z00]; exact ⟨_, rfl, rfl, Or.inl rfl⟩
    · rw [e1, e2, if_neg n10, if_neg n10, x_kind hr, x_kind hq, m_kind hr, m_kind hq]
      simp only [b_s]
      rw [x_val hr, x_val hq, m_val hr, m_val hq, x_off hr, x_off hq, m_place hr, m_place hq]
      simp only [b_s]
      have hnb := Rc_nb H
      have w1 : ∃ v, (some (-11 : Int32)) = some v ∧ some (qM_undefinedAs 1) = some v ∧ (v = -2 ∨ (∃ k, 1 ≤ k ∧ k ≤ 9 ∧ v = -10 - nI k) ∨ ∃ n, n ≤ 2 ∧ v = nI n) := ⟨_, congrArg some why1, rfl, Or.inr (Or.inl ⟨1, by decide, by decide, rfl⟩)⟩
      have w7 : ∃ v, (some (-17 : Int32)) = some v ∧ some (qM_undefinedAs 7) = some v ∧ (v = -2 ∨ (∃ k, 1 ≤ k ∧ k ≤ 9 ∧ v = -10 - nI k) ∨ ∃ n, n ≤ 2 ∧ v = nI n) := ⟨_, congrArg some why7, rfl, Or.inr (Or.inl ⟨7, by decide, by decide, rfl⟩)⟩
      have w8 : ∃ v, (some (-18 : Int32)) = some v ∧ some (qM_undefinedAs 8) = some v ∧ (v = -2 ∨ (∃ k, 1 ≤ k ∧ k ≤ 9 ∧ v = -10 - nI k) ∨ ∃ n, n ≤ 2 ∧ v = nI n) := ⟨_, congrArg some why8, rfl, Or.inr (Or.inl ⟨8, by decide, by decide, rfl⟩)⟩
      rcases Rc_reg H hr with ⟨k1, k2⟩ | ⟨k1, k2, v, hv, v1, v2⟩ | ⟨k1, k2, p, o, hp, ho, v1, v2, o1, o2⟩
      · rw [k1, k2, if_pos z00, if_pos z00]; exact w1
      · rw [k1, k2, if_neg n10, if_neg n10, v1, v2]
        rcases Rc_reg H hq with ⟨k1, k2⟩ | ⟨k1, k2, w, hw, u1, u2⟩ | ⟨k1, k2, p', o', hp', ho', u1, u2, t1, t2⟩
        · rw [k1, k2, if_pos z00, if_pos z00]; exact w1
        · rw [k1, k2, if_neg n10, if_neg n10, if_pos z11, if_pos z11, if_pos z11, if_neg n12, u1, u2]
          obtain ⟨s, s1, s2, s3⟩ := order_n (a := v) (b := w) (by omega) (by omega)
          rw [s2, s3]
          exact ⟨_, rfl, rfl, Or.inr (Or.inr ⟨s, s1, rfl⟩)⟩
        · rw [k1, k2, if_neg n20, if_neg n20, if_neg n12, if_neg n12]; exact w7
      · rw [k1, k2, if_neg n20, if_neg n20, v1, v2, o1, o2]
        rcases Rc_reg H hq with ⟨k1, k2⟩ | ⟨k1, k2, w, hw, u1, u2⟩ | ⟨k1, k2, p', o', hp', ho', u1, u2, t1, t2⟩
        · rw [k1, k2, if_pos z00, if_pos z00]; exact w1
        · rw [k1, k2, if_neg n10, if_neg n10, if_neg n21, if_neg n21]; exact w7
        · rw [k1, k2, if_neg n20, if_neg n20, if_pos z22, if_pos z22, if_neg n21, if_pos z22, u1, u2, t1, t2]
          by_cases e : nI p = nI p'
          · rw [if_pos e, if_pos e]
            have b1 := (Rc_blk H hp).2.1
            have b2 := (Rc_blk H hp').2.1
            obtain ⟨s, s1, s2, s3⟩ := order_n (a := o) (b := o') (by omega) (by omega)
            rw [s2, s3]
            exact ⟨_, rfl, rfl, Or.inr (Or.inr ⟨s, s1, rfl⟩)⟩
          · rw [if_neg e, if_neg e]; exact w8
theorem xor_nn {a b : Int32} (ha : ¬ a.toInt < 0) (hb : ¬ b.toInt < 0) : 0 ≤ a ^^^ b := by
  rw [le_i, i0]
  have h : (a ^^^ b).toBitVec.msb = false := by
    rw [Int32.toBitVec_xor, BitVec.msb_xor, BitVec.msb_eq_toInt, BitVec.msb_eq_toInt]
    have h1 : ¬ a.toBitVec.toInt < 0 := ha
    have h2 : ¬ b.toBitVec.toInt < 0 := hb
    rw [decide_eq_false h1, decide_eq_false h2]; rfl
  exact BitVec.toInt_nonneg_of_msb_false h
/-- a number moved, as both reckon it -/
theorem mod_c {v : Nat} (hv : v < 65536) {d : Int32} (h1 : -12 ≤ d.toInt) (h2 : d.toInt ≤ 12) :
    ∃ w, w < 65536 ∧ qJ_floorMod (nI v + d) 65536 = some (nI w) ∧ ((nI v + d) + (65536 : Int32)) - ((nI v + d) + (65536 : Int32)) / (65536 : Int32) * (65536 : Int32) = nI w := by
  have hs : (nI v + d).toInt = (v : Int) + d.toInt := by
    rw [Int32.toInt_add, nI_toInt (by omega)]
    exact Int.bmod_eq_of_le (by omega) (by omega)
  unfold qJ_floorMod gnz
  rw [if_neg (show ¬ (65536 : Int32) = 0 by decide)]
  by_cases h0 : (nI v + d).toInt < 0
  · have hc : ∃ k, k < 12 ∧ nI v + d = -1 - nI k := by
      refine ⟨(-1 - (nI v + d).toInt).toNat, by omega, ?_⟩
      apply Int32.toInt_inj.mp
      rw [Int32.toInt_sub, im1, nI_toInt (by omega), Int.bmod_eq_of_le (by omega) (by omega)]
      omega
    obtain ⟨k, hk, e⟩ := hc
    rw [e]
    refine ⟨65535 - k, by omega, ?_, ?_⟩
    · rcases (show k = 0 ∨ k = 1 ∨ k = 2 ∨ k = 3 ∨ k = 4 ∨ k = 5 ∨ k = 6 ∨ k = 7 ∨ k = 8 ∨ k = 9 ∨ k = 10 ∨ k = 11 by omega) with rfl | rfl | rfl | rfl | rfl | rfl | rfl | rfl | rfl | rfl | rfl | rfl <;> decide +kernel
    · rcases (show k = 0 ∨ k = 1 ∨ k = 2 ∨ k = 3 ∨ k = 4 ∨ k = 5 ∨ k = 6 ∨ k = 7 ∨ k = 8 ∨ k = 9 ∨ k = 10 ∨ k = 11 by omega) with rfl | rfl | rfl | rfl | rfl | rfl | rfl | rfl | rfl | rfl | rfl | rfl <;> decide +kernel
  · obtain ⟨n, hn, e⟩ := nI_of (x := nI v + d) (by rw [lt_i, i0]; exact h0)
    have hn2 : n < 65549 := by
      rw [e, nI_toInt hn] at hs
      omega
    rw [e, if_pos (xor_nn (by rw [nI_toInt hn]; omega) (by rw [i65536]; omega)), show (65536 : Int32) = nI 65536 from rfl, nI_add, pk_rem (by omega) (by decide) (by decide), pk_rem (by omega) (by decide) (by decide)]
    refine ⟨n % 65536, Nat.mod_lt _ (by decide), rfl, ?_⟩
    rw [Nat.add_mod_right]
theorem one_mul' (x : Int32) : (1 : Int32) * x = x := Int32.one_mul x
theorem op_move {σ τ : gS} {nb ni bu : Nat} {sz : Nat → Nat} (H : Rc1 σ (gM τ 1) nb ni bu sz) (a d : Int32) : Res σ τ ni (qO_moveRegister σ a d) (qM_movesBy τ a d) := by
  unfold qO_moveRegister qM_movesBy
  rcases q_reg a with ⟨e1, e2⟩ | ⟨r, hr, rfl, e1, e2⟩
  · rw [e1, e2, if_pos z00, if_pos z00]; exact Res.no H ok_bad
  · rw [e1, e2, if_neg n10, if_neg n10]
    have hnb := Rc_nb H
    by_cases h1 : d.toInt < -12
    · rw [if_pos (show d < -12 by rw [lt_i, im12]; exact h1), in_no (lo := -12) (hi := 12) (Or.inl (by rw [im12]; exact h1)), if_pos z00]; exact Res.no H ok_bad
    · rw [if_neg (show ¬ d < -12 by rw [lt_i, im12]; exact h1)]
      by_cases h2 : d.toInt ≤ 12
      · rw [if_pos (show d ≤ 12 by rw [le_i, i12]; exact h2), in_yes (lo := -12) (hi := 12) (by rw [im12]; omega) (by rw [i12]; omega), if_neg n10, x_kind hr, m_kind hr, b_s, b_s, m_val hr, b_s, b_s, m_place hr]
        rcases Rc_reg H hr with ⟨k1, k2⟩ | ⟨k1, k2, v, hv, v1, v2⟩ | ⟨k1, k2, p, o, hp, ho, v1, v2, o1, o2⟩
        · rw [k1, k2, if_pos z00, if_pos z00, why1, show (1 : Int32) = nI 1 from rfl, undef_n]
          exact Res.no H (ok_why (by decide) (by decide))
        · rw [k1, k2, if_neg n10, if_neg n10, if_pos z11, if_pos z11, v2]
          unfold qO_moveNumber
          rw [x_val hr, b_s, v1]
          obtain ⟨w, hw, w1, w2⟩ := mod_c hv (by omega) h2
          rw [w1, w2, b_s, x_fillN hr, m_tells hr]
          show Res σ τ ni (some (nI w, xfill σ r 1 (nI w) (-1))) (some ((1 : Int32) * nI w, mfill τ r 1 (nI w) 0))
          rw [one_mul']
          exact Res.fill H hr (Or.inr (Or.inl ⟨rfl, rfl, w, by omega, rfl, rfl⟩)) (ok_n (by omega))
        · rw [k1, k2, if_neg n20, if_neg n20, if_neg n21, if_neg n21, b_s, v2, o2]
          unfold qO_movePointer
          rw [x_val hr, b_s, v1]
          have hsz := (Rc_blk H hp).2.1
          rcases live_c H hp with ⟨l1, l2, -, -⟩ | ⟨l1, l2, -, -⟩
          · rw [l1, l2, b_s, b_s, b_s, if_pos z00, if_pos z00, if_pos z00]
            rw [why3, show (3 : Int32) = nI 3 from rfl, undef_n]
            exact Res.no H (ok_why (by decide) (by decide))
          · rw [l1, l2, b_s, b_s, b_s, if_neg n10, if_neg n10, if_neg n10, x_off hr, b_s, o1, x_size (by omega), m_size (by omega), b_s, b_s]
            have z1 : gM σ 5 p = nI (sz p) := (Rc_blk H hp).2.2.1
            have z2 : gM τ 1 (1 + 15 * p) = nI (sz p) := (Rc_blk H hp).2.2.2.1
            rw [z1, z2]
            have hs : (nI o + d).toInt = (o : Int) + d.toInt := by
              rw [Int32.toInt_add, nI_toInt (by omega)]
              exact Int.bmod_eq_of_le (by omega) (by omega)
            have hw5 : Res σ τ ni (some (-15, σ)) (some (qM_undefinedAs 5, τ)) := by
              rw [why5, show (5 : Int32) = nI 5 from rfl, undef_n]
              exact Res.no H (ok_why (by decide) (by decide))
            by_cases h3 : (nI o + d).toInt < 0
            · rw [if_pos (show nI o + d < 0 by rw [lt_i, i0]; exact h3), in_no (lo := 0) (Or.inl (by rw [i0]; exact h3)), if_pos z00]
              exact hw5
            · obtain ⟨n, hn, e⟩ := nI_of (x := nI o + d) (by rw [lt_i, i0]; exact h3)
              have hn2 : n < 40 := by
                rw [e, nI_toInt hn] at hs
                omega
              rw [e, if_neg (nlt0 hn)]
              by_cases h4 : n ≤ sz p
              · rw [if_pos ((nI_leI hn (by omega)).mpr h4), in_yes (lo := 0) (by rw [i0, nI_toInt hn]; omega) (by rw [nI_toInt hn, nI_toInt (by omega)]; omega), if_neg n10, x_fillP hr, m_tells hr]
                show Res σ τ ni (some (nI n, xfill σ r 2 (nI p) (nI n))) (some (nI n, mfill τ r 2 (nI p) (nI n)))
                exact Res.fill H hr (Or.inr (Or.inr ⟨rfl, rfl, p, n, hp, h4, rfl, rfl, rfl, rfl⟩)) (ok_n hn)
              · rw [if_neg (fun q => h4 ((nI_leI hn (by omega)).mp q)), in_no (lo := 0) (Or.inr (by rw [nI_toInt hn, nI_toInt (by omega)]; omega)), if_pos z00]
                exact hw5
      · rw [if_neg (show ¬ d ≤ 12 by rw [le_i, i12]; exact h2), in_no (lo := -12) (hi := 12) (Or.inr (by rw [i12]; omega)), if_pos z00]; exact Res.no H ok_bad
