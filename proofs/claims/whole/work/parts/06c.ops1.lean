/-! ACTS, first part: set, copy, move, end, compare, jumps -/
theorem lt_i (x y : Int32) : (x < y) = (x.toInt < y.toInt) := propext Int32.lt_iff_toInt_lt
theorem le_i (x y : Int32) : (x ≤ y) = (x.toInt ≤ y.toInt) := propext Int32.le_iff_toInt_le
theorem in_yes {x lo hi : Int32} (h1 : lo.toInt ≤ x.toInt) (h2 : x.toInt ≤ hi.toInt) : qM_in x lo hi = 1 := by
  rw [q_in, if_pos ⟨Int32.le_iff_toInt_le.mpr h1, Int32.le_iff_toInt_le.mpr h2⟩]
theorem in_no {x lo hi : Int32} (h : x.toInt < lo.toInt ∨ hi.toInt < x.toInt) : qM_in x lo hi = 0 := by
  rw [q_in, if_neg]
  rintro ⟨a, b⟩
  rw [le_i] at a b
  omega
theorem i0 : (0 : Int32).toInt = 0 := by decide
theorem i1 : (1 : Int32).toInt = 1 := by decide
theorem i2 : (2 : Int32).toInt = 2 := by decide
theorem i5 : (5 : Int32).toInt = 5 := by decide
theorem i9 : (9 : Int32).toInt = 9 := by decide
theorem i10 : (10 : Int32).toInt = 10 := by decide
theorem i12 : (12 : Int32).toInt = 12 := by decide
theorem im12 : (-12 : Int32).toInt = -12 := by decide
theorem i60 : (60 : Int32).toInt = 60 := by decide
theorem i127 : (127 : Int32).toInt = 127 := by decide
theorem i65535 : (65535 : Int32).toInt = 65535 := by decide
theorem i65536 : (65536 : Int32).toInt = 65536 := by decide
theorem i1000 : (1000 : Int32).toInt = 1000 := by decide
theorem i999 : (999 : Int32).toInt = 999 := by decide
theorem im1 : (-1 : Int32).toInt = -1 := by decide
theorem im10 : (-10 : Int32).toInt = -10 := by decide
theorem why1 : (-11 : Int32) = -10 - nI 1 := by decide +kernel
theorem why2 : (-12 : Int32) = -10 - nI 2 := by decide +kernel
theorem why3 : (-13 : Int32) = -10 - nI 3 := by decide +kernel
theorem why4 : (-14 : Int32) = -10 - nI 4 := by decide +kernel
theorem why5 : (-15 : Int32) = -10 - nI 5 := by decide +kernel
theorem why6 : (-16 : Int32) = -10 - nI 6 := by decide +kernel
theorem why7 : (-17 : Int32) = -10 - nI 7 := by decide +kernel
theorem why8 : (-18 : Int32) = -10 - nI 8 := by decide +kernel
theorem why9 : (-19 : Int32) = -10 - nI 9 := by decide +kernel
theorem why_i {k : Nat} (h : k ≤ 9) : (-10 - nI k : Int32).toInt = -10 - (k : Int) := by
  rw [Int32.toInt_sub, im10, nI_toInt (by omega)]
  exact Int.bmod_eq_of_le (by omega) (by omega)
theorem n10 : ¬ (1 : Int32) = 0 := by decide
theorem n20 : ¬ (2 : Int32) = 0 := by decide
theorem n21 : ¬ (2 : Int32) = 1 := by decide
theorem n12 : ¬ (1 : Int32) = 2 := by decide
theorem n02 : ¬ (0 : Int32) = 2 := by decide
theorem n01 : ¬ (0 : Int32) = 1 := by decide
theorem z00 : (0 : Int32) = 0 := rfl
theorem z11 : (1 : Int32) = 1 := rfl
theorem z22 : (2 : Int32) = 2 := rfl
theorem Rc_reg {σ : gS} {f : Nat → Int32} {nb ni bu : Nat} {sz : Nat → Nat} (H : Rc1 σ f nb ni bu sz) {r : Nat} (hr : r < 6) : Rg nb sz (gM σ 2 r) (gM σ 3 r) (gM σ 4 r) (f (151 + 3 * r)) (f (151 + 3 * r + 1)) (f (151 + 3 * r + 2)) := H.2.2.2.1.2.2.2.2.2.2.2.1 r hr
theorem Rc_blk {σ : gS} {f : Nat → Int32} {nb ni bu : Nat} {sz : Nat → Nat} (H : Rc1 σ f nb ni bu sz) {p : Nat} (hp : p < nb) : Rb nb sz (sz p) (gM σ 5 p) (gM σ 6 p) (gM σ 7 p) (fun j => gM σ 8 (p * 12 + j)) (fun j => f (1 + 15 * p + j)) := H.2.2.2.1.2.2.2.2.2.2.2.2 p hp
theorem Rc_nb {σ : gS} {f : Nat → Int32} {nb ni bu : Nat} {sz : Nat → Nat} (H : Rc1 σ f nb ni bu sz) : nb ≤ 10 := H.2.2.2.1.1
theorem Rc_ni {σ : gS} {f : Nat → Int32} {nb ni bu : Nat} {sz : Nat → Nat} (H : Rc1 σ f nb ni bu sz) : ni ≤ 8 := H.2.2.2.1.2.1
theorem Rg_kind {nb : Nat} {sz : Nat → Nat} {k1 v1 o1 k2 v2 o2 : Int32} (h : Rg nb sz k1 v1 o1 k2 v2 o2) : k1 = k2 ∧ okr k1 := by
  rcases h with ⟨rfl, rfl⟩ | ⟨rfl, rfl, -⟩ | ⟨rfl, rfl, -⟩
  · exact ⟨rfl, ok_n (n := 0) (by decide)⟩
  · exact ⟨rfl, ok_n (n := 1) (by decide)⟩
  · exact ⟨rfl, ok_n (n := 2) (by decide)⟩
theorem op_set {σ τ : gS} {nb ni bu : Nat} {sz : Nat → Nat} (H : Rc1 σ (gM τ 1) nb ni bu sz) (a v : Int32) : Res σ τ ni (qO_setNumber σ a v) (qM_setsTo τ a v) := by
  unfold qO_setNumber qM_setsTo
  rcases q_reg a with ⟨e1, e2⟩ | ⟨r, hr, rfl, e1, e2⟩
  · rw [e1, e2, if_pos z00, if_pos z00]; exact Res.no H ok_bad
  · rw [e1, e2, if_neg n10, if_neg n10]
    by_cases h0 : v.toInt < 0
    · rw [if_pos (show v < 0 by rw [lt_i, i0]; exact h0), in_no (lo := 0) (hi := 65535) (Or.inl (by rw [i0]; exact h0)), if_pos z00]; exact Res.no H ok_bad
    · rw [if_neg (show ¬ v < 0 by rw [lt_i, i0]; exact h0)]
      by_cases h1 : v.toInt < 65536
      · rw [if_pos (show v < 65536 by rw [lt_i, i65536]; exact h1), in_yes (lo := 0) (hi := 65535) (by rw [i0]; omega) (by rw [i65535]; omega), if_neg n10]
        obtain ⟨n, hn, rfl⟩ := nI_of (x := v) (by rw [lt_i, i0]; exact h0)
        rw [nI_toInt hn] at h1
        rw [x_fillN hr, m_tells hr]
        show Res σ τ ni (some (nI n, xfill σ r 1 (nI n) (-1))) (some ((1 : Int32) * nI n, mfill τ r 1 (nI n) 0))
        rw [Int32.one_mul]
        exact Res.fill H hr (Or.inr (Or.inl ⟨rfl, rfl, n, by omega, rfl, rfl⟩)) (ok_n hn)
      · rw [if_neg (show ¬ v < 65536 by rw [lt_i, i65536]; exact h1), in_no (lo := 0) (hi := 65535) (Or.inr (by rw [i65535]; omega)), if_pos z00]; exact Res.no H ok_bad
theorem op_copy {σ τ : gS} {nb ni bu : Nat} {sz : Nat → Nat} (H : Rc1 σ (gM τ 1) nb ni bu sz) (a b : Int32) : Res σ τ ni (qO_copyRegister σ a b) (qM_copiesTo τ a b) := by
  unfold qO_copyRegister qM_copiesTo
  rcases q_reg a with ⟨e1, e2⟩ | ⟨r, hr, rfl, e1, e2⟩
  · rw [e1, e2, if_pos z00, if_pos z00]; exact Res.no H ok_bad
  · rw [e1, e2, if_neg n10, if_neg n10]
    rcases q_reg b with ⟨e1, e2⟩ | ⟨q, hq, rfl, e1, e2⟩
    · rw [e1, e2, if_pos z00, if_pos z00]; exact Res.no H ok_bad
    · rw [e1, e2, if_neg n10, if_neg n10, x_kind hq, x_val hq, x_off hq, m_kind hq, m_val hq, m_place hq]
      simp only [b_s]
      rw [x_fill hr, m_tells hr]
      have hg := Rc_reg H hq
      obtain ⟨h1, h2⟩ := Rg_kind hg
      show Res σ τ ni (some (gM σ 2 q, xfill σ r (gM σ 2 q) (gM σ 3 q) (gM σ 4 q))) (some (gM τ 1 (151 + 3 * q), mfill τ r (gM τ 1 (151 + 3 * q)) (gM τ 1 (151 + 3 * q + 1)) (gM τ 1 (151 + 3 * q + 2))))
      rw [← h1] at hg ⊢
      exact Res.fill H hr hg h2
/-- why a register is no pointer to a live block, or its block and offset -/
theorem fault_c {σ τ : gS} {nb ni bu : Nat} {sz : Nat → Nat} (H : Rc1 σ (gM τ 1) nb ni bu sz) {r : Nat} (hr : r < 6) :
    (∃ k, 1 ≤ k ∧ k ≤ 3 ∧ qO_fault σ (nI r) = some (-10 - nI k) ∧ qM_notGood τ (nI r) = some (nI k)) ∨
    (∃ p o, p < nb ∧ o ≤ sz p ∧ gM σ 2 r = 2 ∧ gM τ 1 (151 + 3 * r) = 2 ∧ gM σ 3 r = nI p ∧ gM τ 1 (151 + 3 * r + 1) = nI p ∧ gM σ 4 r = nI o ∧ gM τ 1 (151 + 3 * r + 2) = nI o ∧ gM σ 6 p = 1 ∧ gM τ 1 (1 + 15 * p + 1) = 1 ∧ qO_fault σ (nI r) = some 0 ∧ qM_notGood τ (nI r) = some 0) := by
  have hnb := Rc_nb H
  unfold qO_fault qM_notGood
  rw [x_kind hr, m_kind hr, b_s, b_s, b_s]
  rcases Rc_reg H hr with ⟨k1, k2⟩ | ⟨k1, k2, -⟩ | ⟨k1, k2, b, o, hb, ho, v1, v2, o1, o2⟩
  · refine Or.inl ⟨1, by decide, by decide, ?_, ?_⟩
    · rw [k1, if_pos z00, why1]
    · rw [k2, if_neg n02, if_pos z00]; rfl
  · refine Or.inl ⟨2, by decide, by decide, ?_, ?_⟩
    · rw [k1, if_neg n10, if_pos z11, why2]
    · rw [k2, if_neg n12, if_neg n10]; rfl
  · obtain ⟨-, -, -, -, ⟨l, hl, l1, l2⟩, -⟩ := Rc_blk H hb
    have l2 : gM τ 1 (1 + 15 * b + 1) = nI l := l2
    have ex : ∀ l : Int32, l = gM σ 6 b → ((if gM σ 2 r = 0 then some (-11) else if gM σ 2 r = 1 then some (-12) else (qS_valueOf σ (nI r)).bind fun r4 => (qS_isLive σ r4).bind fun r5 => if r5 = 0 then some (-13) else some (0 : Int32)) = if (if l = 1 then (1 : Int32) else 0) = 0 then some (-13) else some 0) := by
      intro l hl
      rw [k1, if_neg n20, if_neg n21, x_val hr, b_s, v1, x_live (by omega), b_s, hl]
    have em : ∀ l : Int32, l = gM τ 1 (1 + 15 * b + 1) → ((if gM τ 1 (151 + 3 * r) = 2 then (qM_valueOf τ (nI r)).bind fun r3 => (qM_isLive τ r3).bind fun r4 => if r4 = 0 then some 3 else some 0 else if gM τ 1 (151 + 3 * r) = 0 then some 1 else some (2 : Int32)) = if (if l = 1 then (1 : Int32) else 0) = 0 then some 3 else some 0) := by
      intro l hl
      rw [k2, if_pos z22, m_val hr, b_s, v2, m_live (by omega), b_s, hl]
    rw [ex _ l1.symm, em _ l2.symm]
    rcases (show l = 0 ∨ l = 1 by omega) with rfl | rfl
    · refine Or.inl ⟨3, by decide, by decide, ?_, ?_⟩
      · rw [if_neg (show ¬ nI 0 = 1 from n01), if_pos z00, why3]
      · rw [if_neg (show ¬ nI 0 = 1 from n01), if_pos z00]; rfl
    · refine Or.inr ⟨b, o, hb, ho, k1, k2, v1, v2, o1, o2, l1, l2, ?_, ?_⟩
      · rw [if_pos (show nI 1 = 1 from z11), if_neg n10]
      · rw [if_pos (show nI 1 = 1 from z11), if_neg n10]
theorem why_ne {k : Nat} (h2 : k ≤ 9) : ¬ (-10 - nI k : Int32) = 0 := by
  intro h
  have := congrArg Int32.toInt h
  rw [why_i h2, i0] at this
  omega
theorem kne {k : Nat} (h1 : 1 ≤ k) (h2 : k ≤ 9) : ¬ nI k = 0 := nI_ne0 (by omega) (by omega)
theorem begin_c {σ τ : gS} {nb ni bu : Nat} {sz : Nat → Nat} (H : Rc1 σ (gM τ 1) nb ni bu sz) {r : Nat} (hr : r < 6) :
    (∃ k, 1 ≤ k ∧ k ≤ 3 ∧ qO_faultAsBegin σ (nI r) = some (-10 - nI k) ∧ qM_notGood τ (nI r) = some (nI k)) ∨
    (∃ p o, p < nb ∧ o ≤ sz p ∧ gM σ 3 r = nI p ∧ gM τ 1 (151 + 3 * r + 1) = nI p ∧ gM τ 1 (151 + 3 * r + 2) = nI o ∧ gM σ 6 p = 1 ∧ gM τ 1 (1 + 15 * p + 1) = 1 ∧ qM_notGood τ (nI r) = some 0 ∧ qO_faultAsBegin σ (nI r) = some (if o = 0 then 0 else -19)) := by
  have hnb := Rc_nb H
  unfold qO_faultAsBegin
  rcases fault_c H hr with ⟨k, h1, h2, e1, e2⟩ | ⟨p, o, hp, ho, -, -, v1, v2, o1, o2, l1, l2, e1, e2⟩
  · refine Or.inl ⟨k, h1, h2, ?_, e2⟩
    rw [e1, b_s, if_neg (why_ne (by omega : k ≤ 9))]
  · refine Or.inr ⟨p, o, hp, ho, v1, v2, o2, l1, l2, e2, ?_⟩
    obtain ⟨q1, q2, -⟩ := Rc_blk H hp
    rw [e1, b_s, if_pos z00, x_off hr, o1, b_s]
    by_cases h0 : o = 0
    · rw [h0, if_pos nI_0, if_pos rfl]
    · rw [if_neg (nI_ne0 (n := o) (by omega) (by omega)), if_neg h0]
