/-! STORE and LOAD -/
theorem e11 : nI 1 = (1 : Int32) := rfl
theorem e22 : nI 2 = (2 : Int32) := rfl
theorem e21 : ¬ nI 2 = (1 : Int32) := n21
theorem sm_lt {v : Nat} (h : v < 999) : nI v < 1000 := (nI_ltI (b := 1000) (by omega) (by omega)).mpr (by omega)
theorem sm_pt {v : Nat} (h : v < 999) : ¬ cPt (nI v) := fun q => q (sm_lt h)
theorem sm_999 {v : Nat} (h : v < 999) : ¬ nI v = 999 := fun q => by
  have := nI_inj (a := v) (b := 999) (by omega) (by omega) q
  omega
theorem pt_lt {v : Nat} (h : 1000 ≤ v) (h2 : v < 2 ^ 31) : ¬ nI v < 1000 := fun q => by
  have := (nI_ltI (b := 1000) h2 (by omega)).mp q
  omega
theorem pt_999 {v : Nat} (h : 1000 ≤ v) (h2 : v < 2 ^ 31) : ¬ nI v = 999 := fun q => by
  have := nI_inj (a := v) (b := 999) h2 (by omega) q
  omega
theorem st_1 {nb n o v : Nat} {sz : Nat → Nat} {g : Nat → Int32} (H : bOk nb sz n g) (hn : o + 1 ≤ n) (hv : v < 256) : bOk nb sz n (upd (cutf g o 1) o (nI v)) := by
  refine cut_ok H (by decide) hn (fun j hj h => upd_n (by omega)) (fun j h1 h2 => ?_) (fun j h1 h2 h => ?_) (fun j h1 h2 h => ?_)
  · rw [show j = o by omega, upd_s]; exact Or.inr (Or.inl ⟨v, hv, rfl⟩)
  · rw [show j = o by omega, upd_s] at h; exact absurd h (sm_999 (by omega))
  · rw [show j = o by omega, upd_s] at h; exact absurd h (sm_pt (by omega))
theorem st_2 {nb n o u v : Nat} {sz : Nat → Nat} {g : Nat → Int32} (H : bOk nb sz n g) (hn : o + 2 ≤ n) (hu : u < 256) (hv : v < 256) : bOk nb sz n (upd (upd (cutf g o 2) o (nI u)) (o + 1) (nI v)) := by
  have e0 : ∀ x y : Int32, upd (upd (cutf g o 2) o x) (o + 1) y o = x := fun x y => by rw [upd_n (by omega), upd_s]
  refine cut_ok H (by decide) hn (fun j hj h => by rw [upd_n (by omega), upd_n (by omega)]) (fun j h1 h2 => ?_) (fun j h1 h2 h => ?_) (fun j h1 h2 h => ?_)
  · rcases (show j = o ∨ j = o + 1 by omega) with rfl | rfl
    · rw [e0]; exact Or.inr (Or.inl ⟨u, hu, rfl⟩)
    · rw [upd_s]; exact Or.inr (Or.inl ⟨v, hv, rfl⟩)
  · rcases (show j = o ∨ j = o + 1 by omega) with rfl | rfl
    · rw [e0] at h; exact absurd h (sm_999 (by omega))
    · rw [upd_s] at h; exact absurd h (sm_999 (by omega))
  · rcases (show j = o ∨ j = o + 1 by omega) with rfl | rfl
    · rw [e0] at h; exact absurd h (sm_pt (by omega))
    · rw [upd_s] at h; exact absurd h (sm_pt (by omega))
theorem st_p {nb n o b q : Nat} {sz : Nat → Nat} {g : Nat → Int32} (H : bOk nb sz n g) (hn : o + 2 ≤ n) (hb : b < nb) (hq : q ≤ sz b) (hl : 1000 + 100 * b + q < 2 ^ 31) : bOk nb sz n (upd (upd (cutf g o 2) o (nI (1000 + 100 * b + q))) (o + 1) 999) := by
  have e0 : ∀ x y : Int32, upd (upd (cutf g o 2) o x) (o + 1) y o = x := fun x y => by rw [upd_n (by omega), upd_s]
  refine cut_ok H (by decide) hn (fun j hj h => by rw [upd_n (by omega), upd_n (by omega)]) (fun j h1 h2 => ?_) (fun j h1 h2 h => ?_) (fun j h1 h2 h => ?_)
  · rcases (show j = o ∨ j = o + 1 by omega) with rfl | rfl
    · rw [e0]; exact Or.inr (Or.inr (Or.inr ⟨b, q, hb, hq, rfl⟩))
    · rw [upd_s]; exact Or.inr (Or.inr (Or.inl rfl))
  · rcases (show j = o ∨ j = o + 1 by omega) with rfl | rfl
    · rw [e0] at h; exact absurd h (pt_999 (by omega) hl)
    · exact ⟨o, rfl, by rw [e0]; exact pt_lt (by omega) hl⟩
  · rcases (show j = o ∨ j = o + 1 by omega) with rfl | rfl
    · exact ⟨by omega, upd_s _ _ _⟩
    · rw [upd_s] at h; exact absurd h n999
theorem and255 {v : Nat} (h : v < 2 ^ 31) : nI v &&& (255 : Int32) = nI (v % 256) := pk_andN (by omega) 8 (by decide)
theorem shr8 {v : Nat} (h : v < 2 ^ 31) : nI v >>> ((8 : Int32) &&& 31) = nI (v / 256) := pk_shrN h _ 8 (by decide)
theorem code_n (b q : Nat) : (1000 : Int32) + (100 : Int32) * nI b + nI q = nI (1000 + 100 * b + q) := by
  rw [show (1000 : Int32) = nI 1000 from rfl, show (100 : Int32) = nI 100 from rfl, nI_mul, nI_add, nI_add]
theorem Res.why {σ τ : gS} {nb ni bu : Nat} {sz : Nat → Nat} (H : Rc1 σ (gM τ 1) nb ni bu sz) {x : Int32} (k : Nat) (h1 : 1 ≤ k) (h2 : k ≤ 9) (e : x = -10 - nI k) : Res σ τ ni (some (x, σ)) (some (qM_undefinedAs (nI k), τ)) := by
  rw [e, undef_n]
  exact Res.no H (ok_why h1 h2)
/-- the block holds other bytes now, and both answer o -/
theorem Res.bk {σ τ σ' τ' : gS} {nb ni bu : Nat} {sz : Nat → Nat} (H : Rc1 σ (gM τ 1) nb ni bu sz) {p : Nat} (hp : p < nb) {g : Nat → Int32} (B : gBk σ τ σ' τ' p (sz p) g) (hg : bOk nb sz (sz p) g) {r : Int32} (hr : okr r) : Res σ τ ni (some (r, σ')) (some (r, τ')) := by
  obtain ⟨h1, h2, h3, h4⟩ := B.ok H hp hg
  exact ⟨r, σ', τ', nb, ni, bu, sz, rfl, rfl, h1, Nat.le_refl _, h2, h3, hr, h4⟩
theorem op_store {σ τ : gS} {nb ni bu : Nat} {sz : Nat → Nat} (H : Rc1 σ (gM τ 1) nb ni bu sz) (a b c : Int32) : Res σ τ ni (qO_storeBytes σ a b c) (qM_storesAt τ a b c) := by
  unfold qO_storeBytes qM_storesAt
  rcases q_reg a with ⟨e1, e2⟩ | ⟨r, hr, rfl, e1, e2⟩
  · rw [e1, e2, if_pos z00, if_pos z00]; exact Res.no H ok_bad
  rw [e1, e2, if_neg n10, if_neg n10]
  rcases q_reg b with ⟨e1, e2⟩ | ⟨q, hq, rfl, e1, e2⟩
  · rw [e1, e2, if_pos z00, if_pos z00]; exact Res.no H ok_bad
  rw [e1, e2, if_neg n10, if_neg n10]
  by_cases h1 : c.toInt < 1
  · rw [if_pos (show c < 1 by rw [lt_i, i1]; exact h1), in_no (lo := 1) (hi := 2) (Or.inl (by rw [i1]; exact h1)), if_pos z00]; exact Res.no H ok_bad
  rw [if_neg (show ¬ c < 1 by rw [lt_i, i1]; exact h1)]
  by_cases h2 : c.toInt ≤ 2
  case neg => rw [if_neg (show ¬ c ≤ 2 by rw [le_i, i2]; exact h2), in_no (lo := 1) (hi := 2) (Or.inr (by rw [i2]; omega)), if_pos z00]; exact Res.no H ok_bad
  rw [if_pos (show c ≤ 2 by rw [le_i, i2]; exact h2), in_yes (lo := 1) (hi := 2) (by rw [i1]; omega) (by rw [i2]; omega), if_neg n10]
  obtain ⟨w, hw0, rfl⟩ := nI_of (x := c) (by rw [lt_i, i0]; omega)
  rw [nI_toInt hw0] at h1 h2
  have hnb := Rc_nb H
  rcases write_c H hr (w := w) (by omega) with ⟨k, k1, k2, e1, e2⟩ | ⟨p, o, ⟨hp, ho, t1, t2, v1, v2, o1, o2⟩, e1, e2⟩
  · rw [e1, e2, b_s, b_s, if_neg (why_ne k2), if_neg (kne k1 k2)]
    exact Res.why H k k1 k2 rfl
  rw [e1, e2, b_s, b_s, if_pos z00, if_pos z00, x_kind hq, b_s, m_kind hq, b_s, b_s]
  have hs := (Rc_blk H hp).2.1
  have hb := (Rc_blk H hp).2.2.2.2.2.2.2
  have hb : bOk nb sz (sz p) (fun j => gM τ 1 (1 + 15 * p + 3 + j)) := by
    have e : (fun j => gM τ 1 (1 + 15 * p + 3 + j)) = fun j => gM τ 1 (1 + 15 * p + (3 + j)) := by
      funext j; rw [show 1 + 15 * p + 3 + j = 1 + 15 * p + (3 + j) by omega]
    rw [e]; exact hb
  have hx : ∀ {σ2 τ2 : gS} {g : Nat → Int32}, gBk σ τ σ2 τ2 p (sz p) g → gM σ2 2 = gM σ 2 ∧ gM σ2 3 = gM σ 3 ∧ gM σ2 4 = gM σ 4 ∧ ∀ i, 151 ≤ i → gM τ2 1 i = gM τ 1 i := fun B => ⟨B.1.2.1 2 (by decide) (by decide), B.1.2.1 3 (by decide) (by decide), B.1.2.1 4 (by decide) (by decide), fun i hi => B.2.1.2.2 i (by omega)⟩
  obtain ⟨σ2, τ2, s1, s2, B, -, -⟩ := split_c (gBk.st H hp) hb (by omega) hs (show 1 ≤ w by omega) ho
  obtain ⟨x2, x3, x4, y2⟩ := hx B
  rw [x_val hr, b_s, x_off hr, b_s, v1, o1, s1]
  rw [m_val hr, b_s, m_place hr, b_s, m_val hq, b_s, v2, o2, s2]
  simp only [b_s]
  unfold qO_putValue
  rw [x_val hq, b_s, x_kind hq, b_s, x_off hq, m_kind hq, b_s, m_place hq, x2, x3, x4, y2 _ (show 151 ≤ 151 + 3 * q by omega), y2 _ (show 151 ≤ 151 + 3 * q + 2 by omega)]
  rcases Rc_reg H hq with ⟨k1, k2⟩ | ⟨k1, k2, v, hv, u1, u2⟩ | ⟨k1, k2, b', q', hb', hq', u1, u2, c1, c2⟩
  · rw [k1, k2, if_pos z00, if_pos z00]
    exact Res.why H 1 (by decide) (by decide) why1
  · rw [k1, k2]
    repeat rw [b_s]
    repeat rw [if_neg n10]
    repeat rw [if_neg n12]
    rw [u1, u2, and255 (by omega), shr8 (by omega), and255 (by omega), m_bp, nI1, m_bp, gob_n (by omega) (by omega), nI_clamp (by omega), x_put (by omega) (by omega), b_s]
    have B1 := B.put (j := o) (by omega) hs (nI (v % 256))
    rcases (show w = 1 ∨ w = 2 by omega) with rfl | rfl
    · rw [if_pos e11]
      repeat rw [if_neg (show ¬ nI 1 = 2 from n12)]
      repeat rw [b_s]
      exact Res.bk H hp B1 (st_1 hb ho (Nat.mod_lt _ (by decide))) (ok_n (by omega))
    · rw [if_neg e21]
      repeat rw [if_pos e22]
      rw [gob_n (by omega) (by omega), nI_clamp (by omega), x_put (by omega) (by omega)]
      repeat rw [b_s]
      have B2 := B1.put (j := o + 1) (by omega) hs (nI (v / 256))
      rw [Nat.mod_eq_of_lt (show v / 256 < 256 by omega)]
      exact Res.bk H hp B2 (st_2 hb ho (Nat.mod_lt _ (by decide)) (by omega)) (ok_n (by omega))
  · rw [k1, k2]
    repeat rw [b_s]
    repeat rw [if_neg n20]
    repeat rw [if_pos z22]
    rw [u1, u2, c1, c2]
    rcases (show w = 1 ∨ w = 2 by omega) with rfl | rfl
    · repeat rw [if_pos e11]
      exact Res.why H 7 (by decide) (by decide) why7
    · have hsb := (Rc_blk H hb').2.1
      unfold qF_pointerCode
      repeat rw [if_neg e21]
      repeat rw [if_pos e22]
      repeat rw [b_s]
      repeat rw [if_pos z22]
      rw [code_n, m_bp, nI1, m_bp, gob_n (by omega) (by omega), gob_n (by omega) (by omega), nI_clamp (by omega), nI_clamp (by omega), x_put (by omega) (by omega), b_s, x_put (by omega) (by omega), b_s, b_s]
      have B1 := B.put (j := o) (by omega) hs (nI (1000 + 100 * b' + q'))
      have B2 := B1.put (j := o + 1) (by omega) hs 999
      exact Res.bk H hp B2 (st_p hb ho hb' hq' (by omega)) (ok_n (by omega))
theorem g_bok {σ τ : gS} {nb ni bu : Nat} {sz : Nat → Nat} (H : Rc1 σ (gM τ 1) nb ni bu sz) {p : Nat} (hp : p < nb) : bOk nb sz (sz p) (fun j => gM τ 1 (1 + 15 * p + 3 + j)) := by
  have hb := (Rc_blk H hp).2.2.2.2.2.2.2
  have e : (fun j => gM τ 1 (1 + 15 * p + 3 + j)) = fun j => gM τ 1 (1 + 15 * p + (3 + j)) := by
    funext j; rw [show 1 + 15 * p + 3 + j = 1 + 15 * p + (3 + j) by omega]
  rw [e]; exact hb
theorem blk_n {b q : Nat} (hb : b < 1000) (hq : q < 100) : qF_blockOfCode (nI (1000 + 100 * b + q)) = nI b ∧ qF_offsetOfCode (nI (1000 + 100 * b + q)) = nI q := by
  unfold qF_blockOfCode qF_offsetOfCode
  rw [show (1000 : Int32) = nI 1000 from rfl, show (100 : Int32) = nI 100 from rfl, nI_sub (by omega), pk_rem (by omega) (by decide) (by decide), pk_div (by omega) (by decide) (by decide)]
  exact ⟨congrArg nI (by omega), congrArg nI (by omega)⟩
/-- what a byte is: nothing, a number, a second half, a pointer's code -/
theorem byte_c {nb : Nat} {sz : Nat → Nat} (hnb : nb ≤ 10) (hsz : ∀ b, b < nb → sz b ≤ 12) {x : Int32} (h : cOk nb sz x) :
    (x = -1 ∧ x < 1000 ∧ ¬ 999 ≤ x ∧ x < 999) ∨ (∃ v, v < 256 ∧ x = nI v ∧ x < 1000 ∧ ¬ 999 ≤ x ∧ x < 999 ∧ ¬ x = -1) ∨ (x = 999 ∧ x < 1000 ∧ 999 ≤ x ∧ ¬ x < 999) ∨ (∃ b q, b < nb ∧ q ≤ sz b ∧ x = nI (1000 + 100 * b + q) ∧ ¬ x < 1000 ∧ 999 ≤ x ∧ ¬ x < 999 ∧ qF_blockOfCode x = nI b ∧ qF_offsetOfCode x = nI q) := by
  rcases h with rfl | ⟨v, hv, rfl⟩ | rfl | ⟨b, q, hb, hq, rfl⟩
  · exact Or.inl ⟨rfl, by decide, by decide, by decide⟩
  · refine Or.inr (Or.inl ⟨v, hv, rfl, sm_lt (by omega), ?_, ?_, ne_neg1 (by omega)⟩)
    · intro q
      have := (nI_leI (a := 999) (by omega) (by omega)).mp q
      omega
    · exact (nI_ltI (b := 999) (by omega) (by omega)).mpr (by omega)
  · exact Or.inr (Or.inr (Or.inl ⟨rfl, by decide, by decide, by decide⟩))
  · have := hsz b hb
    obtain ⟨e1, e2⟩ := blk_n (b := b) (q := q) (by omega) (by omega)
    refine Or.inr (Or.inr (Or.inr ⟨b, q, hb, hq, rfl, pt_lt (by omega) (by omega), ?_, ?_, e1, e2⟩))
    · exact (nI_leI (a := 999) (by omega) (by omega)).mpr (by omega)
    · intro q
      have := (nI_ltI (b := 999) (by omega) (by omega)).mp q
      omega
theorem op_load {σ τ : gS} {nb ni bu : Nat} {sz : Nat → Nat} (H : Rc1 σ (gM τ 1) nb ni bu sz) (a b c : Int32) : Res σ τ ni (qO_loadBytes σ a b c) (qM_loadsFrom τ a b c) := by
  unfold qO_loadBytes qM_loadsFrom
  rcases q_reg a with ⟨e1, e2⟩ | ⟨r, hr, rfl, e1, e2⟩
  · rw [e1, e2, if_pos z00, if_pos z00]; exact Res.no H ok_bad
  rw [e1, e2, if_neg n10, if_neg n10]
  rcases q_reg b with ⟨e1, e2⟩ | ⟨q, hq, rfl, e1, e2⟩
  · rw [e1, e2, if_pos z00, if_pos z00]; exact Res.no H ok_bad
  rw [e1, e2, if_neg n10, if_neg n10]
  by_cases h1 : c.toInt < 1
  · rw [if_pos (show c < 1 by rw [lt_i, i1]; exact h1), in_no (lo := 1) (hi := 2) (Or.inl (by rw [i1]; exact h1)), if_pos z00]; exact Res.no H ok_bad
  rw [if_neg (show ¬ c < 1 by rw [lt_i, i1]; exact h1)]
  by_cases h2 : c.toInt ≤ 2
  case neg => rw [if_neg (show ¬ c ≤ 2 by rw [le_i, i2]; exact h2), in_no (lo := 1) (hi := 2) (Or.inr (by rw [i2]; omega)), if_pos z00]; exact Res.no H ok_bad
  rw [if_pos (show c ≤ 2 by rw [le_i, i2]; exact h2), in_yes (lo := 1) (hi := 2) (by rw [i1]; omega) (by rw [i2]; omega), if_neg n10]
  obtain ⟨w, hw0, rfl⟩ := nI_of (x := c) (by rw [lt_i, i0]; omega)
  rw [nI_toInt hw0] at h1 h2
  have hnb := Rc_nb H
  have hszs : ∀ b, b < nb → sz b ≤ 12 := fun b hb => (Rc_blk H hb).2.1
  rcases read_c H hq (w := w) (by omega) with ⟨k, k1, k2, e1, e2⟩ | ⟨p, o, ⟨hp, ho, t1, t2, v1, v2, o1, o2⟩, e1, e2⟩
  · rw [e1, e2, b_s, b_s, if_neg (why_ne k2), if_neg (kne k1 k2)]
    exact Res.why H k k1 k2 rfl
  have hs := hszs p hp
  have hb := g_bok H hp
  have B := gBk.st H hp
  have w1 := Res.why H (x := -11) 1 (by decide) (by decide) why1
  have w6 := Res.why H (x := -16) 6 (by decide) (by decide) why6
  rw [show nI 1 = (1 : Int32) from rfl] at w1
  rw [show nI 6 = (6 : Int32) from rfl] at w6
  have wn : ∀ v, v < 65536 → Res σ τ ni (some (1, xfill σ r 1 (nI v) (-1))) (some (1, mfill τ r 1 (nI v) 0)) := fun v hv => Res.fill H hr (Or.inr (Or.inl ⟨rfl, rfl, v, hv, rfl, rfl⟩)) (ok_n (n := 1) (by decide))
  rw [e1, e2, b_s, b_s, if_pos z00, if_pos z00, x_val hq, b_s, x_off hq, b_s, v1, o1, B.cell (by omega) (show o < sz p by omega) hs, b_s, b_s, b_s, m_val hq, b_s, m_place hq, b_s, b_s, b_s, v2, o2, m_bp, nI1, m_bp, gob_n (by omega) (by omega), nI_clamp (by omega)]
  have c1 := (hb o (by omega)).1
  generalize hx : (fun j => gM τ 1 (1 + 15 * p + 3 + j)) o = x at c1 ⊢
  have hx : gM τ 1 (1 + 15 * p + 3 + o) = x := hx
  rw [hx, q_ptr]
  rcases (show w = 1 ∨ w = 2 by omega) with rfl | rfl
  · rw [if_neg (show ¬ nI 1 = 2 from n12), if_neg (show ¬ nI 1 = 2 from n12)]
    rcases byte_c hnb hszs c1 with ⟨rfl, d1, d2, d3⟩ | ⟨v, hv, rfl, d1, d2, d3, d4⟩ | ⟨rfl, d1, d2, d3⟩ | ⟨b', q', hb', hq', rfl, d1, d2, d3, d4, d5⟩
    · rw [if_neg d2, if_neg d2, if_pos rfl, if_pos rfl]; exact w1
    · rw [if_neg d2, if_neg d2, if_neg d4, if_neg d4, x_fillN hr, m_tells hr, b_s, b_s]
      have ea : (0 : Int32) * 256 + nI v = nI v := by
        rw [show (0 : Int32) = nI 0 from rfl, show (256 : Int32) = nI 256 from rfl, nI_mul, nI_add, Nat.zero_mul, Nat.zero_add]
      have eb : nI v + (256 : Int32) * 0 = nI v := by
        rw [show (0 : Int32) = nI 0 from rfl, show (256 : Int32) = nI 256 from rfl, nI_mul, nI_add, Nat.mul_zero, Nat.add_zero]
      rw [ea, eb]
      exact wn v (by omega)
    · rw [if_pos d2, if_pos d2]; exact w6
    · rw [if_pos d2, if_pos d2]; exact w6
  · rw [if_pos e22, if_pos e22, B.cell (by omega) (show o + 1 < sz p by omega) hs, b_s, gob_n (by omega) (by omega), nI_clamp (by omega)]
    have c2 := (hb (o + 1) (by omega)).1
    generalize hy : (fun j => gM τ 1 (1 + 15 * p + 3 + j)) (o + 1) = y at c2 ⊢
    have hy : gM τ 1 (1 + 15 * p + 3 + (o + 1)) = y := hy
    rw [hy]
    rcases byte_c hnb hszs c1 with ⟨rfl, d1, d2, d3⟩ | ⟨v, hv, rfl, d1, d2, d3, d4⟩ | ⟨rfl, d1, d2, d3⟩ | ⟨b', q', hb', hq', ex, d1, d2, d3, d4, d5⟩
    · rw [if_pos d1, if_pos d1, if_pos z00, if_neg d2, if_neg d2]
      by_cases f : y < 999
      · rw [if_pos f, if_pos f, if_pos rfl, if_pos rfl]; exact w1
      · rw [if_neg f, if_neg f]; exact w6
    · rw [if_pos d1, if_pos d1, if_pos z00, if_neg d2, if_neg d2]
      rcases byte_c hnb hszs c2 with ⟨rfl, f1, f2, f3⟩ | ⟨u, hu, rfl, f1, f2, f3, f4⟩ | ⟨rfl, f1, f2, f3⟩ | ⟨b', q', hb', hq', rfl, f1, f2, f3, f4, f5⟩
      · rw [if_pos f3, if_pos f3, if_neg d4, if_neg d4, if_pos rfl, if_pos rfl]; exact w1
      · rw [if_pos f3, if_pos f3, if_neg d4, if_neg d4, if_neg f4, if_neg f4, x_fillN hr, m_tells hr, b_s, b_s]
        have ea : nI u * (256 : Int32) + nI v = nI (u * 256 + v) := by
          rw [show (256 : Int32) = nI 256 from rfl, nI_mul, nI_add]
        have eb : nI v + (256 : Int32) * nI u = nI (u * 256 + v) := by
          rw [show (256 : Int32) = nI 256 from rfl, nI_mul, nI_add]
          exact congrArg nI (by omega)
        rw [ea, eb]
        exact wn (u * 256 + v) (by omega)
      · rw [if_neg f3, if_neg f3]; exact w6
      · rw [if_neg f3, if_neg f3]; exact w6
    · rw [if_pos d1, if_pos d1, if_pos z00, if_pos d2, if_pos d2]; exact w6
    · rw [if_neg d1, if_neg d1, if_neg n10, d4, d5, x_fillP hr, m_tells hr, b_s, b_s]
      have d4 : (x - 1000) / 100 = nI b' := d4
      have d5 : (x - 1000) - (x - 1000) / 100 * 100 = nI q' := d5
      rw [d5, d4]
      exact Res.fill H hr (Or.inr (Or.inr ⟨rfl, rfl, b', q', hb', hq', rfl, rfl, rfl, rfl⟩)) (ok_n (n := 2) (by decide))
