/-! BLIT -/
theorem carry_loop {q p o w : Nat} (hq : q < 6) (hp : p < 10) (hw : w ≤ 12) (ho : o + w ≤ 12) (x1 : Int32) (k : gS → Option gS) : ∀ (d v n : Nat) (σ : gS), gM σ 3 q = nI p → gM σ 4 q = nI o → v + d = w → d < n →
    ∃ σ', qO_carryBytes_3 x1 (nI q) (nI w) k n σ (nI v) = k σ' ∧ (∀ a j, gI σ' a j = gI σ a j) ∧ (∀ a, a ≠ 41 → gM σ' a = gM σ a) ∧ ∀ i, gM σ' 41 i = if v ≤ i ∧ i < w then gM σ 8 (p * 12 + (o + i)) else gM σ 41 i := by
  intro d
  induction d with
  | zero =>
    intro v n σ _ _ h hn
    obtain ⟨m, rfl⟩ : ∃ m, n = m + 1 := ⟨n - 1, by omega⟩
    refine ⟨σ, ?_, fun _ _ => rfl, fun _ _ => rfl, fun i => by rw [if_neg (by omega)]⟩
    rw [qO_carryBytes_3, if_pos ((nI_leI (by omega) (by omega)).mpr (by omega))]
  | succ d ih =>
    intro v n σ h3 h4 h hn
    obtain ⟨m, rfl⟩ : ∃ m, n = m + 1 := ⟨n - 1, by omega⟩
    obtain ⟨σ', e, g1, g2, g3⟩ := ih (v + 1) m (sM σ 41 v (gM σ 8 (p * 12 + (o + v)))) (by rw [gMs_n (by decide)]; exact h3) (by rw [gMs_n (by decide)]; exact h4) (by omega) (by omega)
    refine ⟨σ', ?_, fun a j => g1 a j, fun a ha => by rw [g2 a ha, gMs_n ha], fun i => ?_⟩
    · rw [qO_carryBytes_3, if_neg (nle (by omega) (by omega)), if_neg (nl12 (by omega)), x_val hq, b_s, x_off hq, b_s, h3, h4, nI_add, x_cell hp (by omega), b_s, gob_n (by omega) (by omega), nI_clamp (by omega), nI1]
      exact e
    · rw [g3, gMs_n (show 8 ≠ 41 by decide), gMs_s]
      by_cases h1 : i = v
      · subst h1
        rw [if_neg (by omega), if_pos (by omega), upd_s]
      · rw [upd_n h1]
        by_cases h2 : v + 1 ≤ i ∧ i < w
        · rw [if_pos h2, if_pos (by omega)]
        · rw [if_neg h2, if_neg (by omega)]
theorem blit_loop {q p o w : Nat} (hq : q < 6) (hp : p < 10) (hw : w ≤ 12) (ho : o + w ≤ 12) (x1 : Int32) (k : gS → Option (Int32 × gS)) : ∀ (d v n : Nat) (τ : gS), gM τ 1 (151 + 3 * q + 1) = nI p → gM τ 1 (151 + 3 * q + 2) = nI o → v + d = w → d < n →
    ∃ τ', qM_blits_62 x1 (nI q) (nI w) k n τ (nI v) = k τ' ∧ (∀ a j, gI τ' a j = gI τ a j) ∧ (∀ a, a ≠ 7 → gM τ' a = gM τ a) ∧ ∀ i, gM τ' 7 i = if v ≤ i ∧ i < w then gM τ 1 (1 + 15 * p + 3 + (o + i)) else gM τ 7 i := by
  intro d
  induction d with
  | zero =>
    intro v n σ _ _ h hn
    obtain ⟨m, rfl⟩ : ∃ m, n = m + 1 := ⟨n - 1, by omega⟩
    refine ⟨σ, ?_, fun _ _ => rfl, fun _ _ => rfl, fun i => by rw [if_neg (by omega)]⟩
    rw [qM_blits_62, if_pos ((nI_leI (by omega) (by omega)).mpr (by omega))]
  | succ d ih =>
    intro v n σ h3 h4 h hn
    obtain ⟨m, rfl⟩ : ∃ m, n = m + 1 := ⟨n - 1, by omega⟩
    obtain ⟨σ', e, g1, g2, g3⟩ := ih (v + 1) m (sM σ 7 v (gM σ 1 (1 + 15 * p + 3 + (o + v)))) (by rw [gMs_n (by decide)]; exact h3) (by rw [gMs_n (by decide)]; exact h4) (by omega) (by omega)
    refine ⟨σ', ?_, fun a j => g1 a j, fun a ha => by rw [g2 a ha, gMs_n ha], fun i => ?_⟩
    · rw [qM_blits_62, if_neg (nle (by omega) (by omega)), m_val hq, b_s, m_place hq, b_s, h3, h4, nI_add, m_bp, gob_n (by omega) (by omega), gob_n (by omega) (by omega), nI_clamp (by omega), nI_clamp (by omega), nI1]
      exact e
    · rw [g3, gMs_n (show 1 ≠ 7 by decide), gMs_s]
      by_cases h1 : i = v
      · subst h1
        rw [if_neg (by omega), if_pos (by omega), upd_s]
      · rw [upd_n h1]
        by_cases h2 : v + 1 ≤ i ∧ i < w
        · rw [if_pos h2, if_pos (by omega)]
        · rw [if_neg h2, if_neg (by omega)]
/-- the bytes set down in both -/
theorem down_loop {σ0 τ0 : gS} {r p o w n0 : Nat} (hr : r < 6) (hp : p < 10) (hn0 : n0 ≤ 12) (hw : w ≤ 12) (ho : o + w ≤ n0) (k : gS → Option gS) (k2 : gS → Option (Int32 × gS)) (c : Nat → Int32) : ∀ (d v n : Nat) (σ τ : gS) (g : Nat → Int32), gBk σ0 τ0 σ τ p n0 g → (∀ i, i < w → gM σ 41 i = c i) → (∀ i, i < w → gM τ 7 i = c i) → gM τ 1 (151 + 3 * r + 1) = nI p → gM τ 1 (151 + 3 * r + 2) = nI o → v + d = w → d < n →
    ∃ σ' τ', qO_carryBytes_87 (nI w) (nI p) (nI o) k n σ (nI v) = k σ' ∧ qM_blits_152 (nI r) (nI w) k2 n τ (nI v) = k2 τ' ∧ gBk σ0 τ0 σ' τ' p n0 (fun j => if o + v ≤ j ∧ j < o + w then c (j - o) else g j) := by
  intro d
  induction d with
  | zero =>
    intro v n σ τ g B _ _ _ _ h hn
    obtain ⟨m, rfl⟩ : ∃ m, n = m + 1 := ⟨n - 1, by omega⟩
    refine ⟨σ, τ, ?_, ?_, B.cg fun j hj => by rw [if_neg (by omega)]⟩
    · rw [qO_carryBytes_87, if_pos ((nI_leI (by omega) (by omega)).mpr (by omega))]
    · rw [qM_blits_152, if_pos ((nI_leI (by omega) (by omega)).mpr (by omega))]
  | succ d ih =>
    intro v n σ τ g B hx hy h3 h4 h hn
    obtain ⟨m, rfl⟩ : ∃ m, n = m + 1 := ⟨n - 1, by omega⟩
    obtain ⟨σ', τ', e1, e2, B'⟩ := ih (v + 1) m _ _ _ (B.put (j := o + v) (by omega) hn0 (c v)) (fun i hi => by rw [gMs_n (by decide)]; exact hx i hi) (fun i hi => by rw [gMs_n (by decide)]; exact hy i hi) (by rw [gMs_s, upd_n (by omega)]; exact h3) (by rw [gMs_s, upd_n (by omega)]; exact h4) (by omega) (by omega)
    refine ⟨σ', τ', ?_, ?_, B'.cg fun j hj => ?_⟩
    · rw [qO_carryBytes_87, if_neg (nle (by omega) (by omega)), if_neg (nl12 (by omega)), gob_n (by omega) (by omega), nI_clamp (by omega), hx v (by omega), nI_add, x_put hp (by omega), b_s, nI1]
      exact e1
    · rw [qM_blits_152, if_neg (nle (by omega) (by omega)), m_val hr, b_s, m_place hr, b_s, h3, h4, nI_add, m_bp, gob_n (by omega) (by omega), gob_n (by omega) (by omega), nI_clamp (by omega), nI_clamp (by omega), hy v (by omega), nI1]
      exact e2
    · by_cases h1 : j = o + v
      · subst h1
        rw [if_pos (by omega), if_neg (by omega), upd_s, show o + v - o = v by omega]
      · rw [upd_n h1]
        by_cases h2 : o + (v + 1) ≤ j ∧ j < o + w
        · rw [if_pos h2, if_pos (show o + v ≤ j ∧ j < o + w by omega)]
        · rw [if_neg h2, if_neg (show ¬ (o + v ≤ j ∧ j < o + w) by omega)]
theorem op_blit {σ τ : gS} {nb ni bu : Nat} {sz : Nat → Nat} (H : Rc1 σ (gM τ 1) nb ni bu sz) (a b c : Int32) : Res σ τ ni (qO_blitBytes σ a b c) (qM_blits τ a b c) := by
  unfold qO_blitBytes qM_blits
  rcases q_reg a with ⟨e1, e2⟩ | ⟨r, hr, rfl, e1, e2⟩
  · rw [e1, e2, if_pos z00, if_pos z00]; exact Res.no H ok_bad
  rw [e1, e2, if_neg n10, if_neg n10]
  rcases q_reg b with ⟨e1, e2⟩ | ⟨q, hq, rfl, e1, e2⟩
  · rw [e1, e2, if_pos z00, if_pos z00]; exact Res.no H ok_bad
  rw [e1, e2, if_neg n10, if_neg n10]
  by_cases h1 : c.toInt < 1
  · rw [if_pos (show c < 1 by rw [lt_i, i1]; exact h1), in_no (lo := 1) (hi := 12) (Or.inl (by rw [i1]; exact h1)), if_pos z00]; exact Res.no H ok_bad
  rw [if_neg (show ¬ c < 1 by rw [lt_i, i1]; exact h1)]
  by_cases h2 : c.toInt ≤ 12
  case neg => rw [if_neg (show ¬ c ≤ 12 by rw [le_i, i12]; exact h2), in_no (lo := 1) (hi := 12) (Or.inr (by rw [i12]; omega)), if_pos z00]; exact Res.no H ok_bad
  rw [if_pos (show c ≤ 12 by rw [le_i, i12]; exact h2), in_yes (lo := 1) (hi := 12) (by rw [i1]; omega) (by rw [i12]; omega), if_neg n10]
  obtain ⟨w, hw0, rfl⟩ := nI_of (x := c) (by rw [lt_i, i0]; omega)
  rw [nI_toInt hw0] at h1 h2
  have hnb := Rc_nb H
  have hszs : ∀ b, b < nb → sz b ≤ 12 := fun b hb => (Rc_blk H hb).2.1
  rcases write_c H hr (w := w) (by omega) with ⟨k, k1, k2, e1, e2⟩ | ⟨p, o, ⟨hp, ho, t1, t2, v1, v2, o1, o2⟩, e1, e2⟩
  · rw [e1, e2, b_s, b_s, if_neg (why_ne k2), if_neg (kne k1 k2)]
    exact Res.why H k k1 k2 rfl
  rw [e1, e2, b_s, b_s, if_pos z00, if_pos z00]
  rcases read_c H hq (w := w) (by omega) with ⟨k, k1, k2, e1, e2⟩ | ⟨p', o', ⟨hp', ho', t1', t2', v1', v2', o1', o2'⟩, e1, e2⟩
  · rw [e1, e2, b_s, b_s, if_neg (why_ne k2), if_neg (kne k1 k2)]
    exact Res.why H k k1 k2 rfl
  have hs := hszs p hp
  have hs' := hszs p' hp'
  have hb := g_bok H hp
  have hb' := g_bok H hp'
  have B := gBk.st H hp
  have B' := gBk.st H hp'
  rw [e1, e2, b_s, b_s, if_pos z00, if_pos z00, x_val hq, b_s, x_off hq, b_s, v1', o1']
  unfold qO_cutsPointer
  have ew : nI o' + nI w - (1 : Int32) = nI (o' + w - 1) := by
    rw [nI_add, show (1 : Int32) = nI 1 from rfl, nI_sub (by omega)]
  have ew1 : nI w - (1 : Int32) = nI (w - 1) := by
    rw [show (1 : Int32) = nI 1 from rfl, nI_sub (by omega)]
  rw [ew, ew1, B'.cell (by omega) (show o' < sz p' by omega) hs', b_s, B'.cell (by omega) (show o' + w - 1 < sz p' by omega) hs', b_s, q_ptr]
  obtain ⟨τ1, y1, y2, y3, y4⟩ := blit_loop (w := w) hq (show p' < 10 by omega) (by omega) (show o' + w ≤ 12 by omega) (nI r) (fun σ14 => (if (gM σ14 7 0) = (999 : Int32) then some ((qM_undefinedAs (6 : Int32)), σ14) else gob (nI (w - 1)) 12 ((if (gM σ14 7 (nI (w - 1)).toNatClampNeg) < (1000 : Int32) then (qM_valueOf σ14 (nI r)).bind (fun r18 => (qM_placeOf σ14 (nI r)).bind (fun r19 => (qM_cuts σ14 r18 r19 (nI w)).bind (fun r20 => qM_blits_152 (nI r) (nI w) (fun σ26 => some (nI w, σ26)) 8192 r20 (0 : Int32)))) else some ((qM_undefinedAs (6 : Int32)), σ14))))) w 0 8192 τ v2' o2' (by omega) (by omega)
  rw [show nI 0 = (0 : Int32) from rfl] at y1
  have y40 : gM τ1 7 0 = gM τ 1 (1 + 15 * p' + 3 + o') := by rw [y4 0, if_pos (by omega)]; rfl
  have y41 : gM τ1 7 (w - 1) = gM τ 1 (1 + 15 * p' + 3 + (o' + w - 1)) := by rw [y4 (w - 1), if_pos (by omega), show o' + (w - 1) = o' + w - 1 by omega]
  rw [y1, nI_clamp (show w - 1 < 2 ^ 31 by omega), gob_n (by omega) (by omega), y40, y41]
  have FB : gBk σ τ σ τ1 p (sz p) (fun j => gM τ 1 (1 + 15 * p + 3 + j)) := by
    obtain ⟨h1, h2, h3, h4⟩ := B
    exact ⟨h1, ⟨fun j => y2 0 j, fun a _ h => y3 a h, fun i _ => by rw [y3 1 (by decide)]⟩, h3, fun j hj => by rw [y3 1 (by decide)]⟩
  have w6 : Res σ τ ni (some (-16, σ)) (some (qM_undefinedAs 6, τ1)) := by
    rw [show (6 : Int32) = nI 6 from rfl, undef_n, why6]
    exact Res.bk H hp FB hb (ok_why (by decide) (by decide))
  by_cases c1 : gM τ 1 (1 + 15 * p' + 3 + o') = 999
  · rw [if_pos c1, if_pos c1, b_s, if_neg n10]; exact w6
  rw [if_neg c1, if_neg c1]
  by_cases c2 : gM τ 1 (1 + 15 * p' + 3 + (o' + w - 1)) < 1000
  case neg => rw [if_neg c2, if_neg c2, if_neg n10, b_s, if_neg n10]; exact w6
  rw [if_pos c2, if_pos c2, if_pos z00, b_s, if_pos z00]
  unfold qO_carryBytes
  obtain ⟨σ1, x1, x2, x3, x4⟩ := carry_loop (w := w) hq (show p' < 10 by omega) (by omega) (show o' + w ≤ 12 by omega) (nI r) (fun σ7 => (qS_valueOf σ7 (nI r)).bind (fun r8 => (qS_offsetOf σ7 (nI r)).bind (fun r9 => (qO_splitPointers σ7 r8 r9 (nI w)).bind (fun r10 => qO_carryBytes_87 (nI w) r8 r9 (fun σ15 => some σ15) 8192 r10 (0 : Int32))))) w 0 8192 σ v1' o1' (by omega) (by omega)
  rw [show nI 0 = (0 : Int32) from rfl] at x1
  have FB1 : gBk σ τ σ1 τ1 p (sz p) (fun j => gM τ 1 (1 + 15 * p + 3 + j)) := by
    obtain ⟨h1, h2, h3, h4⟩ := FB
    exact ⟨⟨x2, fun a _ h => x3 a h, fun i _ => by rw [x3 8 (by decide)]⟩, h2, fun j hj => by rw [x3 8 (by decide)]; exact h3 j hj, h4⟩
  obtain ⟨σ2, τ2, s1, s2, B2, s3, s4⟩ := split_c FB1 hb (by omega) hs (show 1 ≤ w by omega) ho
  rw [x1, x_val hr, b_s, x_off hr, b_s, x3 3 (by decide), x3 4 (by decide), v1, o1, s1, b_s, m_val hr, b_s, m_place hr, b_s, y3 1 (by decide), v2, o2, s2, b_s]
  have hreg : ∀ i, 151 ≤ i → gM τ2 1 i = gM τ 1 i := fun i hi => B2.2.1.2.2 i (by omega)
  obtain ⟨σ3, τ3, z1, z2, B3⟩ := down_loop (r := r) (w := w) hr (by omega) hs (by omega) ho (fun σ15 => some σ15) (fun σ26 => some (nI w, σ26)) (fun i => gM τ 1 (1 + 15 * p' + 3 + (o' + i))) w 0 8192 σ2 τ2 _ B2
    (fun i hi => by
      rw [s3, x4, if_pos (by omega)]
      have := B'.2.2.1 (o' + i) (by omega)
      rw [this, if_pos (by omega)])
    (fun i hi => by rw [s4, y4, if_pos (by omega)]) (by rw [hreg _ (by omega)]; exact v2) (by rw [hreg _ (by omega)]; exact o2) (by omega) (by omega)
  rw [show nI 0 = (0 : Int32) from rfl] at z1 z2
  rw [z1, z2, b_s]
  refine Res.bk H hp B3 (cut_ok hb (w := w) (o := o) (by omega) ho (fun j hj h => by rw [if_neg (by omega)]) (fun j h1 h2 => ?_) (fun j h1 h2 h => ?_) (fun j h1 h2 h => ?_)) (ok_n hw0)
  · rw [if_pos (by omega)]
    exact (hb' (o' + (j - o)) (by omega)).1
  · rw [if_pos (by omega)] at h
    obtain ⟨i, i1, i2⟩ := (hb' (o' + (j - o)) (by omega)).2.1 h
    have hne : j ≠ o := by
      intro e
      subst e
      rw [Nat.sub_self] at h
      exact c1 h
    refine ⟨j - 1, by omega, ?_⟩
    rw [if_pos (by omega)]
    show cPt (gM τ 1 (1 + 15 * p' + 3 + (o' + (j - 1 - o))))
    rw [show o' + (j - 1 - o) = i by omega]
    exact i2
  · rw [if_pos (by omega)] at h
    have h' := (hb' (o' + (j - o)) (by omega)).2.2 h
    have hne : j + 1 ≠ o + w := by
      intro e
      apply h
      show gM τ 1 (1 + 15 * p' + 3 + (o' + (j - o))) < 1000
      rw [show o' + (j - o) = o' + w - 1 by omega]
      exact c2
    refine ⟨by omega, ?_⟩
    rw [if_pos (by omega)]
    have := h'.2
    show gM τ 1 (1 + 15 * p' + 3 + (o' + (j + 1 - o))) = 999
    rw [show o' + (j + 1 - o) = o' + (j - o) + 1 by omega]
    exact this
