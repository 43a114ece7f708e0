/-! BYTES of one block: written alike -/
/-- the store's one block and the row's one piece hold the bytes g; the rest is as it was -/
def gBk (σ τ σ' τ' : gS) (p n : Nat) (g : Nat → Int32) : Prop :=
  ((∀ a j, gI σ' a j = gI σ a j) ∧ (∀ a, a ≠ 8 → a ≠ 41 → gM σ' a = gM σ a) ∧ ∀ i, (i < p * 12 ∨ p * 12 + 12 ≤ i) → gM σ' 8 i = gM σ 8 i) ∧
  ((∀ j, gI τ' 0 j = gI τ 0 j) ∧ (∀ a, a ≠ 1 → a ≠ 7 → gM τ' a = gM τ a) ∧ ∀ i, (i < 1 + 15 * p + 3 ∨ 1 + 15 * p + 15 ≤ i) → gM τ' 1 i = gM τ 1 i) ∧
  (∀ j, j < 12 → gM σ' 8 (p * 12 + j) = if j < n then g j else -1) ∧ ∀ j, j < n → gM τ' 1 (1 + 15 * p + 3 + j) = g j
theorem gBk.st {σ τ : gS} {nb ni bu : Nat} {sz : Nat → Nat} (H : Rc1 σ (gM τ 1) nb ni bu sz) {p : Nat} (hp : p < nb) : gBk σ τ σ τ p (sz p) (fun j => gM τ 1 (1 + 15 * p + 3 + j)) := by
  refine ⟨⟨fun _ _ => rfl, fun _ _ _ => rfl, fun _ _ => rfl⟩, ⟨fun _ => rfl, fun _ _ _ => rfl, fun _ _ => rfl⟩, fun j hj => ?_, fun _ _ => rfl⟩
  have := (Rc_blk H hp).2.2.2.2.2.2.1 j hj
  show gM σ 8 (p * 12 + j) = if j < sz p then gM τ 1 (1 + 15 * p + 3 + j) else -1
  rw [show 1 + 15 * p + 3 + j = 1 + 15 * p + (3 + j) by omega]
  exact this
theorem gBk.cg {σ τ σ' τ' : gS} {p n : Nat} {g g' : Nat → Int32} (H : gBk σ τ σ' τ' p n g) (e : ∀ j, j < n → g' j = g j) : gBk σ τ σ' τ' p n g' := by
  obtain ⟨h1, h2, h3, h4⟩ := H
  refine ⟨h1, h2, fun j hj => ?_, fun j hj => by rw [e j hj]; exact h4 j hj⟩
  rw [h3 j hj]
  by_cases h : j < n
  · rw [if_pos h, if_pos h, e j h]
  · rw [if_neg h, if_neg h]
theorem gBk.put {σ τ σ' τ' : gS} {p n : Nat} {g : Nat → Int32} (H : gBk σ τ σ' τ' p n g) {j : Nat} (hj : j < n) (hn : n ≤ 12) (v : Int32) : gBk σ τ (sM σ' 8 (p * 12 + j) v) (sM τ' 1 (1 + 15 * p + 3 + j) v) p n (upd g j v) := by
  obtain ⟨⟨a1, a2, a3⟩, ⟨b1, b2, b3⟩, h3, h4⟩ := H
  refine ⟨⟨fun a j => a1 a j, fun a h h' => by rw [gMs_n h]; exact a2 a h h', fun i hi => ?_⟩, ⟨fun j => b1 j, fun a h h' => by rw [gMs_n h]; exact b2 a h h', fun i hi => ?_⟩, fun i hi => ?_, fun i hi => ?_⟩
  · rw [gMs_s, upd_n (by omega)]; exact a3 i hi
  · rw [gMs_s, upd_n (by omega)]; exact b3 i hi
  · rw [gMs_s]
    by_cases e : i = j
    · subst e; rw [upd_s, upd_s, if_pos hj]
    · rw [upd_n (by omega), upd_n e]; exact h3 i hi
  · rw [gMs_s]
    by_cases e : i = j
    · subst e; rw [upd_s, upd_s]
    · rw [upd_n (by omega), upd_n e]; exact h4 i hi
theorem gBk.cell {σ τ σ' τ' : gS} {p n : Nat} {g : Nat → Int32} (H : gBk σ τ σ' τ' p n g) (hp : p < 10) {j : Nat} (hj : j < n) (hn : n ≤ 12) : qS_cellAt σ' (nI p) (nI j) = some (g j) := by
  rw [x_cell hp (by omega), H.2.2.1 j (by omega), if_pos hj]
theorem gBk.ok {σ τ σ' τ' : gS} {nb ni bu : Nat} {sz : Nat → Nat} (H : Rc1 σ (gM τ 1) nb ni bu sz) {p : Nat} (hp : p < nb) {g : Nat → Int32} (B : gBk σ τ σ' τ' p (sz p) g) (hg : bOk nb sz (sz p) g) :
    Rc1 σ' (gM τ' 1) nb ni bu sz ∧ FX ni σ σ' ∧ FM τ τ' ∧ gM τ' 1 169 = gM τ 1 169 := by
  have hnb := Rc_nb H
  have hni := Rc_ni H
  obtain ⟨q1, q2, q3, q4, q5, q6, q7, q8⟩ := Rc_blk H hp
  obtain ⟨⟨a1, a2, a3⟩, ⟨b1, b2, b3⟩, h3, h4⟩ := B
  have hq : FQ σ σ' := ⟨fun k j _ _ => a1 k j, fun k i h1 h2 h3 h4 => by rw [a2 k (by omega) (by omega)]⟩
  refine ⟨Rc1_blk H hq hp (a1 1 7) (a1 1 8) (a1 1 9) (a2 2 (by decide) (by decide)) (a2 3 (by decide) (by decide)) (a2 4 (by decide) (by decide)) (fun q _ => ⟨by rw [a2 5 (by decide) (by decide)], by rw [a2 6 (by decide) (by decide)], by rw [a2 7 (by decide) (by decide)]⟩) (fun q j hq hj => a3 _ (by omega)) (fun i hi => b3 i (by omega)) ?_, hq.fx (by omega), ⟨fun j _ => b1 j, fun k i h1 h2 _ _ => by rw [b2 k h1 h2]⟩, b3 _ (by omega)⟩
  rw [a2 5 (by decide) (by decide), a2 6 (by decide) (by decide), a2 7 (by decide) (by decide)]
  have hb : ∀ j, j < sz p → gM τ' 1 (1 + 15 * p + (3 + j)) = g j := fun j hj => by
    rw [show 1 + 15 * p + (3 + j) = 1 + 15 * p + 3 + j by omega]; exact h4 j hj
  refine ⟨q1, q2, q3, (b3 _ (by omega)).trans q4, ?_, ?_, fun j hj => ?_, fun j hj => ?_⟩
  · obtain ⟨a, x1, x2, x3⟩ := q5
    exact ⟨a, x1, x2, (b3 _ (by omega)).trans x3⟩
  · obtain ⟨a, x1, x2, x3⟩ := q6
    exact ⟨a, x1, x2, (b3 _ (by omega)).trans x3⟩
  · show gM σ' 8 (p * 12 + j) = if j < sz p then gM τ' 1 (1 + 15 * p + (3 + j)) else -1
    rw [h3 j hj]
    by_cases h : j < sz p
    · rw [if_pos h, if_pos h, hb j h]
    · rw [if_neg h, if_neg h]
  · obtain ⟨u1, u2, u3⟩ := hg j hj
    refine ⟨?_, fun h => ?_, fun h => ?_⟩
    · show cOk nb sz (gM τ' 1 (1 + 15 * p + (3 + j)))
      rw [hb j hj]; exact u1
    · have h : gM τ' 1 (1 + 15 * p + (3 + j)) = 999 := h
      rw [hb j hj] at h
      obtain ⟨i, hi, hc⟩ := u2 h
      refine ⟨i, hi, ?_⟩
      show cPt (gM τ' 1 (1 + 15 * p + (3 + i)))
      rw [hb i (by omega)]; exact hc
    · have h : cPt (gM τ' 1 (1 + 15 * p + (3 + j))) := h
      rw [hb j hj] at h
      obtain ⟨w1, w2⟩ := u3 h
      refine ⟨w1, ?_⟩
      show gM τ' 1 (1 + 15 * p + (3 + (j + 1))) = 999
      rw [hb (j + 1) w1]; exact w2
/-- the pointers that a piece of bytes cuts at its ends -/
def cutf (g : Nat → Int32) (o w : Nat) : Nat → Int32 := fun j => if j + 1 = o ∧ g o = 999 then -1 else if j = o + w ∧ ¬ g (o + w - 1) < 1000 then -1 else g j
theorem n999 : ¬ cPt 999 := fun h => h (by decide)
theorem cut_ok {nb n o w : Nat} {sz : Nat → Nat} {g g' : Nat → Int32} (H : bOk nb sz n g) (hw : 1 ≤ w) (hn : o + w ≤ n) (e : ∀ j, j < n → (j < o ∨ o + w ≤ j) → g' j = cutf g o w j)
    (c1 : ∀ j, o ≤ j → j < o + w → cOk nb sz (g' j)) (c2 : ∀ j, o ≤ j → j < o + w → g' j = 999 → ∃ i, j = i + 1 ∧ cPt (g' i)) (c3 : ∀ j, o ≤ j → j < o + w → cPt (g' j) → j + 1 < o + w ∧ g' (j + 1) = 999) : bOk nb sz n g' := by
  intro j hj
  by_cases hin : o ≤ j ∧ j < o + w
  · refine ⟨c1 j hin.1 hin.2, c2 j hin.1 hin.2, fun h => ?_⟩
    obtain ⟨x1, x2⟩ := c3 j hin.1 hin.2 h
    exact ⟨by omega, x2⟩
  · have ej := e j hj (by omega)
    unfold cutf at ej
    by_cases d1 : j + 1 = o ∧ g o = 999
    · rw [if_pos d1] at ej
      rw [ej]
      exact ⟨Or.inl rfl, fun h => absurd h (by decide), fun h => absurd (show (-1 : Int32) < 1000 by decide) h⟩
    · rw [if_neg d1] at ej
      by_cases d2 : j = o + w ∧ ¬ g (o + w - 1) < 1000
      · rw [if_pos d2] at ej
        rw [ej]
        exact ⟨Or.inl rfl, fun h => absurd h (by decide), fun h => absurd (show (-1 : Int32) < 1000 by decide) h⟩
      · rw [if_neg d2] at ej
        obtain ⟨x1, x2, x3⟩ := H j hj
        rw [ej]
        refine ⟨x1, fun h => ?_, fun h => ?_⟩
        · obtain ⟨i, hi, hc⟩ := x2 h
          refine ⟨i, hi, ?_⟩
          by_cases h1 : i < o ∨ o + w ≤ i
          · have ei := e i (by omega) h1
            unfold cutf at ei
            rw [if_neg (fun q => by
              obtain ⟨q1, q2⟩ := q
              omega), if_neg] at ei
            · rw [ei]; exact hc
            · rintro ⟨q1, q2⟩
              have := (H (o + w - 1) (by omega)).2.2 q2
              rw [show o + w - 1 + 1 = i by omega] at this
              rw [this.2] at hc
              exact n999 hc
          · exfalso
            have : j = o + w := by omega
            refine d2 ⟨this, ?_⟩
            rw [show o + w - 1 = i by omega]
            exact hc
        · obtain ⟨y1, y2⟩ := x3 h
          refine ⟨y1, ?_⟩
          have h1 : j + 1 < o ∨ o + w ≤ j + 1 := by
            by_cases q : j + 1 = o
            · exact absurd ⟨q, by rw [← q]; exact y2⟩ d1
            · omega
          have ei := e (j + 1) y1 h1
          unfold cutf at ei
          rw [if_neg, if_neg (fun q => by omega)] at ei
          · rw [ei]; exact y2
          · rintro ⟨q1, q2⟩
            obtain ⟨i, i1, i2⟩ := (H o (by omega)).2.1 q2
            rw [show i = j + 1 by omega, y2] at i2
            exact n999 i2
theorem q_ptr (x : Int32) : qF_isPointerCode x = if x < 1000 then 0 else 1 := by
  unfold qF_isPointerCode
  rfl
theorem split_c {σ τ σ' τ' : gS} {nb p n o w : Nat} {sz : Nat → Nat} {g : Nat → Int32} (B : gBk σ τ σ' τ' p n g) (hb : bOk nb sz n g) (hp : p < 10) (hn : n ≤ 12) (hw : 1 ≤ w) (ho : o + w ≤ n) :
    ∃ σ2 τ2, qO_splitPointers σ' (nI p) (nI o) (nI w) = some σ2 ∧ qM_cuts τ' (nI p) (nI o) (nI w) = some τ2 ∧ gBk σ τ σ2 τ2 p n (cutf g o w) ∧ gM σ2 41 = gM σ' 41 ∧ gM τ2 7 = gM τ' 7 := by
  unfold qO_splitPointers qM_cuts
  have ew : nI o + nI w - (1 : Int32) = nI (o + w - 1) := by
    rw [nI_add, show (1 : Int32) = nI 1 from rfl, nI_sub (by omega)]
  rw [ew, B.cell hp (show o < n by omega) hn, b_s, m_bp, m_bp, gob_n (by omega) (by omega), nI_clamp (by omega), B.2.2.2 o (by omega), nI_clamp (show 1 + 15 * p + 3 + (o + w - 1) < 2 ^ 31 by omega), nI_add o w, m_bp]
  have tail : ∀ (σ1 τ1 : gS) (g1 : Nat → Int32), gBk σ τ σ1 τ1 p n g1 → gM σ1 41 = gM σ' 41 → gM τ1 7 = gM τ' 7 → (g1 (o + w - 1) = g (o + w - 1)) → (∀ j, j < n → cutf g o w j = if j = o + w ∧ ¬ g (o + w - 1) < 1000 then -1 else g1 j) → ∀ (x y : Option gS), x = ((qS_cellAt σ1 (nI p) (nI (o + w - 1))).bind fun r => if qF_isPointerCode r = 0 then some σ1 else (qS_putCell σ1 (nI p) (nI (o + w)) (-1)).bind fun r9 => some r9) → y = (gob (nI (1 + 15 * p + 3 + (o + w - 1))) 1219 (if gM τ1 1 (1 + 15 * p + 3 + (o + w - 1)) < 1000 then some τ1 else gob (nI (1 + 15 * p + 3 + (o + w))) 1219 (some (sM τ1 1 (nI (1 + 15 * p + 3 + (o + w))).toNatClampNeg (-1))))) → ∃ σ2 τ2, x = some σ2 ∧ y = some τ2 ∧ gBk σ τ σ2 τ2 p n (cutf g o w) ∧ gM σ2 41 = gM σ' 41 ∧ gM τ2 7 = gM τ' 7 := by
    intro σ1 τ1 g1 B1 hx7 hy7 eg ef x y hx hy
    rw [B1.cell hp (show o + w - 1 < n by omega) hn, b_s, q_ptr, eg] at hx
    rw [gob_n (by omega) (by omega), B1.2.2.2 _ (show o + w - 1 < n by omega), eg] at hy
    by_cases h : g (o + w - 1) < 1000
    · rw [if_pos h, if_pos z00] at hx
      rw [if_pos h] at hy
      refine ⟨_, _, hx, hy, B1.cg fun j hj => ?_, hx7, hy7⟩
      rw [ef j hj, if_neg (fun q => q.2 h)]
    · have hl := ((hb (o + w - 1) (by omega)).2.2 h).1
      rw [if_neg h, if_neg n10, x_put hp (by omega), b_s] at hx
      rw [if_neg h, gob_n (by omega) (by omega), nI_clamp (by omega)] at hy
      refine ⟨_, _, hx, hy, (B1.put (j := o + w) (by omega) hn (-1)).cg fun j hj => ?_, by rw [gMs_n (by decide)]; exact hx7, by rw [gMs_n (by decide)]; exact hy7⟩
      rw [ef j hj]
      by_cases e : j = o + w
      · rw [if_pos ⟨e, h⟩, e, upd_s]
      · rw [if_neg (fun q => e q.1), upd_n e]
  by_cases h0 : g o = 999
  · obtain ⟨i, hi, hc⟩ := (hb o (by omega)).2.1 h0
    have e1 : nI o - (1 : Int32) = nI (o - 1) := by rw [show (1 : Int32) = nI 1 from rfl, nI_sub (by omega)]
    rw [if_pos h0, if_pos h0, e1, x_put hp (by omega), b_s, m_bp, gob_n (by omega) (by omega), nI_clamp (by omega)]
    have B1 := B.put (j := o - 1) (by omega) hn (-1)
    refine tail _ _ _ B1 (gMs_n (by decide)) (gMs_n (by decide)) (upd_n (by omega)) (fun j hj => ?_) _ _ rfl rfl
    unfold cutf
    by_cases e : j + 1 = o
    · rw [if_pos ⟨e, h0⟩, if_neg (fun q => by omega), show j = o - 1 by omega, upd_s]
    · rw [if_neg (fun q => e q.1), upd_n (by omega)]
  · rw [if_neg h0, if_neg h0]
    refine tail _ _ _ B rfl rfl rfl (fun j hj => ?_) _ _ rfl rfl
    unfold cutf
    rw [if_neg (fun q => h0 q.2)]
theorem within_c {σ τ : gS} {nb ni bu : Nat} {sz : Nat → Nat} (H : Rc1 σ (gM τ 1) nb ni bu sz) {r p o w : Nat} (hr : r < 6) (hp : p < nb) (hw : w ≤ 12) (ho : o ≤ sz p) (v1 : gM σ 3 r = nI p) (v2 : gM τ 1 (151 + 3 * r + 1) = nI p) (o1 : gM σ 4 r = nI o) (o2 : gM τ 1 (151 + 3 * r + 2) = nI o) :
    (o + w ≤ sz p ∧ qO_hasBytes σ (nI r) (nI w) = some 1 ∧ qM_isWithin τ (nI r) (nI w) = some 1) ∨ (sz p < o + w ∧ qO_hasBytes σ (nI r) (nI w) = some 0 ∧ qM_isWithin τ (nI r) (nI w) = some 0) := by
  have hnb := Rc_nb H
  have hs := (Rc_blk H hp).2.1
  unfold qO_hasBytes qM_isWithin
  rw [x_off hr, b_s, x_val hr, b_s, v1, x_size (by omega), b_s, m_place hr, b_s, m_val hr, b_s, v2, m_size (by omega), b_s, (Rc_blk H hp).2.2.1, show gM τ 1 (1 + 15 * p) = nI (sz p) from (Rc_blk H hp).2.2.2.1, o1, o2, nI_add]
  by_cases h : o + w ≤ sz p
  · refine Or.inl ⟨h, ?_, ?_⟩
    · rw [if_neg (fun q => by rw [nI_ltI (by omega) (by omega)] at q; omega)]
    · rw [if_neg (fun q => by rw [nI_ltI (by omega) (by omega)] at q; omega)]
  · refine Or.inr ⟨by omega, ?_, ?_⟩
    · rw [if_pos ((nI_ltI (by omega) (by omega)).mpr (by omega))]
    · rw [if_pos ((nI_ltI (by omega) (by omega)).mpr (by omega))]
/-- what a pointer register to a live block with enough bytes tells -/
def gPo (σ τ : gS) (nb : Nat) (sz : Nat → Nat) (r w p o : Nat) : Prop := p < nb ∧ o + w ≤ sz p ∧ gM σ 2 r = 2 ∧ gM τ 1 (151 + 3 * r) = 2 ∧ gM σ 3 r = nI p ∧ gM τ 1 (151 + 3 * r + 1) = nI p ∧ gM σ 4 r = nI o ∧ gM τ 1 (151 + 3 * r + 2) = nI o
theorem read_c {σ τ : gS} {nb ni bu : Nat} {sz : Nat → Nat} (H : Rc1 σ (gM τ 1) nb ni bu sz) {r w : Nat} (hr : r < 6) (hw : w ≤ 12) :
    (∃ k, 1 ≤ k ∧ k ≤ 9 ∧ qO_faultForReading σ (nI r) (nI w) = some (-10 - nI k) ∧ qM_notGoodFor τ (nI r) (nI w) = some (nI k)) ∨
    (∃ p o, gPo σ τ nb sz r w p o ∧ qO_faultForReading σ (nI r) (nI w) = some 0 ∧ qM_notGoodFor τ (nI r) (nI w) = some 0) := by
  unfold qO_faultForReading qM_notGoodFor
  rcases fault_c H hr with ⟨k, h1, h2, e1, e2⟩ | ⟨p, o, hp, ho, k1, k2, v1, v2, o1, o2, l1, l2, e1, e2⟩
  · rw [e1, e2, b_s, b_s, if_neg (why_ne (by omega : k ≤ 9)), if_neg (kne h1 (by omega))]
    exact Or.inl ⟨k, h1, by omega, rfl, rfl⟩
  · rw [e1, e2, b_s, b_s, if_pos z00, if_pos z00]
    rcases within_c H hr hp hw ho v1 v2 o1 o2 with ⟨h, e1, e2⟩ | ⟨h, e1, e2⟩
    · rw [e1, e2, b_s, b_s, if_neg n10, if_neg n10]
      exact Or.inr ⟨p, o, ⟨hp, h, k1, k2, v1, v2, o1, o2⟩, rfl, rfl⟩
    · rw [e1, e2, b_s, b_s, if_pos z00, if_pos z00]
      exact Or.inl ⟨5, by decide, by decide, congrArg some why5, rfl⟩
theorem write_c {σ τ : gS} {nb ni bu : Nat} {sz : Nat → Nat} (H : Rc1 σ (gM τ 1) nb ni bu sz) {r w : Nat} (hr : r < 6) (hw : w ≤ 12) :
    (∃ k, 1 ≤ k ∧ k ≤ 9 ∧ qO_faultForWriting σ (nI r) (nI w) = some (-10 - nI k) ∧ qM_notToWrite τ (nI r) (nI w) = some (nI k)) ∨
    (∃ p o, gPo σ τ nb sz r w p o ∧ qO_faultForWriting σ (nI r) (nI w) = some 0 ∧ qM_notToWrite τ (nI r) (nI w) = some 0) := by
  unfold qO_faultForWriting qM_notToWrite
  rcases fault_c H hr with ⟨k, h1, h2, e1, e2⟩ | ⟨p, o, hp, ho, k1, k2, v1, v2, o1, o2, l1, l2, e1, e2⟩
  · rw [e1, e2, b_s, b_s, if_neg (why_ne (by omega : k ≤ 9)), if_neg (kne h1 (by omega))]
    exact Or.inl ⟨k, h1, by omega, rfl, rfl⟩
  · rw [e1, e2, b_s, b_s, if_pos z00, if_pos z00, x_val hr, b_s, m_val hr, b_s, v1, v2]
    rcases const_c H hp with ⟨c1, c2, -, -⟩ | ⟨c1, c2, -, -⟩
    · rw [c1, c2, b_s, b_s, if_pos z00, if_pos z00]
      rcases within_c H hr hp hw ho v1 v2 o1 o2 with ⟨h, e1, e2⟩ | ⟨h, e1, e2⟩
      · rw [e1, e2, b_s, b_s, if_neg n10, if_neg n10]
        exact Or.inr ⟨p, o, ⟨hp, h, k1, k2, v1, v2, o1, o2⟩, rfl, rfl⟩
      · rw [e1, e2, b_s, b_s, if_pos z00, if_pos z00]
        exact Or.inl ⟨5, by decide, by decide, congrArg some why5, rfl⟩
    · rw [c1, c2, b_s, b_s, if_neg n10, if_neg n10]
      exact Or.inl ⟨4, by decide, by decide, congrArg some why4, rfl⟩
