/-! LEAVES: what the small mirrors answer at places that exist -/
theorem ne_neg1 {n : Nat} (h : n < 2 ^ 31) : ¬ nI n = (-1 : Int32) := nI_neg1_ne n h
theorem nlt0 {n : Nat} (h : n < 2 ^ 31) : ¬ nI n < 0 := nI_pos h
theorem nle {a b : Nat} (h : b < a) (ha : a < 2 ^ 31) : ¬ nI a ≤ nI b := by rw [nI_leI ha (by omega)]; omega
theorem nl6 {b : Nat} (h : b < 6) : ¬ (6 : Int32) ≤ nI b := nle (a := 6) h (by omega)
theorem nl8 {b : Nat} (h : b < 8) : ¬ (8 : Int32) ≤ nI b := nle (a := 8) h (by omega)
theorem nl10 {b : Nat} (h : b < 10) : ¬ (10 : Int32) ≤ nI b := nle (a := 10) h (by omega)
theorem nl12 {b : Nat} (h : b < 12) : ¬ (12 : Int32) ≤ nI b := nle (a := 12) h (by omega)
-- the class
theorem x_kind {σ : gS} {r : Nat} (h : r < 6) : qS_kindOf σ (nI r) = some (gM σ 2 r) := by
  unfold qS_kindOf
  rw [if_neg (nlt0 (by omega)), if_neg (nl6 h), gob_n h (by omega), nI_clamp (by omega)]
theorem x_val {σ : gS} {r : Nat} (h : r < 6) : qS_valueOf σ (nI r) = some (gM σ 3 r) := by
  unfold qS_valueOf
  rw [if_neg (nlt0 (by omega)), if_neg (nl6 h), gob_n h (by omega), nI_clamp (by omega)]
theorem x_off {σ : gS} {r : Nat} (h : r < 6) : qS_offsetOf σ (nI r) = some (gM σ 4 r) := by
  unfold qS_offsetOf
  rw [if_neg (nlt0 (by omega)), if_neg (nl6 h), gob_n h (by omega), nI_clamp (by omega)]
theorem x_fill {σ : gS} {r : Nat} (h : r < 6) (a b c : Int32) : qS_fillRegister σ (nI r) a b c = some (sM (sM (sM σ 2 r a) 3 r b) 4 r c) := by
  unfold qS_fillRegister
  rw [if_neg (nlt0 (by omega)), if_neg (nl6 h), gob_n h (by omega), nI_clamp (by omega)]
theorem x_fillN {σ : gS} {r : Nat} (h : r < 6) (v : Int32) : qS_fillWithNumber σ (nI r) v = some (sM (sM (sM σ 2 r 1) 3 r v) 4 r (-1)) := by
  unfold qS_fillWithNumber
  rw [x_fill h]; rfl
theorem x_fillP {σ : gS} {r : Nat} (h : r < 6) (b o : Int32) : qS_fillWithPointer σ (nI r) b o = some (sM (sM (sM σ 2 r 2) 3 r b) 4 r o) := by
  unfold qS_fillWithPointer
  rw [x_fill h]; rfl
theorem x_size {σ : gS} {p : Nat} (h : p < 10) : qS_sizeOf σ (nI p) = some (gM σ 5 p) := by
  unfold qS_sizeOf
  rw [if_neg (nlt0 (by omega)), if_neg (nl10 h), gob_n h (by omega), nI_clamp (by omega)]
theorem x_live {σ : gS} {p : Nat} (h : p < 10) : qS_isLive σ (nI p) = some (if gM σ 6 p = 1 then 1 else 0) := by
  unfold qS_isLive
  rw [if_neg (nlt0 (by omega)), if_neg (nl10 h), gob_n h (by omega), nI_clamp (by omega)]
  split <;> rfl
theorem x_const {σ : gS} {p : Nat} (h : p < 10) : qS_isConstant σ (nI p) = some (if gM σ 7 p = 1 then 1 else 0) := by
  unfold qS_isConstant
  rw [if_neg (nlt0 (by omega)), if_neg (nl10 h), gob_n h (by omega), nI_clamp (by omega)]
  split <;> rfl
theorem x_markE {σ : gS} {p : Nat} (h : p < 10) : qS_markEnded σ (nI p) = some (sM σ 6 p 0) := by
  unfold qS_markEnded
  rw [if_neg (nlt0 (by omega)), if_neg (nl10 h), gob_n h (by omega), nI_clamp (by omega)]
theorem x_markC {σ : gS} {p : Nat} (h : p < 10) : qS_markConstant σ (nI p) = some (sM σ 7 p 1) := by
  unfold qS_markConstant
  rw [if_neg (nlt0 (by omega)), if_neg (nl10 h), gob_n h (by omega), nI_clamp (by omega)]
theorem cellix (p j : Nat) : nI p * (12 : Int32) + nI j = nI (p * 12 + j) := by
  rw [show (12 : Int32) = nI 12 from rfl, nI_mul, nI_add]
theorem x_cell {σ : gS} {p j : Nat} (h : p < 10) (hj : j < 12) : qS_cellAt σ (nI p) (nI j) = some (gM σ 8 (p * 12 + j)) := by
  unfold qS_cellAt
  rw [if_neg (nlt0 (by omega)), if_neg (nl10 h), if_neg (nlt0 (by omega)), if_neg (nl12 hj), cellix, gob_n (by omega) (by omega), nI_clamp (by omega)]
theorem x_put {σ : gS} {p j : Nat} (h : p < 10) (hj : j < 12) (v : Int32) : qS_putCell σ (nI p) (nI j) v = some (sM σ 8 (p * 12 + j) v) := by
  unfold qS_putCell
  rw [if_neg (nlt0 (by omega)), if_neg (nl10 h), if_neg (nlt0 (by omega)), if_neg (nl12 hj), cellix, gob_n (by omega) (by omega), nI_clamp (by omega)]
theorem y_size {σ : gS} {k n : Nat} (h : n < 10) : qI_sizeOf σ k (nI n) = some (gM σ (k + 1) n) := by
  unfold qI_sizeOf
  rw [if_neg (nlt0 (by omega)), if_neg (nl10 h), gob_n h (by omega), nI_clamp (by omega)]
theorem y_cell {σ : gS} {k n j : Nat} (h : n < 10) (hj : j < 12) : qI_cellAt σ k (nI n) (nI j) = some (gM σ (k + 2) (n * 12 + j)) := by
  unfold qI_cellAt
  rw [if_neg (nlt0 (by omega)), if_neg (nl10 h), if_neg (nlt0 (by omega)), if_neg (nl12 hj), cellix, gob_n (by omega) (by omega), nI_clamp (by omega)]
theorem y_put {σ : gS} {k n j : Nat} (h : n < 10) (hj : j < 12) (v : Int32) : qI_putCell σ k (nI n) (nI j) v = some (sM σ (k + 2) (n * 12 + j) v) := by
  unfold qI_putCell
  rw [if_neg (nlt0 (by omega)), if_neg (nl10 h), if_neg (nlt0 (by omega)), if_neg (nl12 hj), cellix, gob_n (by omega) (by omega), nI_clamp (by omega)]
theorem a_image {i : Nat} (h : i < 9) : qA_imageAt (nI i) = some (11 + 3 * i) := by
  unfold qA_imageAt
  have h8 : ¬ (8 : Int32) < nI i := by
    rw [show (8 : Int32) = nI 8 from rfl, nI_ltI (by omega) (by omega)]; omega
  rw [if_neg (nlt0 (by omega)), if_neg h8]
  refine (gor_n (d := 11 + 3 * i) ?_ (by omega)).trans rfl
  rcases (show i = 0 ∨ i = 1 ∨ i = 2 ∨ i = 3 ∨ i = 4 ∨ i = 5 ∨ i = 6 ∨ i = 7 ∨ i = 8 by omega) with rfl | rfl | rfl | rfl | rfl | rfl | rfl | rfl | rfl <;> rfl
theorem g_imn {α : Type} {i : Nat} {x : Option α} (h : i < 9) : gim (11 + 3 * i) x = x := by
  unfold gim
  rw [if_pos]
  rcases (show i = 0 ∨ i = 1 ∨ i = 2 ∨ i = 3 ∨ i = 4 ∨ i = 5 ∨ i = 6 ∨ i = 7 ∨ i = 8 by omega) with rfl | rfl | rfl | rfl | rfl | rfl | rfl | rfl | rfl <;> decide
theorem g_stn {α : Type} {i : Nat} {x : Option α} (h : i < 6) : gst (48 + 8 * i) x = x := by
  unfold gst
  rw [if_pos]
  rcases (show i = 0 ∨ i = 1 ∨ i = 2 ∨ i = 3 ∨ i = 4 ∨ i = 5 by omega) with rfl | rfl | rfl | rfl | rfl | rfl <;> decide
-- the reference
theorem regix (r : Nat) : (151 : Int32) + (3 : Int32) * nI r = nI (151 + 3 * r) := by
  rw [show (151 : Int32) = nI 151 from rfl, show (3 : Int32) = nI 3 from rfl, nI_mul, nI_add]
theorem nI1 (a : Nat) : nI a + (1 : Int32) = nI (a + 1) := nI_add a 1
theorem nI2 (a : Nat) : nI a + (2 : Int32) = nI (a + 2) := nI_add a 2
theorem nI3 (a : Nat) : nI a + (3 : Int32) = nI (a + 3) := nI_add a 3
theorem m_kind {τ : gS} {r : Nat} (h : r < 6) : qM_kindOf τ (nI r) = some (gM τ 1 (151 + 3 * r)) := by
  unfold qM_kindOf
  rw [regix, gob_n (by omega) (by omega), nI_clamp (by omega)]
theorem m_val {τ : gS} {r : Nat} (h : r < 6) : qM_valueOf τ (nI r) = some (gM τ 1 (151 + 3 * r + 1)) := by
  unfold qM_valueOf
  rw [regix, nI1, gob_n (by omega) (by omega), nI_clamp (by omega)]
theorem m_place {τ : gS} {r : Nat} (h : r < 6) : qM_placeOf τ (nI r) = some (gM τ 1 (151 + 3 * r + 2)) := by
  unfold qM_placeOf
  rw [regix, nI2, gob_n (by omega) (by omega), nI_clamp (by omega)]
theorem m_tells {τ : gS} {r : Nat} (h : r < 6) (a b c : Int32) : qM_tells τ (nI r) a b c = some (a, sM (sM (sM τ 1 (151 + 3 * r) a) 1 (151 + 3 * r + 1) b) 1 (151 + 3 * r + 2) c) := by
  unfold qM_tells
  rw [regix, nI1, nI2, gob_n (by omega) (by omega), gob_n (by omega) (by omega), gob_n (by omega) (by omega), nI_clamp (by omega), nI_clamp (by omega), nI_clamp (by omega)]
theorem m_pp (p : Nat) : qM_piecePlace (nI p) = nI (1 + 15 * p) := by
  unfold qM_piecePlace
  rw [show (1 : Int32) = nI 1 from rfl, show (15 : Int32) = nI 15 from rfl, nI_mul, nI_add]
theorem m_bp (p j : Nat) : qM_bytePlace (nI p) (nI j) = nI (1 + 15 * p + 3 + j) := by
  unfold qM_bytePlace
  rw [m_pp, nI3, nI_add]
theorem m_size {τ : gS} {p : Nat} (h : p < 10) : qM_sizeOf τ (nI p) = some (gM τ 1 (1 + 15 * p)) := by
  unfold qM_sizeOf
  rw [m_pp, gob_n (by omega) (by omega), nI_clamp (by omega)]
theorem m_live {τ : gS} {p : Nat} (h : p < 10) : qM_isLive τ (nI p) = some (if gM τ 1 (1 + 15 * p + 1) = 1 then 1 else 0) := by
  unfold qM_isLive
  rw [m_pp, nI1, gob_n (by omega) (by omega), nI_clamp (by omega)]
  split <;> rfl
theorem m_froz {τ : gS} {p : Nat} (h : p < 10) : qM_isFrozen τ (nI p) = some (if gM τ 1 (1 + 15 * p + 2) = 1 then 1 else 0) := by
  unfold qM_isFrozen
  rw [m_pp, nI2, gob_n (by omega) (by omega), nI_clamp (by omega)]
  split <;> rfl
