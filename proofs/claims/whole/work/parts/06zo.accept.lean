theorem nl48 {x : Nat} (h : x < 2 ^ 31) : nI x < (48 : Int32) ↔ x < 48 := nI_ltI (b := 48) h (by omega)
theorem ng57 {x : Nat} (h : x < 2 ^ 31) : (57 : Int32) < nI x ↔ 57 < x := nI_ltI (a := 57) (by omega) h
theorem put_c {σ : gS} {O m : Nat} (e4 : gI σ 42 4 = nI O) (e6 : gI σ 42 6 = nI (m + 1)) (hO : O < 40) (hm : m < 3) (v : Int32) : qP_putOperand σ v = some (sM σ 45 (3 * O + m) v) := by
  have e : (((gI σ 42 4) * (3 : Int32)) + (gI σ 42 6)) - (1 : Int32) = nI (3 * O + m) := by
    rw [e4, e6, show (3 : Int32) = nI 3 from rfl, nI_mul, nI_add, show (1 : Int32) = nI 1 from rfl, nI_sub (by omega)]
    exact congrArg nI (by omega)
  unfold qP_putOperand
  rw [e, if_neg (nlt0 (by omega)), if_neg (show ¬ (120 : Int32) ≤ nI (3 * O + m) from nle (a := 120) (by omega) (by omega)), gob_n (by omega) (by omega), nI_clamp (by omega)]
theorem opd_c {σ : gS} {O j : Nat} (hO : O < 40) (hj : j < 3) : qP_operand σ (nI O) (nI j) = some (gM σ 45 (3 * O + j)) := by
  have e : nI O * (3 : Int32) + nI j = nI (3 * O + j) := by
    rw [show (3 : Int32) = nI 3 from rfl, nI_mul, nI_add]
    exact congrArg nI (by omega)
  unfold qP_operand
  rw [e, if_neg (nlt0 (by omega)), if_neg (show ¬ (120 : Int32) ≤ nI (3 * O + j) from nle (a := 120) (by omega) (by omega)), gob_n (by omega) (by omega), nI_clamp (by omega)]
def gDg (σ : gS) (a1 : Int32) : Option (Int32 × gS) := (if (gI σ 42 7) = (5 : Int32) then some ((0 : Int32), σ) else (qP_operand (sI σ 42 7 ((gI σ 42 7) + (1 : Int32))) (gI (sI σ 42 7 ((gI σ 42 7) + (1 : Int32))) 42 4) ((gI (sI σ 42 7 ((gI σ 42 7) + (1 : Int32))) 42 6) - (1 : Int32))).bind (fun r3 => (qP_putOperand (sI σ 42 7 ((gI σ 42 7) + (1 : Int32))) ((r3 * (10 : Int32)) + ((gI (sI σ 42 7 ((gI σ 42 7) + (1 : Int32))) 42 9) * a1))).bind (fun r4 => some ((1 : Int32), r4))))
def gBg (σ : gS) (s : Int32) : gS := sI (sI (sI σ 42 9 s) 42 8 (0 : Int32)) 42 6 ((gI (sI (sI σ 42 9 s) 42 8 (0 : Int32)) 42 6) + (1 : Int32))
theorem dig_eq (σ : gS) (a : Int32) : qP_acceptsDigit σ a = if gI σ 42 7 = 0 then (if gI σ 42 6 = qP_operandsOf (gI σ 42 5) then some ((0 : Int32), σ) else (if gI σ 42 8 = 0 then (qP_putOperand (gBg σ 1) 0).bind (fun r => gDg r a) else (qP_putOperand (gBg σ (-1)) 0).bind (fun r => gDg r a))) else gDg σ a := rfl
/-- a digit more -/
theorem dg_c {σ : gS} {O m dg : Nat} (e4 : gI σ 42 4 = nI O) (e6 : gI σ 42 6 = nI (m + 1)) (e7 : gI σ 42 7 = nI dg) (hd : dg < 5) (hO : O < 40) (hm : m < 3) (a : Int32) : gDg σ a = some (1, sM (sI σ 42 7 (nI (dg + 1))) 45 (3 * O + m) (gM σ 45 (3 * O + m) * 10 + gI σ 42 9 * a)) := by
  unfold gDg
  rw [e7, if_neg (show ¬ nI dg = (5 : Int32) from nI_ne (b := 5) (by omega) (by omega) (by omega)), nI1, gI_sI, if_neg (by omega), gI_sI, if_neg (by omega), gI_sI, if_neg (by omega), e4, e6, show (1 : Int32) = nI 1 from rfl, nI_sub (by omega), show m + 1 - 1 = m by omega, opd_c hO hm, b_s, put_c (σ := sI σ 42 7 (nI (dg + 1))) (by rw [gI_sI, if_neg (by omega)]; exact e4) (by rw [gI_sI, if_neg (by omega)]; exact e6) hO hm, b_s]
  rfl
theorem acc_d {σ : gS} {c x : Nat} (e5 : gI σ 42 5 = nI c) (hc : c < 2 ^ 31) (h1 : 48 ≤ x) (h2 : x ≤ 57) : qP_accepts σ (nI x) = (qP_acceptsDigit σ (nI (x - 48))).bind (fun r14 => gbo r14.1 (some (r14.1, r14.2))) := by
  unfold qP_accepts
  rw [e5, if_neg (nI_neg1_ne c hc), if_neg (show ¬ nI x < (48 : Int32) from fun q => absurd ((nl48 (by omega)).mp q) (by omega)), if_neg (show ¬ (57 : Int32) < nI x from fun q => absurd ((ng57 (by omega)).mp q) (by omega)), show (48 : Int32) = nI 48 from rfl, nI_sub h1]
/-- no digit, after a minus -/
theorem acc_m {σ : gS} {c x : Nat} (e5 : gI σ 42 5 = nI c) (hc : c < 2 ^ 31) (hx : x < 128) (h : ¬ (48 ≤ x ∧ x ≤ 57)) (e8 : ¬ gI σ 42 8 = 0) : qP_accepts σ (nI x) = some (0, σ) := by
  unfold qP_accepts
  rw [e5, if_neg (nI_neg1_ne c hc)]
  by_cases q : nI x < (48 : Int32)
  · rw [if_pos q, if_neg e8]
  · have q1 : ¬ x < 48 := fun r => q ((nl48 (by omega)).mpr r)
    rw [if_neg q, if_pos (show (57 : Int32) < nI x from (ng57 (by omega)).mpr (by omega)), if_neg e8]
/-- no digit, no minus before it -/
theorem acc_n {σ : gS} {c x : Nat} (e5 : gI σ 42 5 = nI c) (hc : c < 2 ^ 31) (hx : x < 128) (h : ¬ (48 ≤ x ∧ x ≤ 57)) (e8 : gI σ 42 8 = 0) : qP_accepts σ (nI x) = (if nI x = (32 : Int32) then some ((1 : Int32), (sI σ 42 7 (0 : Int32))) else if nI x = (45 : Int32) then (qP_acceptsMinus σ).bind (fun r4 => gbo r4.1 (some (r4.1, r4.2))) else if nI x = (59 : Int32) then (qP_acceptsSemicolon σ).bind (fun r6 => gbo r6.1 (some (r6.1, r6.2))) else some ((0 : Int32), σ)) := by
  unfold qP_accepts
  rw [e5, if_neg (nI_neg1_ne c hc)]
  by_cases q : nI x < (48 : Int32)
  · rw [if_pos q, if_pos e8]
  · have q1 : ¬ x < 48 := fun r => q ((nl48 (by omega)).mpr r)
    rw [if_neg q, if_pos (show (57 : Int32) < nI x from (ng57 (by omega)).mpr (by omega)), if_pos e8]
theorem gbo1 {α : Type} {x : Option α} : gbo 1 x = x := if_pos (Or.inr rfl)
theorem gbo0 {α : Type} {x : Option α} : gbo 0 x = x := if_pos (Or.inl rfl)
