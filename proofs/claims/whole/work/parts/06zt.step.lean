/-! DOES: the run -/
def FN (τ τ' : gS) : Prop := (∀ j, j ≠ 10 → j ≠ 17 → gI τ' 0 j = gI τ 0 j) ∧ ∀ k i, k ≠ 1 → k ≠ 7 → k ≠ 8 → k ≠ 9 → gM τ' k i = gM τ k i
theorem FN.rf {τ : gS} : FN τ τ := ⟨fun _ _ _ => rfl, fun _ _ _ _ _ _ => rfl⟩
theorem FN.tr {τ τ1 τ2 : gS} (h1 : FN τ τ1) (h2 : FN τ1 τ2) : FN τ τ2 := ⟨fun j a b => (h2.1 j a b).trans (h1.1 j a b), fun k i a b c d => (h2.2 k i a b c d).trans (h1.2 k i a b c d)⟩
theorem FN.of {τ τ1 : gS} {v : Int32} (h : FM (sI τ 0 17 v) τ1) : FN τ τ1 := ⟨fun j a b => by rw [h.1 j a, gI_sI, if_neg (by omega)], fun k i a b c d => by rw [h.2 k i a b c d]; rfl⟩
theorem FN.s17 {τ : gS} {v : Int32} : FN τ (sI τ 0 17 v) := ⟨fun j a b => by rw [gI_sI, if_neg (by omega)], fun k i a b c d => rfl⟩
/-- where the class goes on -/
def gNx (σ : gS) (i r : Int32) (F : Int32 → Option (Int32 × gS)) : Option (Int32 × gS) := (qP_letterOf σ i).bind (fun r6 => (if r6 = (106 : Int32) then (if r = (1 : Int32) then (qP_operand σ i (1 : Int32)).bind (fun r9 => F r9) else F (i + (1 : Int32))) else F (i + (1 : Int32))))
theorem letter_c {σ : gS} {i : Nat} (h : i < 40) : qP_letterOf σ (nI i) = some (gM σ 44 i) := by
  unfold qP_letterOf
  rw [if_neg (nlt0 (by omega)), if_neg (show ¬ (40 : Int32) ≤ nI i from nle (a := 40) h (by omega)), gob_n h (by omega), nI_clamp (by omega)]
def gTh (σ : gS) (l a b c : Int32) : Option (Int32 × gS) := (if l = (98 : Int32) then (qO_blitBytes σ a b c).bind (fun r5 => some (r5.1, r5.2)) else if l = (99 : Int32) then (qO_copyRegister σ a b).bind (fun r6 => some (r6.1, r6.2)) else if l = (100 : Int32) then (qO_compareInto σ a b c).bind (fun r7 => some (r7.1, r7.2)) else if l = (101 : Int32) then (qO_endBlock σ a).bind (fun r8 => some (r8.1, r8.2)) else if l = (106 : Int32) then (qO_jumps σ a).bind (fun r9 => some (r9, σ)) else if l = (108 : Int32) then (qO_loadBytes σ a b c).bind (fun r10 => some (r10.1, r10.2)) else if l = (109 : Int32) then (qO_makeBlock σ a b).bind (fun r11 => some (r11.1, r11.2)) else if l = (115 : Int32) then (qO_setNumber σ a b).bind (fun r12 => some (r12.1, r12.2)) else if l = (118 : Int32) then (qO_moveRegister σ a b).bind (fun r13 => some (r13.1, r13.2)) else if l = (119 : Int32) then (qO_storeBytes σ a b c).bind (fun r14 => some (r14.1, r14.2)) else if l = (122 : Int32) then (qO_freezeBlocks σ a).bind (fun r15 => some (r15.1, r15.2)) else some ((-2 : Int32), σ))
theorem carry_c {σ : gS} {i : Nat} (h : i < 40) : qP_carryOut σ (nI i) = gTh σ (gM σ 44 i) (gM σ 45 (3 * i + 0)) (gM σ 45 (3 * i + 1)) (gM σ 45 (3 * i + 2)) := by
  unfold qP_carryOut
  rw [show (0 : Int32) = nI 0 from rfl, show (1 : Int32) = nI 1 from rfl, show (2 : Int32) = nI 2 from rfl, opd_c h (by omega), b_s, opd_c h (by omega), b_s, opd_c h (by omega), b_s, letter_c h, b_s]
  rfl
def gTm (τ : gS) (l a b c : Int32) : Option (Int32 × gS) := (if l = (106 : Int32) then (qM_jumps τ a b).bind (fun r13 => some (r13.1, r13.2)) else (if l = (100 : Int32) then (if (qM_isRegister c) = 0 then some ((-2 : Int32), τ) else (qM_comparesTo τ a b).bind (fun r9 => (if 0 ≤ r9 then (qM_tells τ c (1 : Int32) r9 (0 : Int32)).bind (fun r11 => some (r11.1, r11.2)) else some (r9, τ)))) else (qM_acts τ l a b c).bind (fun r12 => some (r12.1, r12.2))))
theorem steps_c {τ : gS} {i : Nat} (h : i < 40) : qM_steps τ (nI i) = gTm (sI τ 0 17 (nI (i + 1))) (gM τ 10 i) (gM τ 11 (3 * i)) (gM τ 11 (3 * i + 1)) (gM τ 11 (3 * i + 2)) := by
  unfold qM_steps
  rw [show (3 : Int32) = nI 3 from rfl, nI_mul, nI1, nI1, nI2, gob_n (by omega) (by omega), gob_n (by omega) (by omega), gob_n (by omega) (by omega), gob_n (by omega) (by omega), nI_clamp (by omega), nI_clamp (by omega), nI_clamp (by omega), nI_clamp (by omega)]
  rfl
/-- a step -/
theorem step_c {σ τ : gS} {nb ni bu : Nat} {sz : Nat → Nat} (H : Rc1 σ (gM τ 1) nb ni bu sz) {i c M : Nat} (hi : i < 40) (lt : gLt c M) (e1 : gM σ 44 i = nI c) (e2 : gM τ 10 i = nI c) (hop : ∀ j, j < M → gOp σ τ c (3 * i + j)) :
    ∃ (r r' : Int32) (σ' τ' : gS) (nb' ni' bu' : Nat) (sz' : Nat → Nat), qP_carryOut σ (nI i) = some (r, σ') ∧ qM_steps τ (nI i) = some (r', τ') ∧ Rc1 σ' (gM τ' 1) nb' ni' bu' sz' ∧ ni ≤ ni' ∧ FX ni σ σ' ∧ FN τ τ' ∧ gM τ' 1 169 = gM τ 1 169 ∧
      ((r < 0 ∧ r = r') ∨ (0 ≤ r ∧ 0 ≤ r' ∧ ∃ x, x < 2 ^ 31 ∧ gI τ' 0 17 = nI x ∧ ∀ F, gNx σ' (nI i) r F = F (nI x))) := by
  have H' : Rc1 σ (gM (sI τ 0 17 (nI (i + 1))) 1) nb ni bu sz := H
  have hl := lt.le
  have o0 : gM σ 45 (3 * i + 0) = gM τ 11 (3 * i) := (hop 0 (by omega)).1
  rw [carry_c hi, steps_c hi, e1, e2, o0]
  have fin : c ≠ 106 → ∀ {x m : Option (Int32 × gS)}, gStp σ (sI τ 0 17 (nI (i + 1))) ni x m → ∃ (r r' : Int32) (σ' τ' : gS) (nb' ni' bu' : Nat) (sz' : Nat → Nat), x = some (r, σ') ∧ m = some (r', τ') ∧ Rc1 σ' (gM τ' 1) nb' ni' bu' sz' ∧ ni ≤ ni' ∧ FX ni σ σ' ∧ FN τ τ' ∧ gM τ' 1 169 = gM τ 1 169 ∧
      ((r < 0 ∧ r = r') ∨ (0 ≤ r ∧ 0 ≤ r' ∧ ∃ x, x < 2 ^ 31 ∧ gI τ' 0 17 = nI x ∧ ∀ F, gNx σ' (nI i) r F = F (nI x))) := by
    rintro hc x m ⟨r, r', σ', τ', nb', ni', bu', sz', h1, h2, h3, h4, h5, h6, h7, h8, h9⟩
    refine ⟨r, r', σ', τ', nb', ni', bu', sz', h1, h2, h3, h4, h5, FN.of h6, h8, ?_⟩
    rcases h9 with ⟨a, b⟩ | ⟨a, b⟩
    · refine Or.inr ⟨a, b, i + 1, by omega, ?_, fun F => ?_⟩
      · rw [h6.1 17 (by decide), gI_sI, if_pos (by omega)]
      · unfold gNx
        rw [letter_c hi, h5.2.1 44 i (by decide), e1, b_s, if_neg (show ¬ nI c = (106 : Int32) from nI_ne (b := 106) (by omega) (by omega) hc), nI1]
    · exact Or.inl ⟨a, b⟩
  unfold gTh gTm
  rcases lt with ⟨rfl, rfl⟩ | ⟨rfl, rfl⟩ | ⟨rfl, rfl⟩ | ⟨rfl, rfl⟩ | ⟨rfl, rfl⟩ | ⟨rfl, rfl⟩ | ⟨rfl, rfl⟩ | ⟨rfl, rfl⟩ | ⟨rfl, rfl⟩ | ⟨rfl, rfl⟩ | ⟨rfl, rfl⟩
  · have o1 : gM σ 45 (3 * i + 1) = gM τ 11 (3 * i + 1) := (hop 1 (by omega)).1
    have o2 : gM σ 45 (3 * i + 2) = gM τ 11 (3 * i + 2) := (hop 2 (by omega)).1
    rw [o1, o2, if_pos (show nI 98 = (98 : Int32) from rfl), if_neg (show ¬ nI 98 = (106 : Int32) by decide), if_neg (show ¬ nI 98 = (100 : Int32) by decide), b_eta, b_eta, show nI 98 = (98 : Int32) from rfl, acts_98]
    exact fin (by omega) (gStp.of (op_blit H' _ _ _))
  · have o1 : gM σ 45 (3 * i + 1) = gM τ 11 (3 * i + 1) := (hop 1 (by omega)).1
    rw [o1, if_neg (show ¬ nI 99 = (98 : Int32) by decide), if_pos (show nI 99 = (99 : Int32) from rfl), if_neg (show ¬ nI 99 = (106 : Int32) by decide), if_neg (show ¬ nI 99 = (100 : Int32) by decide), b_eta, b_eta, show nI 99 = (99 : Int32) from rfl, acts_99]
    exact fin (by omega) (gStp.of (op_copy H' _ _))
  · have o1 : gM σ 45 (3 * i + 1) = gM τ 11 (3 * i + 1) := (hop 1 (by omega)).1
    have o2 : gM σ 45 (3 * i + 2) = gM τ 11 (3 * i + 2) := (hop 2 (by omega)).1
    rw [o1, o2, if_neg (show ¬ nI 100 = (98 : Int32) by decide), if_neg (show ¬ nI 100 = (99 : Int32) by decide), if_pos (show nI 100 = (100 : Int32) from rfl), b_eta, if_neg (show ¬ nI 100 = (106 : Int32) by decide), if_pos (show nI 100 = (100 : Int32) from rfl)]
    exact fin (by omega) (step_compare H' _ _ _)
  · rw [if_neg (show ¬ nI 101 = (98 : Int32) by decide), if_neg (show ¬ nI 101 = (99 : Int32) by decide), if_neg (show ¬ nI 101 = (100 : Int32) by decide), if_pos (show nI 101 = (101 : Int32) from rfl), if_neg (show ¬ nI 101 = (106 : Int32) by decide), if_neg (show ¬ nI 101 = (100 : Int32) by decide), b_eta, b_eta, show nI 101 = (101 : Int32) from rfl, acts_101]
    exact fin (by omega) (gStp.of (op_end H' _))
  · have o1 : gM σ 45 (3 * i + 1) = gM τ 11 (3 * i + 1) := (hop 1 (by omega)).1
    rw [o1, if_neg (show ¬ nI 106 = (98 : Int32) by decide), if_neg (show ¬ nI 106 = (99 : Int32) by decide), if_neg (show ¬ nI 106 = (100 : Int32) by decide), if_neg (show ¬ nI 106 = (101 : Int32) by decide), if_pos (show nI 106 = (106 : Int32) from rfl), if_pos (show nI 106 = (106 : Int32) from rfl), b_eta]
    obtain ⟨-, d, hd, od⟩ : _ ∧ ∃ d, d < 2 ^ 31 ∧ gM τ 11 (3 * i + 1) = nI d := ⟨(hop 1 (by omega)).1, (hop 1 (by omega)).2 rfl⟩
    rcases jump_c H' (gM τ 11 (3 * i)) (gM τ 11 (3 * i + 1)) with ⟨v, j1, j2, j3, j4⟩ | ⟨j1, j2⟩ | ⟨j1, j2⟩
    · rw [j1, j2, b_s]
      exact ⟨v, v, _, _, nb, ni, bu, sz, rfl, rfl, H', Nat.le_refl _, FX.rf, FN.s17, rfl, Or.inl ⟨j3, rfl⟩⟩
    · rw [j1, j2, b_s]
      refine ⟨0, 0, _, _, nb, ni, bu, sz, rfl, rfl, H', Nat.le_refl _, FX.rf, FN.s17.tr FN.s17, rfl, Or.inr ⟨by decide, by decide, i + 1, by omega, ?_, fun F => ?_⟩⟩
      · rw [gI_sI, if_pos (by omega), gI_sI, if_pos (by omega)]
      · unfold gNx
        rw [letter_c hi, e1, b_s, if_pos (show nI 106 = (106 : Int32) from rfl), if_neg (show ¬ (0 : Int32) = 1 by decide), nI1]
    · rw [j1, j2, b_s]
      refine ⟨1, 0, _, _, nb, ni, bu, sz, rfl, rfl, H', Nat.le_refl _, FX.rf, FN.s17.tr FN.s17, rfl, Or.inr ⟨by decide, by decide, d, hd, ?_, fun F => ?_⟩⟩
      · rw [gI_sI, if_pos (by omega), od]
      · unfold gNx
        rw [letter_c hi, e1, b_s, if_pos (show nI 106 = (106 : Int32) from rfl), if_pos (show (1 : Int32) = 1 from rfl), show (1 : Int32) = nI 1 from rfl, opd_c hi (by omega), b_s, o1, od]
  · have o1 : gM σ 45 (3 * i + 1) = gM τ 11 (3 * i + 1) := (hop 1 (by omega)).1
    have o2 : gM σ 45 (3 * i + 2) = gM τ 11 (3 * i + 2) := (hop 2 (by omega)).1
    rw [o1, o2, if_neg (show ¬ nI 108 = (98 : Int32) by decide), if_neg (show ¬ nI 108 = (99 : Int32) by decide), if_neg (show ¬ nI 108 = (100 : Int32) by decide), if_neg (show ¬ nI 108 = (101 : Int32) by decide), if_neg (show ¬ nI 108 = (106 : Int32) by decide), if_pos (show nI 108 = (108 : Int32) from rfl), if_neg (show ¬ nI 108 = (106 : Int32) by decide), if_neg (show ¬ nI 108 = (100 : Int32) by decide), b_eta, b_eta, show nI 108 = (108 : Int32) from rfl, acts_108]
    exact fin (by omega) (gStp.of (op_load H' _ _ _))
  · have o1 : gM σ 45 (3 * i + 1) = gM τ 11 (3 * i + 1) := (hop 1 (by omega)).1
    rw [o1, if_neg (show ¬ nI 109 = (98 : Int32) by decide), if_neg (show ¬ nI 109 = (99 : Int32) by decide), if_neg (show ¬ nI 109 = (100 : Int32) by decide), if_neg (show ¬ nI 109 = (101 : Int32) by decide), if_neg (show ¬ nI 109 = (106 : Int32) by decide), if_neg (show ¬ nI 109 = (108 : Int32) by decide), if_pos (show nI 109 = (109 : Int32) from rfl), if_neg (show ¬ nI 109 = (106 : Int32) by decide), if_neg (show ¬ nI 109 = (100 : Int32) by decide), b_eta, b_eta, show nI 109 = (109 : Int32) from rfl, acts_109]
    exact fin (by omega) (gStp.of (op_make H' _ _))
  · have o1 : gM σ 45 (3 * i + 1) = gM τ 11 (3 * i + 1) := (hop 1 (by omega)).1
    rw [o1, if_neg (show ¬ nI 115 = (98 : Int32) by decide), if_neg (show ¬ nI 115 = (99 : Int32) by decide), if_neg (show ¬ nI 115 = (100 : Int32) by decide), if_neg (show ¬ nI 115 = (101 : Int32) by decide), if_neg (show ¬ nI 115 = (106 : Int32) by decide), if_neg (show ¬ nI 115 = (108 : Int32) by decide), if_neg (show ¬ nI 115 = (109 : Int32) by decide), if_pos (show nI 115 = (115 : Int32) from rfl), if_neg (show ¬ nI 115 = (106 : Int32) by decide), if_neg (show ¬ nI 115 = (100 : Int32) by decide), b_eta, b_eta, show nI 115 = (115 : Int32) from rfl, acts_115]
    exact fin (by omega) (gStp.of (op_set H' _ _))
  · have o1 : gM σ 45 (3 * i + 1) = gM τ 11 (3 * i + 1) := (hop 1 (by omega)).1
    rw [o1, if_neg (show ¬ nI 118 = (98 : Int32) by decide), if_neg (show ¬ nI 118 = (99 : Int32) by decide), if_neg (show ¬ nI 118 = (100 : Int32) by decide), if_neg (show ¬ nI 118 = (101 : Int32) by decide), if_neg (show ¬ nI 118 = (106 : Int32) by decide), if_neg (show ¬ nI 118 = (108 : Int32) by decide), if_neg (show ¬ nI 118 = (109 : Int32) by decide), if_neg (show ¬ nI 118 = (115 : Int32) by decide), if_pos (show nI 118 = (118 : Int32) from rfl), if_neg (show ¬ nI 118 = (106 : Int32) by decide), if_neg (show ¬ nI 118 = (100 : Int32) by decide), b_eta, b_eta, show nI 118 = (118 : Int32) from rfl, acts_118]
    exact fin (by omega) (gStp.of (op_move H' _ _))
  · have o1 : gM σ 45 (3 * i + 1) = gM τ 11 (3 * i + 1) := (hop 1 (by omega)).1
    have o2 : gM σ 45 (3 * i + 2) = gM τ 11 (3 * i + 2) := (hop 2 (by omega)).1
    rw [o1, o2, if_neg (show ¬ nI 119 = (98 : Int32) by decide), if_neg (show ¬ nI 119 = (99 : Int32) by decide), if_neg (show ¬ nI 119 = (100 : Int32) by decide), if_neg (show ¬ nI 119 = (101 : Int32) by decide), if_neg (show ¬ nI 119 = (106 : Int32) by decide), if_neg (show ¬ nI 119 = (108 : Int32) by decide), if_neg (show ¬ nI 119 = (109 : Int32) by decide), if_neg (show ¬ nI 119 = (115 : Int32) by decide), if_neg (show ¬ nI 119 = (118 : Int32) by decide), if_pos (show nI 119 = (119 : Int32) from rfl), if_neg (show ¬ nI 119 = (106 : Int32) by decide), if_neg (show ¬ nI 119 = (100 : Int32) by decide), b_eta, b_eta, show nI 119 = (119 : Int32) from rfl, acts_119]
    exact fin (by omega) (gStp.of (op_store H' _ _ _))
  · rw [if_neg (show ¬ nI 122 = (98 : Int32) by decide), if_neg (show ¬ nI 122 = (99 : Int32) by decide), if_neg (show ¬ nI 122 = (100 : Int32) by decide), if_neg (show ¬ nI 122 = (101 : Int32) by decide), if_neg (show ¬ nI 122 = (106 : Int32) by decide), if_neg (show ¬ nI 122 = (108 : Int32) by decide), if_neg (show ¬ nI 122 = (109 : Int32) by decide), if_neg (show ¬ nI 122 = (115 : Int32) by decide), if_neg (show ¬ nI 122 = (118 : Int32) by decide), if_neg (show ¬ nI 122 = (119 : Int32) by decide), if_pos (show nI 122 = (122 : Int32) from rfl), if_neg (show ¬ nI 122 = (106 : Int32) by decide), if_neg (show ¬ nI 122 = (100 : Int32) by decide), b_eta, b_eta, show nI 122 = (122 : Int32) from rfl, acts_122]
    exact fin (by omega) (gStp.of (op_freeze H' _))
