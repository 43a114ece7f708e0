/-! STEPS of a program that are no calls; forget, budget -/
/-- a step of a program: both go on, or both answer alike -/
def gStp (σ τ : gS) (ni : Nat) (x m : Option (Int32 × gS)) : Prop := ∃ (r r' : Int32) (σ' τ' : gS) (nb' ni' bu' : Nat) (sz' : Nat → Nat), x = some (r, σ') ∧ m = some (r', τ') ∧ Rc1 σ' (gM τ' 1) nb' ni' bu' sz' ∧ ni ≤ ni' ∧ FX ni σ σ' ∧ FM τ τ' ∧ okr r ∧ gM τ' 1 169 = gM τ 1 169 ∧ ((0 ≤ r ∧ 0 ≤ r') ∨ (r < 0 ∧ r = r'))
theorem okr_neg {r : Int32} (h : okr r) : (∃ n, n < 2 ^ 31 ∧ r = nI n) ∨ r < 0 := by
  rcases h with ⟨n, hn, rfl⟩ | rfl | rfl | ⟨k, h1, h2, rfl⟩
  · exact Or.inl ⟨n, hn, rfl⟩
  · exact Or.inr (by decide)
  · exact Or.inr (by decide)
  · exact Or.inr (by rw [lt_i, i0, why_i (by omega)]; omega)
theorem gStp.of {σ τ : gS} {ni : Nat} {x m : Option (Int32 × gS)} (h : Res σ τ ni x m) : gStp σ τ ni x m := by
  obtain ⟨r, σ', τ', nb', ni', bu', sz', h1, h2, h3, h4, h5, h6, h7, h8⟩ := h
  refine ⟨r, r, σ', τ', nb', ni', bu', sz', h1, h2, h3, h4, h5, h6, h7, h8, ?_⟩
  rcases okr_neg h7 with ⟨n, hn, rfl⟩ | h
  · exact Or.inl ⟨nI_pos' hn, nI_pos' hn⟩
  · exact Or.inr ⟨h, rfl⟩
theorem gStp.no {σ τ : gS} {nb ni bu : Nat} {sz : Nat → Nat} (h : Rc1 σ (gM τ 1) nb ni bu sz) {r : Int32} (hr : okr r) : gStp σ τ ni (some (r, σ)) (some (r, τ)) := gStp.of (Res.no h hr)
theorem okr_c {v : Int32} (h : v = -2 ∨ (∃ k, 1 ≤ k ∧ k ≤ 9 ∧ v = -10 - nI k) ∨ ∃ n, n ≤ 2 ∧ v = nI n) : okr v := by
  rcases h with rfl | ⟨k, h1, h2, rfl⟩ | ⟨n, hn, rfl⟩
  · exact ok_bad
  · exact ok_why h1 h2
  · exact ok_n (by omega)
theorem step_compare {σ τ : gS} {nb ni bu : Nat} {sz : Nat → Nat} (H : Rc1 σ (gM τ 1) nb ni bu sz) (a b c : Int32) :
    gStp σ τ ni (qO_compareInto σ a b c) (if qM_isRegister c = 0 then some ((-2 : Int32), τ) else (qM_comparesTo τ a b).bind fun r9 => if 0 ≤ r9 then (qM_tells τ c (1 : Int32) r9 (0 : Int32)).bind (fun r11 => some (r11.1, r11.2)) else some (r9, τ)) := by
  unfold qO_compareInto
  rcases q_reg c with ⟨e1, e2⟩ | ⟨r, hr, rfl, e1, e2⟩
  · rw [e1, e2, if_pos z00, if_pos z00]; exact gStp.no H ok_bad
  · rw [e1, e2, if_neg n10, if_neg n10]
    obtain ⟨v, h1, h2, h3⟩ := compare_c H a b
    rw [h1, h2, b_s, b_s]
    rcases h3 with rfl | ⟨k, k1, k2, rfl⟩ | ⟨n, hn, rfl⟩
    · rw [if_pos (show (-2 : Int32) < 0 by decide), if_neg (show ¬ (0 : Int32) ≤ -2 by decide)]
      exact gStp.no H ok_bad
    · have hl : (-10 - nI k : Int32) < 0 := by rw [lt_i, i0, why_i (by omega)]; omega
      rw [if_pos hl, if_neg (Int32.not_le.mpr hl)]
      exact gStp.no H (ok_why k1 k2)
    · rw [if_neg (nlt0 (by omega)), if_pos (nI_pos' (by omega)), x_fillN hr, m_tells hr]
      show gStp σ τ ni (some (nI n, xfill σ r 1 (nI n) (-1))) (some ((1 : Int32), mfill τ r 1 (nI n) 0))
      refine ⟨_, _, _, _, nb, ni, bu, sz, rfl, rfl, Rc1_fill H hr (Or.inr (Or.inl ⟨rfl, rfl, n, by omega, rfl, rfl⟩)), Nat.le_refl _, xfill_q.fx (by have := H.2.2.2.1.2.1; omega), mfill_m, ok_n (by omega), ?_, Or.inl ⟨nI_pos' (by omega), by decide⟩⟩
      rw [mfill_row, upd_n (by omega), upd_n (by omega), upd_n (by omega)]
/-- a jump: the reference also sets where it goes on -/
theorem jump_c {σ τ : gS} {nb ni bu : Nat} {sz : Nat → Nat} (H : Rc1 σ (gM τ 1) nb ni bu sz) (a d : Int32) :
    (∃ v, qO_jumps σ a = some v ∧ qM_jumps τ a d = some (v, τ) ∧ v < 0 ∧ okr v) ∨ (qO_jumps σ a = some 0 ∧ qM_jumps τ a d = some (0, sI τ 0 17 (gI τ 0 17))) ∨ (qO_jumps σ a = some 1 ∧ qM_jumps τ a d = some (0, sI τ 0 17 d)) := by
  unfold qO_jumps qM_jumps
  rcases q_reg a with ⟨e1, e2⟩ | ⟨r, hr, rfl, e1, e2⟩
  · rw [e1, e2, if_pos z00, if_pos z00]; exact Or.inl ⟨_, rfl, rfl, by decide, ok_bad⟩
  · rw [e1, e2, if_neg n10, if_neg n10, x_kind hr, m_kind hr]
    simp only [b_s]
    rw [x_val hr, m_val hr]
    simp only [b_s]
    rcases Rc_reg H hr with ⟨k1, k2⟩ | ⟨k1, k2, v, hv, v1, v2⟩ | ⟨k1, k2, p, o, hp, ho, v1, v2, o1, o2⟩
    · rw [k1, k2, if_pos z00, if_neg n01, if_pos z00, why1]
      exact Or.inl ⟨_, rfl, rfl, by decide +kernel, ok_why (by decide) (by decide)⟩
    · rw [k1, k2, if_neg n10, if_neg n12, if_pos z11, v1, v2]
      by_cases h0 : v = 0
      · rw [h0, if_pos nI_0, if_pos nI_0]
        exact Or.inr (Or.inl ⟨rfl, rfl⟩)
      · rw [if_neg (nI_ne0 (n := v) (by omega) (by omega)), if_neg (nI_ne0 (n := v) (by omega) (by omega))]
        exact Or.inr (Or.inr ⟨rfl, rfl⟩)
    · rw [k1, k2, if_neg n20, if_pos z22, if_neg n21, if_neg n20, why7]
      exact Or.inl ⟨_, rfl, rfl, by decide +kernel, ok_why (by decide) (by decide)⟩
theorem op_forget {σ τ : gS} {nb ni bu : Nat} {sz : Nat → Nat} (H : Rc1 σ (gM τ 1) nb ni bu sz) {r : Nat} (hr : r < 6) :
    ∃ k σ' τ', qO_forgetRegister σ (nI r) = some (k, σ') ∧ qM_kindOf τ (nI r) = some k ∧ okr k ∧ 0 ≤ k ∧ qM_tells τ (nI r) 0 0 0 = some (0, τ') ∧ Rc1 σ' (gM τ' 1) nb ni bu sz ∧ FX ni σ σ' ∧ FM τ τ' := by
  unfold qO_forgetRegister
  rcases q_reg (nI r) with ⟨e1, e2⟩ | ⟨q, hq, eq, e1, e2⟩
  · exfalso
    unfold qF_isRegister at e1
    rw [if_neg (nlt0 (by omega)), if_neg (nl6 hr)] at e1
    exact n10 e1
  · rw [e1, if_neg n10, x_kind hr, b_s, x_fill hr, b_s, m_kind hr, m_tells hr]
    obtain ⟨h1, h2⟩ := Rg_kind (Rc_reg H hr)
    refine ⟨_, xfill σ r 0 (-1) (-1), mfill τ r 0 0 0, rfl, congrArg some h1.symm, h2, ?_, rfl, Rc1_fill H hr (Or.inl ⟨rfl, rfl⟩), xfill_q.fx (by have := H.2.2.2.1.2.1; omega), mfill_m⟩
    rcases Rc_reg H hr with ⟨k1, k2⟩ | ⟨k1, k2, -⟩ | ⟨k1, k2, -⟩
    · rw [k1]; decide
    · rw [k1]; decide
    · rw [k1]; decide
theorem op_budget {σ τ : gS} {nb ni bu : Nat} {sz : Nat → Nat} (H : Rc1 σ (gM τ 1) nb ni bu sz) {n : Nat} (h1 : 1 ≤ n) (h2 : n ≤ 60) :
    gI σ 1 9 = gM τ 1 169 ∧ gI σ 1 9 = nI bu ∧ Rc1 (sI σ 1 9 (nI n)) (gM (sM τ 1 169 (nI n)) 1) nb ni n sz ∧ FX ni σ (sI σ 1 9 (nI n)) ∧ FM τ (sM τ 1 169 (nI n)) := by
  obtain ⟨g1, g2, g3, ⟨q1, q2, q3, q4, q5, q6, q7, q8, q9⟩, g5⟩ := H
  have hx : FX ni σ (sI σ 1 9 (nI n)) := by
    refine ⟨fun k j hk => ?_, fun k i hk => rfl, fun m hm => ⟨?_, fun i => rfl, fun i => rfl⟩⟩
    · rw [gI_sI, if_neg (by omega)]
    · rw [gI_sI, if_neg (by omega)]
  have hlow : ∀ i, i ≠ 169 → gM (sM τ 1 169 (nI n)) 1 i = gM τ 1 i := fun i hi => by rw [gMs_s, upd_n hi]
  refine ⟨g3.trans q7.symm, g3, ⟨?_, ?_, ?_, ⟨q1, q2, h1, h2, ?_, ?_, ?_, ?_, ?_⟩, ?_⟩, hx, ⟨fun _ _ => rfl, fun k i h _ _ _ => by rw [gMs_n h]⟩⟩
  · rw [gI_sI, if_neg (by omega)]; exact g1
  · rw [gI_sI, if_neg (by omega)]; exact g2
  · rw [gI_sI, if_pos (by omega)]
  · rw [hlow _ (by omega)]; exact q5
  · rw [hlow _ (by omega)]; exact q6
  · rw [gMs_s, upd_s]
  · intro r hr
    rw [hlow _ (by omega), hlow _ (by omega), hlow _ (by omega)]
    exact q8 r hr
  · intro p hp
    exact Rb_congr (q9 p hp) rfl rfl rfl (fun _ _ => rfl) (fun j hj => hlow _ (by omega))
  · exact Rims_fx g5 q2 hx (fun i hi _ => hlow i (by omega))
