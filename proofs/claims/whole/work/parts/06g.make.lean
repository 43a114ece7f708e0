/-! MAKE -/
def updN (f : Nat → Nat) (k x : Nat) : Nat → Nat := fun j => if j = k then x else f j
theorem cOk_mono {nb nb' : Nat} {sz sz' : Nat → Nat} (h : nb ≤ nb') (e : ∀ b, b < nb → sz' b = sz b) {x : Int32} (H : cOk nb sz x) : cOk nb' sz' x := by
  rcases H with h1 | h1 | h1 | ⟨b, o, h1, h2, h3⟩
  · exact Or.inl h1
  · exact Or.inr (Or.inl h1)
  · exact Or.inr (Or.inr (Or.inl h1))
  · exact Or.inr (Or.inr (Or.inr ⟨b, o, by omega, by rw [e b h1]; exact h2, h3⟩))
theorem bOk_mono {nb nb' : Nat} {sz sz' : Nat → Nat} (h : nb ≤ nb') (e : ∀ b, b < nb → sz' b = sz b) {n : Nat} {g : Nat → Int32} (H : bOk nb sz n g) : bOk nb' sz' n g := fun j hj => by
  obtain ⟨a, b, c⟩ := H j hj
  exact ⟨cOk_mono h e a, b, c⟩
theorem Rg_mono {nb nb' : Nat} {sz sz' : Nat → Nat} (h : nb ≤ nb') (e : ∀ b, b < nb → sz' b = sz b) {k1 v1 o1 k2 v2 o2 : Int32} (H : Rg nb sz k1 v1 o1 k2 v2 o2) : Rg nb' sz' k1 v1 o1 k2 v2 o2 := by
  rcases H with h1 | h1 | ⟨h1, h2, b, o, h3, h4, h5⟩
  · exact Or.inl h1
  · exact Or.inr (Or.inl h1)
  · exact Or.inr (Or.inr ⟨h1, h2, b, o, by omega, by rw [e b h3]; exact h4, h5⟩)
theorem Rb_mono {nb nb' : Nat} {sz sz' : Nat → Nat} (h : nb ≤ nb') (e : ∀ b, b < nb → sz' b = sz b) {n : Nat} {z l c : Int32} {ce g : Nat → Int32} (H : Rb nb sz n z l c ce g) : Rb nb' sz' n z l c ce g := by
  obtain ⟨q1, q2, q3, q4, q5, q6, q7, q8⟩ := H
  exact ⟨q1, q2, q3, q4, q5, q6, q7, bOk_mono h e q8⟩
theorem Rs_add {nb ni bu : Nat} {sz : Nat → Nat} {kd va of zs lv fz ce f zs' lv' fz' ce' f' : Nat → Int32} (H : Rs nb ni bu sz kd va of zs lv fz ce f) (hn : nb < 10) {s : Nat} (s1 : 1 ≤ s) (s2 : s ≤ 12)
    (a1 : zs' nb = nI s) (a2 : lv' nb = 1) (a3 : fz' nb = 0) (a4 : ∀ q, q ≠ nb → zs' q = zs q ∧ lv' q = lv q ∧ fz' q = fz q)
    (a5 : ∀ j, j < 12 → ce' (nb * 12 + j) = -1) (a6 : ∀ i, i < nb * 12 → ce' i = ce i)
    (b1 : f' 0 = nI (nb + 1)) (b2 : f' (1 + 15 * nb) = nI s) (b3 : f' (1 + 15 * nb + 1) = 1) (b4 : f' (1 + 15 * nb + 2) = 0) (b5 : ∀ j, j < s → f' (1 + 15 * nb + (3 + j)) = -1) (b6 : ∀ i, i ≠ 0 → (i < 1 + 15 * nb ∨ 16 + 15 * nb ≤ i) → f' i = f i) :
    Rs (nb + 1) ni bu (updN sz nb s) kd va of zs' lv' fz' ce' f' := by
  have e : ∀ b, b < nb → updN sz nb s b = sz b := fun b hb => by simp [updN, show b ≠ nb by omega]
  have e2 : updN sz nb s nb = s := by simp [updN]
  obtain ⟨h1, h2, h3, h4, h5, h6, h7, h8, h9⟩ := H
  refine ⟨by omega, h2, h3, h4, b1, by rw [b6 170 (by omega) (by omega)]; exact h6, by rw [b6 169 (by omega) (by omega)]; exact h7, fun r hr => ?_, fun q hq => ?_⟩
  · rw [b6 _ (by omega) (by omega), b6 _ (by omega) (by omega), b6 _ (by omega) (by omega)]
    exact Rg_mono (by omega) e (h8 r hr)
  · by_cases hqn : q = nb
    · subst hqn
      rw [e2]
      refine ⟨s1, s2, a1, b2, ⟨1, by decide, a2, b3⟩, ⟨0, by decide, a3, b4⟩, fun j hj => ?_, fun j hj => ⟨?_, ?_, ?_⟩⟩
      · show ce' (q * 12 + j) = if j < s then f' (1 + 15 * q + (3 + j)) else -1
        rw [a5 j hj]
        by_cases h : j < s
        · rw [if_pos h, b5 j h]
        · rw [if_neg h]
      · show cOk (q + 1) (updN sz q s) (f' (1 + 15 * q + (3 + j)))
        rw [b5 j hj]
        exact Or.inl rfl
      · intro h
        have h : f' (1 + 15 * q + (3 + j)) = 999 := h
        rw [b5 j hj] at h
        exact absurd h (by decide)
      · intro h
        have h : cPt (f' (1 + 15 * q + (3 + j))) := h
        rw [b5 j hj] at h
        exact absurd (show (-1 : Int32) < 1000 by decide) h
    · obtain ⟨c1, c2, c3⟩ := a4 q hqn
      rw [e q (by omega)]
      exact Rb_mono (by omega) e (Rb_congr (h9 q (by omega)) c1 c2 c3 (fun j hj => a6 _ (by omega)) (fun j hj => b6 _ (by omega) (by omega)))
theorem add_loop {p : Nat} (hp : p < 10) (k : gS → Option gS) : ∀ (d v n : Nat) (σ : gS), v + d = 12 → d < n → ∃ σ', qS_addBlock_45 (nI p) k n σ (nI v) = k σ' ∧ (∀ a j, gI σ' a j = gI σ a j) ∧ (∀ a, a ≠ 8 → gM σ' a = gM σ a) ∧ ∀ i, gM σ' 8 i = if p * 12 + v ≤ i ∧ i < p * 12 + 12 then -1 else gM σ 8 i := by
  intro d
  induction d with
  | zero =>
    intro v n σ h hn
    obtain ⟨m, rfl⟩ : ∃ m, n = m + 1 := ⟨n - 1, by omega⟩
    refine ⟨σ, ?_, fun _ _ => rfl, fun _ _ => rfl, fun i => by rw [if_neg (by omega)]⟩
    rw [qS_addBlock_45, if_pos (show (12 : Int32) ≤ nI v from (nI_leI (a := 12) (by omega) (by omega)).mpr (by omega))]
  | succ d ih =>
    intro v n σ h hn
    obtain ⟨m, rfl⟩ : ∃ m, n = m + 1 := ⟨n - 1, by omega⟩
    obtain ⟨σ', e, g1, g2, g3⟩ := ih (v + 1) m (sM σ 8 (p * 12 + v) (-1)) (by omega) (by omega)
    refine ⟨σ', ?_, fun a j => g1 a j, fun a ha => by rw [g2 a ha, gMs_n ha], fun i => ?_⟩
    · rw [qS_addBlock_45, if_neg (nl12 (by omega)), x_put hp (by omega), b_s, nI1]
      exact e
    · rw [g3, gMs_s]
      by_cases h1 : i = p * 12 + v
      · subst h1
        rw [if_neg (by omega), if_pos (by omega), upd_s]
      · rw [upd_n h1]
        by_cases h2 : p * 12 + (v + 1) ≤ i ∧ i < p * 12 + 12
        · rw [if_pos h2, if_pos (by omega)]
        · rw [if_neg h2, if_neg (by omega)]
theorem make_loop {b s : Nat} (hb : b + 15 < 1219) (hs : s ≤ 12) (x1 x3 : Int32) (k : gS → Option (Int32 × gS)) : ∀ (d v n : Nat) (τ : gS), v + d = 12 → d < n → ∃ τ', qM_makes_78 x1 (nI s) x3 (nI b) k n τ (nI v) = k τ' ∧ (∀ a j, gI τ' a j = gI τ a j) ∧ (∀ a, a ≠ 1 → gM τ' a = gM τ a) ∧ ∀ i, gM τ' 1 i = if b + 3 + v ≤ i ∧ i < b + 15 then (if i < b + 3 + s then -1 else 0) else gM τ 1 i := by
  intro d
  induction d with
  | zero =>
    intro v n σ h hn
    obtain ⟨m, rfl⟩ : ∃ m, n = m + 1 := ⟨n - 1, by omega⟩
    refine ⟨σ, ?_, fun _ _ => rfl, fun _ _ => rfl, fun i => by rw [if_neg (by omega)]⟩
    rw [qM_makes_78, if_pos (show (12 : Int32) ≤ nI v from (nI_leI (a := 12) (by omega) (by omega)).mpr (by omega))]
  | succ d ih =>
    intro v n σ h hn
    obtain ⟨m, rfl⟩ : ∃ m, n = m + 1 := ⟨n - 1, by omega⟩
    have hv : ∀ x : Int32, x = (if v < s then -1 else 0) → ∀ {e : Option (Int32 × gS)}, qM_makes_78 x1 (nI s) x3 (nI b) k m (sM σ 1 (b + 3 + v) x) (nI (v + 1)) = e → ∃ τ', e = k τ' ∧ (∀ a j, gI τ' a j = gI σ a j) ∧ (∀ a, a ≠ 1 → gM τ' a = gM σ a) ∧ ∀ i, gM τ' 1 i = if b + 3 + v ≤ i ∧ i < b + 15 then (if i < b + 3 + s then -1 else 0) else gM σ 1 i := by
      intro x hx e he
      obtain ⟨σ', e1, g1, g2, g3⟩ := ih (v + 1) m (sM σ 1 (b + 3 + v) x) (by omega) (by omega)
      refine ⟨σ', he.symm.trans e1, fun a j => g1 a j, fun a ha => by rw [g2 a ha, gMs_n ha], fun i => ?_⟩
      rw [g3, gMs_s]
      by_cases h1 : i = b + 3 + v
      · subst h1
        rw [if_neg (by omega), if_pos (by omega), upd_s, hx]
        by_cases h2 : v < s
        · rw [if_pos h2, if_pos (by omega)]
        · rw [if_neg h2, if_neg (by omega)]
      · rw [upd_n h1]
        by_cases h2 : b + 3 + (v + 1) ≤ i ∧ i < b + 15
        · rw [if_pos h2, if_pos (show b + 3 + v ≤ i ∧ i < b + 15 by omega)]
        · rw [if_neg h2, if_neg (show ¬ (b + 3 + v ≤ i ∧ i < b + 15) by omega)]
    rw [qM_makes_78, if_neg (nl12 (by omega)), nI3, nI_add, gob_n (by omega) (by omega), gob_n (by omega) (by omega), nI_clamp (by omega), nI1]
    by_cases h2 : v < s
    · rw [if_neg (nle (by omega) (by omega))]
      exact hv _ (by rw [if_pos h2]) rfl
    · rw [if_pos ((nI_leI (by omega) (by omega)).mpr (by omega))]
      exact hv _ (by rw [if_neg h2]) rfl
theorem op_make {σ τ : gS} {nb ni bu : Nat} {sz : Nat → Nat} (H : Rc1 σ (gM τ 1) nb ni bu sz) (a c : Int32) : Res σ τ ni (qO_makeBlock σ a c) (qM_makes τ a c) := by
  unfold qO_makeBlock qM_makes
  rcases q_reg a with ⟨e1, e2⟩ | ⟨r, hr, rfl, e1, e2⟩
  · rw [e1, e2, if_pos z00, if_pos z00]; exact Res.no H ok_bad
  · rw [e1, e2, if_neg n10, if_neg n10]
    by_cases h1 : c.toInt < 1
    · rw [if_pos (show c < 1 by rw [lt_i, i1]; exact h1), in_no (lo := 1) (hi := 12) (Or.inl (by rw [i1]; exact h1)), if_pos z00]; exact Res.no H ok_bad
    · rw [if_neg (show ¬ c < 1 by rw [lt_i, i1]; exact h1)]
      by_cases h2 : c.toInt ≤ 12
      · rw [if_pos (show c ≤ 12 by rw [le_i, i12]; exact h2), in_yes (lo := 1) (hi := 12) (by rw [i1]; omega) (by rw [i12]; omega), if_neg n10]
        obtain ⟨s, hs0, rfl⟩ := nI_of (x := c) (by rw [lt_i, i0]; omega)
        rw [nI_toInt hs0] at h1 h2
        have hnb := Rc_nb H
        have hni := Rc_ni H
        obtain ⟨g1, g2, g3, g4, g5⟩ := id H
        have f0 : gM τ 1 0 = nI nb := g4.2.2.2.2.1
        have f169 : gM τ 1 169 = nI bu := g4.2.2.2.2.2.2.1
        rw [f0, g1]
        by_cases hf : nb = 10
        · rw [hf, if_neg (show ¬ nI 10 < 10 by decide), if_pos (show nI 10 = 10 by rfl)]
          exact Res.no H ok_full
        · rw [if_pos (show nI nb < (10 : Int32) from (nI_ltI (b := 10) (by omega) (by omega)).mpr (by omega)), if_neg (show ¬ nI nb = (10 : Int32) from fun q => hf (nI_inj (b := 10) (by omega) (by omega) q)), m_pp, nI1, nI2, gob_n (by omega) (by omega), gob_n (by omega) (by omega), gob_n (by omega) (by omega), nI_clamp (by omega), nI_clamp (by omega), nI_clamp (by omega)]
          obtain ⟨τ1, t0, t1, t2, t3⟩ := make_loop (b := 1 + 15 * nb) (s := s) (by omega) (by omega) (nI r) (nI nb) (fun σ11 => (qM_tells (sM σ11 1 0 ((gM σ11 1 0) + (1 : Int32))) (nI r) (2 : Int32) (nI nb) (0 : Int32)).bind (fun r12 => (if r12.1 = (2 : Int32) then some ((nI nb), r12.2) else some ((-1 : Int32), r12.2)))) 12 0 8192 (sM (sM (sM τ 1 (1 + 15 * nb) (nI s)) 1 (1 + 15 * nb + 1) 1) 1 (1 + 15 * nb + 2) 0) (by omega) (by omega)
          rw [show (0 : Int32) = nI 0 from rfl, show (1 : Int32) = nI 1 from rfl] at t0
          rw [show (0 : Int32) = nI 0 from rfl, show (1 : Int32) = nI 1 from rfl, t0]
          unfold qS_addBlock
          rw [g1, if_neg (nlt0 (by omega)), if_neg (nl10 (by omega)), gob_n (by omega) (by omega), nI_clamp (by omega)]
          obtain ⟨σ1, s0, s1, s2, s3⟩ := add_loop (p := nb) (by omega) (fun σ6 => some σ6) 12 0 8192 (sI (sM (sM (sM σ 5 nb (nI s)) 6 nb 1) 7 nb 0) 1 7 (nI (nb + 1))) (by omega) (by omega)
          rw [show (0 : Int32) = nI 0 from rfl, show (1 : Int32) = nI 1 from rfl] at s0
          rw [show (0 : Int32) = nI 0 from rfl, show (1 : Int32) = nI 1 from rfl, nI_add, s0, b_s, x_fillP hr, b_s]
          have u0 : gM τ1 1 0 = nI nb := by
            rw [t3, if_neg (by omega), gMs_s, upd_n (by omega), gMs_s, upd_n (by omega), gMs_s, upd_n (by omega)]; exact f0
          rw [u0, nI_add, m_tells hr, b_s, if_pos z22]
          have hxq : FQ σ σ1 := by
            refine ⟨fun k j h1 h2 => ?_, fun k i h1 h2 h3 h4 => ?_⟩
            · rw [s1, gI_sI, if_neg (by omega)]; rfl
            · rw [s2 k (by omega), gMI, gMs_n (by omega), gMs_n (by omega), gMs_n (by omega)]
          have htm : FM τ (sM τ1 1 0 (nI (nb + 1))) := by
            refine ⟨fun j h => t1 0 j, fun k i h1 h2 h3 h4 => ?_⟩
            rw [gMs_n h1, t2 k h1, gMs_n h1, gMs_n h1, gMs_n h1]
          have hrow : ∀ i, i ≠ 0 → (i < 1 + 15 * nb ∨ 16 + 15 * nb ≤ i) → gM (sM τ1 1 0 (nI (nb + 1))) 1 i = gM τ 1 i := by
            intro i hi hj
            rw [gMs_s, upd_n hi, t3, if_neg (by omega), gMs_s, upd_n (by omega), gMs_s, upd_n (by omega), gMs_s, upd_n (by omega)]
          have HH : Rc1 σ1 (gM (sM τ1 1 0 (nI (nb + 1))) 1) (nb + 1) ni bu (updN sz nb s) := by
            refine ⟨?_, ?_, ?_, ?_, Rims_fx g5 hni (hxq.fx (by omega)) (fun i hi _ => hrow i (by omega) (by omega))⟩
            · rw [s1, gI_sI, if_pos (by omega)]
            · rw [s1, gI_sI, if_neg (by omega)]; exact g2
            · rw [s1, gI_sI, if_neg (by omega)]; exact g3
            · have q2 : gM σ1 2 = gM σ 2 := by rw [s2 2 (by decide), gMI, gMs_n (by decide), gMs_n (by decide), gMs_n (by decide)]
              have q3 : gM σ1 3 = gM σ 3 := by rw [s2 3 (by decide), gMI, gMs_n (by decide), gMs_n (by decide), gMs_n (by decide)]
              have q4 : gM σ1 4 = gM σ 4 := by rw [s2 4 (by decide), gMI, gMs_n (by decide), gMs_n (by decide), gMs_n (by decide)]
              have q5 : gM σ1 5 = upd (gM σ 5) nb (nI s) := by rw [s2 5 (by decide), gMI, gMs_n (by decide), gMs_n (by decide), gMs_s]
              have q6 : gM σ1 6 = upd (gM σ 6) nb 1 := by rw [s2 6 (by decide), gMI, gMs_n (by decide), gMs_s, gMs_n (by decide)]
              have q7 : gM σ1 7 = upd (gM σ 7) nb 0 := by rw [s2 7 (by decide), gMI, gMs_s, gMs_n (by decide), gMs_n (by decide)]
              have q8 : ∀ i, gM σ1 8 i = if nb * 12 + 0 ≤ i ∧ i < nb * 12 + 12 then -1 else gM σ 8 i := fun i => by rw [s3, gMI, gMs_n (by decide), gMs_n (by decide), gMs_n (by decide)]
              show Rs (nb + 1) ni bu (updN sz nb s) (gM σ1 2) (gM σ1 3) (gM σ1 4) (gM σ1 5) (gM σ1 6) (gM σ1 7) (gM σ1 8) (gM (sM τ1 1 0 (nI (nb + 1))) 1)
              rw [q2, q3, q4]
              refine Rs_add g4 (by omega) (s := s) (by omega) (by omega) ?_ ?_ ?_ ?_ ?_ ?_ ?_ ?_ ?_ ?_ ?_ hrow
              · rw [q5, upd_s]
              · rw [q6, upd_s]
              · rw [q7, upd_s]
              · intro q hq
                exact ⟨by rw [q5, upd_n hq], by rw [q6, upd_n hq], by rw [q7, upd_n hq]⟩
              · intro j hj
                rw [q8, if_pos (by omega)]
              · intro i hi
                rw [q8, if_neg (by omega)]
              · rw [gMs_s, upd_s]
              · rw [gMs_s, upd_n (by omega), t3, if_neg (by omega), gMs_s, upd_n (by omega), gMs_s, upd_n (by omega), gMs_s, upd_s]
              · rw [gMs_s, upd_n (by omega), t3, if_neg (by omega), gMs_s, upd_n (by omega), gMs_s, upd_s]
              · rw [gMs_s, upd_n (by omega), t3, if_neg (by omega), gMs_s, upd_s]
              · intro j hj
                rw [gMs_s, upd_n (by omega), t3, if_pos (by omega), if_pos (by omega)]
          have e2 : updN sz nb s nb = s := by simp [updN]
          show Res σ τ ni (some (nI nb, xfill σ1 r 2 (nI nb) (nI 0))) (some (nI nb, mfill (sM τ1 1 0 (nI (nb + 1))) r 2 (nI nb) (nI 0)))
          refine ⟨_, _, _, nb + 1, ni, bu, updN sz nb s, rfl, rfl, Rc1_fill HH hr (Or.inr (Or.inr ⟨rfl, rfl, nb, 0, by omega, Nat.zero_le _, rfl, rfl, rfl, rfl⟩)), Nat.le_refl _, (hxq.tr xfill_q).fx (by omega), htm.tr mfill_m, ok_n (by omega), ?_⟩
          rw [mfill_row, upd_n (by omega), upd_n (by omega), upd_n (by omega)]
          exact hrow 169 (by omega) (by omega)
      · rw [if_neg (show ¬ c ≤ 12 by rw [le_i, i12]; exact h2), in_no (lo := 1) (hi := 12) (Or.inr (by rw [i12]; omega)), if_pos z00]; exact Res.no H ok_bad
