theorem FX.of {ni : Nat} {σ σ' : gS} (h1 : ∀ a j, a ≠ 1 → gI σ' a j = gI σ a j) (h2 : ∀ a, 9 ≤ a → gM σ' a = gM σ a) : FX ni σ σ' :=
  ⟨fun k j hk => h1 k j (by omega), fun k i hk => by rw [h2 k (by omega)], fun n hn => ⟨h1 _ _ (by omega), fun i => by rw [h2 _ (by omega)], fun i => by rw [h2 _ (by omega)]⟩⟩
/-- an image joins the album -/
theorem Rc_img {σ τ τ' : gS} {nb ni bu : Nat} {sz : Nat → Nat} (H : Rc1 σ (gM τ 1) nb ni bu sz) (hni : ni < 8) (B : Rim σ (11 + 3 * ni) (gM τ 9)) (e : ∀ i, gM τ' 1 i = if 171 + 131 * ni + 0 ≤ i ∧ i < 171 + 131 * ni + 131 then gM τ 9 (i - (171 + 131 * ni)) else gM τ 1 i) :
    Rc1 (sI σ 1 8 (nI (ni + 1))) (gM (sM τ' 1 170 (nI (ni + 1))) 1) nb (ni + 1) bu sz := by
  obtain ⟨h1, h2, h3, ⟨q1, q2, q3, q4, q5, q6, q7, q8, q9⟩, h5⟩ := H
  have low : ∀ i, i < 171 → i ≠ 170 → gM (sM τ' 1 170 (nI (ni + 1))) 1 i = gM τ 1 i := fun i h h' => by rw [gMs_s, upd_n h', e, if_neg (by omega)]
  refine ⟨?_, ?_, ?_, ⟨q1, by omega, q3, q4, ?_, ?_, ?_, fun r hr => ?_, fun p hp => ?_⟩, fun i hi => ?_⟩
  · rw [gI_sI, if_neg (by omega)]; exact h1
  · rw [gI_sI, if_pos (by omega)]
  · rw [gI_sI, if_neg (by omega)]; exact h3
  · rw [low 0 (by omega) (by omega)]; exact q5
  · rw [gMs_s, upd_s]
  · rw [low 169 (by omega) (by omega)]; exact q7
  · rw [low _ (by omega) (by omega), low _ (by omega) (by omega), low _ (by omega) (by omega)]
    exact q8 r hr
  · exact Rb_congr (q9 p hp) rfl rfl rfl (fun _ _ => rfl) (fun j hj => low _ (by omega) (by omega))
  · have gi : gI (sI σ 1 8 (nI (ni + 1))) (11 + 3 * i) 2 = gI σ (11 + 3 * i) 2 := by rw [gI_sI, if_neg (by omega)]
    by_cases q : i = ni
    · subst q
      refine Rim_congr B gi (fun _ _ => rfl) (fun _ _ => rfl) (fun j hj => ?_)
      show gM (sM τ' 1 170 (nI (i + 1))) 1 (171 + 131 * i + j) = gM τ 9 j
      rw [gMs_s, upd_n (by omega), e, if_pos (by omega), show 171 + 131 * i + j - (171 + 131 * i) = j by omega]
    · refine Rim_congr (h5 i (by omega)) gi (fun _ _ => rfl) (fun _ _ => rfl) (fun j hj => ?_)
      show gM (sM τ' 1 170 (nI (ni + 1))) 1 (171 + 131 * i + j) = gM τ 1 (171 + 131 * i + j)
      rw [gMs_s, upd_n (by omega), e, if_neg (by omega)]
theorem op_freeze {σ τ : gS} {nb ni bu : Nat} {sz : Nat → Nat} (H : Rc1 σ (gM τ 1) nb ni bu sz) (a : Int32) : Res σ τ ni (qO_freezeBlocks σ a) (qM_freezes τ a) := by
  unfold qO_freezeBlocks qM_freezes
  rcases q_reg a with ⟨e1, e2⟩ | ⟨r, hr, rfl, e1, e2⟩
  · rw [e1, e2, if_pos z00, if_pos z00]; exact Res.no H ok_bad
  rw [e1, e2, if_neg n10, if_neg n10]
  have hnb := Rc_nb H
  have hni := Rc_ni H
  rcases begin_c H hr with ⟨k, h1, h2, e1, e2⟩ | ⟨p, o, hp, ho, v1, v2, o2, l1, l2, e2, e1⟩
  · rw [e1, e2, b_s, b_s, if_neg (why_ne (by omega : k ≤ 9)), if_neg (kne h1 (by omega))]
    exact Res.why H k h1 (by omega) rfl
  rw [e1, e2, b_s, b_s, if_pos z00, m_place hr, b_s, o2]
  by_cases h0 : o = 0
  case neg =>
    rw [if_neg h0, if_neg (show ¬ (-19 : Int32) = 0 by decide), if_neg (nI_ne0 (n := o) (by omega) (by have := (Rc_blk H hp).2.1; omega))]
    exact Res.why H 9 (by decide) (by decide) why9
  subst h0
  rw [if_pos rfl, if_pos z00, if_pos nI_0, x_val hr, b_s, v1, m_val hr, b_s, v2]
  obtain ⟨σ1, τ1, c, l, r1, r2, R1, F1, G1, hc1⟩ := reach_c H hp
  obtain ⟨H1, X1, M1, K1⟩ := Rc_fr H F1 G1
  rw [r1, b_s, r2, b_s]
  rcases alive H1 R1 with ⟨a1, a2⟩ | ⟨a1, a2⟩
  · rw [a1, b_s, a2, b_s, if_pos z00, if_pos z00, why3]
    exact ⟨_, _, _, nb, ni, bu, sz, rfl, rfl, H1, Nat.le_refl _, X1, M1, ok_why (by decide) (by decide), K1⟩
  rw [a1, b_s, a2, b_s, if_neg n10, if_neg n10]
  obtain ⟨σ2, τ2, d1, d2, B2, F2, G2⟩ := draw_c H1 R1 hc1
  obtain ⟨H2, X2, M2, K2⟩ := Rc_dr H1 F2 G2
  have R2 := R1.dr hni F2 G2
  have X12 := X1.tr X2 (Nat.le_refl _)
  have M12 := M1.tr M2
  have K12 := K2.trans K1
  rw [d1, b_s, d2, b_s]
  have f170 : gM τ2 1 170 = nI ni := H2.2.2.2.1.2.2.2.2.2.1
  have hcc := R2.1
  rcases found_c H2 B2 with ⟨i1, i2⟩ | ⟨i, hi, i1, i2⟩
  · rw [i1, b_s, i2, b_s, if_pos rfl, f170, H2.2.1, if_pos rfl]
    by_cases h8 : ni = 8
    · subst h8
      rw [if_neg (show ¬ nI 8 < 8 by decide), if_pos (show nI 8 = 8 from rfl)]
      exact ⟨_, _, _, nb, 8, bu, sz, rfl, rfl, H2, Nat.le_refl _, X12, M12, ok_full, K12⟩
    · rw [if_pos (show nI ni < 8 from (nI_ltI (b := 8) (by omega) (by omega)).mpr (by omega)), if_neg (show ¬ nI ni = 8 from fun q => h8 (nI_inj (b := 8) (by omega) (by omega) q))]
      obtain ⟨τ3, y1, y2, y3, y4⟩ := lay_row (ni := ni) (by omega) (fun σ26 => qM_freezes_154 (nI ni) (fun σ27 => some ((nI ni), σ27)) 8192 (sM σ26 1 170 ((gM σ26 1 170) + (1 : Int32))) (0 : Int32)) 131 0 8192 τ2 (by omega) (by omega)
      rw [show nI 0 = (0 : Int32) from rfl] at y1
      have u170 : gM τ3 1 170 = nI ni := by rw [y4, if_neg (by omega)]; exact f170
      rw [y1, u170, nI1]
      have H3 := Rc_img H2 (by omega) B2 y4
      have R3 : gRR (sI σ2 1 8 (nI (ni + 1))) (sM τ3 1 170 (nI (ni + 1))) nb c l := by
        unfold gRR
        rw [gI_sI, if_neg (by omega), show gI (sM τ3 1 170 (nI (ni + 1))) 0 10 = gI τ2 0 10 from y2 0 10, gMI, gMI, gMs_n (show 8 ≠ 1 by decide), y3 8 (by decide)]
        exact R2
      unfold qA_markReachedConstant
      obtain ⟨σ4, τ4, t1, t2, t3, t4, t5⟩ := mark_c (f3 := nI ni) (fun σ5 => some σ5) (fun σ27 => some ((nI ni), σ27)) c 0 8192 _ _ H3 R3 (by omega) (by omega)
      rw [show nI 0 = (0 : Int32) from rfl] at t1 t2
      rw [t1, t2, b_s]
      refine ⟨_, _, _, nb, ni + 1, bu, sz, rfl, rfl, t3, by omega, X12.tr (FX.of (ni := ni) (fun a j h => ?_) (fun a h => ?_)) (Nat.le_refl _), M12.tr ⟨fun j h => ?_, fun k i h1 h2 h3 h4 => ?_⟩, ok_n (by omega), ?_⟩
      · rw [t4.1, gI_sI, if_neg (by omega)]
      · rw [t4.2 a (by omega), gMI]
      · rw [t5.1]; exact y2 0 j
      · rw [t5.2.1 k h1, gMs_n h1, y3 k h1]
      · rw [t5.2.2 169 (by omega), gMs_s, upd_n (by omega), y4, if_neg (by omega)]; exact K12
  · have hii : nI i ≠ -1 := ne_neg1 (by omega)
    rw [i1, b_s, i2, b_s, if_neg hii, H2.2.1, if_pos (show nI i < 8 from (nI_ltI (b := 8) (by omega) (by omega)).mpr (by omega)), if_neg (fun q => by
      have := nI_inj (by omega) (by omega) q
      omega)]
    unfold qA_markReachedConstant
    obtain ⟨σ4, τ4, t1, t2, t3, t4, t5⟩ := mark_c (f3 := nI i) (fun σ5 => some σ5) (fun σ21 => some (nI i, σ21)) c 0 8192 _ _ H2 R2 (by omega) (by omega)
    rw [show nI 0 = (0 : Int32) from rfl] at t1 t2
    rw [t1, t2, b_s]
    refine ⟨_, _, _, nb, ni, bu, sz, rfl, rfl, t3, Nat.le_refl _, X12.tr (FX.of (ni := ni) (fun a j _ => t4.1 a j) (fun a h => t4.2 a (by omega))) (Nat.le_refl _), M12.tr ⟨fun j _ => t5.1 0 j, fun k i h1 h2 h3 h4 => by rw [t5.2.1 k h1]⟩, ok_n (by omega), (t5.2.2 169 (by omega)).trans K12⟩
