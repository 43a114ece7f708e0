/-! FORGET, BUDGET, BACK, REGISTER -/
theorem stage_rel {n : Nat} {σ τ : gS} (h : Rel n σ τ) : ∃ σ1, qH_stage σ = some σ1 ∧ Rel n σ1 τ := by
  obtain ⟨nb, ni, bu, sz, pl, sv, N, I, U, S, H, G, T, X⟩ := h
  obtain ⟨σ1, s1, H1, G1, W1, s2, s3⟩ := stage_c H G
  exact ⟨σ1, s1, nb, ni, bu, sz, pl, sv, N, I, U, S, H1, G1, T.cg (fun j => s2 96 j (by omega)) (s3 97 (by omega)) rfl rfl, X.cg (s2 42 3 (by omega)) (fun i => by rw [s3 43 (by omega)]) rfl (fun _ => rfl)⟩
theorem late_c {n : Nat} {σ τ : gS} (h : Rel n σ τ) (X M : gS → Option (Int32 × gS)) (hop : ∀ (σ τ : gS) (nb ni bu : Nat) (sz : Nat → Nat), Rc1 σ (gM τ 1) nb ni bu sz → ∃ (m : Nat) (σ' τ' : gS) (nb' ni' bu' : Nat) (sz' : Nat → Nat), m < 2 ^ 31 ∧ X σ = some (nI m, σ') ∧ M τ = some (nI m, τ') ∧ Rc1 σ' (gM τ' 1) nb' ni' bu' sz' ∧ ni ≤ ni' ∧ FX ni σ σ' ∧ FM τ τ') :
    ∃ r σ' τ', ((qH_stage σ).bind fun r1 => (X r1).bind fun r2 => (qF_settled r2.2 r2.1).bind fun r3 => some (r3.1, r3.2)) = some (r, σ') ∧ ((qM_copies τ).bind fun r2 => (qM_remembers r2).bind fun r3 => M r3) = some (r, τ') ∧ Rel (n + 1) σ' τ' := by
  obtain ⟨nb, ni, bu, sz, pl, sv, N, I, U, S, H, G, T, TX⟩ := h
  have hI : ∀ j, j < sv → I j ≤ ni := fun j hj => (G.2.2.2.2.2 j hj).2.1
  obtain ⟨σ1, s1, H1, G1, W1, s2, s3⟩ := stage_c H G
  obtain ⟨τ1, c1, c2, c3, c4⟩ := copies_c τ
  obtain ⟨τ2, r1, r2, r3, -⟩ := rem_c (τ := τ1) G.2.1 ((c2 0 3).trans G.2.2.2.2.1)
  have H1' : Rc1 σ1 (gM τ2 1) nb ni bu sz := by rw [r3 1 (by decide), c3 1 (by decide)]; exact H1
  obtain ⟨m, σ2, τ3, nb2, ni2, bu2, sz2, hm, o1, o2, H2, hn2, F2, M2⟩ := hop σ1 τ2 nb ni bu sz H1'
  have G1' : gRg σ1 τ1 ni pl sv N I U S := G1.fx FX.rf (Nat.le_refl _) (c2 0 3) (c3 3 (by decide))
  have G2 : gRg σ2 τ1 ni2 pl sv N I U S := G1'.fx F2 hn2 rfl rfl
  have W2 : Rc σ2 (48 + 8 * pl) (gM τ 1) nb ni bu sz := Rc_fx W1 (by omega) F2 (Nat.le_refl _) (fun _ _ => rfl)
  obtain ⟨σ3, τ2', k1, k2, k3, k4, k5, k6, pl', sv', N', I', U', S', G3⟩ := kept_c G2 W2 c4 hn2 hI
  have eτ : τ2' = τ2 := by
    rw [r1] at k2
    exact (Option.some.inj k2).symm
  subst eτ
  have m3 : gM τ3 3 = gM τ2' 3 := funext fun i => M2.2 3 i (by decide) (by decide) (by decide) (by decide)
  have G4 : gRg σ3 τ3 ni2 pl' sv' N' I' U' S' := G3.fx FX.rf (Nat.le_refl _) (M2.1 3 (by decide)) m3
  have H3 : Rc1 σ3 (gM τ3 1) nb2 ni2 bu2 sz2 :=
    Rc_at H2 (k3 _ _ (by decide)) (k3 _ _ (by decide)) (k3 _ _ (by decide)) (fun i _ => ⟨by rw [k4], by rw [k4], by rw [k4]⟩) (fun i _ => ⟨by rw [k4], by rw [k4], by rw [k4]⟩) (fun i _ => by rw [k4]) (fun n hn => ⟨k3 _ _ (by have := Rc_ni H2; omega), fun i => by rw [k4], fun i => by rw [k4]⟩) (fun _ _ => rfl)
  have T3 : gTl (n + 1) σ3 τ3 := (T.mono (by omega)).cg (fun j => by rw [k3 96 j (by decide), F2.1 96 j (by decide), s2 96 j (by omega)]) (by
      funext i; rw [k4, F2.2.1 97 i (by decide), s3 97 (by omega)]) (by
      funext i; rw [M2.2 4 i (by decide) (by decide) (by decide) (by decide), k6 4 (by decide), c3 4 (by decide)]) (by
      funext i; rw [M2.2 5 i (by decide) (by decide) (by decide) (by decide), k6 5 (by decide), c3 5 (by decide)])
  have X3 : gTx σ3 τ3 := TX.cg (by rw [k3 42 3 (by decide), F2.1 42 3 (by decide), s2 42 3 (by omega)]) (fun i => by rw [k4, F2.2.1 43 i (by decide), s3 43 (by omega)]) (by rw [M2.1 7 (by decide), k5 0 7 (by omega), c2]) (fun i => by rw [M2.2 6 i (by decide) (by decide) (by decide) (by decide), k6 6 (by decide), c3 6 (by decide)])
  rw [s1, b_s, o1, b_s, c1, b_s, k2, b_s, o2]
  unfold qF_settled
  rw [if_neg (nlt0 hm), k1, b_s, noted_n hm, b_s, b_s]
  exact ⟨_, _, _, rfl, rfl, nb2, ni2, bu2, sz2, pl', sv', N', I', U', S', H3, G4, T3, X3⟩
theorem okr_nn {k : Int32} (h : okr k) (h0 : 0 ≤ k) : ∃ m, m < 2 ^ 31 ∧ k = nI m := by
  rcases okr_neg h with h | h
  · exact h
  · exact absurd h (Int32.not_lt.mpr h0)
theorem sim_forget {n : Nat} {σ τ : gS} (h : Rel n σ τ) (a : Int32) : ∃ r σ' τ', qF_forget σ a = some (r, σ') ∧ qM_forget τ a = some (r, τ') ∧ Rel (n + 1) σ' τ' := by
  unfold qF_forget qM_forget
  rcases q_reg a with ⟨e1, e2⟩ | ⟨r, hr, rfl, e1, e2⟩
  · obtain ⟨σ1, s1, h1⟩ := stage_rel h
    obtain ⟨σ', τ', b1, b2, b3⟩ := bad_c h1
    have e : qO_forgetRegister σ1 a = some (-2, σ1) := by
      unfold qO_forgetRegister
      rw [e1, if_pos z00]
    unfold qF_settled
    rw [s1, b_s, e, b_s, if_pos (show (-2 : Int32) < 0 by decide), b1, b_s, b_s, e2, if_pos z00, b2, b_s]
    exact ⟨_, _, _, rfl, rfl, b3⟩
  · rw [e2, if_neg n10]
    refine late_c h (fun σ => qO_forgetRegister σ (nI r)) (fun r3 => (qM_kindOf r3 (nI r)).bind fun r4 => (qM_tells r3 (nI r) 0 0 0).bind fun r5 => some (r4, r5.2)) (fun σ τ nb ni bu sz H => ?_)
    obtain ⟨k, σ', τ', o1, o2, o3, o4, o5, o6, o7, o8⟩ := op_forget H hr
    obtain ⟨m, hm, rfl⟩ := okr_nn o3 o4
    exact ⟨m, σ', τ', nb, ni, bu, sz, hm, o1, by rw [o2, b_s, o5, b_s], o6, Nat.le_refl _, o7, o8⟩
theorem sim_budget {n : Nat} {σ τ : gS} (h : Rel n σ τ) (a : Int32) : ∃ r σ' τ', qF_budget σ a = some (r, σ') ∧ qM_budget τ a = some (r, τ') ∧ Rel (n + 1) σ' τ' := by
  unfold qF_budget qM_budget
  have bad : (∀ σ1 : gS, qO_changeBudget σ1 a = some (-2, σ1)) → qM_in a 1 60 = 0 → ∃ r σ' τ', ((qH_stage σ).bind fun r1 => (qO_changeBudget r1 a).bind fun r2 => (qF_settled r2.2 r2.1).bind fun r3 => some (r3.1, r3.2)) = some (r, σ') ∧ (if qM_in a 1 60 = 0 then (qM_bad τ).bind fun r4 => some (r4.1, r4.2) else (qM_copies τ).bind fun r2 => (qM_remembers r2).bind fun r3 => some (gM r3 1 169, sM r3 1 169 a)) = some (r, τ') ∧ Rel (n + 1) σ' τ' := by
    intro e e2
    obtain ⟨σ1, s1, h1⟩ := stage_rel h
    obtain ⟨σ', τ', b1, b2, b3⟩ := bad_c h1
    unfold qF_settled
    rw [s1, b_s, e, b_s, if_pos (show (-2 : Int32) < 0 by decide), b1, b_s, b_s, e2, if_pos z00, b2, b_s]
    exact ⟨_, _, _, rfl, rfl, b3⟩
  by_cases h1 : a.toInt < 1
  · refine bad (fun σ1 => ?_) (in_no (Or.inl (by rw [i1]; exact h1)))
    unfold qO_changeBudget
    rw [if_pos (show a < 1 by rw [lt_i, i1]; exact h1)]
  by_cases h2 : a.toInt ≤ 60
  case neg =>
    refine bad (fun σ1 => ?_) (in_no (Or.inr (by rw [i60]; omega)))
    unfold qO_changeBudget
    rw [if_neg (show ¬ a < 1 by rw [lt_i, i1]; exact h1), if_neg (show ¬ a ≤ 60 by rw [le_i, i60]; exact h2)]
  rw [in_yes (lo := 1) (hi := 60) (by rw [i1]; omega) (by rw [i60]; omega), if_neg n10]
  refine late_c h (fun σ => qO_changeBudget σ a) (fun r3 => some (gM r3 1 169, sM r3 1 169 a)) (fun σ τ nb ni bu sz H => ?_)
  obtain ⟨k, hk, rfl⟩ := nI_of (x := a) (by rw [lt_i, i0]; omega)
  rw [nI_toInt hk] at h1 h2
  obtain ⟨o1, o2, o3, o4, o5⟩ := op_budget H (n := k) (by omega) (by omega)
  have hbu := H.2.2.2.1.2.2.2.1
  refine ⟨bu, _, _, nb, ni, k, sz, by omega, ?_, ?_, o3, Nat.le_refl _, o4, o5⟩
  · unfold qO_changeBudget
    rw [if_neg (show ¬ nI k < 1 by rw [lt_i, i1, nI_toInt hk]; omega), if_pos (show nI k ≤ 60 by rw [le_i, i60, nI_toInt hk]; omega), o2]
  · show some (gM τ 1 169, sM τ 1 169 (nI k)) = some (nI bu, sM τ 1 169 (nI k))
    rw [← o1, o2]
