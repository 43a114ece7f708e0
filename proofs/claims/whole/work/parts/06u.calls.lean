/-! THE RELATION, and the calls that act -/
def gTx (σ τ : gS) : Prop := ∃ t, t ≤ 120 ∧ gI σ 42 3 = nI t ∧ gI τ 0 7 = nI t ∧ ∀ i, i < t → ∃ b, b < 128 ∧ gM σ 43 i = nI b ∧ gM τ 6 i = nI b
theorem gTx.cg {σ τ σ' τ' : gS} (h : gTx σ τ) (e1 : gI σ' 42 3 = gI σ 42 3) (e2 : ∀ i, gM σ' 43 i = gM σ 43 i) (e3 : gI τ' 0 7 = gI τ 0 7) (e4 : ∀ i, gM τ' 6 i = gM τ 6 i) : gTx σ' τ' := by
  obtain ⟨t, h1, h2, h3, h4⟩ := h
  refine ⟨t, h1, e1.trans h2, e3.trans h3, fun i hi => ?_⟩
  rw [e2, e4]; exact h4 i hi
def Rel (n : Nat) (σ τ : gS) : Prop := ∃ (nb ni bu : Nat) (sz : Nat → Nat) (pl sv : Nat) (N I U : Nat → Nat) (S : Nat → Nat → Nat), Rc1 σ (gM τ 1) nb ni bu sz ∧ gRg σ τ ni pl sv N I U S ∧ gTl n σ τ ∧ gTx σ τ
theorem Rel.mono {n m : Nat} {σ τ : gS} (h : Rel n σ τ) (hm : n ≤ m) : Rel m σ τ := by
  obtain ⟨nb, ni, bu, sz, pl, sv, N, I, U, S, h1, h2, h3, h4⟩ := h
  exact ⟨nb, ni, bu, sz, pl, sv, N, I, U, S, h1, h2, h3.mono hm, h4⟩
/-- the state at hand and the saved ones, when only the tally or the text changes -/
theorem Rel.tally {n : Nat} {σ τ σ' τ' : gS} {nb ni bu pl sv : Nat} {sz : Nat → Nat} {N I U : Nat → Nat} {S : Nat → Nat → Nat} (H : Rc1 σ (gM τ 1) nb ni bu sz) (G : gRg σ τ ni pl sv N I U S) (T : gTl n σ' τ') (X : gTx σ' τ')
    (e1 : ∀ a j, a < 48 → a ≠ 42 → gI σ' a j = gI σ a j) (e1' : ∀ a j, 48 ≤ a → a < 96 → gI σ' a j = gI σ a j) (e2 : ∀ a, a < 96 → a ≠ 43 → gM σ' a = gM σ a) (e3 : gI τ' 0 3 = gI τ 0 3) (e4 : gM τ' 1 = gM τ 1) (e5 : gM τ' 3 = gM τ 3) : Rel n σ' τ' := by
  have hni := Rc_ni H
  obtain ⟨g1, g2, g3, g4, g5, g6⟩ := G
  refine ⟨nb, ni, bu, sz, pl, sv, N, I, U, S, ?_, ⟨g1, g2, (e1 46 1 (by decide) (by decide)).trans g3, (e1 46 2 (by decide) (by decide)).trans g4, e3.trans g5, fun j hj => ?_⟩, T, X⟩
  · rw [e4]
    exact Rc_at H (e1 _ _ (by omega) (by omega)) (e1 _ _ (by omega) (by omega)) (e1 _ _ (by omega) (by omega)) (fun i _ => ⟨by rw [e2 _ (by omega) (by omega)], by rw [e2 _ (by omega) (by omega)], by rw [e2 _ (by omega) (by omega)]⟩) (fun i _ => ⟨by rw [e2 _ (by omega) (by omega)], by rw [e2 _ (by omega) (by omega)], by rw [e2 _ (by omega) (by omega)]⟩) (fun i _ => by rw [e2 _ (by omega) (by omega)]) (fun n hn => ⟨e1 _ _ (by omega) (by omega), fun i => by rw [e2 _ (by omega) (by omega)], fun i => by rw [e2 _ (by omega) (by omega)]⟩) (fun _ _ => rfl)
  · obtain ⟨b1, b2, b3⟩ := g6 j hj
    refine ⟨Rc_at b1 (e1' _ _ (by omega) (by omega)) (e1' _ _ (by omega) (by omega)) (e1' _ _ (by omega) (by omega)) (fun i _ => ⟨by rw [e2 _ (by omega) (by omega)], by rw [e2 _ (by omega) (by omega)], by rw [e2 _ (by omega) (by omega)]⟩) (fun i _ => ⟨by rw [e2 _ (by omega) (by omega)], by rw [e2 _ (by omega) (by omega)], by rw [e2 _ (by omega) (by omega)]⟩) (fun i _ => by rw [e2 _ (by omega) (by omega)]) (fun n hn => ⟨e1 _ _ (by omega) (by omega), fun i => by rw [e2 _ (by omega) (by omega)], fun i => by rw [e2 _ (by omega) (by omega)]⟩) (fun i _ => by rw [e5]), b2, b3⟩
/-- a call that acts: staged and copied, acted, kept and remembered or not, told -/
theorem acted_c {n : Nat} {σ τ : gS} (h : Rel n σ τ) (X M : gS → Option (Int32 × gS)) (hop : ∀ (σ τ : gS) (nb ni bu : Nat) (sz : Nat → Nat), Rc1 σ (gM τ 1) nb ni bu sz → Res σ τ ni (X σ) (M τ)) :
    ∃ r σ' τ', ((qH_stage σ).bind fun r1 => (X r1).bind fun r2 => (qF_settled r2.2 r2.1).bind fun r3 => some (r3.1, r3.2)) = some (r, σ') ∧
      ((qM_copies τ).bind fun r1 => (M r1).bind fun r2 => (if r2.1 < 0 then (qM_counted r2.2 r2.1).bind (fun r4 => some (r4.1, r4.2)) else (qM_remembers r2.2).bind (fun r5 => (qM_counted r5 r2.1).bind (fun r6 => some (r6.1, r6.2))))) = some (r, τ') ∧ Rel (n + 1) σ' τ' := by
  obtain ⟨nb, ni, bu, sz, pl, sv, N, I, U, S, H, G, T, TX⟩ := h
  have hI : ∀ j, j < sv → I j ≤ ni := fun j hj => (G.2.2.2.2.2 j hj).2.1
  obtain ⟨σ1, s1, H1, G1, W1, s2, s3⟩ := stage_c H G
  obtain ⟨τ1, c1, c2, c3, c4⟩ := copies_c τ
  have H1' : Rc1 σ1 (gM τ1 1) nb ni bu sz := by rw [c3 1 (by decide)]; exact H1
  obtain ⟨r, σ2, τ2, nb2, ni2, bu2, sz2, o1, o2, H2, hn2, F2, M2, hr, -⟩ := hop σ1 τ1 nb ni bu sz H1'
  have G1' : gRg σ1 τ1 ni pl sv N I U S := G1.fx FX.rf (Nat.le_refl _) (c2 0 3) (c3 3 (by decide))
  have m3 : gM τ2 3 = gM τ1 3 := funext fun i => M2.2 3 i (by decide) (by decide) (by decide) (by decide)
  have G2 : gRg σ2 τ2 ni2 pl sv N I U S := G1'.fx F2 hn2 (M2.1 3 (by decide)) m3
  have T2 : gTl n σ2 τ2 := T.cg (fun j => by rw [F2.1 96 j (by decide), s2 96 j (by omega)]) (by
      funext i; rw [F2.2.1 97 i (by decide), s3 97 (by omega)]) (by
      funext i; rw [M2.2 4 i (by decide) (by decide) (by decide) (by decide), c3 4 (by decide)]) (by
      funext i; rw [M2.2 5 i (by decide) (by decide) (by decide) (by decide), c3 5 (by decide)])
  have X2 : gTx σ2 τ2 := TX.cg (by rw [F2.1 42 3 (by decide), s2 42 3 (by omega)]) (fun i => by rw [F2.2.1 43 i (by decide), s3 43 (by omega)]) (by rw [M2.1 7 (by decide), c2]) (fun i => by rw [M2.2 6 i (by decide) (by decide) (by decide) (by decide), c3 6 (by decide)])
  rw [s1, b_s, o1, b_s, c1, b_s, o2, b_s]
  unfold qF_settled
  have fin : ∀ {σ3 τ3 : gS} {pl' sv' : Nat} {N' I' U' : Nat → Nat} {S' : Nat → Nat → Nat}, Rc1 σ3 (gM τ3 1) nb2 ni2 bu2 sz2 → gRg σ3 τ3 ni2 pl' sv' N' I' U' S' → gTl n σ3 τ3 → gTx σ3 τ3 → ∃ σ' τ', qT_noted σ3 r = some (r, σ') ∧ qM_counted τ3 r = some (r, τ') ∧ Rel (n + 1) σ' τ' := by
    intro σ3 τ3 pl' sv' N' I' U' S' H3 G3 T3 X3
    obtain ⟨σ4, τ4, t1, t2, t3, t4, t5, t6, t7⟩ := noted_c T3 hr
    refine ⟨σ4, τ4, t1, t2, Rel.tally H3 G3 t3 (X3.cg (t4 42 3 (by decide)) (fun i => by rw [t5 43 (by decide)]) (t6 0 7) (fun i => by rw [t7 6 (by decide) (by decide)])) (fun a j h _ => t4 a j (by omega)) (fun a j _ h => t4 a j (by omega)) (fun a h _ => t5 a (by omega)) (t6 0 3) (t7 1 (by decide) (by decide)) (t7 3 (by decide) (by decide))⟩
  by_cases hneg : r < 0
  · obtain ⟨σ4, τ4, t1, t2, t3⟩ := fin H2 G2 T2 X2
    rw [if_pos hneg, if_pos hneg, t1, b_s, b_s, t2, b_s]
    exact ⟨r, σ4, τ4, rfl, rfl, t3⟩
  · have W2 : Rc σ2 (48 + 8 * pl) (gM τ1 1) nb ni bu sz := Rc_fx (by rw [c3 1 (by decide)]; exact W1) (by omega) F2 (Nat.le_refl _) (fun _ _ => rfl)
    obtain ⟨σ3, τ3, k1, k2, k3, k4, k5, k6, pl', sv', N', I', U', S', G3⟩ := kept_c G2 W2 (fun i hi => by rw [M2.2 2 i (by decide) (by decide) (by decide) (by decide), c4 i hi, c3 1 (by decide)]) hn2 hI
    have H3 : Rc1 σ3 (gM τ3 1) nb2 ni2 bu2 sz2 := by
      rw [k6 1 (by decide)]
      exact Rc_at H2 (k3 _ _ (by decide)) (k3 _ _ (by decide)) (k3 _ _ (by decide)) (fun i _ => ⟨by rw [k4], by rw [k4], by rw [k4]⟩) (fun i _ => ⟨by rw [k4], by rw [k4], by rw [k4]⟩) (fun i _ => by rw [k4]) (fun n hn => ⟨k3 _ _ (by have := Rc_ni H2; omega), fun i => by rw [k4], fun i => by rw [k4]⟩) (fun _ _ => rfl)
    obtain ⟨σ4, τ4, t1, t2, t3⟩ := fin H3 G3 (T2.cg (fun j => k3 96 j (by decide)) (k4 97) (k6 4 (by decide)) (k6 5 (by decide))) (X2.cg (k3 42 3 (by decide)) (fun i => by rw [k4]) (k5 0 7 (by omega)) (fun i => by rw [k6 6 (by decide)]))
    rw [if_neg hneg, if_neg hneg, k1, b_s, t1, b_s, b_s, k2, b_s, t2, b_s]
    exact ⟨r, σ4, τ4, rfl, rfl, t3⟩
theorem b_eta (x : Option (Int32 × gS)) : (x.bind fun r => some (r.1, r.2)) = x := by
  cases x <;> rfl
theorem acts_98 (τ : gS) (a b c : Int32) : qM_acts τ 98 a b c = qM_blits τ a b c := by
  unfold qM_acts
  rw [if_pos rfl]
  exact b_eta _
theorem sim_blit {n : Nat} {σ τ : gS} (h : Rel n σ τ) (a b c : Int32) : ∃ r σ' τ', qF_blit σ a b c = some (r, σ') ∧ qM_blit τ a b c = some (r, τ') ∧ Rel (n + 1) σ' τ' := by
  have := acted_c h (fun σ => qO_blitBytes σ a b c) (fun τ => qM_acts τ 98 a b c) (fun σ τ nb ni bu sz H => by
    show Res σ τ ni (qO_blitBytes σ a b c) (qM_acts τ 98 a b c)
    rw [acts_98]
    exact op_blit H a b c)
  unfold qF_blit qM_blit qM_calls
  rw [b_eta]
  exact this
theorem acts_99 (τ : gS) (a b c : Int32) : qM_acts τ 99 a b c = qM_copiesTo τ a b := by
  unfold qM_acts
  rw [if_neg (show ¬ (99 : Int32) = 98 by decide), if_pos rfl]
  exact b_eta _
theorem sim_copy {n : Nat} {σ τ : gS} (h : Rel n σ τ) (a b : Int32) : ∃ r σ' τ', qF_copy σ a b = some (r, σ') ∧ qM_copy τ a b = some (r, τ') ∧ Rel (n + 1) σ' τ' := by
  have := acted_c h (fun σ => qO_copyRegister σ a b) (fun τ => qM_acts τ 99 a b 0) (fun σ τ nb ni bu sz H => by
    show Res σ τ ni (qO_copyRegister σ a b) (qM_acts τ 99 a b 0)
    rw [acts_99]
    exact op_copy H a b)
  unfold qF_copy qM_copy qM_calls
  rw [b_eta]
  exact this
theorem acts_101 (τ : gS) (a b c : Int32) : qM_acts τ 101 a b c = qM_ends τ a := by
  unfold qM_acts
  rw [if_neg (show ¬ (101 : Int32) = 98 by decide), if_neg (show ¬ (101 : Int32) = 99 by decide), if_pos rfl]
  exact b_eta _
theorem sim_end {n : Nat} {σ τ : gS} (h : Rel n σ τ) (a : Int32) : ∃ r σ' τ', qF_end σ a = some (r, σ') ∧ qM_end τ a = some (r, τ') ∧ Rel (n + 1) σ' τ' := by
  have := acted_c h (fun σ => qO_endBlock σ a) (fun τ => qM_acts τ 101 a 0 0) (fun σ τ nb ni bu sz H => by
    show Res σ τ ni (qO_endBlock σ a) (qM_acts τ 101 a 0 0)
    rw [acts_101]
    exact op_end H a)
  unfold qF_end qM_end qM_calls
  rw [b_eta]
  exact this
theorem acts_108 (τ : gS) (a b c : Int32) : qM_acts τ 108 a b c = qM_loadsFrom τ a b c := by
  unfold qM_acts
  rw [if_neg (show ¬ (108 : Int32) = 98 by decide), if_neg (show ¬ (108 : Int32) = 99 by decide), if_neg (show ¬ (108 : Int32) = 101 by decide), if_pos rfl]
  exact b_eta _
theorem sim_load {n : Nat} {σ τ : gS} (h : Rel n σ τ) (a b c : Int32) : ∃ r σ' τ', qF_load σ a b c = some (r, σ') ∧ qM_load τ a b c = some (r, τ') ∧ Rel (n + 1) σ' τ' := by
  have := acted_c h (fun σ => qO_loadBytes σ a b c) (fun τ => qM_acts τ 108 a b c) (fun σ τ nb ni bu sz H => by
    show Res σ τ ni (qO_loadBytes σ a b c) (qM_acts τ 108 a b c)
    rw [acts_108]
    exact op_load H a b c)
  unfold qF_load qM_load qM_calls
  rw [b_eta]
  exact this
theorem acts_109 (τ : gS) (a b c : Int32) : qM_acts τ 109 a b c = qM_makes τ a b := by
  unfold qM_acts
  rw [if_neg (show ¬ (109 : Int32) = 98 by decide), if_neg (show ¬ (109 : Int32) = 99 by decide), if_neg (show ¬ (109 : Int32) = 101 by decide), if_neg (show ¬ (109 : Int32) = 108 by decide), if_pos rfl]
  exact b_eta _
theorem sim_make {n : Nat} {σ τ : gS} (h : Rel n σ τ) (a b : Int32) : ∃ r σ' τ', qF_make σ a b = some (r, σ') ∧ qM_make τ a b = some (r, τ') ∧ Rel (n + 1) σ' τ' := by
  have := acted_c h (fun σ => qO_makeBlock σ a b) (fun τ => qM_acts τ 109 a b 0) (fun σ τ nb ni bu sz H => by
    show Res σ τ ni (qO_makeBlock σ a b) (qM_acts τ 109 a b 0)
    rw [acts_109]
    exact op_make H a b)
  unfold qF_make qM_make qM_calls
  rw [b_eta]
  exact this
theorem acts_115 (τ : gS) (a b c : Int32) : qM_acts τ 115 a b c = qM_setsTo τ a b := by
  unfold qM_acts
  rw [if_neg (show ¬ (115 : Int32) = 98 by decide), if_neg (show ¬ (115 : Int32) = 99 by decide), if_neg (show ¬ (115 : Int32) = 101 by decide), if_neg (show ¬ (115 : Int32) = 108 by decide), if_neg (show ¬ (115 : Int32) = 109 by decide), if_pos rfl]
  exact b_eta _
theorem sim_set {n : Nat} {σ τ : gS} (h : Rel n σ τ) (a b : Int32) : ∃ r σ' τ', qF_set σ a b = some (r, σ') ∧ qM_set τ a b = some (r, τ') ∧ Rel (n + 1) σ' τ' := by
  have := acted_c h (fun σ => qO_setNumber σ a b) (fun τ => qM_acts τ 115 a b 0) (fun σ τ nb ni bu sz H => by
    show Res σ τ ni (qO_setNumber σ a b) (qM_acts τ 115 a b 0)
    rw [acts_115]
    exact op_set H a b)
  unfold qF_set qM_set qM_calls
  rw [b_eta]
  exact this
theorem acts_118 (τ : gS) (a b c : Int32) : qM_acts τ 118 a b c = qM_movesBy τ a b := by
  unfold qM_acts
  rw [if_neg (show ¬ (118 : Int32) = 98 by decide), if_neg (show ¬ (118 : Int32) = 99 by decide), if_neg (show ¬ (118 : Int32) = 101 by decide), if_neg (show ¬ (118 : Int32) = 108 by decide), if_neg (show ¬ (118 : Int32) = 109 by decide), if_neg (show ¬ (118 : Int32) = 115 by decide), if_pos rfl]
  exact b_eta _
theorem sim_move {n : Nat} {σ τ : gS} (h : Rel n σ τ) (a b : Int32) : ∃ r σ' τ', qF_move σ a b = some (r, σ') ∧ qM_move τ a b = some (r, τ') ∧ Rel (n + 1) σ' τ' := by
  have := acted_c h (fun σ => qO_moveRegister σ a b) (fun τ => qM_acts τ 118 a b 0) (fun σ τ nb ni bu sz H => by
    show Res σ τ ni (qO_moveRegister σ a b) (qM_acts τ 118 a b 0)
    rw [acts_118]
    exact op_move H a b)
  unfold qF_move qM_move qM_calls
  rw [b_eta]
  exact this
theorem acts_119 (τ : gS) (a b c : Int32) : qM_acts τ 119 a b c = qM_storesAt τ a b c := by
  unfold qM_acts
  rw [if_neg (show ¬ (119 : Int32) = 98 by decide), if_neg (show ¬ (119 : Int32) = 99 by decide), if_neg (show ¬ (119 : Int32) = 101 by decide), if_neg (show ¬ (119 : Int32) = 108 by decide), if_neg (show ¬ (119 : Int32) = 109 by decide), if_neg (show ¬ (119 : Int32) = 115 by decide), if_neg (show ¬ (119 : Int32) = 118 by decide), if_pos rfl]
  exact b_eta _
theorem sim_store {n : Nat} {σ τ : gS} (h : Rel n σ τ) (a b c : Int32) : ∃ r σ' τ', qF_store σ a b c = some (r, σ') ∧ qM_store τ a b c = some (r, τ') ∧ Rel (n + 1) σ' τ' := by
  have := acted_c h (fun σ => qO_storeBytes σ a b c) (fun τ => qM_acts τ 119 a b c) (fun σ τ nb ni bu sz H => by
    show Res σ τ ni (qO_storeBytes σ a b c) (qM_acts τ 119 a b c)
    rw [acts_119]
    exact op_store H a b c)
  unfold qF_store qM_store qM_calls
  rw [b_eta]
  exact this
theorem acts_122 (τ : gS) (a b c : Int32) : qM_acts τ 122 a b c = qM_freezes τ a := by
  unfold qM_acts
  rw [if_neg (show ¬ (122 : Int32) = 98 by decide), if_neg (show ¬ (122 : Int32) = 99 by decide), if_neg (show ¬ (122 : Int32) = 101 by decide), if_neg (show ¬ (122 : Int32) = 108 by decide), if_neg (show ¬ (122 : Int32) = 109 by decide), if_neg (show ¬ (122 : Int32) = 115 by decide), if_neg (show ¬ (122 : Int32) = 118 by decide), if_neg (show ¬ (122 : Int32) = 119 by decide)]
  exact b_eta _
theorem sim_freeze {n : Nat} {σ τ : gS} (h : Rel n σ τ) (a : Int32) : ∃ r σ' τ', qF_freeze σ a = some (r, σ') ∧ qM_freeze τ a = some (r, τ') ∧ Rel (n + 1) σ' τ' := by
  have := acted_c h (fun σ => qO_freezeBlocks σ a) (fun τ => qM_acts τ 122 a 0 0) (fun σ τ nb ni bu sz H => by
    show Res σ τ ni (qO_freezeBlocks σ a) (qM_acts τ 122 a 0 0)
    rw [acts_122]
    exact op_freeze H a)
  unfold qF_freeze qM_freeze qM_calls
  rw [b_eta]
  exact this
