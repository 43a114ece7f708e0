/-- the run: both in step -/
theorem run_c {σ1 τ1 : gS} {O b ni : Nat} (hO : O ≤ 40) (hb : b ≤ 60) (x4 : gI σ1 42 4 = nI O) (y14 : gI τ1 0 14 = nI O) (hord : gOrd σ1 τ1 O) : ∀ (d v x n m : Nat) (σ τ : gS) (nb nj bu : Nat) (sz : Nat → Nat), v + d = b → d + 2 < n → d + 2 < m → x < 2 ^ 31 → Rc1 σ (gM τ 1) nb nj bu sz → ni ≤ nj → FX ni σ1 σ → FN τ1 τ → gM τ 1 169 = nI b →
    ∃ (r : Int32) (σ' τ' : gS) (nb' nj' bu' : Nat) (sz' : Nat → Nat), qP_run_5 (nI b) (fun σ10 => some ((-500 : Int32), σ10)) n σ (nI x) (nI v) = some (r, σ') ∧ qM_goes_4 (fun σ5 x6 => some (x6, σ5)) m τ (nI v) (nI x) = some (r, τ') ∧ Rc1 σ' (gM τ' 1) nb' nj' bu' sz' ∧ ni ≤ nj' ∧ FX ni σ1 σ' ∧ FN τ1 τ' := by
  intro d
  induction d with
  | zero =>
    intro v x n m σ τ nb nj bu sz hv hn hm hx H hj F G e169
    obtain ⟨n, rfl⟩ : ∃ k, n = k + 1 + 1 := ⟨n - 2, by omega⟩
    obtain ⟨m, rfl⟩ : ∃ k, m = k + 1 := ⟨m - 1, by omega⟩
    obtain rfl : v = b := by omega
    rw [qP_run_5, if_neg (show ¬ nI v < nI v from fun h => Int32.lt_irrefl h), F.1 42 4 (by decide), x4, qM_goes_4, G.1 14 (by decide) (by decide), y14]
    by_cases h : x < O
    · rw [if_pos ((nI_ltI (by omega) (by omega)).mpr h), if_pos ((nI_leI (by omega) (by omega)).mpr (Nat.le_refl _)), nI1, qP_run_5, if_pos ((nI_ltI (by omega) (by omega)).mpr (by omega)), if_neg (nle h (by omega)), e169, if_pos rfl]
      exact ⟨_, _, _, nb, nj, bu, sz, rfl, rfl, H, hj, F, G⟩
    · rw [if_neg (fun q => h ((nI_ltI (by omega) (by omega)).mp q)), if_pos ((nI_leI (by omega) (by omega)).mpr (by omega))]
      exact ⟨_, _, _, nb, nj, bu, sz, rfl, rfl, H, hj, F, G⟩
  | succ d ih =>
    intro v x n m σ τ nb nj bu sz hv hn hm hx H hj F G e169
    obtain ⟨n, rfl⟩ : ∃ k, n = k + 1 := ⟨n - 1, by omega⟩
    obtain ⟨m, rfl⟩ : ∃ k, m = k + 1 := ⟨m - 1, by omega⟩
    rw [qP_run_5, if_neg (fun q => absurd ((nI_ltI (by omega) (by omega)).mp q) (by omega)), F.1 42 4 (by decide), x4, qM_goes_4, G.1 14 (by decide) (by decide), y14]
    by_cases h : x < O
    case neg =>
      rw [if_neg (fun q => h ((nI_ltI (by omega) (by omega)).mp q)), if_pos ((nI_leI (by omega) (by omega)).mpr (by omega))]
      exact ⟨_, _, _, nb, nj, bu, sz, rfl, rfl, H, hj, F, G⟩
    obtain ⟨c, M, lt, o1, o2, o3⟩ := hord x h
    have o1' : gM σ 44 x = nI c := (F.2.1 44 x (by decide)).trans o1
    have o2' : gM τ 10 x = nI c := (G.2 10 x (by decide) (by decide) (by decide) (by decide)).trans o2
    have o3' : ∀ j, j < M → gOp σ τ c (3 * x + j) := fun j hj => (o3 j hj).cg (F.2.1 45 _ (by decide)) (G.2 11 _ (by decide) (by decide) (by decide) (by decide))
    obtain ⟨r, r', σ2, τ2, nb2, nj2, bu2, sz2, s1, s2, H2, hj2, F2, G2, e2, hr⟩ := step_c H (show x < 40 by omega) lt o1' o2' o3'
    have F3 : FX ni σ1 σ2 := F.tr F2 hj
    have G3 : FN τ1 τ2 := G.tr G2
    rw [if_pos ((nI_ltI (by omega) (by omega)).mpr h), if_neg (fun q => absurd ((nI_leI (by omega) (by omega)).mp q) (by omega)), s1, b_s, if_neg (nle h (by omega)), e169, if_neg (nI_ne (by omega) (by omega) (by omega)), s2, b_s]
    rcases hr with ⟨hneg, rfl⟩ | ⟨h0, h0', y, hy, ey, hF⟩
    · rw [if_neg (Int32.not_le.mpr hneg), if_neg (Int32.not_le.mpr hneg)]
      exact ⟨_, _, _, nb2, nj2, bu2, sz2, rfl, rfl, H2, by omega, F3, G3⟩
    · rw [if_pos h0, if_pos h0', ey, nI1]
      have hF' := hF (fun y => qP_run_5 (nI b) (fun σ10 => some ((-500 : Int32), σ10)) n σ2 y (nI (v + 1)))
      unfold gNx at hF'
      rw [hF']
      exact ih (v + 1) y n m σ2 τ2 nb2 nj2 bu2 sz2 (by omega) (by omega) (by omega) hy H2 (by omega) F3 G3 (e2.trans e169)
theorem undo_l (x : Int32) (k : gS → Option (Int32 × gS)) : ∀ (d v n : Nat) (τ : gS), v + d = 1219 → d < n → ∃ τ', qM_does_36 x k n τ (nI v) = k τ' ∧ (∀ a j, gI τ' a j = gI τ a j) ∧ (∀ a, a ≠ 1 → gM τ' a = gM τ a) ∧ ∀ i, gM τ' 1 i = if v ≤ i ∧ i < 1219 then gM τ 2 i else gM τ 1 i := by
  intro d
  induction d with
  | zero =>
    intro v n σ h hn
    obtain ⟨m, rfl⟩ : ∃ m, n = m + 1 := ⟨n - 1, by omega⟩
    refine ⟨σ, ?_, fun _ _ => rfl, fun _ _ => rfl, fun i => by rw [if_neg (by omega)]⟩
    rw [qM_does_36, if_pos (show (1219 : Int32) ≤ nI v from (nI_leI (a := 1219) (by omega) (by omega)).mpr (by omega))]
  | succ d ih =>
    intro v n σ h hn
    obtain ⟨m, rfl⟩ : ∃ m, n = m + 1 := ⟨n - 1, by omega⟩
    obtain ⟨σ', e, g1, g2, g3⟩ := ih (v + 1) m (sM σ 1 v (gM σ 2 v)) (by omega) (by omega)
    refine ⟨σ', ?_, fun a j => g1 a j, fun a ha => by rw [g2 a ha, gMs_n ha], fun i => ?_⟩
    · rw [qM_does_36, if_neg (show ¬ (1219 : Int32) ≤ nI v from nle (a := 1219) (by omega) (by omega)), gob_n (by omega) (by omega), nI_clamp (by omega), nI1]
      exact e
    · rw [g3, gMs_s, gMs_n (show 2 ≠ 1 by decide)]
      by_cases h1 : i = v
      · subst h1
        rw [if_neg (by omega), if_pos (by omega), upd_s]
      · rw [upd_n h1]
        by_cases h2 : v + 1 ≤ i ∧ i < 1219
        · rw [if_pos h2, if_pos (by omega)]
        · rw [if_neg h2, if_neg (by omega)]
/-- the readers leave the relation's parts -/
theorem Rel.text {n : Nat} {σ τ σ' τ' : gS} {nb ni bu pl sv : Nat} {sz : Nat → Nat} {N I U : Nat → Nat} {S : Nat → Nat → Nat} (H : Rc1 σ (gM τ 1) nb ni bu sz) (G : gRg σ τ ni pl sv N I U S) (T : gTl n σ τ) (X : gTx σ τ) (a : fX σ σ') (b : fM τ τ') : Rc1 σ' (gM τ' 1) nb ni bu sz ∧ gRg σ' τ' ni pl sv N I U S ∧ gTl n σ' τ' ∧ gTx σ' τ' := by
  have hni := Rc_ni H
  have e1 : ∀ k j, k ≠ 42 → gI σ' k j = gI σ k j := fun k j h => a.1 k j (Or.inl h)
  have e2 : ∀ k i, k < 44 ∨ 45 < k → gM σ' k i = gM σ k i := fun k i h => by rw [a.2 k (by omega) (by omega)]
  have e3 : ∀ k i, k < 10 → gM τ' k i = gM τ k i := fun k i h => by rw [b.2 k (by omega) (by omega)]
  obtain ⟨g1, g2, g3, g4, g5, g6⟩ := G
  refine ⟨?_, ⟨g1, g2, (e1 46 1 (by decide)).trans g3, (e1 46 2 (by decide)).trans g4, (b.1 0 3 (by omega)).trans g5, fun j hj => ?_⟩, T.cg (fun j => e1 96 j (by decide)) (a.2 97 (by decide) (by decide)) (b.2 4 (by decide) (by decide)) (b.2 5 (by decide) (by decide)), X.cg (a.1 42 3 (by omega)) (fun i => e2 43 i (by omega)) (b.1 0 7 (by omega)) (fun i => e3 6 i (by omega))⟩
  · exact Rc_at H (e1 _ _ (by omega)) (e1 _ _ (by omega)) (e1 _ _ (by omega)) (fun i _ => ⟨e2 _ _ (by omega), e2 _ _ (by omega), e2 _ _ (by omega)⟩) (fun i _ => ⟨e2 _ _ (by omega), e2 _ _ (by omega), e2 _ _ (by omega)⟩) (fun i _ => e2 _ _ (by omega)) (fun n hn => ⟨e1 _ _ (by omega), fun i => e2 _ _ (by omega), fun i => e2 _ _ (by omega)⟩) (fun i _ => e3 1 i (by omega))
  · obtain ⟨b1, b2, b3⟩ := g6 j hj
    refine ⟨Rc_at b1 (e1 _ _ (by omega)) (e1 _ _ (by omega)) (e1 _ _ (by omega)) (fun i _ => ⟨e2 _ _ (by omega), e2 _ _ (by omega), e2 _ _ (by omega)⟩) (fun i _ => ⟨e2 _ _ (by omega), e2 _ _ (by omega), e2 _ _ (by omega)⟩) (fun i _ => e2 _ _ (by omega)) (fun n hn => ⟨e1 _ _ (by omega), fun i => e2 _ _ (by omega), fun i => e2 _ _ (by omega)⟩) (fun i _ => e3 3 _ (by omega)), b2, b3⟩
theorem gTx.ch {σ τ : gS} (h : gTx σ τ) : ∃ t ch, gTxc σ τ t ch := by
  obtain ⟨t, h1, h2, h3, h4⟩ := h
  refine ⟨t, fun i => (gM σ 43 i).toNatClampNeg, h1, h2, h3, fun i hi => ?_⟩
  obtain ⟨b, b1, b2, b3⟩ := h4 i hi
  show (gM σ 43 i).toNatClampNeg < 128 ∧ gM σ 43 i = nI (gM σ 43 i).toNatClampNeg ∧ gM τ 6 i = nI (gM σ 43 i).toNatClampNeg
  rw [b2, nI_clamp (by omega)]
  exact ⟨b1, rfl, b3⟩
theorem sim_does {n : Nat} {σ τ : gS} (h : Rel n σ τ) : ∃ r σ' τ', qF_does σ = some (r, σ') ∧ qM_does τ = some (r, τ') ∧ Rel (n + 1) σ' τ' := by
  obtain ⟨nb, ni, bu, sz, pl, sv, N, I, U, S, H0, G0, T0, X0⟩ := h
  obtain ⟨t, ch, X⟩ := X0.ch
  unfold qF_does qM_does
  rcases parse_c X with ⟨q, σ1, τ1, p1, p2, p3, p4, p5, p6⟩ | ⟨σ1, τ1, O, p1, p2, p5, p6, o1, o2, o3, o4, o5⟩
  · obtain ⟨H, G, T, TX⟩ := Rel.text H0 G0 T0 X0 p5 p6
    rw [p2, p3, b_s, b_s, if_neg (nlt0 (by omega)), if_pos z00, p4]
    exact ⟨_, _, _, rfl, rfl, nb, ni, bu, sz, pl, sv, N, I, U, S, H, G, T.mono (by omega), TX⟩
  obtain ⟨H, G, T, TX⟩ := Rel.text H0 G0 T0 X0 p5 p6
  rw [p1, p2, b_s, b_s, if_pos (show (-1 : Int32) < 0 by decide), if_neg n10]
  have hI : ∀ j, j < sv → I j ≤ ni := fun j hj => (G.2.2.2.2.2 j hj).2.1
  have hni := Rc_ni H
  obtain ⟨σ2, s1, H1, G1, W1, s2, s3⟩ := stage_c H G
  obtain ⟨τ2, c1, c2, c3, c4⟩ := copies_c τ1
  have H2 : Rc1 σ2 (gM τ2 1) nb ni bu sz := by rw [c3 1 (by decide)]; exact H1
  have hbu : bu ≤ 60 := H.2.2.2.1.2.2.2.1
  have h169 : gM τ2 1 169 = nI bu := H2.2.2.2.1.2.2.2.2.2.2.1
  have hord : gOrd σ2 τ2 O := o5.cg (fun i _ => ⟨by rw [s3 44 (by omega)], by rw [c3 10 (by decide)]⟩) (fun i _ => ⟨by rw [s3 45 (by omega)], by rw [c3 11 (by decide)]⟩)
  obtain ⟨r, σ3, τ3, nb3, ni3, bu3, sz3, r1, r2, H3, hj3, F3, M3⟩ := run_c (ni := ni) o2 hbu (by rw [s2 42 4 (by omega)]; exact o3) (by rw [c2]; exact o4) hord bu 0 0 8192 8192 σ2 τ2 nb ni bu sz (by omega) (by omega) (by omega) (by omega) H2 (Nat.le_refl _) FX.rf FN.rf h169
  have er : qP_run σ2 (gI σ2 1 9) = some (r, σ3) := by
    rw [H2.2.2.1]; exact r1
  have eg : qM_goes τ2 = some (r, τ3) := r2
  rw [s1, b_s, er, b_s, c1, b_s, eg, b_s]
  have G2 : gRg σ2 τ2 ni pl sv N I U S := G1.fx FX.rf (Nat.le_refl _) (c2 0 3) (c3 3 (by decide))
  have m3 : gM τ3 3 = gM τ2 3 := funext fun i => M3.2 3 i (by decide) (by decide) (by decide) (by decide)
  have T3 : gTl n σ3 τ3 := T.cg (fun j => by rw [F3.1 96 j (by decide), s2 96 j (by omega)]) (by
      funext i; rw [F3.2.1 97 i (by decide), s3 97 (by omega)]) (by
      funext i; rw [M3.2 4 i (by decide) (by decide) (by decide) (by decide), c3 4 (by decide)]) (by
      funext i; rw [M3.2 5 i (by decide) (by decide) (by decide) (by decide), c3 5 (by decide)])
  have X3 : gTx σ3 τ3 := TX.cg (by rw [F3.1 42 3 (by decide), s2 42 3 (by omega)]) (fun i => by rw [F3.2.1 43 i (by decide), s3 43 (by omega)]) (by rw [M3.1 7 (by decide) (by decide), c2]) (fun i => by rw [M3.2 6 i (by decide) (by decide) (by decide) (by decide), c3 6 (by decide)])
  by_cases hneg : r < 0
  · rw [if_pos hneg, if_pos hneg]
    have G3 : gRg σ3 τ3 ni pl sv N I U S := G2.fx F3 (Nat.le_refl _) (M3.1 3 (by decide) (by decide)) m3
    have W3 : Rc σ3 (48 + 8 * pl) (gM τ1 1) nb ni bu sz := Rc_fx W1 (by omega) F3 (Nat.le_refl _) (fun _ _ => rfl)
    obtain ⟨g1, g2, g3, g4, g5, g6⟩ := id G3
    obtain ⟨σ4, e, a1, a2, a3, a4, a5, a6, a7, a8⟩ := become_c (σ := σ3) (k := 1) (k2 := 48 + 8 * pl) (by omega)
    obtain ⟨τ4, y1, y2, y3, y4⟩ := undo_l r (fun σ8 => some (r, σ8)) 1219 0 8192 τ3 (by omega) (by omega)
    rw [show nI 0 = (0 : Int32) from rfl] at y1
    have eu : qH_undo σ3 = some σ4 := by
      unfold qH_undo
      rw [wait_c g1 g3, b_s, g_stn (by omega), e, b_s]
    rw [eu, b_s, y1]
    have gi : ∀ a j, a ≠ 1 → gI σ4 a j = gI σ3 a j := a1
    have gm : ∀ a, (a < 2 ∨ 9 ≤ a) → gM σ4 a = gM σ3 a := fun a h => a5 a (by omega)
    have im : ∀ n, n < 9 → gI σ4 (11 + 3 * n) 2 = gI σ3 (11 + 3 * n) 2 ∧ (∀ i, gM σ4 (11 + 3 * n + 1) i = gM σ3 (11 + 3 * n + 1) i) ∧ ∀ i, gM σ4 (11 + 3 * n + 2) i = gM σ3 (11 + 3 * n + 2) i := fun n hn => ⟨gi _ _ (by omega), fun i => by rw [gm _ (by omega)], fun i => by rw [gm _ (by omega)]⟩
    refine ⟨_, _, _, rfl, rfl, nb, ni, bu, sz, pl, sv, N, I, U, S, ?_, ⟨g1, g2, (gi 46 1 (by decide)).trans g3, (gi 46 2 (by decide)).trans g4, (y2 0 3).trans g5, fun j hj => ?_⟩, (T3.mono (by omega)).cg (fun j => gi 96 j (by decide)) (gm 97 (by decide)) (y3 4 (by decide)) (y3 5 (by decide)), X3.cg (gi 42 3 (by decide)) (fun i => by rw [gm 43 (by decide)]) (y2 0 7) (fun i => by rw [y3 6 (by decide)])⟩
    · exact Rc_at W3 a2 a3 a4 a6 a7 a8 (fun n hn => im n (by omega)) (fun i hi => by rw [y4, if_pos (by omega), M3.2 2 i (by decide) (by decide) (by decide) (by decide), c4 i hi])
    · obtain ⟨d1, d2, d3⟩ := g6 j hj
      have hnd := d1.2.2.2.1.2.1
      exact ⟨Rc_at d1 (gi _ _ (by omega)) (gi _ _ (by omega)) (gi _ _ (by omega)) (fun i _ => ⟨by rw [gm _ (by omega)], by rw [gm _ (by omega)], by rw [gm _ (by omega)]⟩) (fun i _ => ⟨by rw [gm _ (by omega)], by rw [gm _ (by omega)], by rw [gm _ (by omega)]⟩) (fun i _ => by rw [gm _ (by omega)]) (fun n hn => im n (by omega)) (fun i _ => by rw [y3 3 (by decide)]), d2, d3⟩
  · rw [if_neg hneg, if_neg hneg]
    have G3 : gRg σ3 τ3 ni3 pl sv N I U S := G2.fx F3 hj3 (M3.1 3 (by decide) (by decide)) m3
    have W3 : Rc σ3 (48 + 8 * pl) (gM τ1 1) nb ni bu sz := Rc_fx W1 (by omega) F3 (Nat.le_refl _) (fun _ _ => rfl)
    obtain ⟨σ4, τ4, k1, k2, k3, k4, k5, k6, pl', sv', N', I', U', S', G4⟩ := kept_c G3 W3 (fun i hi => by rw [M3.2 2 i (by decide) (by decide) (by decide) (by decide), c4 i hi]) hj3 hI
    rw [k1, b_s, k2, b_s]
    have hni3 := Rc_ni H3
    refine ⟨_, _, _, rfl, rfl, nb3, ni3, bu3, sz3, pl', sv', N', I', U', S', ?_, G4, (T3.mono (by omega)).cg (fun j => k3 96 j (by decide)) (k4 97) (k6 4 (by decide)) (k6 5 (by decide)), X3.cg (k3 42 3 (by decide)) (fun i => by rw [k4 43]) (k5 0 7 (by omega)) (fun i => by rw [k6 6 (by decide)])⟩
    rw [k6 1 (by decide)]
    exact Rc_at H3 (k3 _ _ (by omega)) (k3 _ _ (by omega)) (k3 _ _ (by omega)) (fun i _ => ⟨by rw [k4], by rw [k4], by rw [k4]⟩) (fun i _ => ⟨by rw [k4], by rw [k4], by rw [k4]⟩) (fun i _ => by rw [k4]) (fun n hn => ⟨k3 _ _ (by omega), fun i => by rw [k4], fun i => by rw [k4]⟩) (fun _ _ => rfl)
