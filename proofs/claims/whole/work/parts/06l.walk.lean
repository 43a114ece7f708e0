theorem targets_c {σ0 τ0 : gS} {nb ni bu : Nat} {sz : Nat → Nat} (H : Rc1 σ0 (gM τ0 1) nb ni bu sz) {v b : Nat} (hv : v < 10) (hb : b < nb) (k k2 : gS → Option gS) : ∀ (d j n : Nat) (σ τ : gS) (c : Nat) (l : Nat → Nat), gRR σ τ nb c l → gFr σ0 σ → gFm τ0 τ → v < c → l v = b → j + d = sz b → d < n →
    ∃ σ' τ' c' l', qA_addTargets_2 (nI b) k n σ (nI j) = k σ' ∧ qM_reaches_24 (nI v) k2 n τ (nI j) = k2 τ' ∧ gRR σ' τ' nb c' l' ∧ gFr σ0 σ' ∧ gFm τ0 τ' ∧ c ≤ c' ∧ ∀ i, i < c → l' i = l i := by
  have hnb := Rc_nb H
  have hszs : ∀ b, b < nb → sz b ≤ 12 := fun b hb => (Rc_blk H hb).2.1
  have hs := hszs b hb
  have hbk := g_bok H hb
  have B := gBk.st H hb
  intro d
  induction d with
  | zero =>
    intro j n σ τ c l R F1 F2 hc hl h hn
    obtain ⟨m, rfl⟩ : ∃ m, n = m + 1 := ⟨n - 1, by omega⟩
    refine ⟨σ, τ, c, l, ?_, ?_, R, F1, F2, Nat.le_refl _, fun _ _ => rfl⟩
    · rw [qA_addTargets_2, x_size (by omega), b_s, F1.2 5 (by decide) (by decide), (Rc_blk H hb).2.2.1, if_pos ((nI_leI (by omega) (by omega)).mpr (by omega))]
    · rw [qM_reaches_24, gob_n hv (by omega), nI_clamp (by omega), (R.2.2.2.1 v hc).2.2.1, hl, m_size (by omega), b_s, F2.2 1 (by decide), show gM τ0 1 (1 + 15 * b) = nI (sz b) from (Rc_blk H hb).2.2.2.1, if_pos ((nI_leI (by omega) (by omega)).mpr (by omega))]
  | succ d ih =>
    intro j n σ τ c l R F1 F2 hc hl h hn
    obtain ⟨m, rfl⟩ : ∃ m, n = m + 1 := ⟨n - 1, by omega⟩
    have hj : j < sz b := by omega
    have hcell : qS_cellAt σ (nI b) (nI j) = some (gM τ0 1 (1 + 15 * b + 3 + j)) := by
      rw [x_cell (by omega) (by omega), F1.2 8 (by decide) (by decide), B.2.2.1 j (by omega), if_pos hj]
    have hbyte := (hbk j hj).1
    rw [qA_addTargets_2, x_size (by omega), b_s, F1.2 5 (by decide) (by decide), (Rc_blk H hb).2.2.1, if_neg (nle (by omega) (by omega)), hcell, b_s, q_ptr]
    rw [qM_reaches_24, gob_n hv (by omega), nI_clamp (by omega), (R.2.2.2.1 v hc).2.2.1, hl, m_size (by omega), b_s, F2.2 1 (by decide), show gM τ0 1 (1 + 15 * b) = nI (sz b) from (Rc_blk H hb).2.2.2.1, if_neg (nle (by omega) (by omega)), m_bp, gob_n (by omega) (by omega), nI_clamp (by omega), nI1]
    rcases byte_c hnb hszs hbyte with ⟨e, d1, -⟩ | ⟨u, hu, e, d1, -⟩ | ⟨e, d1, -⟩ | ⟨b', q', hb', hq', e, d1, -, -, d4, d5⟩
    · rw [if_pos d1, if_pos d1, if_pos z00]
      exact ih (j + 1) m σ τ c l R F1 F2 hc hl (by omega) (by omega)
    · rw [if_pos d1, if_pos d1, if_pos z00]
      exact ih (j + 1) m σ τ c l R F1 F2 hc hl (by omega) (by omega)
    · rw [if_pos d1, if_pos d1, if_pos z00]
      exact ih (j + 1) m σ τ c l R F1 F2 hc hl (by omega) (by omega)
    · have d4 : qF_blockOfCode (gM τ0 1 (1 + 15 * b + 3 + j)) = nI b' := d4
      have d6 : (gM τ0 1 (1 + 15 * b + 3 + j) - (1000 : Int32)) / (100 : Int32) = nI b' := d4
      rw [if_neg d1, if_neg d1, if_neg n10, d4, d6, if_neg (ne_neg1 (by omega))]
      rcases added_c R hnb hb' with ⟨i, i1, i2, i3, i4⟩ | ⟨σ', s1, s2, s3, s4, s5⟩
      · rw [i3, b_s, i4, b_s, if_neg (ne_neg1 (by have := R.1; omega))]
        exact ih (j + 1) m σ τ c l R F1 F2 hc hl (by omega) (by omega)
      · rw [s2, b_s, s3, b_s, if_pos rfl, R.2.2.1, gob_n s1 (by omega), nI_clamp (by omega), show gI (sM τ 8 c (nI b')) 0 10 = nI c from R.2.2.1, nI1]
        have hl' : ∀ i, i < c → updN l c b' i = l i := fun i hi => by simp [updN, show i ≠ c by omega]
        obtain ⟨σ2, τ2, c2, l2, t1, t2, t3, t4, t5, t6, t7⟩ := ih (j + 1) m σ' (sI (sM τ 8 c (nI b')) 0 10 (nI (c + 1))) (c + 1) (updN l c b') s4 (F1.tr s5) (F2.tr ⟨fun j hj => by rw [gI_sI, if_neg (by omega)]; rfl, fun a ha => by rw [gMI, gMs_n ha]⟩) (by omega) (by rw [hl' v hc]; exact hl) (by omega) (by omega)
        exact ⟨σ2, τ2, c2, l2, t1, t2, t3, t4, t5, by omega, fun i hi => (t7 i (by omega)).trans (hl' i hi)⟩
theorem walk_c {σ0 τ0 : gS} {nb ni bu : Nat} {sz : Nat → Nat} (H : Rc1 σ0 (gM τ0 1) nb ni bu sz) (k : gS → Option (Int32 × gS)) (k2 : gS → Option gS) : ∀ (d v n : Nat) (σ τ : gS) (c : Nat) (l : Nat → Nat), gRR σ τ nb c l → gFr σ0 σ → gFm τ0 τ → v ≤ c → v + d = 10 → d < n →
    ∃ σ' τ' c' l', qA_reach_33 k n σ (nI v) = k σ' ∧ qM_reaches_14 k2 n τ (nI v) = k2 τ' ∧ gRR σ' τ' nb c' l' ∧ gFr σ0 σ' ∧ gFm τ0 τ' ∧ c ≤ c' ∧ ∀ i, i < c → l' i = l i := by
  have hnb := Rc_nb H
  intro d
  induction d with
  | zero =>
    intro v n σ τ c l R F1 F2 hv h hn
    obtain ⟨m, rfl⟩ : ∃ m, n = m + 1 := ⟨n - 1, by omega⟩
    have := R.1
    refine ⟨σ, τ, c, l, ?_, ?_, R, F1, F2, Nat.le_refl _, fun _ _ => rfl⟩
    · rw [qA_reach_33, R.2.1, if_pos ((nI_leI (by omega) (by omega)).mpr (by omega))]
    · rw [qM_reaches_14, R.2.2.1, if_pos ((nI_leI (by omega) (by omega)).mpr (by omega))]
  | succ d ih =>
    intro v n σ τ c l R F1 F2 hv h hn
    obtain ⟨m, rfl⟩ : ∃ m, n = m + 1 := ⟨n - 1, by omega⟩
    have hc := R.1
    by_cases e : v = c
    · refine ⟨σ, τ, c, l, ?_, ?_, R, F1, F2, Nat.le_refl _, fun _ _ => rfl⟩
      · rw [qA_reach_33, R.2.1, if_pos ((nI_leI (by omega) (by omega)).mpr (by omega))]
      · rw [qM_reaches_14, R.2.2.1, if_pos ((nI_leI (by omega) (by omega)).mpr (by omega))]
    · obtain ⟨r1, r2, r3, r4⟩ := R.2.2.2.1 v (by omega)
      have hs := (Rc_blk H r1).2.1
      obtain ⟨σ1, τ1, c1, l1, t1, t2, t3, t4, t5, t6, t7⟩ := targets_c H (v := v) (b := l v) (by omega) r1 (fun σ6 => some σ6) (fun σ12 => qM_reaches_14 k2 m σ12 (nI v + 1)) (sz (l v)) 0 8192 σ τ c l R F1 F2 (by omega) rfl (by omega) (by omega)
      rw [show nI 0 = (0 : Int32) from rfl] at t1 t2
      obtain ⟨σ2, τ2, c2, l2, u1, u2, u3, u4, u5, u6, u7⟩ := ih (v + 1) m σ1 τ1 c1 l1 t3 t4 t5 (by omega) (by omega) (by omega)
      refine ⟨σ2, τ2, c2, l2, ?_, ?_, u3, u4, u5, by omega, fun i hi => (u7 i (by omega)).trans (t7 i hi)⟩
      · rw [qA_reach_33, R.2.1, if_neg (nle (by omega) (by omega)), if_neg (nl10 (by omega)), gob_n (by omega) (by omega), nI_clamp (by omega), r2]
        unfold qA_addTargets
        rw [t1, b_s, nI1]
        exact u1
      · rw [qM_reaches_14, R.2.2.1, if_neg (nle (by omega) (by omega)), t2, nI1]
        exact u2
theorem wipe_c {f2 : Int32} (k : gS → Option (Int32 × gS)) : ∀ (d v n : Nat) (σ : gS), v + d = 10 → d < n → ∃ σ', qA_reach_2 f2 k n σ (nI v) = k σ' ∧ (∀ a j, gI σ' a j = gI σ a j) ∧ (∀ a, a ≠ 39 → gM σ' a = gM σ a) ∧ ∀ i, gM σ' 39 i = if v ≤ i ∧ i < 10 then -1 else gM σ 39 i := by
  intro d
  induction d with
  | zero =>
    intro v n σ h hn
    obtain ⟨m, rfl⟩ : ∃ m, n = m + 1 := ⟨n - 1, by omega⟩
    refine ⟨σ, ?_, fun _ _ => rfl, fun _ _ => rfl, fun i => by rw [if_neg (by omega)]⟩
    rw [qA_reach_2, if_pos (show (10 : Int32) ≤ nI v from (nI_leI (a := 10) (by omega) (by omega)).mpr (by omega))]
  | succ d ih =>
    intro v n σ h hn
    obtain ⟨m, rfl⟩ : ∃ m, n = m + 1 := ⟨n - 1, by omega⟩
    obtain ⟨σ', e, g1, g2, g3⟩ := ih (v + 1) m (sM σ 39 v (-1)) (by omega) (by omega)
    refine ⟨σ', ?_, fun a j => g1 a j, fun a ha => by rw [g2 a ha, gMs_n ha], fun i => ?_⟩
    · rw [qA_reach_2, if_neg (nl10 (by omega)), gob_n (by omega) (by omega), nI_clamp (by omega), nI1]
      exact e
    · rw [g3, gMs_s]
      by_cases h1 : i = v
      · subst h1
        rw [if_neg (by omega), if_pos (by omega), upd_s]
      · rw [upd_n h1]
        by_cases h2 : v + 1 ≤ i ∧ i < 10
        · rw [if_pos h2, if_pos (by omega)]
        · rw [if_neg h2, if_neg (by omega)]
theorem reach_c {σ τ : gS} {nb ni bu : Nat} {sz : Nat → Nat} (H : Rc1 σ (gM τ 1) nb ni bu sz) {b : Nat} (hb : b < nb) :
    ∃ σ' τ' c l, qA_reach σ (nI b) = some (nI c, σ') ∧ qM_reaches τ (nI b) = some τ' ∧ gRR σ' τ' nb c l ∧ gFr σ σ' ∧ gFm τ τ' ∧ 1 ≤ c := by
  have hnb := Rc_nb H
  unfold qA_reach qM_reaches
  obtain ⟨σ1, w1, w2, w3, w4⟩ := wipe_c (f2 := nI b) (fun σ3 => (qA_addReached (sI σ3 9 3 (0 : Int32)) (nI b)).bind (fun r4 => qA_reach_33 (fun σ9 => some ((gI σ9 9 3), σ9)) 8192 r4 (0 : Int32))) 10 0 8192 σ (by omega) (by omega)
  rw [show nI 0 = (0 : Int32) from rfl] at w1
  rw [w1]
  have c39 : gM (sI σ1 9 3 0) 39 b = -1 := by rw [gMI, w4, if_pos (by omega)]
  have add : qA_addReached (sI σ1 9 3 0) (nI b) = some (sI (sM (sM (sI σ1 9 3 0) 39 b 0) 38 0 (nI b)) 9 3 1) := by
    unfold qA_addReached
    have e0 : gI (sI σ1 9 3 0) 9 3 = nI 0 := by rw [gI_sI, if_pos (by omega)]; rfl
    rw [if_neg (nlt0 (by omega)), if_neg (nl10 (by omega)), gob_n (by omega) (by omega), nI_clamp (by omega), if_pos c39, e0, if_neg (nlt0 (by omega)), if_neg (nl10 (by omega)), show gI (sM (sI σ1 9 3 0) 39 b (nI 0)) 9 3 = nI 0 from e0, gob_n (by omega) (by omega), nI_clamp (by omega), show gI (sM (sM (sI σ1 9 3 0) 39 b (nI 0)) 38 0 (nI b)) 9 3 = nI 0 from e0]
    rfl
  rw [add, b_s]
  have R : gRR (sI (sM (sM (sI σ1 9 3 0) 39 b 0) 38 0 (nI b)) 9 3 1) (sI (sM τ 8 0 (nI b)) 0 10 1) nb 1 (fun _ => b) := by
    refine ⟨by decide, ?_, ?_, fun i hi => ⟨hb, ?_, ?_, ?_⟩, fun x hx h => ?_⟩
    · rw [gI_sI, if_pos (by omega)]; rfl
    · rw [gI_sI, if_pos (by omega)]; rfl
    · rw [gMI, gMs_s, show i = 0 by omega, upd_s]
    · rw [gMI, gMs_s, show i = 0 by omega, upd_s]
    · rw [gMI, gMs_n (by decide), gMs_s, show i = 0 by omega, upd_s]; rfl
    · have : b ≠ x := h 0 (by decide)
      rw [gMI, gMs_n (by decide), gMs_s, upd_n (by omega), gMI, w4, if_pos (by omega)]
  have F1 : gFr σ (sI (sM (sM (sI σ1 9 3 0) 39 b 0) 38 0 (nI b)) 9 3 1) := by
    refine ⟨fun a j h => ?_, fun a h1 h2 => ?_⟩
    · rw [gI_sI, if_neg (by omega)]
      show gI (sI σ1 9 3 0) a j = _
      rw [gI_sI, if_neg (by omega)]
      exact w2 a j
    · rw [gMI, gMs_n h1, gMs_n h2, gMI]
      exact w3 a h2
  have F2 : gFm τ (sI (sM τ 8 0 (nI b)) 0 10 1) := ⟨fun j h => by rw [gI_sI, if_neg (by omega)]; rfl, fun a h => by rw [gMI, gMs_n h]⟩
  obtain ⟨σ2, τ2, c, l, u1, u2, u3, u4, u5, u6, u7⟩ := walk_c H (fun σ9 => some ((gI σ9 9 3), σ9)) (fun σ13 => some σ13) 10 0 8192 _ _ 1 _ R F1 F2 (by omega) (by omega) (by omega)
  rw [show nI 0 = (0 : Int32) from rfl] at u1 u2
  rw [u1, u2]
  exact ⟨σ2, τ2, c, l, congrArg (fun x => some (x, σ2)) u3.2.1, rfl, u3, u4, u5, u6⟩
