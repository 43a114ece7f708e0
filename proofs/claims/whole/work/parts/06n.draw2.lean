/-- an image of v nodes, drawn in the album's cell and laid in the row -/
def gPI (σ τ : gS) (k v : Nat) : Prop := gI σ k 2 = nI v ∧ ∀ n, n < 10 →
  (n < v → ∃ s, 1 ≤ s ∧ s ≤ 12 ∧ gM σ (k + 1) n = nI s ∧ gM τ 9 (1 + n) = nI s ∧ ∀ j, j < 12 → (j < s → gM σ (k + 2) (n * 12 + j) = gM τ 9 (11 + 12 * n + j)) ∧ (s ≤ j → gM σ (k + 2) (n * 12 + j) = -1 ∧ gM τ 9 (11 + 12 * n + j) = 0)) ∧
  (v ≤ n → gM τ 9 (1 + n) = 0 ∧ ∀ j, j < 12 → gM τ 9 (11 + 12 * n + j) = 0)
/-- what the drawing leaves alone -/
def gDr (ni : Nat) (σ σ' : gS) : Prop := (∀ a i, a ≠ 11 + 3 * ni → gI σ' a i = gI σ a i) ∧ ∀ a, a ≠ 11 + 3 * ni + 1 → a ≠ 11 + 3 * ni + 2 → gM σ' a = gM σ a
def gDm (τ τ' : gS) : Prop := (∀ i, gI τ' 0 i = gI τ 0 i) ∧ ∀ a, a ≠ 9 → gM τ' a = gM τ a
theorem gDr.tr {ni : Nat} {σ σ1 σ2 : gS} (h1 : gDr ni σ σ1) (h2 : gDr ni σ1 σ2) : gDr ni σ σ2 := ⟨fun a j h => (h2.1 a j h).trans (h1.1 a j h), fun a h h' => (h2.2 a h h').trans (h1.2 a h h')⟩
theorem gDm.tr {σ σ1 σ2 : gS} (h1 : gDm σ σ1) (h2 : gDm σ1 σ2) : gDm σ σ2 := ⟨fun j => (h2.1 j).trans (h1.1 j), fun a h => (h2.2 a h).trans (h1.2 a h)⟩
theorem gRR.dr {ni nb c : Nat} {l : Nat → Nat} {σ τ σ' τ' : gS} (R : gRR σ τ nb c l) (hni : ni ≤ 8) (h1 : gDr ni σ σ') (h2 : gDm τ τ') : gRR σ' τ' nb c l := by
  unfold gRR
  rw [h1.1 9 3 (by omega), h2.1 10, h1.2 38 (by omega) (by omega), h1.2 39 (by omega) (by omega), h2.2 8 (by decide)]
  exact R
theorem Rc_dr {σ τ σ' τ' : gS} {nb ni bu : Nat} {sz : Nat → Nat} (H : Rc1 σ (gM τ 1) nb ni bu sz) (F1 : gDr ni σ σ') (F2 : gDm τ τ') : Rc1 σ' (gM τ' 1) nb ni bu sz ∧ FX ni σ σ' ∧ FM τ τ' ∧ gM τ' 1 169 = gM τ 1 169 := by
  have hni := Rc_ni H
  have hx : FX ni σ σ' := ⟨fun k j hk => F1.1 k j (by omega), fun k i hk => by rw [F1.2 k (by omega) (by omega)], fun n hn => ⟨F1.1 _ _ (by omega), fun i => by rw [F1.2 _ (by omega) (by omega)], fun i => by rw [F1.2 _ (by omega) (by omega)]⟩⟩
  obtain ⟨h1, h2, h3, h4, h5⟩ := H
  refine ⟨⟨(F1.1 1 7 (by omega)).trans h1, (F1.1 1 8 (by omega)).trans h2, (F1.1 1 9 (by omega)).trans h3, ?_, Rims_fx h5 hni hx (fun i _ _ => by rw [F2.2 1 (by decide)])⟩, hx, ⟨fun j _ => F2.1 j, fun k i h1 h2 h3 h4 => by rw [F2.2 k h4]⟩, by rw [F2.2 1 (by decide)]⟩
  show Rs nb ni bu sz (gM σ' 2) (gM σ' 3) (gM σ' 4) (gM σ' 5) (gM σ' 6) (gM σ' 7) (gM σ' 8) (gM τ' 1)
  rw [F1.2 2 (by omega) (by omega), F1.2 3 (by omega) (by omega), F1.2 4 (by omega) (by omega), F1.2 5 (by omega) (by omega), F1.2 6 (by omega) (by omega), F1.2 7 (by omega) (by omega), F1.2 8 (by omega) (by omega), F2.2 1 (by decide)]
  exact h4
theorem draw_out {nb ni bu c : Nat} {sz l : Nat → Nat} (k k2 : gS → Option gS) : ∀ (d v n : Nat) (σ τ : gS), Rc1 σ (gM τ 1) nb ni bu sz → gRR σ τ nb c l → gPI σ τ (11 + 3 * ni) v → v + d = c → d < n →
    ∃ σ' τ', qA_draw_15 (11 + 3 * ni) k n σ (nI v) = k σ' ∧ qM_laysImage_34 k2 n τ (nI v) = k2 τ' ∧ gPI σ' τ' (11 + 3 * ni) c ∧ gDr ni σ σ' ∧ gDm τ τ' ∧ gM τ' 9 0 = gM τ 9 0 := by
  intro d
  induction d with
  | zero =>
    intro v n σ τ H R P h hn
    obtain ⟨m, rfl⟩ : ∃ m, n = m + 1 := ⟨n - 1, by omega⟩
    have hc := R.1
    have hle : nI c ≤ nI v := (nI_leI (by omega) (by omega)).mpr (by omega)
    have e : v = c := by omega
    subst e
    refine ⟨σ, τ, ?_, ?_, P, ⟨fun _ _ _ => rfl, fun _ _ _ => rfl⟩, ⟨fun _ => rfl, fun _ _ => rfl⟩, rfl⟩
    · rw [qA_draw_15, R.2.1, if_pos hle]
    · rw [qM_laysImage_34, R.2.2.1, if_pos hle]
  | succ d ih =>
    intro v n σ τ H R P h hn
    obtain ⟨m, rfl⟩ : ∃ m, n = m + 1 := ⟨n - 1, by omega⟩
    have hc := R.1
    have hnb := Rc_nb H
    have hni := Rc_ni H
    have hszs : ∀ b, b < nb → sz b ≤ 12 := fun b hb => (Rc_blk H hb).2.1
    have hle : ¬ nI c ≤ nI v := nle (by omega) (by omega)
    obtain ⟨r1, r2, r3, r4⟩ := R.2.2.2.1 v (by omega)
    have hbk := g_bok H r1
    obtain ⟨s1, s2, z1, z2, -, -, z7, -⟩ := Rc_blk H r1
    have z2 : gM τ 1 (1 + 15 * l v) = nI (sz (l v)) := z2
    have cell : ∀ j, j < 12 → gM σ 8 (l v * 12 + j) = if j < sz (l v) then gM τ 1 (1 + 15 * l v + 3 + j) else -1 := by
      intro j hj
      have := z7 j hj
      rw [show 1 + 15 * l v + 3 + j = 1 + 15 * l v + (3 + j) by omega]
      exact this
    have hcx : ∀ σ1 : gS, gM σ1 39 = gM σ 39 → ∀ j, j < 12 → qA_codeInImage σ1 (gM σ 8 (l v * 12 + j)) = some (gCd (gM σ 39) (gM σ 8 (l v * 12 + j))) := by
      intro σ1 e j hj
      rw [← e]
      refine cd_x hnb hszs ?_
      rw [cell j hj]
      by_cases q : j < sz (l v)
      · rw [if_pos q]; exact (hbk j q).1
      · rw [if_neg q]; exact Or.inl rfl
    -- the class's node
    have P0 := P.1
    obtain ⟨σ1, x1, x2, x3, x4⟩ := draw_in (ni := ni) (v := v) (b := l v) hni (by omega) (by omega) (gM σ 8) (gM σ 39) hcx (fun σ12 => qA_draw_15 (11 + 3 * ni) k m σ12 (nI (v + 1))) 12 0 8192 (sI (sM σ (11 + 3 * ni + 1) v (nI (sz (l v)))) (11 + 3 * ni) 2 (nI (v + 1))) (by rw [gMI, gMs_n (by omega)]) (by rw [gMI, gMs_n (by omega)]) (by omega) (by omega)
    rw [show nI 0 = (0 : Int32) from rfl] at x1
    have D1 : gDr ni σ σ1 := by
      refine ⟨fun a i ha => ?_, fun a h1 h2 => ?_⟩
      · rw [x2, gI_sI, if_neg (by omega)]; rfl
      · rw [x3 a h2, gMI, gMs_n h1]
    -- the reference's node
    obtain ⟨τ1, y1, y2, y3, y4⟩ := lay_in (v := v) (b := l v) (s := sz (l v)) (by omega) (by omega) s2 (gM τ 1) (fun j => gCd (gM σ 39) (gM τ 1 (1 + 15 * l v + 3 + j))) (gM τ 8) (nI c) r3
      (fun τ2 h8 h10 j hj => ⟨fun hp => by
          show gCd (gM σ 39) (gM τ 1 (1 + 15 * l v + 3 + j)) = _
          unfold gCd
          rw [if_pos hp], fun hp => by
          have R2 : gRR σ τ2 nb c l := by
            unfold gRR
            rw [h8, h10]
            exact ⟨R.1, R.2.1, rfl, R.2.2.2.1, R.2.2.2.2⟩
          exact cd_m R2 hnb hszs (hbk j hj).1 hp⟩) (fun σ16 => qM_laysImage_34 k2 m σ16 (nI v + 1)) (sz (l v)) 0 8192 (sM τ 9 (1 + v) (nI (sz (l v)))) (gMs_n (by decide)) (gMs_n (by decide)) R.2.2.1 (by rw [gMs_s, upd_s]) (by omega) (by omega)
    rw [show nI 0 = (0 : Int32) from rfl] at y1
    have D2 : gDm τ τ1 := ⟨fun i => y2 0 i, fun a h => by rw [y3 a h, gMs_n h]⟩
    have h9 : ∀ i, gM τ1 9 i = if 11 + 12 * v + 0 ≤ i ∧ i < 11 + 12 * v + sz (l v) then gCd (gM σ 39) (gM τ 1 (1 + 15 * l v + 3 + (i - (11 + 12 * v)))) else upd (gM τ 9) (1 + v) (nI (sz (l v))) i := fun i => by rw [y4, gMs_s]
    have P1 : gPI σ1 τ1 (11 + 3 * ni) (v + 1) := by
      refine ⟨by rw [x2, gI_sI, if_pos (by omega)], fun i hi => ⟨fun q => ?_, fun q => ?_⟩⟩
      · by_cases e : i = v
        · subst e
          refine ⟨sz (l i), s1, s2, ?_, ?_, fun j hj => ⟨fun q => ?_, fun q => ⟨?_, ?_⟩⟩⟩
          · rw [x3 _ (by omega), gMI, gMs_s, upd_s]
          · rw [h9, if_neg (by omega), upd_s]
          · rw [x4, if_pos (by omega), show i * 12 + j - i * 12 = j by omega, cell j hj, if_pos q, h9, if_pos (by omega), show 11 + 12 * i + j - (11 + 12 * i) = j by omega]
          · rw [x4, if_pos (by omega), show i * 12 + j - i * 12 = j by omega, cell j hj, if_neg (by omega)]
            unfold gCd
            rw [if_pos (show (-1 : Int32) < 1000 by decide)]
          · rw [h9, if_neg (by omega), upd_n (by omega)]
            exact ((P.2 i hi).2 (Nat.le_refl _)).2 j hj
        · obtain ⟨s, a1, a2, a3, a4, a5⟩ := (P.2 i hi).1 (by omega)
          refine ⟨s, a1, a2, ?_, ?_, fun j hj => ?_⟩
          · rw [x3 _ (by omega), gMI, gMs_s, upd_n e]; exact a3
          · rw [h9, if_neg (by omega), upd_n (by omega)]; exact a4
          · rw [x4, if_neg (by omega), gMI, gMs_n (by omega), h9, if_neg (by omega), upd_n (by omega)]
            exact a5 j hj
      · obtain ⟨a1, a2⟩ := (P.2 i hi).2 (by omega)
        refine ⟨?_, fun j hj => ?_⟩
        · rw [h9, if_neg (by omega), upd_n (by omega)]; exact a1
        · rw [h9, if_neg (by omega), upd_n (by omega)]; exact a2 j hj
    obtain ⟨σ2, τ2, t1, t2, t3, t4, t5, t6⟩ := ih (v + 1) m σ1 τ1 (Rc_dr H D1 D2).1 (R.dr hni D1 D2) P1 (by omega) (by omega)
    refine ⟨σ2, τ2, ?_, ?_, t3, D1.tr t4, D2.tr t5, ?_⟩
    · rw [qA_draw_15, R.2.1, if_neg hle, if_neg (nl10 (by omega)), gob_n (by omega) (by omega), nI_clamp (by omega), r2, x_size (by omega), b_s, z1]
      unfold qI_addNode
      rw [P0, if_neg (nlt0 (by omega)), if_neg (nl10 (by omega)), gob_n (by omega) (by omega), nI_clamp (by omega), show gI (sM σ (11 + 3 * ni + 1) v (nI (sz (l v)))) (11 + 3 * ni) 2 = nI v from P0, nI1, b_s, x1]
      exact t1
    · rw [qM_laysImage_34, R.2.2.1, if_neg hle, gob_n (by omega) (by omega), nI_clamp (by omega), r3, m_size (by omega), b_s, z2, show (1 : Int32) + nI v = nI (1 + v) from nI_add 1 v, gob_n (by omega) (by omega), nI_clamp (by omega), y1, nI1]
      exact t2
    · rw [t6, h9, if_neg (by omega), upd_n (by omega)]
