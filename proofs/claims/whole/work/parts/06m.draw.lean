/-! DRAW: the image drawn and the image laid -/
theorem Rc_fr {σ τ σ' τ' : gS} {nb ni bu : Nat} {sz : Nat → Nat} (H : Rc1 σ (gM τ 1) nb ni bu sz) (F1 : gFr σ σ') (F2 : gFm τ τ') : Rc1 σ' (gM τ' 1) nb ni bu sz ∧ FX ni σ σ' ∧ FM τ τ' ∧ gM τ' 1 169 = gM τ 1 169 := by
  have hni := Rc_ni H
  have hx : FX ni σ σ' := ⟨fun k j hk => F1.1 k j (by omega), fun k i hk => by rw [F1.2 k (by omega) (by omega)], fun n hn => ⟨F1.1 _ _ (by omega), fun i => by rw [F1.2 _ (by omega) (by omega)], fun i => by rw [F1.2 _ (by omega) (by omega)]⟩⟩
  obtain ⟨h1, h2, h3, h4, h5⟩ := H
  refine ⟨⟨(F1.1 1 7 (by decide)).trans h1, (F1.1 1 8 (by decide)).trans h2, (F1.1 1 9 (by decide)).trans h3, ?_, Rims_fx h5 hni hx (fun i _ _ => by rw [F2.2 1 (by decide)])⟩, hx, ⟨F2.1, fun k i h1 h2 h3 h4 => by rw [F2.2 k h3]⟩, by rw [F2.2 1 (by decide)]⟩
  show Rs nb ni bu sz (gM σ' 2) (gM σ' 3) (gM σ' 4) (gM σ' 5) (gM σ' 6) (gM σ' 7) (gM σ' 8) (gM τ' 1)
  rw [F1.2 2 (by decide) (by decide), F1.2 3 (by decide) (by decide), F1.2 4 (by decide) (by decide), F1.2 5 (by decide) (by decide), F1.2 6 (by decide) (by decide), F1.2 7 (by decide) (by decide), F1.2 8 (by decide) (by decide), F2.2 1 (by decide)]
  exact h4
theorem alive_c {σ τ : gS} {nb ni bu c : Nat} {sz l : Nat → Nat} (H : Rc1 σ (gM τ 1) nb ni bu sz) (R : gRR σ τ nb c l) (k : Unit → Option Int32) (k2 : Int32 → Option Int32) : ∀ (d v n : Nat), v + d = c → d < n →
    qM_allLive_4 τ k2 n 0 (nI v) = k2 0 ∧ ((qA_allReachedLive_2 σ k n (nI v) = some 0 ∧ qM_allLive_4 τ k2 n 1 (nI v) = k2 0) ∨ (qA_allReachedLive_2 σ k n (nI v) = k () ∧ qM_allLive_4 τ k2 n 1 (nI v) = k2 1)) := by
  have hc := R.1
  intro d
  induction d with
  | zero =>
    intro v n h hn
    obtain ⟨m, rfl⟩ : ∃ m, n = m + 1 := ⟨n - 1, by omega⟩
    have hle : nI c ≤ nI v := (nI_leI (by omega) (by omega)).mpr (by omega)
    refine ⟨?_, Or.inr ⟨?_, ?_⟩⟩
    · rw [qM_allLive_4, R.2.2.1, if_pos hle]
    · rw [qA_allReachedLive_2, R.2.1, if_pos hle]
    · rw [qM_allLive_4, R.2.2.1, if_pos hle]
  | succ d ih =>
    intro v n h hn
    obtain ⟨m, rfl⟩ : ∃ m, n = m + 1 := ⟨n - 1, by omega⟩
    have hle : ¬ nI c ≤ nI v := nle (by omega) (by omega)
    obtain ⟨r1, r2, r3, r4⟩ := R.2.2.2.1 v (by omega)
    obtain ⟨i1, i2⟩ := ih (v + 1) m (by omega) (by omega)
    have e0 : qM_allLive_4 τ k2 (m + 1) 0 (nI v) = k2 0 := by
      rw [qM_allLive_4, R.2.2.1, if_neg hle, if_pos z00, nI1]
      exact i1
    refine ⟨e0, ?_⟩
    rw [qA_allReachedLive_2, R.2.1, if_neg hle, if_neg (nl10 (by omega)), gob_n (by omega) (by omega), nI_clamp (by omega), r2]
    rw [qM_allLive_4, R.2.2.1, if_neg hle, if_neg n10, gob_n (by omega) (by omega), nI_clamp (by omega), r3]
    rcases live_c H r1 with ⟨l1, l2, -, -⟩ | ⟨l1, l2, -, -⟩
    · rw [l1, l2, b_s, b_s, if_pos z00, if_pos z00, nI1]
      exact Or.inl ⟨rfl, i1⟩
    · rw [l1, l2, b_s, b_s, if_neg n10, if_neg n10, nI1]
      exact i2
theorem alive {σ τ : gS} {nb ni bu c : Nat} {sz l : Nat → Nat} (H : Rc1 σ (gM τ 1) nb ni bu sz) (R : gRR σ τ nb c l) : (qA_allReachedLive σ = some 0 ∧ qM_allLive τ = some 0) ∨ (qA_allReachedLive σ = some 1 ∧ qM_allLive τ = some 1) := by
  have hc := R.1
  unfold qA_allReachedLive qM_allLive
  obtain ⟨-, h⟩ := alive_c H R (fun _ => some (1 : Int32)) (fun x6 => gbo x6 (some x6)) c 0 8192 (by omega) (by omega)
  rw [show nI 0 = (0 : Int32) from rfl] at h
  rcases h with ⟨h1, h2⟩ | ⟨h1, h2⟩
  · exact Or.inl ⟨h1, h2⟩
  · exact Or.inr ⟨h1, h2⟩
/-- a byte's code in an image -/
def gCd (g : Nat → Int32) (x : Int32) : Int32 := if x < 1000 then x else (1000 : Int32) + (100 : Int32) * g (qF_blockOfCode x).toNatClampNeg + qF_offsetOfCode x
theorem cd_x {σ : gS} {nb : Nat} {sz : Nat → Nat} (hnb : nb ≤ 10) (hsz : ∀ b, b < nb → sz b ≤ 12) {x : Int32} (h : cOk nb sz x) : qA_codeInImage σ x = some (gCd (gM σ 39) x) := by
  unfold qA_codeInImage gCd
  rw [q_ptr]
  rcases byte_c hnb hsz h with ⟨e, d1, -⟩ | ⟨u, hu, e, d1, -⟩ | ⟨e, d1, -⟩ | ⟨b', q', hb', hq', e, d1, -, -, d4, d5⟩
  · rw [if_pos d1, if_pos z00, if_pos d1]
  · rw [if_pos d1, if_pos z00, if_pos d1]
  · rw [if_pos d1, if_pos z00, if_pos d1]
  · rw [if_neg d1, if_neg n10, if_neg d1, d4, if_neg (nlt0 (by omega)), if_neg (nl10 (by omega)), gob_n (by omega) (by omega), nI_clamp (by omega)]
    rfl
theorem cd_m {σ τ : gS} {nb c : Nat} {sz l : Nat → Nat} (R : gRR σ τ nb c l) (hnb : nb ≤ 10) (hsz : ∀ b, b < nb → sz b ≤ 12) {x : Int32} (h : cOk nb sz x) (hp : ¬ x < 1000) : ∃ y, qM_nodeOf τ ((x - (1000 : Int32)) / (100 : Int32)) = some y ∧ (1000 : Int32) + (100 : Int32) * y + ((x - (1000 : Int32)) - (x - (1000 : Int32)) / (100 : Int32) * (100 : Int32)) = gCd (gM σ 39) x := by
  rcases byte_c hnb hsz h with ⟨e, d1, -⟩ | ⟨u, hu, e, d1, -⟩ | ⟨e, d1, -⟩ | ⟨b', q', hb', hq', e, d1, -, -, d4, d5⟩
  · exact absurd d1 hp
  · exact absurd d1 hp
  · exact absurd d1 hp
  · have d6 : (x - (1000 : Int32)) / (100 : Int32) = nI b' := d4
    have e2 : gCd (gM σ 39) x = (1000 : Int32) + (100 : Int32) * gM σ 39 b' + qF_offsetOfCode x := by
      unfold gCd
      rw [if_neg d1, d4, nI_clamp (by omega)]
    rw [e2]
    rcases node_c R hnb (show b' < 10 by omega) with ⟨i, i1, i2, i3, i4⟩ | ⟨n1, n2, n3⟩
    · refine ⟨nI i, ?_, ?_⟩
      · rw [d6]; exact i4
      · rw [i3]; rfl
    · refine ⟨-1, ?_, ?_⟩
      · rw [d6]; exact n3
      · rw [n2]; rfl
theorem draw_in {ni v b : Nat} (hni : ni ≤ 8) (hv : v < 10) (hb : b < 10) (c8 c39 : Nat → Int32) (hc : ∀ σ : gS, gM σ 39 = c39 → ∀ j, j < 12 → qA_codeInImage σ (c8 (b * 12 + j)) = some (gCd c39 (c8 (b * 12 + j)))) (k : gS → Option gS) :
    ∀ (d j n : Nat) (σ : gS), gM σ 8 = c8 → gM σ 39 = c39 → j + d = 12 → d < n → ∃ σ', qA_draw_50 (11 + 3 * ni) (nI v) (nI b) k n σ (nI j) = k σ' ∧ (∀ a i, gI σ' a i = gI σ a i) ∧ (∀ a, a ≠ 11 + 3 * ni + 2 → gM σ' a = gM σ a) ∧ ∀ i, gM σ' (11 + 3 * ni + 2) i = if v * 12 + j ≤ i ∧ i < v * 12 + 12 then gCd c39 (c8 (b * 12 + (i - v * 12))) else gM σ (11 + 3 * ni + 2) i := by
  intro d
  induction d with
  | zero =>
    intro j n σ _ _ h hn
    obtain ⟨m, rfl⟩ : ∃ m, n = m + 1 := ⟨n - 1, by omega⟩
    refine ⟨σ, ?_, fun _ _ => rfl, fun _ _ => rfl, fun i => by rw [if_neg (by omega)]⟩
    rw [qA_draw_50, if_pos (show (12 : Int32) ≤ nI j from (nI_leI (a := 12) (by omega) (by omega)).mpr (by omega))]
  | succ d ih =>
    intro j n σ h8 h39 h hn
    obtain ⟨m, rfl⟩ : ∃ m, n = m + 1 := ⟨n - 1, by omega⟩
    obtain ⟨σ', e, g1, g2, g3⟩ := ih (j + 1) m (sM σ (11 + 3 * ni + 2) (v * 12 + j) (gCd c39 (c8 (b * 12 + j)))) (by rw [gMs_n (by omega)]; exact h8) (by rw [gMs_n (by omega)]; exact h39) (by omega) (by omega)
    refine ⟨σ', ?_, fun a j => g1 a j, fun a ha => by rw [g2 a ha, gMs_n ha], fun i => ?_⟩
    · rw [qA_draw_50, if_neg (nl12 (by omega)), x_cell hb (by omega), b_s, h8, hc σ h39 j (by omega), b_s, y_put hv (by omega), b_s, nI1]
      exact e
    · rw [g3, gMs_s]
      by_cases h1 : i = v * 12 + j
      · subst h1
        rw [if_neg (by omega), if_pos (by omega), upd_s, show v * 12 + j - v * 12 = j by omega]
      · rw [upd_n h1]
        by_cases h2 : v * 12 + (j + 1) ≤ i ∧ i < v * 12 + 12
        · rw [if_pos h2, if_pos (by omega)]
        · rw [if_neg h2, if_neg (by omega)]
theorem lay_in {v b s : Nat} (hv : v < 10) (hb : b < 10) (hs : s ≤ 12) (row : Nat → Int32) (cd : Nat → Int32) (r8 : Nat → Int32) (c : Int32) (h8 : r8 v = nI b)
    (hc : ∀ τ : gS, gM τ 8 = r8 → gI τ 0 10 = c → ∀ j, j < s → (row (1 + 15 * b + 3 + j) < 1000 → cd j = row (1 + 15 * b + 3 + j)) ∧ (¬ row (1 + 15 * b + 3 + j) < 1000 → ∃ y, qM_nodeOf τ ((row (1 + 15 * b + 3 + j) - (1000 : Int32)) / (100 : Int32)) = some y ∧ (1000 : Int32) + (100 : Int32) * y + ((row (1 + 15 * b + 3 + j) - (1000 : Int32)) - (row (1 + 15 * b + 3 + j) - (1000 : Int32)) / (100 : Int32) * (100 : Int32)) = cd j)) (k : gS → Option gS) :
    ∀ (d j n : Nat) (τ : gS), gM τ 1 = row → gM τ 8 = r8 → gI τ 0 10 = c → gM τ 9 (1 + v) = nI s → j + d = s → d < n → ∃ τ', qM_laysImage_62 (nI v) k n τ (nI j) = k τ' ∧ (∀ a i, gI τ' a i = gI τ a i) ∧ (∀ a, a ≠ 9 → gM τ' a = gM τ a) ∧ ∀ i, gM τ' 9 i = if 11 + 12 * v + j ≤ i ∧ i < 11 + 12 * v + s then cd (i - (11 + 12 * v)) else gM τ 9 i := by
  have e1 : (1 : Int32) + nI v = nI (1 + v) := nI_add 1 v
  have e11 : ∀ j, (11 : Int32) + (12 : Int32) * nI v + nI j = nI (11 + 12 * v + j) := fun j => by
    rw [show (11 : Int32) = nI 11 from rfl, show (12 : Int32) = nI 12 from rfl, nI_mul, nI_add, nI_add]
  intro d
  induction d with
  | zero =>
    intro j n τ _ _ _ h9 h hn
    obtain ⟨m, rfl⟩ : ∃ m, n = m + 1 := ⟨n - 1, by omega⟩
    refine ⟨τ, ?_, fun _ _ => rfl, fun _ _ => rfl, fun i => by rw [if_neg (by omega)]⟩
    rw [qM_laysImage_62, e1, gob_n (by omega) (by omega), nI_clamp (by omega), h9, if_pos ((nI_leI (by omega) (by omega)).mpr (by omega))]
  | succ d ih =>
    intro j n τ h1 h8' h10 h9 h hn
    obtain ⟨m, rfl⟩ : ∃ m, n = m + 1 := ⟨n - 1, by omega⟩
    obtain ⟨τ', e, g1, g2, g3⟩ := ih (j + 1) m (sM τ 9 (11 + 12 * v + j) (cd j)) (by rw [gMs_n (by decide)]; exact h1) (by rw [gMs_n (by decide)]; exact h8') h10 (by rw [gMs_s, upd_n (by omega)]; exact h9) (by omega) (by omega)
    obtain ⟨c1, c2⟩ := hc τ h8' h10 j (by omega)
    refine ⟨τ', ?_, fun a j => g1 a j, fun a ha => by rw [g2 a ha, gMs_n ha], fun i => ?_⟩
    · rw [qM_laysImage_62, e1, gob_n (by omega) (by omega), nI_clamp (by omega), h9, if_neg (nle (by omega) (by omega)), gob_n (by omega) (by omega), nI_clamp (by omega), h8', h8, m_bp, gob_n (by omega) (by omega), nI_clamp (by omega), h1, e11, nI1]
      by_cases hp : row (1 + 15 * b + 3 + j) < 1000
      · rw [if_pos hp, gob_n (by omega) (by omega), nI_clamp (by omega), ← c1 hp]
        exact e
      · obtain ⟨y, y1, y2⟩ := c2 hp
        rw [if_neg hp, y1, b_s, gob_n (by omega) (by omega), nI_clamp (by omega), y2]
        exact e
    · rw [g3, gMs_s]
      by_cases h1 : i = 11 + 12 * v + j
      · subst h1
        rw [if_neg (by omega), if_pos (by omega), upd_s, show 11 + 12 * v + j - (11 + 12 * v) = j by omega]
      · rw [upd_n h1]
        by_cases h2 : 11 + 12 * v + (j + 1) ≤ i ∧ i < 11 + 12 * v + s
        · rw [if_pos h2, if_pos (by omega)]
        · rw [if_neg h2, if_neg (by omega)]
