theorem wipe9 (k : gS → Option gS) : ∀ (d v n : Nat) (τ : gS), v + d = 131 → d < n → ∃ τ', qM_laysImage_2 k n τ (nI v) = k τ' ∧ (∀ a j, gI τ' a j = gI τ a j) ∧ (∀ a, a ≠ 9 → gM τ' a = gM τ a) ∧ ∀ i, gM τ' 9 i = if v ≤ i ∧ i < 131 then 0 else gM τ 9 i := by
  intro d
  induction d with
  | zero =>
    intro v n σ h hn
    obtain ⟨m, rfl⟩ : ∃ m, n = m + 1 := ⟨n - 1, by omega⟩
    refine ⟨σ, ?_, fun _ _ => rfl, fun _ _ => rfl, fun i => by rw [if_neg (by omega)]⟩
    rw [qM_laysImage_2, if_pos (show (131 : Int32) ≤ nI v from (nI_leI (a := 131) (by omega) (by omega)).mpr (by omega))]
  | succ d ih =>
    intro v n σ h hn
    obtain ⟨m, rfl⟩ : ∃ m, n = m + 1 := ⟨n - 1, by omega⟩
    obtain ⟨σ', e, g1, g2, g3⟩ := ih (v + 1) m (sM σ 9 v 0) (by omega) (by omega)
    refine ⟨σ', ?_, fun a j => g1 a j, fun a ha => by rw [g2 a ha, gMs_n ha], fun i => ?_⟩
    · rw [qM_laysImage_2, if_neg (show ¬ (131 : Int32) ≤ nI v from nle (a := 131) (by omega) (by omega)), gob_n (by omega) (by omega), nI_clamp (by omega), nI1]
      exact e
    · rw [g3, gMs_s]
      by_cases h1 : i = v
      · subst h1
        rw [if_neg (by omega), if_pos (by omega), upd_s]
      · rw [upd_n h1]
        by_cases h2 : v + 1 ≤ i ∧ i < 131
        · rw [if_pos h2, if_pos (by omega)]
        · rw [if_neg h2, if_neg (by omega)]
theorem draw_c {σ τ : gS} {nb ni bu c : Nat} {sz l : Nat → Nat} (H : Rc1 σ (gM τ 1) nb ni bu sz) (R : gRR σ τ nb c l) (h1 : 1 ≤ c) :
    ∃ σ' τ', qA_draw σ = some σ' ∧ qM_laysImage τ = some τ' ∧ Rim σ' (11 + 3 * ni) (gM τ' 9) ∧ gDr ni σ σ' ∧ gDm τ τ' := by
  have hc := R.1
  have hni := Rc_ni H
  unfold qA_draw qM_laysImage qI_begin
  rw [H.2.1, a_image (by omega), b_s, g_imn (by omega), b_s]
  obtain ⟨τ1, y1, y2, y3, y4⟩ := wipe9 (fun σ3 => qM_laysImage_34 (fun σ17 => some σ17) 8192 (sM σ3 9 0 (gI σ3 0 10)) (0 : Int32)) 131 0 8192 τ (by omega) (by omega)
  rw [show nI 0 = (0 : Int32) from rfl] at y1
  rw [y1]
  have D1 : gDr ni σ (sI σ (11 + 3 * ni) 2 0) := ⟨fun a i h => by rw [gI_sI, if_neg (by omega)], fun _ _ _ => rfl⟩
  have D2 : gDm τ (sM τ1 9 0 (gI τ1 0 10)) := ⟨fun i => y2 0 i, fun a h => by rw [gMs_n h, y3 a h]⟩
  have P : gPI (sI σ (11 + 3 * ni) 2 0) (sM τ1 9 0 (gI τ1 0 10)) (11 + 3 * ni) 0 := by
    refine ⟨by rw [gI_sI, if_pos (by omega)]; rfl, fun n hn => ⟨fun q => by omega, fun _ => ⟨?_, fun j hj => ?_⟩⟩⟩
    · rw [gMs_s, upd_n (by omega), y4, if_pos (by omega)]
    · rw [gMs_s, upd_n (by omega), y4, if_pos (by omega)]
  obtain ⟨σ2, τ2, t1, t2, t3, t4, t5, t6⟩ := draw_out (fun σ13 => some σ13) (fun σ17 => some σ17) c 0 8192 _ _ (Rc_dr H D1 D2).1 (R.dr hni D1 D2) P (by omega) (by omega)
  rw [show nI 0 = (0 : Int32) from rfl] at t1 t2
  rw [t1, t2]
  refine ⟨σ2, τ2, rfl, rfl, ⟨c, h1, hc, t3.1, ?_, t3.2⟩, D1.tr t4, D2.tr t5⟩
  rw [t6, gMs_s, upd_s, y2, R.2.2.1]
/-- two images are the same in the album and in the row -/
def gSm (σ : gS) (k k' : Nat) : Prop := gI σ k 2 = gI σ k' 2 ∧ ∀ c, gI σ k 2 = nI c → c ≤ 10 → (∀ n, n < c → gM σ (k + 1) n = gM σ (k' + 1) n) ∧ ∀ i, i < c * 12 → gM σ (k + 2) i = gM σ (k' + 2) i
theorem same_iff {σ : gS} {k k' : Nat} {h h' : Nat → Int32} (A : Rim σ k h) (B : Rim σ k' h') : gSm σ k k' ↔ ∀ j, j < 131 → h j = h' j := by
  obtain ⟨c, c1, c2, c3, c4, c5⟩ := A
  obtain ⟨e, e1, e2, e3, e4, e5⟩ := B
  constructor
  · rintro ⟨s1, s2⟩ j hj
    have hce : c = e := by
      rw [c3, e3] at s1
      exact nI_inj (by omega) (by omega) s1
    subst hce
    obtain ⟨s3, s4⟩ := s2 c c3 c2
    have hs : ∀ n, n < c → ∀ s s', 1 ≤ s → s ≤ 12 → s' ≤ 12 → gM σ (k + 1) n = nI s → gM σ (k' + 1) n = nI s' → s = s' := by
      intro n hn s s' _ a b x y
      rw [s3 n hn, y] at x
      exact (nI_inj (by omega) (by omega) x).symm
    by_cases j0 : j = 0
    · subst j0; rw [c4, e4]
    by_cases j1 : j < 11
    · obtain ⟨n, rfl⟩ : ∃ n, j = 1 + n := ⟨j - 1, by omega⟩
      by_cases q : n < c
      · obtain ⟨s, a1, a2, a3, a4, -⟩ := (c5 n (by omega)).1 q
        obtain ⟨s', b1, b2, b3, b4, -⟩ := (e5 n (by omega)).1 q
        rw [a4, b4, hs n q s s' a1 a2 b2 a3 b3]
      · rw [((c5 n (by omega)).2 (by omega)).1, ((e5 n (by omega)).2 (by omega)).1]
    · obtain ⟨n, m, hm, rfl⟩ : ∃ n m, m < 12 ∧ j = 11 + 12 * n + m := ⟨(j - 11) / 12, (j - 11) % 12, Nat.mod_lt _ (by decide), by omega⟩
      by_cases q : n < c
      · obtain ⟨s, a1, a2, a3, a4, a5⟩ := (c5 n (by omega)).1 q
        obtain ⟨s', b1, b2, b3, b4, b5⟩ := (e5 n (by omega)).1 q
        have := hs n q s s' a1 a2 b2 a3 b3
        subst this
        by_cases w : m < s
        · rw [← (a5 m hm).1 w, ← (b5 m hm).1 w]
          exact s4 _ (by omega)
        · rw [((a5 m hm).2 (by omega)).2, ((b5 m hm).2 (by omega)).2]
      · rw [((c5 n (by omega)).2 (by omega)).2 m hm, ((e5 n (by omega)).2 (by omega)).2 m hm]
  · intro E
    have hce : c = e := by
      have := E 0 (by decide)
      rw [c4, e4] at this
      exact nI_inj (by omega) (by omega) this
    subst hce
    refine ⟨c3.trans e3.symm, fun d hd hd2 => ?_⟩
    have : d = c := by
      rw [c3] at hd
      exact (nI_inj (by omega) (by omega) hd).symm
    subst this
    refine ⟨fun n hn => ?_, fun i hi => ?_⟩
    · obtain ⟨s, a1, a2, a3, a4, -⟩ := (c5 n (by omega)).1 hn
      obtain ⟨s', b1, b2, b3, b4, -⟩ := (e5 n (by omega)).1 hn
      rw [a3, b3, ← a4, ← b4]
      exact E _ (by omega)
    · obtain ⟨n, m, hm, rfl⟩ : ∃ n m, m < 12 ∧ i = n * 12 + m := ⟨i / 12, i % 12, Nat.mod_lt _ (by decide), by omega⟩
      have hn : n < d := by omega
      obtain ⟨s, a1, a2, a3, a4, a5⟩ := (c5 n (by omega)).1 hn
      obtain ⟨s', b1, b2, b3, b4, b5⟩ := (e5 n (by omega)).1 hn
      have hss : s = s' := by
        have := E (1 + n) (by omega)
        rw [a4, b4] at this
        exact nI_inj (by omega) (by omega) this
      subst hss
      by_cases w : m < s
      · rw [(a5 m hm).1 w, (b5 m hm).1 w]
        exact E _ (by omega)
      · rw [((a5 m hm).2 (by omega)).1, ((b5 m hm).2 (by omega)).1]
theorem same_15 {σ : gS} {k k' c : Nat} (hc : c ≤ 10) (e : gI σ k 2 = nI c) (kk : Unit → Option Int32) : ∀ (d v n : Nat), v + d = c → d < n → ((∀ i, v ≤ i → i < c → gM σ (k + 1) i = gM σ (k' + 1) i) ∧ qI_isSameAs_15 σ k k' kk n (nI v) = kk ()) ∨ ((∃ i, i < c ∧ ¬ gM σ (k + 1) i = gM σ (k' + 1) i) ∧ qI_isSameAs_15 σ k k' kk n (nI v) = some 0) := by
  intro d
  induction d with
  | zero =>
    intro v n h hn
    obtain ⟨m, rfl⟩ : ∃ m, n = m + 1 := ⟨n - 1, by omega⟩
    refine Or.inl ⟨fun i h1 h2 => by omega, ?_⟩
    rw [qI_isSameAs_15, e, if_pos ((nI_leI (by omega) (by omega)).mpr (by omega))]
  | succ d ih =>
    intro v n h hn
    obtain ⟨m, rfl⟩ : ∃ m, n = m + 1 := ⟨n - 1, by omega⟩
    rw [qI_isSameAs_15, e, if_neg (nle (by omega) (by omega)), if_neg (nl10 (by omega)), gob_n (by omega) (by omega), nI_clamp (by omega)]
    by_cases q : gM σ (k + 1) v = gM σ (k' + 1) v
    · rw [if_pos q, nI1]
      rcases ih (v + 1) m (by omega) (by omega) with ⟨a, b⟩ | ⟨a, b⟩
      · refine Or.inl ⟨fun i h1 h2 => ?_, b⟩
        by_cases w : i = v
        · rw [w]; exact q
        · exact a i (by omega) h2
      · exact Or.inr ⟨a, b⟩
    · rw [if_neg q]
      exact Or.inr ⟨⟨v, by omega, q⟩, rfl⟩
theorem same_54 {σ : gS} {k k' c : Nat} (hc : c ≤ 10) (e : gI σ k 2 = nI c) (kk : Unit → Option Int32) : ∀ (d v n : Nat), v + d = c * 12 → d < n → ((∀ i, v ≤ i → i < c * 12 → gM σ (k + 2) i = gM σ (k' + 2) i) ∧ qI_isSameAs_54 σ k k' kk n (nI v) = kk ()) ∨ ((∃ i, i < c * 12 ∧ ¬ gM σ (k + 2) i = gM σ (k' + 2) i) ∧ qI_isSameAs_54 σ k k' kk n (nI v) = some 0) := by
  have e12 : gI σ k 2 * (12 : Int32) = nI (c * 12) := by
    rw [e, show (12 : Int32) = nI 12 from rfl, nI_mul]
  intro d
  induction d with
  | zero =>
    intro v n h hn
    obtain ⟨m, rfl⟩ : ∃ m, n = m + 1 := ⟨n - 1, by omega⟩
    refine Or.inl ⟨fun i h1 h2 => by omega, ?_⟩
    rw [qI_isSameAs_54, e12, if_pos ((nI_leI (by omega) (by omega)).mpr (by omega))]
  | succ d ih =>
    intro v n h hn
    obtain ⟨m, rfl⟩ : ∃ m, n = m + 1 := ⟨n - 1, by omega⟩
    rw [qI_isSameAs_54, e12, if_neg (nle (by omega) (by omega)), if_neg (show ¬ (120 : Int32) ≤ nI v from nle (a := 120) (by omega) (by omega)), gob_n (by omega) (by omega), nI_clamp (by omega)]
    by_cases q : gM σ (k + 2) v = gM σ (k' + 2) v
    · rw [if_pos q, nI1]
      rcases ih (v + 1) m (by omega) (by omega) with ⟨a, b⟩ | ⟨a, b⟩
      · refine Or.inl ⟨fun i h1 h2 => ?_, b⟩
        by_cases w : i = v
        · rw [w]; exact q
        · exact a i (by omega) h2
      · exact Or.inr ⟨a, b⟩
    · rw [if_neg q]
      exact Or.inr ⟨⟨v, by omega, q⟩, rfl⟩
theorem same_x {σ : gS} {k k' c : Nat} (hc : c ≤ 10) (e : gI σ k 2 = nI c) : (gSm σ k k' ∧ qI_isSameAs σ k k' = some 1) ∨ (¬ gSm σ k k' ∧ qI_isSameAs σ k k' = some 0) := by
  unfold qI_isSameAs
  have hu : ∀ d, gI σ k 2 = nI d → d ≤ 10 → d = c := fun d h1 h2 => by
    rw [e] at h1
    exact (nI_inj (by omega) (by omega) h1).symm
  by_cases q : gI σ k 2 = gI σ k' 2
  · rw [if_pos q]
    have a := same_15 (σ := σ) (k := k) (k' := k') hc e (fun _ => qI_isSameAs_54 σ k k' (fun _ => some (1 : Int32)) 8192 (0 : Int32)) c 0 8192 (by omega) (by omega)
    have b := same_54 (σ := σ) (k := k) (k' := k') hc e (fun _ => some (1 : Int32)) (c * 12) 0 8192 (by omega) (by omega)
    rw [show nI 0 = (0 : Int32) from rfl] at a b
    rcases a with ⟨a1, a2⟩ | ⟨⟨i, i1, i2⟩, a2⟩
    · rw [a2]
      rcases b with ⟨b1, b2⟩ | ⟨⟨i, i1, i2⟩, b2⟩
      · refine Or.inl ⟨⟨q, fun d h1 h2 => ?_⟩, b2⟩
        have := hu d h1 h2
        subst this
        exact ⟨fun n hn => a1 n (Nat.zero_le _) hn, fun i hi => b1 i (Nat.zero_le _) hi⟩
      · exact Or.inr ⟨fun s => i2 ((s.2 c e hc).2 i i1), b2⟩
    · rw [a2]
      exact Or.inr ⟨fun s => i2 ((s.2 c e hc).1 i i1), rfl⟩
  · rw [if_neg q]
    exact Or.inr ⟨fun s => q s.1, rfl⟩
