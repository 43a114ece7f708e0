/-! REACH: both walk the blocks in one order -/
theorem pigeon : ∀ (n c : Nat) (l : Nat → Nat), (∀ i, i < c → l i < n) → (∀ i j, i < c → j < c → l i = l j → i = j) → c ≤ n := by
  intro n
  induction n with
  | zero =>
    intro c l h1 h2
    by_cases h : c = 0
    · omega
    · exact absurd (h1 0 (by omega)) (by omega)
  | succ n ih =>
    intro c l h1 h2
    by_cases h : ∃ i, i < c ∧ l i = n
    · obtain ⟨i, hi, e⟩ := h
      have := ih (c - 1) (fun j => if j = i then l (c - 1) else l j) (fun j hj => by
        by_cases q : j = i
        · simp only [q, if_true]
          have := h1 (c - 1) (by omega)
          have : l (c - 1) ≠ n := fun w => by
            have := h2 (c - 1) i (by omega) hi (w.trans e.symm)
            omega
          omega
        · simp only [q, if_false]
          have := h1 j (by omega)
          have : l j ≠ n := fun w => q (h2 j i (by omega) hi (w.trans e.symm))
          omega) (fun j k hj hk w => by
        by_cases q : j = i
        · by_cases q2 : k = i
          · omega
          · simp only [q, q2, if_true, if_false] at w
            have := h2 (c - 1) k (by omega) (by omega) w
            omega
        · by_cases q2 : k = i
          · simp only [q, q2, if_true, if_false] at w
            have := h2 j (c - 1) (by omega) (by omega) w
            omega
          · simp only [q, q2, if_false] at w
            exact h2 j k (by omega) (by omega) w)
      omega
    · have := ih c l (fun i hi => by
        have := h1 i hi
        have : l i ≠ n := fun w => h ⟨i, hi, w⟩
        omega) h2
      omega
def gRR (σ τ : gS) (nb c : Nat) (l : Nat → Nat) : Prop := c ≤ 10 ∧ gI σ 9 3 = nI c ∧ gI τ 0 10 = nI c ∧ (∀ i, i < c → l i < nb ∧ gM σ 38 i = nI (l i) ∧ gM τ 8 i = nI (l i) ∧ gM σ 39 (l i) = nI i) ∧ ∀ b, b < 10 → (∀ i, i < c → l i ≠ b) → gM σ 39 b = -1
theorem gRR.inj {σ τ : gS} {nb c : Nat} {l : Nat → Nat} (h : gRR σ τ nb c l) : ∀ i j, i < c → j < c → l i = l j → i = j := by
  intro i j hi hj e
  have h1 := (h.2.2.2.1 i hi).2.2.2
  have h2 := (h.2.2.2.1 j hj).2.2.2
  rw [e, h2] at h1
  exact (nI_inj (by have := h.1; omega) (by have := h.1; omega) h1).symm
/-- what the walk leaves alone -/
def gFr (σ σ' : gS) : Prop := (∀ a j, a ≠ 9 → gI σ' a j = gI σ a j) ∧ ∀ a, a ≠ 38 → a ≠ 39 → gM σ' a = gM σ a
def gFm (τ τ' : gS) : Prop := (∀ j, j ≠ 10 → gI τ' 0 j = gI τ 0 j) ∧ ∀ a, a ≠ 8 → gM τ' a = gM τ a
theorem gFr.rf {σ : gS} : gFr σ σ := ⟨fun _ _ _ => rfl, fun _ _ _ => rfl⟩
theorem gFm.rf {σ : gS} : gFm σ σ := ⟨fun _ _ => rfl, fun _ _ => rfl⟩
theorem gFr.tr {σ σ1 σ2 : gS} (h1 : gFr σ σ1) (h2 : gFr σ1 σ2) : gFr σ σ2 := ⟨fun a j h => (h2.1 a j h).trans (h1.1 a j h), fun a h h' => (h2.2 a h h').trans (h1.2 a h h')⟩
theorem gFm.tr {σ σ1 σ2 : gS} (h1 : gFm σ σ1) (h2 : gFm σ1 σ2) : gFm σ σ2 := ⟨fun j h => (h2.1 j h).trans (h1.1 j h), fun a h => (h2.2 a h).trans (h1.2 a h)⟩
theorem node_loop {τ : gS} {c b : Nat} {l : Nat → Nat} (hc : c ≤ 10) (hb : b < 10) (h0 : gI τ 0 10 = nI c) (h1 : ∀ i, i < c → l i < 10 ∧ gM τ 8 i = nI (l i)) (k : Int32 → Option Int32) : ∀ (d v n : Nat) (x : Int32), v + d = c → d < n →
    ∃ y, qM_nodeOf_4 τ (nI b) k n x (nI v) = k y ∧ ((∀ i, v ≤ i → i < c → l i ≠ b) → y = x) ∧ ∀ i, v ≤ i → i < c → l i = b → (∀ j, j < c → l j = b → j = i) → y = nI i := by
  intro d
  induction d with
  | zero =>
    intro v n x h hn
    obtain ⟨m, rfl⟩ : ∃ m, n = m + 1 := ⟨n - 1, by omega⟩
    refine ⟨x, ?_, fun _ => rfl, fun i h1 h2 => by omega⟩
    rw [qM_nodeOf_4, h0, if_pos ((nI_leI (by omega) (by omega)).mpr (by omega))]
  | succ d ih =>
    intro v n x h hn
    obtain ⟨m, rfl⟩ : ∃ m, n = m + 1 := ⟨n - 1, by omega⟩
    obtain ⟨g1, g2⟩ := h1 v (by omega)
    rw [qM_nodeOf_4, h0, if_neg (nle (by omega) (by omega)), gob_n (by omega) (by omega), nI_clamp (by omega), g2, nI1]
    by_cases e : l v = b
    · rw [if_pos (by rw [e])]
      obtain ⟨y, y1, y2, y3⟩ := ih (v + 1) m (nI v) (by omega) (by omega)
      refine ⟨y, y1, fun q => absurd e (q v (Nat.le_refl _) (by omega)), fun i q1 q2 q3 q4 => ?_⟩
      have hv := q4 v (by omega) e
      rw [← hv]
      exact y2 fun j j1 j2 j3 => by
        have := q4 j j2 j3
        omega
    · rw [if_neg (fun q => e (nI_inj (by omega) (by omega) q))]
      obtain ⟨y, y1, y2, y3⟩ := ih (v + 1) m x (by omega) (by omega)
      refine ⟨y, y1, fun q => y2 fun i q1 q2 => q i (by omega) q2, fun i q1 q2 q3 q4 => y3 i (by
        by_cases w : i = v
        · exact absurd (w ▸ q3) e
        · omega) q2 q3 q4⟩
/-- the node of a block, as both tell it -/
theorem node_c {σ τ : gS} {nb c b : Nat} {l : Nat → Nat} (R : gRR σ τ nb c l) (hnb : nb ≤ 10) (hb : b < 10) :
    (∃ i, i < c ∧ l i = b ∧ gM σ 39 b = nI i ∧ qM_nodeOf τ (nI b) = some (nI i)) ∨ ((∀ i, i < c → l i ≠ b) ∧ gM σ 39 b = -1 ∧ qM_nodeOf τ (nI b) = some (-1)) := by
  have hi := R.inj
  obtain ⟨h1, h2, h3, h4, h5⟩ := R
  obtain ⟨y, y1, y2, y3⟩ := node_loop (τ := τ) (c := c) (b := b) (l := l) h1 hb h3 (fun i hi => ⟨by have := (h4 i hi).1; omega, (h4 i hi).2.2.1⟩) (fun x4 => some x4) c 0 8192 (-1) (by omega) (by omega)
  have y1 : qM_nodeOf τ (nI b) = some y := y1
  by_cases h : ∃ i, i < c ∧ l i = b
  · obtain ⟨i, i1, i2⟩ := h
    refine Or.inl ⟨i, i1, i2, by rw [← i2]; exact (h4 i i1).2.2.2, ?_⟩
    rw [y1, y3 i (Nat.zero_le _) i1 i2 fun j j1 j2 => hi j i j1 i1 (j2.trans i2.symm)]
  · have h' : ∀ i, i < c → l i ≠ b := fun i hi e => h ⟨i, hi, e⟩
    refine Or.inr ⟨h', h5 b hb h', ?_⟩
    rw [y1, y2 fun i _ hi => h' i hi]
/-- a block is added to the walk, or stands in it -/
theorem added_c {σ τ : gS} {nb c b : Nat} {l : Nat → Nat} (R : gRR σ τ nb c l) (hnb : nb ≤ 10) (hb : b < nb) :
    (∃ i, i < c ∧ l i = b ∧ qA_addReached σ (nI b) = some σ ∧ qM_nodeOf τ (nI b) = some (nI i)) ∨
    (∃ σ', c < 10 ∧ qA_addReached σ (nI b) = some σ' ∧ qM_nodeOf τ (nI b) = some (-1) ∧ gRR σ' (sI (sM τ 8 c (nI b)) 0 10 (nI (c + 1))) nb (c + 1) (updN l c b) ∧ gFr σ σ') := by
  rcases node_c R hnb (show b < 10 by omega) with ⟨i, i1, i2, i3, i4⟩ | ⟨n1, n2, n3⟩
  · refine Or.inl ⟨i, i1, i2, ?_, i4⟩
    have := R.1
    unfold qA_addReached
    rw [if_neg (nlt0 (by omega)), if_neg (nl10 (by omega)), gob_n (by omega) (by omega), nI_clamp (by omega), i3, if_neg (ne_neg1 (by omega))]
  · have hi := R.inj
    obtain ⟨h1, h2, h3, h4, h5⟩ := R
    have hc : c + 1 ≤ nb := by
      refine pigeon nb (c + 1) (updN l c b) (fun i hi => ?_) (fun i j i1 j1 e => ?_)
      · unfold updN
        by_cases q : i = c
        · rw [if_pos q]; exact hb
        · rw [if_neg q]; exact (h4 i (by omega)).1
      · unfold updN at e
        by_cases q : i = c
        · rw [if_pos q] at e
          by_cases q2 : j = c
          · omega
          · rw [if_neg q2] at e
            exact absurd e.symm (n1 j (by omega))
        · rw [if_neg q] at e
          by_cases q2 : j = c
          · rw [if_pos q2] at e
            exact absurd e (n1 i (by omega))
          · rw [if_neg q2] at e
            exact hi i j (by omega) (by omega) e
    refine Or.inr ⟨sI (sM (sM σ 39 b (nI c)) 38 c (nI b)) 9 3 (nI (c + 1)), by omega, ?_, n3, ⟨by omega, ?_, ?_, fun i hi => ?_, fun x hx h => ?_⟩, ⟨fun a j h => ?_, fun a q1 q2 => ?_⟩⟩
    · unfold qA_addReached
      rw [if_neg (nlt0 (by omega)), if_neg (nl10 (by omega)), gob_n (by omega) (by omega), nI_clamp (by omega), if_pos n2, h2, if_neg (nlt0 (by omega)), if_neg (nl10 (by omega)), show gI (sM σ 39 b (nI c)) 9 3 = nI c from h2, gob_n (by omega) (by omega), nI_clamp (by omega), show gI (sM (sM σ 39 b (nI c)) 38 c (nI b)) 9 3 = nI c from h2, nI1]
    · rw [gI_sI, if_pos (by omega)]
    · rw [gI_sI, if_pos (by omega)]
    · by_cases q : i = c
      · subst q
        have e : updN l i b i = b := by simp [updN]
        rw [e]
        refine ⟨hb, ?_, ?_, ?_⟩
        · rw [gMI, gMs_s, upd_s]
        · rw [gMI, gMs_s, upd_s]
        · rw [gMI, gMs_n (by decide), gMs_s, upd_s]
      · have e : updN l c b i = l i := by simp [updN, q]
        obtain ⟨a1, a2, a3, a4⟩ := h4 i (by omega)
        rw [e]
        refine ⟨a1, ?_, ?_, ?_⟩
        · rw [gMI, gMs_s, upd_n q, gMs_n (by decide)]; exact a2
        · rw [gMI, gMs_s, upd_n q]; exact a3
        · rw [gMI, gMs_n (by decide), gMs_s, upd_n (n1 i (by omega))]; exact a4
    · have hxb : x ≠ b := fun q => h c (by omega) (by simp [updN, q])
      rw [gMI, gMs_n (by decide), gMs_s, upd_n hxb]
      refine h5 x hx fun i hi => ?_
      have := h i (by omega)
      rw [show updN l c b i = l i by simp [updN, show i ≠ c by omega]] at this
      exact this
    · rw [gI_sI, if_neg (by omega)]; rfl
    · rw [gMI, gMs_n q1, gMs_n q2]
