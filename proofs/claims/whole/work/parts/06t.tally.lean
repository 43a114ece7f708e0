/-- the staged state is kept by both -/
theorem kept_c {σ τ : gS} {ni pl sv : Nat} {N I U : Nat → Nat} {S : Nat → Nat → Nat} (G : gRg σ τ ni pl sv N I U S) {nb0 ni0 bu0 : Nat} {sz0 : Nat → Nat} {f : Nat → Int32} (W : Rc σ (48 + 8 * pl) f nb0 ni0 bu0 sz0) (hf : ∀ i, i < 1219 → gM τ 2 i = f i) (h0 : ni0 ≤ ni) (hI : ∀ j, j < sv → I j ≤ ni0) :
    ∃ σ' τ', qH_keep σ = some σ' ∧ qM_remembers τ = some τ' ∧ (∀ a j, a ≠ 46 → gI σ' a j = gI σ a j) ∧ (∀ a, gM σ' a = gM σ a) ∧ (∀ a j, a ≠ 0 ∨ j ≠ 3 → gI τ' a j = gI τ a j) ∧ (∀ a, a ≠ 3 → gM τ' a = gM τ a) ∧ ∃ pl' sv' N' I' U' S', gRg σ' τ' ni pl' sv' N' I' U' S' := by
  obtain ⟨g1, g2, g3, g4, g5, g6⟩ := G
  obtain ⟨σ', k1, k2, k3, k4, k5⟩ := keep_x g1 g2 g3 g4
  obtain ⟨τ', r1, r2, r3, r4⟩ := rem_c g2 g5
  have mv : ∀ {k : Nat} {f f' : Nat → Int32} {nb ni bu : Nat} {sz : Nat → Nat}, Rc σ k f nb ni bu sz → k ≠ 46 → (∀ i, i < 1219 → f' i = f i) → Rc σ' k f' nb ni bu sz := fun H hk ef => by
    have := H.2.2.2.1.2.1
    exact Rc_at H (k2 _ _ hk) (k2 _ _ hk) (k2 _ _ hk) (fun i _ => ⟨by rw [k3], by rw [k3], by rw [k3]⟩) (fun i _ => ⟨by rw [k3], by rw [k3], by rw [k3]⟩) (fun i _ => by rw [k3]) (fun n hn => ⟨k2 _ _ (by omega), fun i => by rw [k3], fun i => by rw [k3]⟩) ef
  refine ⟨σ', τ', k1, r1, k2, k3, r2, r3, ?_⟩
  rcases r4 with ⟨h5, q1, q2, q3⟩ | ⟨h5, q1, q2, q3⟩
  · refine ⟨(pl + 1) % 6, sv + 1, fun j => if j = sv then nb0 else N j, fun j => if j = sv then ni0 else I j, fun j => if j = sv then bu0 else U j, fun j => if j = sv then sz0 else S j, Nat.mod_lt _ (by decide), by omega, k4, by rw [k5, if_pos h5], q1, fun j hj => ?_⟩
    by_cases e : j = sv
    · subst e
      simp only [if_true]
      refine ⟨?_, h0, fun j' a b => ?_⟩
      · rw [show ((pl + 1) % 6 + 6 - (j + 1) + j) % 6 = pl by omega]
        exact mv W (by omega) (fun i hi => by rw [q3 i hi, hf i hi])
      · rw [if_pos (by omega)]; exact Nat.le_refl _
    · obtain ⟨b1, b2, b3⟩ := g6 j (by omega)
      simp only [if_neg e]
      refine ⟨?_, b2, fun j' a b => ?_⟩
      · rw [show ((pl + 1) % 6 + 6 - (sv + 1) + j) % 6 = (pl + 6 - sv + j) % 6 by omega]
        exact mv b1 (by omega) (fun i hi => q2 _ (by omega))
      · by_cases e2 : j' = sv
        · rw [if_pos e2]; exact hI j (by omega)
        · rw [if_neg e2]; exact b3 j' a (by omega)
  · subst h5
    refine ⟨(pl + 1) % 6, 5, fun j => if j = 4 then nb0 else N (j + 1), fun j => if j = 4 then ni0 else I (j + 1), fun j => if j = 4 then bu0 else U (j + 1), fun j => if j = 4 then sz0 else S (j + 1), Nat.mod_lt _ (by decide), by omega, k4, by rw [k5, if_neg (by omega)], q1, fun j hj => ?_⟩
    by_cases e : j = 4
    · subst e
      simp only [if_true]
      refine ⟨?_, h0, fun j' a b => ?_⟩
      · rw [show ((pl + 1) % 6 + 6 - 5 + 4) % 6 = pl by omega]
        exact mv W (by omega) (fun i hi => by rw [q3 i hi, hf i hi])
      · rw [if_pos (by omega)]; exact Nat.le_refl _
    · obtain ⟨b1, b2, b3⟩ := g6 (j + 1) (by omega)
      simp only [if_neg e]
      refine ⟨?_, b2, fun j' a b => ?_⟩
      · rw [show ((pl + 1) % 6 + 6 - 5 + j) % 6 = (pl + 6 - 5 + (j + 1)) % 6 by omega]
        exact mv b1 (by omega) (fun i hi => by
          show gM τ' 3 (1219 * j + i) = gM τ 3 (1219 * (j + 1) + i)
          rw [q2 _ (by omega)]
          exact congrArg _ (by omega))
      · by_cases e2 : j' = 4
        · rw [if_pos e2]; exact hI (j + 1) (by omega)
        · rw [if_neg e2]; exact b3 (j' + 1) (by omega) (by omega)
/-! THE TALLY -/
def gTl (n : Nat) (σ τ : gS) : Prop := (∀ k, k < 3 → ∃ a, a ≤ n ∧ gI σ 96 (k + 1) = nI a ∧ gM τ 4 k = nI a) ∧ ∃ w : Nat → Nat, (∀ k, 1 ≤ k → k ≤ 9 → gM σ 97 k = nI (w k) ∧ gM τ 5 k = nI (w k)) ∧ gM τ 5 0 = nI (w 1 + w 2 + w 3 + w 4 + w 5 + w 6 + w 7 + w 8 + w 9) ∧ w 1 + w 2 + w 3 + w 4 + w 5 + w 6 + w 7 + w 8 + w 9 ≤ n
theorem gTl.mono {n m : Nat} {σ τ : gS} (h : gTl n σ τ) (hm : n ≤ m) : gTl m σ τ := by
  obtain ⟨h1, w, h2, h3, h4⟩ := h
  refine ⟨fun k hk => ?_, w, h2, h3, by omega⟩
  obtain ⟨a, a1, a2⟩ := h1 k hk
  exact ⟨a, by omega, a2⟩
theorem gTl.cg {n : Nat} {σ τ σ' τ' : gS} (h : gTl n σ τ) (e1 : ∀ j, gI σ' 96 j = gI σ 96 j) (e2 : gM σ' 97 = gM σ 97) (e4 : gM τ' 4 = gM τ 4) (e5 : gM τ' 5 = gM τ 5) : gTl n σ' τ' := by
  unfold gTl
  rw [e2, e4, e5]
  obtain ⟨h1, h2⟩ := h
  refine ⟨fun k hk => ?_, h2⟩
  rw [e1]; exact h1 k hk
theorem gTl.bump {n : Nat} {σ τ : gS} (h : gTl n σ τ) {k : Nat} (hk : k < 3) : gTl (n + 1) (sI σ 96 (k + 1) (gI σ 96 (k + 1) + (1 : Int32))) (sM τ 4 k (gM τ 4 k + (1 : Int32))) := by
  obtain ⟨h1, w, h2, h3, h4⟩ := h
  refine ⟨fun j hj => ?_, w, fun i h5 h6 => ?_, ?_, by omega⟩
  · obtain ⟨a, a1, a2, a3⟩ := h1 j hj
    by_cases e : j = k
    · subst e
      refine ⟨a + 1, by omega, ?_, ?_⟩
      · rw [gI_sI, if_pos (by omega), a2, nI1]
      · rw [gMs_s, upd_s, a3, nI1]
    · refine ⟨a, by omega, ?_, ?_⟩
      · rw [gI_sI, if_neg (by omega)]; exact a2
      · rw [gMs_s, upd_n e]; exact a3
  · rw [gMI, gMs_n (by decide)]; exact h2 i h5 h6
  · rw [gMs_n (by decide)]; exact h3
theorem gTl.why {n : Nat} {σ τ : gS} (h : gTl n σ τ) {k : Nat} (k1 : 1 ≤ k) (k9 : k ≤ 9) : gTl (n + 1) (sM σ 97 k (gM σ 97 k + (1 : Int32))) (sM (sM τ 5 k (gM τ 5 k + (1 : Int32))) 5 0 (gM (sM τ 5 k (gM τ 5 k + (1 : Int32))) 5 0 + (1 : Int32))) := by
  obtain ⟨h1, w, h2, h3, h4⟩ := h
  have hs : ∀ w' : Nat → Nat, (∀ i, w' i = if i = k then w k + 1 else w i) → w' 1 + w' 2 + w' 3 + w' 4 + w' 5 + w' 6 + w' 7 + w' 8 + w' 9 = w 1 + w 2 + w 3 + w 4 + w 5 + w 6 + w 7 + w 8 + w 9 + 1 := by
    intro w' e
    rw [e 1, e 2, e 3, e 4, e 5, e 6, e 7, e 8, e 9]
    rcases (show k = 1 ∨ k = 2 ∨ k = 3 ∨ k = 4 ∨ k = 5 ∨ k = 6 ∨ k = 7 ∨ k = 8 ∨ k = 9 by omega) with rfl | rfl | rfl | rfl | rfl | rfl | rfl | rfl | rfl <;> simp <;> omega
  refine ⟨fun j hj => ?_, fun i => if i = k then w k + 1 else w i, fun i h5 h6 => ?_, ?_, ?_⟩
  · obtain ⟨a, a1, a2, a3⟩ := h1 j hj
    exact ⟨a, by omega, a2, by rw [gMs_n (by decide), gMs_n (by decide)]; exact a3⟩
  · obtain ⟨b1, b2⟩ := h2 i h5 h6
    rw [gMs_s, gMs_s, gMs_s, upd_n (show i ≠ 0 by omega)]
    by_cases e : i = k
    · subst e
      simp only [if_true]
      rw [upd_s, upd_s, b1, b2, nI1]
      exact ⟨rfl, rfl⟩
    · simp only [if_neg e]
      rw [upd_n e, upd_n e]
      exact ⟨b1, b2⟩
  · rw [gMs_s, upd_s, gMs_s, upd_n (show 0 ≠ k by omega), h3, nI1]
    exact congrArg nI (hs _ (fun _ => rfl)).symm
  · rw [hs _ (fun _ => rfl)]; omega
theorem why_back {k : Nat} (k1 : 1 ≤ k) (k9 : k ≤ 9) : (-10 : Int32) - (-10 - nI k) = nI k := by
  rcases (show k = 1 ∨ k = 2 ∨ k = 3 ∨ k = 4 ∨ k = 5 ∨ k = 6 ∨ k = 7 ∨ k = 8 ∨ k = 9 by omega) with rfl | rfl | rfl | rfl | rfl | rfl | rfl | rfl | rfl <;> decide +kernel
theorem far_n {n : Nat} (hn : n < 2 ^ 31) : ((-10 : Int32) - nI n) < 1 ∨ 9 < ((-10 : Int32) - nI n) := by
  by_cases h : n ≤ 2147483638
  · left
    rw [lt_i, Int32.toInt_sub, im10, nI_toInt hn, i1, Int.bmod_eq_of_le (by omega) (by omega)]
    omega
  · right
    obtain ⟨m, hm, rfl⟩ : ∃ m, m < 9 ∧ n = 2147483639 + m := ⟨n - 2147483639, by omega, by omega⟩
    rcases (show m = 0 ∨ m = 1 ∨ m = 2 ∨ m = 3 ∨ m = 4 ∨ m = 5 ∨ m = 6 ∨ m = 7 ∨ m = 8 by omega) with rfl | rfl | rfl | rfl | rfl | rfl | rfl | rfl | rfl <;> decide +kernel
theorem ne_lit {n : Nat} (hn : n < 2 ^ 31) {x : Int32} (h : x.toInt < 0) : ¬ nI n = x := fun q => by
  rw [← q, nI_toInt hn] at h
  omega
/-- a number is told: no tally changes -/
theorem noted_n {σ : gS} {n : Nat} (hn : n < 2 ^ 31) : qT_noted σ (nI n) = some (nI n, σ) := by
  unfold qT_noted
  rw [if_neg (ne_lit hn (by decide)), if_neg (ne_lit hn (by decide)), if_neg (ne_lit hn (by decide))]
  rcases far_n hn with h | h
  · rw [if_pos h]
  · by_cases h2 : ((-10 : Int32) - nI n) < 1
    · rw [if_pos h2]
    · rw [if_neg h2, if_pos h]
theorem noted_c {n : Nat} {σ τ : gS} (h : gTl n σ τ) {r : Int32} (hr : okr r) : ∃ σ' τ', qT_noted σ r = some (r, σ') ∧ qM_counted τ r = some (r, τ') ∧ gTl (n + 1) σ' τ' ∧ (∀ a j, a ≠ 96 → gI σ' a j = gI σ a j) ∧ (∀ a, a ≠ 97 → gM σ' a = gM σ a) ∧ (∀ a j, gI τ' a j = gI τ a j) ∧ ∀ a, a ≠ 4 → a ≠ 5 → gM τ' a = gM τ a := by
  rcases hr with ⟨m, hm, rfl⟩ | rfl | rfl | ⟨k, h1, h2, rfl⟩
  · refine ⟨σ, τ, noted_n hm, ?_, h.mono (by omega), fun _ _ _ => rfl, fun _ _ => rfl, fun _ _ => rfl, fun _ _ _ => rfl⟩
    unfold qM_counted
    rw [if_neg (ne_lit hm (by decide)), if_neg (ne_lit hm (by decide)), if_pos (show (-10 : Int32) < nI m by rw [lt_i, im10, nI_toInt hm]; omega)]
  · refine ⟨_, _, rfl, rfl, h.bump (k := 0) (by decide), fun a j ha => ?_, fun _ _ => rfl, fun _ _ => rfl, fun a h1 h2 => ?_⟩
    · rw [gI_sI, if_neg (by omega)]
    · rw [gMs_n h1]
  · refine ⟨_, _, rfl, rfl, h.bump (k := 2) (by decide), fun a j ha => ?_, fun _ _ => rfl, fun _ _ => rfl, fun a h1 h2 => ?_⟩
    · rw [gI_sI, if_neg (by omega)]
    · rw [gMs_n h1]
  · have hi := why_i (k := k) (by omega)
    have hne : ∀ x : Int32, -10 ≤ x.toInt → ¬ (-10 - nI k : Int32) = x := fun x hx q => by
      rw [q] at hi
      omega
    refine ⟨_, _, ?_, ?_, h.why h1 h2, fun _ _ _ => rfl, fun a ha => ?_, fun _ _ => rfl, fun a _ h5 => ?_⟩
    · unfold qT_noted
      rw [if_neg (hne _ (by decide)), if_neg (hne _ (by decide)), if_neg (hne _ (by decide)), why_back h1 h2, if_neg (show ¬ nI k < 1 by rw [lt_i, nI_toInt (by omega), i1]; omega), if_neg (show ¬ 9 < nI k by rw [lt_i, nI_toInt (by omega), i9]; omega), gob_n (by omega) (by omega), nI_clamp (by omega)]
    · unfold qM_counted
      rw [if_neg (hne _ (by decide)), if_neg (hne _ (by decide)), if_neg (show ¬ (-10 : Int32) < -10 - nI k by rw [lt_i, im10, hi]; omega), why_back h1 h2, gob_n (by omega) (by omega), nI_clamp (by omega)]
    · rw [gMs_n ha]
    · rw [gMs_n h5, gMs_n h5]
