/-! THE SAVED STATES: the ring of the class, the shifted row of the reference -/
theorem gMA_s (σ : gS) (k : Nat) (f : Nat → Int32) : gM (sA σ k f) k = f := by
  funext i
  rw [gM_sA, if_pos rfl]
theorem gMA_n {σ : gS} {k : Nat} {f : Nat → Int32} {a : Nat} (h : a ≠ k) : gM (sA σ k f) a = gM σ a := by
  funext i
  rw [gM_sA, if_neg h]
theorem gnm_b {α : Type} (x : gS) (f : gS → α) : gnm x f = f x := rfl
theorem cp_step (σ : gS) (c d n : Nat) : ∃ σ', sA σ c (va_cpy (gM σ d) (gM σ c) 0 0 n) = σ' ∧ (∀ a j, gI σ' a j = gI σ a j) ∧ (∀ a, a ≠ c → gM σ' a = gM σ a) ∧ ∀ i, i < n → gM σ' c i = gM σ d i := by
  refine ⟨_, rfl, fun _ _ => rfl, fun a h => gMA_n h, fun i hi => ?_⟩
  rw [gMA_s, pk_cpy_in (Nat.zero_le _) (by omega)]
  exact congrArg _ (by omega)
theorem become_c {σ : gS} {k k2 : Nat} (hd : k + 8 ≤ k2 ∨ k2 + 8 ≤ k) : ∃ σ', qS_become σ k k2 = some σ' ∧ (∀ a j, a ≠ k → gI σ' a j = gI σ a j) ∧ gI σ' k 7 = gI σ k2 7 ∧ gI σ' k 8 = gI σ k2 8 ∧ gI σ' k 9 = gI σ k2 9 ∧ (∀ a, (a < k + 1 ∨ k + 8 ≤ a) → gM σ' a = gM σ a) ∧
    (∀ i, i < 6 → gM σ' (k + 1) i = gM σ (k2 + 1) i ∧ gM σ' (k + 2) i = gM σ (k2 + 2) i ∧ gM σ' (k + 3) i = gM σ (k2 + 3) i) ∧ (∀ i, i < 10 → gM σ' (k + 4) i = gM σ (k2 + 4) i ∧ gM σ' (k + 5) i = gM σ (k2 + 5) i ∧ gM σ' (k + 6) i = gM σ (k2 + 6) i) ∧ ∀ i, i < 120 → gM σ' (k + 7) i = gM σ (k2 + 7) i := by
  unfold qS_become
  obtain ⟨σ1, e1, a1, b1, c1⟩ := cp_step σ (k + 1) (k2 + 1) 6
  rw [e1, gnm_b]
  obtain ⟨σ2, e2, a2, b2, c2⟩ := cp_step σ1 (k + 2) (k2 + 2) 6
  rw [e2, gnm_b]
  obtain ⟨σ3, e3, a3, b3, c3⟩ := cp_step σ2 (k + 3) (k2 + 3) 6
  rw [e3, gnm_b]
  obtain ⟨σ4, e4, a4, b4, c4⟩ := cp_step σ3 (k + 4) (k2 + 4) 10
  rw [e4, gnm_b]
  obtain ⟨σ5, e5, a5, b5, c5⟩ := cp_step σ4 (k + 5) (k2 + 5) 10
  rw [e5, gnm_b]
  obtain ⟨σ6, e6, a6, b6, c6⟩ := cp_step σ5 (k + 6) (k2 + 6) 10
  rw [e6, gnm_b]
  obtain ⟨σ7, e7, a7, b7, c7⟩ := cp_step σ6 (k + 7) (k2 + 7) 120
  rw [e7, gnm_b]
  have gi : ∀ a j, gI σ7 a j = gI σ a j := fun a j => by rw [a7, a6, a5, a4, a3, a2, a1]
  refine ⟨_, rfl, fun a j h => ?_, ?_, ?_, ?_, fun a h => ?_, fun i hi => ⟨?_, ?_, ?_⟩, fun i hi => ⟨?_, ?_, ?_⟩, fun i hi => ?_⟩
  · rw [gI_sI, if_neg (by omega), gI_sI, if_neg (by omega), gI_sI, if_neg (by omega), gi]
  · rw [gI_sI, if_neg (by omega), gI_sI, if_neg (by omega), gI_sI, if_pos (by omega), gi]
  · rw [gI_sI, if_neg (by omega), gI_sI, if_pos (by omega), gI_sI, if_neg (by omega), gi]
  · rw [gI_sI, if_pos (by omega), gI_sI, if_neg (by omega), gI_sI, if_neg (by omega), gi]
  · rw [gMI, gMI, gMI, b7 _ (by omega), b6 _ (by omega), b5 _ (by omega), b4 _ (by omega), b3 _ (by omega), b2 _ (by omega), b1 _ (by omega)]
  · rw [gMI, gMI, gMI, b7 _ (by omega), b6 _ (by omega), b5 _ (by omega), b4 _ (by omega), b3 _ (by omega), b2 _ (by omega), c1 i hi]
  · rw [gMI, gMI, gMI, b7 _ (by omega), b6 _ (by omega), b5 _ (by omega), b4 _ (by omega), b3 _ (by omega), c2 i hi, b1 _ (by omega)]
  · rw [gMI, gMI, gMI, b7 _ (by omega), b6 _ (by omega), b5 _ (by omega), b4 _ (by omega), c3 i hi, b2 _ (by omega), b1 _ (by omega)]
  · rw [gMI, gMI, gMI, b7 _ (by omega), b6 _ (by omega), b5 _ (by omega), c4 i hi, b3 _ (by omega), b2 _ (by omega), b1 _ (by omega)]
  · rw [gMI, gMI, gMI, b7 _ (by omega), b6 _ (by omega), c5 i hi, b4 _ (by omega), b3 _ (by omega), b2 _ (by omega), b1 _ (by omega)]
  · rw [gMI, gMI, gMI, b7 _ (by omega), c6 i hi, b5 _ (by omega), b4 _ (by omega), b3 _ (by omega), b2 _ (by omega), b1 _ (by omega)]
  · rw [gMI, gMI, gMI, c7 i hi, b6 _ (by omega), b5 _ (by omega), b4 _ (by omega), b3 _ (by omega), b2 _ (by omega), b1 _ (by omega)]
/-- a state with its cells elsewhere, or in another store -/
theorem Rc_at {σ σ' : gS} {k k' : Nat} {f f' : Nat → Int32} {nb ni bu : Nat} {sz : Nat → Nat} (H : Rc σ k f nb ni bu sz) (i7 : gI σ' k' 7 = gI σ k 7) (i8 : gI σ' k' 8 = gI σ k 8) (i9 : gI σ' k' 9 = gI σ k 9)
    (m1 : ∀ i, i < 6 → gM σ' (k' + 1) i = gM σ (k + 1) i ∧ gM σ' (k' + 2) i = gM σ (k + 2) i ∧ gM σ' (k' + 3) i = gM σ (k + 3) i) (m2 : ∀ i, i < 10 → gM σ' (k' + 4) i = gM σ (k + 4) i ∧ gM σ' (k' + 5) i = gM σ (k + 5) i ∧ gM σ' (k' + 6) i = gM σ (k + 6) i) (m3 : ∀ i, i < 120 → gM σ' (k' + 7) i = gM σ (k + 7) i)
    (im : ∀ n, n < ni → gI σ' (11 + 3 * n) 2 = gI σ (11 + 3 * n) 2 ∧ (∀ i, gM σ' (11 + 3 * n + 1) i = gM σ (11 + 3 * n + 1) i) ∧ ∀ i, gM σ' (11 + 3 * n + 2) i = gM σ (11 + 3 * n + 2) i) (ef : ∀ i, i < 1219 → f' i = f i) : Rc σ' k' f' nb ni bu sz := by
  obtain ⟨h1, h2, h3, h4, h5⟩ := H
  have hni := h4.2.1
  refine ⟨i7.trans h1, i8.trans h2, i9.trans h3, Rs_congr h4 (fun r hr => m1 r hr) (fun p hp => m2 p hp) m3 (fun i hi => ef i (by omega)), fun n hn => ?_⟩
  obtain ⟨a, b, c⟩ := im n hn
  exact Rim_congr (h5 n hn) a (fun j _ => b j) (fun j _ => c j) (fun j hj => ef _ (by omega))
/-- a saved state under a step that leaves it alone -/
theorem Rc_fx {σ σ' : gS} {k nj : Nat} {f f' : Nat → Int32} {nb ni bu : Nat} {sz : Nat → Nat} (H : Rc σ k f nb ni bu sz) (hk : 42 ≤ k) (F : FX nj σ σ') (h : ni ≤ nj) (ef : ∀ i, i < 1219 → f' i = f i) : Rc σ' k f' nb ni bu sz :=
  Rc_at H (F.1 _ _ hk) (F.1 _ _ hk) (F.1 _ _ hk) (fun i _ => ⟨F.2.1 _ i (by omega), F.2.1 _ i (by omega), F.2.1 _ i (by omega)⟩) (fun i _ => ⟨F.2.1 _ i (by omega), F.2.1 _ i (by omega), F.2.1 _ i (by omega)⟩) (fun i _ => F.2.1 _ i (by omega)) (fun n hn => F.2.2 n (by omega)) ef
def gRg (σ τ : gS) (ni pl sv : Nat) (N I U : Nat → Nat) (S : Nat → Nat → Nat) : Prop :=
  pl < 6 ∧ sv ≤ 5 ∧ gI σ 46 1 = nI pl ∧ gI σ 46 2 = nI sv ∧ gI τ 0 3 = nI sv ∧ ∀ j, j < sv → Rc σ (48 + 8 * ((pl + 6 - sv + j) % 6)) (fun i => gM τ 3 (1219 * j + i)) (N j) (I j) (U j) (S j) ∧ I j ≤ ni ∧ ∀ j', j ≤ j' → j' < sv → I j ≤ I j'
theorem gRg.fx {σ τ σ' τ' : gS} {ni ni' pl sv : Nat} {N I U : Nat → Nat} {S : Nat → Nat → Nat} (h : gRg σ τ ni pl sv N I U S) (F : FX ni σ σ') (hn : ni ≤ ni') (e3 : gI τ' 0 3 = gI τ 0 3) (m3 : gM τ' 3 = gM τ 3) : gRg σ' τ' ni' pl sv N I U S := by
  obtain ⟨h1, h2, h3, h4, h5, h6⟩ := h
  refine ⟨h1, h2, (F.1 46 1 (by decide)).trans h3, (F.1 46 2 (by decide)).trans h4, e3.trans h5, fun j hj => ?_⟩
  obtain ⟨a, b, c⟩ := h6 j hj
  exact ⟨Rc_fx a (by omega) F b (fun i _ => by rw [m3]), by omega, c⟩
theorem wait_c {σ : gS} {pl : Nat} (h : pl < 6) (e : gI σ 46 1 = nI pl) : qH_waiting σ = some (48 + 8 * pl) := by
  unfold qH_waiting qJ_floorMod gnz
  rw [e, if_neg (show ¬ (6 : Int32) = 0 by decide), if_pos (xor_nn (by rw [nI_toInt (by omega)]; omega) (by decide)), show (6 : Int32) = nI 6 from rfl, pk_rem (by omega) (by decide) (by decide), b_s, Nat.mod_eq_of_lt h]
  refine (gor_n (d := 48 + 8 * pl) ?_ (by omega)).trans rfl
  rcases (show pl = 0 ∨ pl = 1 ∨ pl = 2 ∨ pl = 3 ∨ pl = 4 ∨ pl = 5 by omega) with rfl | rfl | rfl | rfl | rfl | rfl <;> rfl
/-- the state at hand is staged -/
theorem stage_c {σ τ : gS} {nb ni bu pl sv : Nat} {sz : Nat → Nat} {N I U : Nat → Nat} {S : Nat → Nat → Nat} (H : Rc1 σ (gM τ 1) nb ni bu sz) (G : gRg σ τ ni pl sv N I U S) :
    ∃ σ', qH_stage σ = some σ' ∧ Rc1 σ' (gM τ 1) nb ni bu sz ∧ gRg σ' τ ni pl sv N I U S ∧ Rc σ' (48 + 8 * pl) (gM τ 1) nb ni bu sz ∧ (∀ a j, a < 48 ∨ 96 ≤ a → gI σ' a j = gI σ a j) ∧ ∀ a, a < 48 ∨ 96 ≤ a → gM σ' a = gM σ a := by
  obtain ⟨g1, g2, g3, g4, g5, g6⟩ := G
  have hni := Rc_ni H
  unfold qH_stage
  rw [wait_c g1 g3, b_s, g_stn (by omega)]
  obtain ⟨σ', e, a1, a2, a3, a4, a5, a6, a7, a8⟩ := become_c (σ := σ) (k := 48 + 8 * pl) (k2 := 1) (by omega)
  rw [e, b_s]
  have im : ∀ n, n < 9 → gI σ' (11 + 3 * n) 2 = gI σ (11 + 3 * n) 2 ∧ (∀ i, gM σ' (11 + 3 * n + 1) i = gM σ (11 + 3 * n + 1) i) ∧ ∀ i, gM σ' (11 + 3 * n + 2) i = gM σ (11 + 3 * n + 2) i := fun n hn => ⟨a1 _ _ (by omega), fun i => by rw [a5 _ (by omega)], fun i => by rw [a5 _ (by omega)]⟩
  have hl : ∀ a, (a < 48 + 8 * pl + 1 ∨ 48 + 8 * pl + 8 ≤ a) → ∀ i, gM σ' a i = gM σ a i := fun a h i => by rw [a5 a h]
  refine ⟨σ', rfl, ?_, ⟨g1, g2, (a1 46 1 (by omega)).trans g3, (a1 46 2 (by omega)).trans g4, g5, fun j hj => ?_⟩, ?_, fun a j h => a1 a j (by omega), fun a h => a5 a (by omega)⟩
  · exact Rc_at H (a1 _ _ (by omega)) (a1 _ _ (by omega)) (a1 _ _ (by omega)) (fun i _ => ⟨hl _ (by omega) i, hl _ (by omega) i, hl _ (by omega) i⟩) (fun i _ => ⟨hl _ (by omega) i, hl _ (by omega) i, hl _ (by omega) i⟩) (fun i _ => hl _ (by omega) i) (fun n hn => im n (by omega)) (fun _ _ => rfl)
  · obtain ⟨b1, b2, b3⟩ := g6 j hj
    have hne : (pl + 6 - sv + j) % 6 ≠ pl := by omega
    have hI := b1.2.2.2.1.2.1
    refine ⟨Rc_at b1 (a1 _ _ (by omega)) (a1 _ _ (by omega)) (a1 _ _ (by omega)) (fun i _ => ⟨hl _ (by omega) i, hl _ (by omega) i, hl _ (by omega) i⟩) (fun i _ => ⟨hl _ (by omega) i, hl _ (by omega) i, hl _ (by omega) i⟩) (fun i _ => hl _ (by omega) i) (fun n hn => im n (by omega)) (fun _ _ => rfl), b2, b3⟩
  · exact Rc_at H a2 a3 a4 a6 a7 a8 (fun n hn => im n (by omega)) (fun _ _ => rfl)
