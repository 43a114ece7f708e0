/-! THE RELATION of the class's state and the reference's row -/
def cPt (x : Int32) : Prop := ¬ x < 1000
/-- a byte's code: nothing, a number, a second half, the first half of a pointer -/
def cOk (nb : Nat) (sz : Nat → Nat) (x : Int32) : Prop := x = -1 ∨ (∃ v, v < 256 ∧ x = nI v) ∨ x = 999 ∨ ∃ b o, b < nb ∧ o ≤ sz b ∧ x = nI (1000 + 100 * b + o)
/-- a block's bytes: halves stand in pairs -/
def bOk (nb : Nat) (sz : Nat → Nat) (n : Nat) (g : Nat → Int32) : Prop := ∀ j, j < n → cOk nb sz (g j) ∧ (g j = 999 → ∃ i, j = i + 1 ∧ cPt (g i)) ∧ (cPt (g j) → j + 1 < n ∧ g (j + 1) = 999)
def Rg (nb : Nat) (sz : Nat → Nat) (k1 v1 o1 k2 v2 o2 : Int32) : Prop :=
  (k1 = 0 ∧ k2 = 0) ∨ (k1 = 1 ∧ k2 = 1 ∧ ∃ v, v < 65536 ∧ v1 = nI v ∧ v2 = nI v) ∨ (k1 = 2 ∧ k2 = 2 ∧ ∃ b o, b < nb ∧ o ≤ sz b ∧ v1 = nI b ∧ v2 = nI b ∧ o1 = nI o ∧ o2 = nI o)
def Rb (nb : Nat) (sz : Nat → Nat) (n : Nat) (z l c : Int32) (ce g : Nat → Int32) : Prop :=
  1 ≤ n ∧ n ≤ 12 ∧ z = nI n ∧ g 0 = nI n ∧ (∃ a, a ≤ 1 ∧ l = nI a ∧ g 1 = nI a) ∧ (∃ a, a ≤ 1 ∧ c = nI a ∧ g 2 = nI a) ∧ (∀ j, j < 12 → ce j = if j < n then g (3 + j) else -1) ∧ bOk nb sz n (fun j => g (3 + j))
def Rs (nb ni bu : Nat) (sz : Nat → Nat) (kd va of zs lv fz ce f : Nat → Int32) : Prop :=
  nb ≤ 10 ∧ ni ≤ 8 ∧ 1 ≤ bu ∧ bu ≤ 60 ∧ f 0 = nI nb ∧ f 170 = nI ni ∧ f 169 = nI bu ∧
  (∀ r, r < 6 → Rg nb sz (kd r) (va r) (of r) (f (151 + 3 * r)) (f (151 + 3 * r + 1)) (f (151 + 3 * r + 2))) ∧
  (∀ p, p < nb → Rb nb sz (sz p) (zs p) (lv p) (fz p) (fun j => ce (p * 12 + j)) (fun j => f (1 + 15 * p + j)))
/-- an image in the album and its row -/
def Rim (σ : gS) (k : Nat) (h : Nat → Int32) : Prop := ∃ c, 1 ≤ c ∧ c ≤ 10 ∧ gI σ k 2 = nI c ∧ h 0 = nI c ∧ ∀ n, n < 10 →
  (n < c → ∃ s, 1 ≤ s ∧ s ≤ 12 ∧ gM σ (k + 1) n = nI s ∧ h (1 + n) = nI s ∧ ∀ j, j < 12 → (j < s → gM σ (k + 2) (n * 12 + j) = h (11 + 12 * n + j)) ∧ (s ≤ j → gM σ (k + 2) (n * 12 + j) = -1 ∧ h (11 + 12 * n + j) = 0)) ∧
  (c ≤ n → h (1 + n) = 0 ∧ ∀ j, j < 12 → h (11 + 12 * n + j) = 0)
def Rims (σ : gS) (ni : Nat) (f : Nat → Int32) : Prop := ∀ i, i < ni → Rim σ (11 + 3 * i) (fun j => f (171 + 131 * i + j))
/-- a state at cell k and its row -/
def Rc (σ : gS) (k : Nat) (f : Nat → Int32) (nb ni bu : Nat) (sz : Nat → Nat) : Prop :=
  gI σ k 7 = nI nb ∧ gI σ k 8 = nI ni ∧ gI σ k 9 = nI bu ∧ Rs nb ni bu sz (gM σ (k + 1)) (gM σ (k + 2)) (gM σ (k + 3)) (gM σ (k + 4)) (gM σ (k + 5)) (gM σ (k + 6)) (gM σ (k + 7)) f ∧ Rims σ ni f
abbrev Rc1 (σ : gS) (f : Nat → Int32) (nb ni bu : Nat) (sz : Nat → Nat) : Prop := Rc σ 1 f nb ni bu sz
theorem Rim_congr {σ σ' : gS} {k : Nat} {h h' : Nat → Int32} (H : Rim σ k h) (e1 : gI σ' k 2 = gI σ k 2) (e2 : ∀ i, i < 10 → gM σ' (k + 1) i = gM σ (k + 1) i) (e3 : ∀ i, i < 120 → gM σ' (k + 2) i = gM σ (k + 2) i) (e4 : ∀ i, i < 131 → h' i = h i) : Rim σ' k h' := by
  obtain ⟨c, h1, h2, h3, h4, h5⟩ := H
  refine ⟨c, h1, h2, by rw [e1]; exact h3, by rw [e4 0 (by omega)]; exact h4, fun n hn => ?_⟩
  obtain ⟨a, b⟩ := h5 n hn
  refine ⟨fun hc => ?_, fun hc => ?_⟩
  · obtain ⟨s, s1, s2, s3, s4, s5⟩ := a hc
    refine ⟨s, s1, s2, by rw [e2 n hn]; exact s3, by rw [e4 (1 + n) (by omega)]; exact s4, fun j hj => ?_⟩
    rw [e3 _ (by omega), e4 _ (by omega)]
    exact s5 j hj
  · obtain ⟨b1, b2⟩ := b hc
    refine ⟨by rw [e4 (1 + n) (by omega)]; exact b1, fun j hj => by rw [e4 _ (by omega)]; exact b2 j hj⟩
theorem Rb_congr {nb : Nat} {sz : Nat → Nat} {n : Nat} {z l c z' l' c' : Int32} {ce g ce' g' : Nat → Int32} (H : Rb nb sz n z l c ce g) (ez : z' = z) (el : l' = l) (ec : c' = c) (e1 : ∀ j, j < 12 → ce' j = ce j) (e2 : ∀ j, j < 15 → g' j = g j) : Rb nb sz n z' l' c' ce' g' := by
  subst ez; subst el; subst ec
  obtain ⟨q1, q2, q3, q4, q5, q6, q7, q8⟩ := H
  refine ⟨q1, q2, q3, by rw [e2 0 (by omega)]; exact q4, by rw [e2 1 (by omega)]; exact q5, by rw [e2 2 (by omega)]; exact q6, fun j hj => ?_, fun j hj => ?_⟩
  · rw [e1 j hj, q7 j hj, e2 (3 + j) (by omega)]
  · obtain ⟨r1, r2, r3⟩ := q8 j hj
    refine ⟨?_, fun h => ?_, fun h => ?_⟩
    · show cOk nb sz (g' (3 + j))
      rw [e2 (3 + j) (by omega)]; exact r1
    · have h : g' (3 + j) = 999 := h
      rw [e2 (3 + j) (by omega)] at h
      obtain ⟨i, hi, hp⟩ := r2 h
      refine ⟨i, hi, ?_⟩
      show cPt (g' (3 + i))
      rw [e2 (3 + i) (by omega)]; exact hp
    · have h : cPt (g' (3 + j)) := h
      rw [e2 (3 + j) (by omega)] at h
      obtain ⟨u1, u2⟩ := r3 h
      refine ⟨u1, ?_⟩
      show g' (3 + (j + 1)) = 999
      rw [e2 (3 + (j + 1)) (by omega)]; exact u2
theorem Rs_congr {nb ni bu : Nat} {sz : Nat → Nat} {kd va of zs lv fz ce f kd' va' of' zs' lv' fz' ce' f' : Nat → Int32} (H : Rs nb ni bu sz kd va of zs lv fz ce f)
    (e1 : ∀ r, r < 6 → kd' r = kd r ∧ va' r = va r ∧ of' r = of r) (e2 : ∀ p, p < 10 → zs' p = zs p ∧ lv' p = lv p ∧ fz' p = fz p) (e3 : ∀ i, i < 120 → ce' i = ce i) (e4 : ∀ i, i < 171 → f' i = f i) : Rs nb ni bu sz kd' va' of' zs' lv' fz' ce' f' := by
  obtain ⟨h1, h2, h3, h4, h5, h6, h7, h8, h9⟩ := H
  refine ⟨h1, h2, h3, h4, by rw [e4 0 (by omega)]; exact h5, by rw [e4 170 (by omega)]; exact h6, by rw [e4 169 (by omega)]; exact h7, fun r hr => ?_, fun p hp => ?_⟩
  · obtain ⟨a, b, c⟩ := e1 r hr
    rw [a, b, c, e4 _ (by omega), e4 _ (by omega), e4 _ (by omega)]
    exact h8 r hr
  · obtain ⟨a, b, c⟩ := e2 p (by omega)
    exact Rb_congr (h9 p hp) a b c (fun j hj => e3 _ (by omega)) (fun j hj => e4 _ (by omega))
/-- what an act leaves alone -/
def FX (ni : Nat) (σ σ' : gS) : Prop := (∀ k j, 42 ≤ k → gI σ' k j = gI σ k j) ∧ (∀ k i, 42 ≤ k → gM σ' k i = gM σ k i) ∧ ∀ n, n < ni → gI σ' (11 + 3 * n) 2 = gI σ (11 + 3 * n) 2 ∧ (∀ i, gM σ' (11 + 3 * n + 1) i = gM σ (11 + 3 * n + 1) i) ∧ ∀ i, gM σ' (11 + 3 * n + 2) i = gM σ (11 + 3 * n + 2) i
def FM (τ τ' : gS) : Prop := (∀ j, j ≠ 10 → gI τ' 0 j = gI τ 0 j) ∧ ∀ k i, k ≠ 1 → k ≠ 7 → k ≠ 8 → k ≠ 9 → gM τ' k i = gM τ k i
theorem FX.rf {ni : Nat} {σ : gS} : FX ni σ σ := ⟨fun _ _ _ => rfl, fun _ _ _ => rfl, fun _ _ => ⟨rfl, fun _ => rfl, fun _ => rfl⟩⟩
theorem FM.rf {τ : gS} : FM τ τ := ⟨fun _ _ => rfl, fun _ _ _ _ _ _ => rfl⟩
theorem FX.tr {ni nj : Nat} {σ σ1 σ2 : gS} (h1 : FX ni σ σ1) (h2 : FX nj σ1 σ2) (h : ni ≤ nj) : FX ni σ σ2 := by
  refine ⟨fun k j hk => (h2.1 k j hk).trans (h1.1 k j hk), fun k i hk => (h2.2.1 k i hk).trans (h1.2.1 k i hk), fun n hn => ?_⟩
  obtain ⟨a1, a2, a3⟩ := h1.2.2 n hn
  obtain ⟨b1, b2, b3⟩ := h2.2.2 n (by omega)
  exact ⟨b1.trans a1, fun i => (b2 i).trans (a2 i), fun i => (b3 i).trans (a3 i)⟩
theorem FM.tr {τ τ1 τ2 : gS} (h1 : FM τ τ1) (h2 : FM τ1 τ2) : FM τ τ2 := ⟨fun j a => (h2.1 j a).trans (h1.1 j a), fun k i a b c d => (h2.2 k i a b c d).trans (h1.2 k i a b c d)⟩
/-- the cells of the state, of the album's list and of the bytes that are carried: not the images -/
def FQ (σ σ' : gS) : Prop := (∀ k j, k ≠ 1 → k ≠ 9 → gI σ' k j = gI σ k j) ∧ ∀ k i, 9 ≤ k → k ≠ 38 → k ≠ 39 → k ≠ 41 → gM σ' k i = gM σ k i
theorem FQ.rf {σ : gS} : FQ σ σ := ⟨fun _ _ _ _ => rfl, fun _ _ _ _ _ _ => rfl⟩
theorem FQ.tr {σ σ1 σ2 : gS} (h1 : FQ σ σ1) (h2 : FQ σ1 σ2) : FQ σ σ2 := ⟨fun k j a b => (h2.1 k j a b).trans (h1.1 k j a b), fun k i a b c d => (h2.2 k i a b c d).trans (h1.2 k i a b c d)⟩
theorem FQ.fx {ni : Nat} {σ σ' : gS} (h : FQ σ σ') (hn : ni ≤ 9) : FX ni σ σ' := ⟨fun k j hk => h.1 k j (by omega) (by omega), fun k i hk => h.2 k i (by omega) (by omega) (by omega) (by omega), fun n hn => ⟨h.1 _ _ (by omega) (by omega), fun i => h.2 _ _ (by omega) (by omega) (by omega) (by omega), fun i => h.2 _ _ (by omega) (by omega) (by omega) (by omega)⟩⟩
theorem Rims_fx {σ σ' : gS} {ni : Nat} {f f' : Nat → Int32} (h : Rims σ ni f) (hn : ni ≤ 8) (hf : FX ni σ σ') (e : ∀ i, 171 ≤ i → i < 1219 → f' i = f i) : Rims σ' ni f' := by
  intro i hi
  obtain ⟨a, b, c⟩ := hf.2.2 i hi
  exact Rim_congr (h i hi) a (fun j _ => b j) (fun j _ => c j) (fun j hj => e _ (by omega) (by omega))
def okr (r : Int32) : Prop := (∃ n, n < 2 ^ 31 ∧ r = nI n) ∨ r = -2 ∨ r = -4 ∨ ∃ k, 1 ≤ k ∧ k ≤ 9 ∧ r = -10 - nI k
/-- both answer alike, and are alike then -/
def Res (σ τ : gS) (ni : Nat) (x m : Option (Int32 × gS)) : Prop := ∃ (r : Int32) (σ' τ' : gS) (nb' ni' bu' : Nat) (sz' : Nat → Nat), x = some (r, σ') ∧ m = some (r, τ') ∧ Rc1 σ' (gM τ' 1) nb' ni' bu' sz' ∧ ni ≤ ni' ∧ FX ni σ σ' ∧ FM τ τ' ∧ okr r ∧ gM τ' 1 169 = gM τ 1 169
theorem Res.no {σ τ : gS} {nb ni bu : Nat} {sz : Nat → Nat} (h : Rc1 σ (gM τ 1) nb ni bu sz) {r : Int32} (hr : okr r) : Res σ τ ni (some (r, σ)) (some (r, τ)) := ⟨r, σ, τ, nb, ni, bu, sz, rfl, rfl, h, Nat.le_refl _, FX.rf, FM.rf, hr, rfl⟩
theorem ok_n {n : Nat} (h : n < 2 ^ 31) : okr (nI n) := Or.inl ⟨n, h, rfl⟩
theorem ok_bad : okr (-2) := Or.inr (Or.inl rfl)
theorem ok_full : okr (-4) := Or.inr (Or.inr (Or.inl rfl))
theorem ok_why {k : Nat} (h1 : 1 ≤ k) (h2 : k ≤ 9) : okr (-10 - nI k) := Or.inr (Or.inr (Or.inr ⟨k, h1, h2, rfl⟩))
theorem gMs (σ : gS) (k i : Nat) (v : Int32) (k' : Nat) : gM (sM σ k i v) k' = if k' = k then upd (gM σ k) i v else gM σ k' := by
  funext j
  by_cases h : k' = k
  · subst h; simp [gM_sM, upd]
  · simp [gM_sM, h]
theorem gMs_s (σ : gS) (k i : Nat) (v : Int32) : gM (sM σ k i v) k = upd (gM σ k) i v := by rw [gMs, if_pos rfl]
theorem gMs_n {σ : gS} {k i : Nat} {v : Int32} {k' : Nat} (h : k' ≠ k) : gM (sM σ k i v) k' = gM σ k' := by rw [gMs, if_neg h]
theorem gMI (σ : gS) (k i : Nat) (v : Int32) (k' : Nat) : gM (sI σ k i v) k' = gM σ k' := rfl
theorem upd_s (f : Nat → Int32) (k : Nat) (x : Int32) : upd f k x k = x := by simp [upd]
theorem upd_n {f : Nat → Int32} {k j : Nat} {x : Int32} (h : j ≠ k) : upd f k x j = f j := by simp [upd, h]
/-- a register is filled -/
theorem Rs_reg {nb ni bu : Nat} {sz : Nat → Nat} {kd va of zs lv fz ce f : Nat → Int32} (H : Rs nb ni bu sz kd va of zs lv fz ce f) {r : Nat} (hr : r < 6) {a b c a' b' c' : Int32} (hg : Rg nb sz a b c a' b' c') :
    Rs nb ni bu sz (upd kd r a) (upd va r b) (upd of r c) zs lv fz ce (upd (upd (upd f (151 + 3 * r) a') (151 + 3 * r + 1) b') (151 + 3 * r + 2) c') := by
  have low : ∀ i, i < 151 ∨ 169 ≤ i → upd (upd (upd f (151 + 3 * r) a') (151 + 3 * r + 1) b') (151 + 3 * r + 2) c' i = f i := fun i hi => by
    rw [upd_n (by omega), upd_n (by omega), upd_n (by omega)]
  obtain ⟨h1, h2, h3, h4, h5, h6, h7, h8, h9⟩ := H
  refine ⟨h1, h2, h3, h4, by rw [low 0 (by omega)]; exact h5, by rw [low 170 (by omega)]; exact h6, by rw [low 169 (by omega)]; exact h7, fun q hq => ?_, fun p hp => ?_⟩
  · by_cases e : q = r
    · subst e
      rw [upd_s, upd_s, upd_s, upd_s, upd_n (show 151 + 3 * q + 1 ≠ 151 + 3 * q + 2 by omega), upd_s, upd_n (show 151 + 3 * q ≠ 151 + 3 * q + 2 by omega), upd_n (show 151 + 3 * q ≠ 151 + 3 * q + 1 by omega), upd_s]
      exact hg
    · rw [upd_n e, upd_n e, upd_n e, upd_n (show 151 + 3 * q + 2 ≠ 151 + 3 * r + 2 by omega), upd_n (show 151 + 3 * q + 2 ≠ 151 + 3 * r + 1 by omega), upd_n (show 151 + 3 * q + 2 ≠ 151 + 3 * r by omega), upd_n (show 151 + 3 * q + 1 ≠ 151 + 3 * r + 2 by omega), upd_n (show 151 + 3 * q + 1 ≠ 151 + 3 * r + 1 by omega), upd_n (show 151 + 3 * q + 1 ≠ 151 + 3 * r by omega), upd_n (show 151 + 3 * q ≠ 151 + 3 * r + 2 by omega), upd_n (show 151 + 3 * q ≠ 151 + 3 * r + 1 by omega), upd_n (show 151 + 3 * q ≠ 151 + 3 * r by omega)]
      exact h8 q hq
  · exact Rb_congr (h9 p hp) rfl rfl rfl (fun _ _ => rfl) (fun j hj => low _ (by omega))
/-- the class's registers and the reference's, filled alike -/
def xfill (σ : gS) (r : Nat) (a b c : Int32) : gS := sM (sM (sM σ 2 r a) 3 r b) 4 r c
def mfill (τ : gS) (r : Nat) (a b c : Int32) : gS := sM (sM (sM τ 1 (151 + 3 * r) a) 1 (151 + 3 * r + 1) b) 1 (151 + 3 * r + 2) c
theorem xfill_q {σ : gS} {r : Nat} {a b c : Int32} : FQ σ (xfill σ r a b c) := by
  refine ⟨fun k j _ _ => rfl, fun k i h1 h2 h3 h4 => ?_⟩
  unfold xfill
  rw [gMs_n (by omega), gMs_n (by omega), gMs_n (by omega)]
theorem mfill_m {τ : gS} {r : Nat} {a b c : Int32} : FM τ (mfill τ r a b c) := by
  refine ⟨fun j _ => rfl, fun k i h1 h2 h3 h4 => ?_⟩
  unfold mfill
  rw [gMs_n h1, gMs_n h1, gMs_n h1]
theorem mfill_row {τ : gS} {r : Nat} {a b c : Int32} : gM (mfill τ r a b c) 1 = upd (upd (upd (gM τ 1) (151 + 3 * r) a) (151 + 3 * r + 1) b) (151 + 3 * r + 2) c := by
  unfold mfill
  rw [gMs_s, gMs_s, gMs_s]
theorem Rc1_fill {σ τ : gS} {nb ni bu : Nat} {sz : Nat → Nat} (H : Rc1 σ (gM τ 1) nb ni bu sz) {r : Nat} (hr : r < 6) {a b c a' b' c' : Int32} (hg : Rg nb sz a b c a' b' c') : Rc1 (xfill σ r a b c) (gM (mfill τ r a' b' c') 1) nb ni bu sz := by
  obtain ⟨h1, h2, h3, h4, h5⟩ := H
  have hni : ni ≤ 8 := h4.2.1
  refine ⟨h1, h2, h3, ?_, ?_⟩
  · rw [mfill_row]
    have := Rs_reg h4 hr hg
    unfold xfill
    rw [gMs_n (show 1 + 1 ≠ 4 by decide), gMs_n (show 1 + 1 ≠ 3 by decide), gMs_s, gMs_n (show 1 + 2 ≠ 4 by decide), gMs_s, gMs_n (show 3 ≠ 2 by decide), gMs_s, gMs_n (show 4 ≠ 3 by decide), gMs_n (show 4 ≠ 2 by decide), gMs_n (show 1 + 4 ≠ 4 by decide), gMs_n (show 1 + 4 ≠ 3 by decide), gMs_n (show 1 + 4 ≠ 2 by decide), gMs_n (show 1 + 5 ≠ 4 by decide), gMs_n (show 1 + 5 ≠ 3 by decide), gMs_n (show 1 + 5 ≠ 2 by decide), gMs_n (show 1 + 6 ≠ 4 by decide), gMs_n (show 1 + 6 ≠ 3 by decide), gMs_n (show 1 + 6 ≠ 2 by decide), gMs_n (show 1 + 7 ≠ 4 by decide), gMs_n (show 1 + 7 ≠ 3 by decide), gMs_n (show 1 + 7 ≠ 2 by decide)]
    exact this
  · refine Rims_fx h5 hni (xfill_q.fx (by omega)) (fun i hi _ => ?_)
    rw [mfill_row, upd_n (by omega), upd_n (by omega), upd_n (by omega)]
theorem Res.fill {σ τ : gS} {nb ni bu : Nat} {sz : Nat → Nat} (H : Rc1 σ (gM τ 1) nb ni bu sz) {r : Nat} (hr : r < 6) {v a b c a' b' c' : Int32} (hg : Rg nb sz a b c a' b' c') (hv : okr v) : Res σ τ ni (some (v, xfill σ r a b c)) (some (v, mfill τ r a' b' c')) :=
  ⟨v, _, _, nb, ni, bu, sz, rfl, rfl, Rc1_fill H hr hg, Nat.le_refl _, xfill_q.fx (by have := H.2.2.2.1.2.1; omega), mfill_m, hv, by rw [mfill_row, upd_n (by omega), upd_n (by omega), upd_n (by omega)]⟩
