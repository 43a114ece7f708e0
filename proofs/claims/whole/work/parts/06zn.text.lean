/-! DOES: the text. Letters, the two readers' states -/
def gLt (c M : Nat) : Prop := (c = 98 ∧ M = 3) ∨ (c = 99 ∧ M = 2) ∨ (c = 100 ∧ M = 3) ∨ (c = 101 ∧ M = 1) ∨ (c = 106 ∧ M = 2) ∨ (c = 108 ∧ M = 3) ∨ (c = 109 ∧ M = 2) ∨ (c = 115 ∧ M = 2) ∨ (c = 118 ∧ M = 2) ∨ (c = 119 ∧ M = 3) ∨ (c = 122 ∧ M = 1)
theorem gLt.le {c M : Nat} (h : gLt c M) : 1 ≤ M ∧ M ≤ 3 ∧ 98 ≤ c ∧ c ≤ 122 := by
  unfold gLt at h
  omega
theorem gLt.op {c M : Nat} (h : gLt c M) : qP_operandsOf (nI c) = nI M ∧ qM_manyOf (nI c) = nI M := by
  rcases h with ⟨rfl, rfl⟩ | ⟨rfl, rfl⟩ | ⟨rfl, rfl⟩ | ⟨rfl, rfl⟩ | ⟨rfl, rfl⟩ | ⟨rfl, rfl⟩ | ⟨rfl, rfl⟩ | ⟨rfl, rfl⟩ | ⟨rfl, rfl⟩ | ⟨rfl, rfl⟩ | ⟨rfl, rfl⟩ <;> exact ⟨rfl, rfl⟩
theorem nI_ne {a b : Nat} (ha : a < 2 ^ 31) (hb : b < 2 ^ 31) (h : a ≠ b) : ¬ nI a = nI b := fun q => h (nI_inj ha hb q)
theorem let_c {c : Nat} (h : c < 128) : (∃ M, gLt c M) ∨ (qP_operandsOf (nI c) = 0 ∧ qM_manyOf (nI c) = -1) := by
  by_cases q : ∃ M, gLt c M
  · exact Or.inl q
  refine Or.inr ?_
  have e : ∀ k M, gLt k M → ¬ nI c = nI k := fun k M hk => nI_ne (by omega) (by have := hk.le; omega) (fun r => q ⟨M, r ▸ hk⟩)
  have e1 := e 98 3 (by unfold gLt; omega)
  have e2 := e 99 2 (by unfold gLt; omega)
  have e3 := e 100 3 (by unfold gLt; omega)
  have e4 := e 101 1 (by unfold gLt; omega)
  have e5 := e 106 2 (by unfold gLt; omega)
  have e6 := e 108 3 (by unfold gLt; omega)
  have e7 := e 109 2 (by unfold gLt; omega)
  have e8 := e 115 2 (by unfold gLt; omega)
  have e9 := e 118 2 (by unfold gLt; omega)
  have e10 := e 119 3 (by unfold gLt; omega)
  have e11 := e 122 1 (by unfold gLt; omega)
  constructor
  · unfold qP_operandsOf
    exact (if_neg e1).trans ((if_neg e2).trans ((if_neg e3).trans ((if_neg e4).trans ((if_neg e5).trans ((if_neg e6).trans ((if_neg e7).trans ((if_neg e8).trans ((if_neg e9).trans ((if_neg e10).trans (if_neg e11))))))))))
  · unfold qM_manyOf
    exact (if_neg e1).trans ((if_neg e2).trans ((if_neg e3).trans ((if_neg e4).trans ((if_neg e5).trans ((if_neg e6).trans ((if_neg e7).trans ((if_neg e8).trans ((if_neg e9).trans ((if_neg e10).trans (if_neg e11))))))))))
/-- what the readers leave alone -/
def fX (σ0 σ : gS) : Prop := (∀ k j, k ≠ 42 ∨ j ≤ 3 → gI σ k j = gI σ0 k j) ∧ ∀ k, k ≠ 44 → k ≠ 45 → gM σ k = gM σ0 k
def fM (τ0 τ : gS) : Prop := (∀ k j, k ≠ 0 ∨ (j ≠ 14 ∧ j ≠ 15 ∧ j ≠ 16) → gI τ k j = gI τ0 k j) ∧ ∀ k, k ≠ 10 → k ≠ 11 → gM τ k = gM τ0 k
theorem fX.rf {σ : gS} : fX σ σ := ⟨fun _ _ _ => rfl, fun _ _ _ => rfl⟩
theorem fM.rf {σ : gS} : fM σ σ := ⟨fun _ _ _ => rfl, fun _ _ _ => rfl⟩
theorem fX.sI {σ0 σ : gS} (h : fX σ0 σ) {j : Nat} (hj : 4 ≤ j) (v : Int32) : fX σ0 (sI σ 42 j v) := ⟨fun k i hk => by rw [gI_sI, if_neg (by omega)]; exact h.1 k i hk, h.2⟩
theorem fX.sM {σ0 σ : gS} (h : fX σ0 σ) {k : Nat} (hk : k = 44 ∨ k = 45) (i : Nat) (v : Int32) : fX σ0 (sM σ k i v) := ⟨h.1, fun a h1 h2 => by rw [gMs_n (by omega)]; exact h.2 a h1 h2⟩
theorem fM.sI {σ0 σ : gS} (h : fM σ0 σ) {j : Nat} (hj : j = 14 ∨ j = 15 ∨ j = 16) (v : Int32) : fM σ0 (sI σ 0 j v) := ⟨fun k i hk => by rw [gI_sI, if_neg (by omega)]; exact h.1 k i hk, h.2⟩
theorem fM.sM {σ0 σ : gS} (h : fM σ0 σ) {k : Nat} (hk : k = 10 ∨ k = 11) (i : Nat) (v : Int32) : fM σ0 (sM σ k i v) := ⟨h.1, fun a h1 h2 => by rw [gMs_n (by omega)]; exact h.2 a h1 h2⟩
def gTxc (σ0 τ0 : gS) (t : Nat) (ch : Nat → Nat) : Prop := t ≤ 120 ∧ gI σ0 42 3 = nI t ∧ gI τ0 0 7 = nI t ∧ ∀ i, i < t → ch i < 128 ∧ gM σ0 43 i = nI (ch i) ∧ gM τ0 6 i = nI (ch i)
/-- an operand: the same number; a jump's is no less than 0 -/
def gOp (σ τ : gS) (c i : Nat) : Prop := gM σ 45 i = gM τ 11 i ∧ (c = 106 → ∃ d, d < 2 ^ 31 ∧ gM τ 11 i = nI d)
def gOrd (σ τ : gS) (O : Nat) : Prop := ∀ i, i < O → ∃ c M, gLt c M ∧ gM σ 44 i = nI c ∧ gM τ 10 i = nI c ∧ ∀ j, j < M → gOp σ τ c (3 * i + j)
theorem gOp.cg {σ τ σ' τ' : gS} {c i : Nat} (h : gOp σ τ c i) (e1 : gM σ' 45 i = gM σ 45 i) (e2 : gM τ' 11 i = gM τ 11 i) : gOp σ' τ' c i := by
  unfold gOp
  rw [e1, e2]
  exact h
theorem gOrd.cg {σ τ σ' τ' : gS} {O : Nat} (h : gOrd σ τ O) (e1 : ∀ i, i < O → gM σ' 44 i = gM σ 44 i ∧ gM τ' 10 i = gM τ 10 i) (e2 : ∀ i, i < 3 * O → gM σ' 45 i = gM σ 45 i ∧ gM τ' 11 i = gM τ 11 i) : gOrd σ' τ' O := by
  intro i hi
  obtain ⟨c, M, h1, h2, h3, h4⟩ := h i hi
  have := h1.le
  refine ⟨c, M, h1, (e1 i hi).1.trans h2, (e1 i hi).2.trans h3, fun j hj => (h4 j hj).cg (e2 _ (by omega)).1 (e2 _ (by omega)).2⟩
/-- both stand at place p, O orders behind them -/
def gQ (σ0 τ0 σ τ : gS) (p O : Nat) : Prop := fX σ0 σ ∧ fM τ0 τ ∧ gI σ 42 4 = nI O ∧ gI τ 0 14 = nI O ∧ gI τ 0 15 = nI p ∧ gOrd σ τ O
/-- between two orders -/
def gB (σ0 τ0 σ τ : gS) (p O : Nat) : Prop := gQ σ0 τ0 σ τ p O ∧ gI σ 42 5 = -1 ∧ 3 * O ≤ p
/-- within an order of letter c: m operands begun, dg digits of the last -/
def gW (σ0 τ0 σ τ : gS) (p O c M m dg : Nat) : Prop := gQ σ0 τ0 σ τ p O ∧ gLt c M ∧ gI σ 42 5 = nI c ∧ gI σ 42 6 = nI m ∧ gI σ 42 7 = nI dg ∧ m ≤ M ∧ 3 * O + 1 + m ≤ p ∧ gM σ 44 O = nI c ∧ gM τ 10 O = nI c
/-- both have refused the text at one place -/
def gF (σ0 τ0 : gS) (x y : Option (Int32 × gS)) : Prop := ∃ q σ' τ', q ≤ 120 ∧ x = some (nI q, σ') ∧ y = some (0, τ') ∧ gI τ' 0 16 = nI q ∧ fX σ0 σ' ∧ fM τ0 τ'
/-- the class's reader from place p on -/
def gZp (σ : gS) (p : Nat) : Option (Int32 × gS) := qP_parse_12 (fun σ6 => (if (gI σ6 42 5) = (-1 : Int32) then (if (gI σ6 42 4) ≤ 0 then some ((gI σ6 42 3), σ6) else some ((-1 : Int32), σ6)) else some ((gI σ6 42 3), σ6))) (8192 - p) σ (nI p)
theorem gZp_0 (σ : gS) : qP_parse σ = gZp (sI (sI σ 42 4 (0 : Int32)) 42 5 (-1 : Int32)) 0 := rfl
theorem gZp_s {σ0 τ0 σ : gS} {t : Nat} {ch : Nat → Nat} (X : gTxc σ0 τ0 t ch) (F : fX σ0 σ) {p : Nat} (hp : p < t) : gZp σ p = (qP_accepts σ (nI (ch p))).bind (fun r4 => if r4.1 = 0 then some (nI p, r4.2) else gZp r4.2 (p + 1)) := by
  obtain ⟨x1, x2, x3, x4⟩ := X
  unfold gZp
  rw [show 8192 - p = (8192 - (p + 1)) + 1 by omega, qP_parse_12, F.1 42 3 (by omega), x2, if_neg (nle hp (by omega)), if_neg (show ¬ (120 : Int32) ≤ nI p from nle (a := 120) (by omega) (by omega)), gob_n (by omega) (by omega), nI_clamp (by omega), F.2 43 (by decide) (by decide), (x4 p hp).2.1, nI1]
theorem gZp_e {σ0 τ0 σ : gS} {t : Nat} {ch : Nat → Nat} (X : gTxc σ0 τ0 t ch) (F : fX σ0 σ) : gZp σ t = if gI σ 42 5 = -1 then (if gI σ 42 4 ≤ 0 then some (nI t, σ) else some (-1, σ)) else some (nI t, σ) := by
  obtain ⟨x1, x2, x3, x4⟩ := X
  unfold gZp
  rw [show 8192 - t = (8192 - (t + 1)) + 1 by omega, qP_parse_12, F.1 42 3 (by omega), x2, if_pos ((nI_leI (by omega) (by omega)).mpr (Nat.le_refl t))]
theorem isAt_y {σ0 τ0 τ : gS} {t : Nat} {ch : Nat → Nat} (X : gTxc σ0 τ0 t ch) (F : fM τ0 τ) {p lo hi : Nat} (e : gI τ 0 15 = nI p) (hp : p < t) (hlo : lo < 128) (hhi : hi < 128) : qM_isAt τ (nI lo) (nI hi) = some (if lo ≤ ch p ∧ ch p ≤ hi then 1 else 0) := by
  obtain ⟨x1, x2, x3, x4⟩ := X
  obtain ⟨y1, y2, y3⟩ := x4 p hp
  unfold qM_isAt
  rw [F.1 0 7 (by omega), x3, e, if_neg (nle hp (by omega)), gob_n (by omega) (by omega), nI_clamp (by omega), F.2 6 (by decide) (by decide), y3]
  by_cases q : lo ≤ ch p ∧ ch p ≤ hi
  · rw [in_yes (by rw [nI_toInt (by omega), nI_toInt (by omega)]; omega) (by rw [nI_toInt (by omega), nI_toInt (by omega)]; omega), if_neg n10, if_pos q]
  · rw [in_no (by rw [nI_toInt (by omega), nI_toInt (by omega), nI_toInt (by omega)]; omega), if_pos z00, if_neg q]
theorem isAt_e {σ0 τ0 τ : gS} {t : Nat} {ch : Nat → Nat} (X : gTxc σ0 τ0 t ch) (F : fM τ0 τ) (e : gI τ 0 15 = nI t) (lo hi : Int32) : qM_isAt τ lo hi = some 0 := by
  obtain ⟨x1, x2, x3, x4⟩ := X
  unfold qM_isAt
  rw [F.1 0 7 (by omega), x3, e, if_pos ((nI_leI (by omega) (by omega)).mpr (Nat.le_refl t))]
