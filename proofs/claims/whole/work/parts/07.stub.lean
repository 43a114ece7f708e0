def Rel (σ τ : gS) : Prop := σ = τ
theorem sim_make {σ τ : gS} (h : Rel σ τ) (a1 : Int32) (a2 : Int32) : ∃ r σ' τ', qF_make σ a1 a2 = some (r, σ') ∧ qM_make τ a1 a2 = some (r, τ') ∧ Rel σ' τ' := sorry
theorem sim_end {σ τ : gS} (h : Rel σ τ) (a1 : Int32) : ∃ r σ' τ', qF_end σ a1 = some (r, σ') ∧ qM_end τ a1 = some (r, τ') ∧ Rel σ' τ' := sorry
theorem sim_set {σ τ : gS} (h : Rel σ τ) (a1 : Int32) (a2 : Int32) : ∃ r σ' τ', qF_set σ a1 a2 = some (r, σ') ∧ qM_set τ a1 a2 = some (r, τ') ∧ Rel σ' τ' := sorry
theorem sim_copy {σ τ : gS} (h : Rel σ τ) (a1 : Int32) (a2 : Int32) : ∃ r σ' τ', qF_copy σ a1 a2 = some (r, σ') ∧ qM_copy τ a1 a2 = some (r, τ') ∧ Rel σ' τ' := sorry
theorem sim_move {σ τ : gS} (h : Rel σ τ) (a1 : Int32) (a2 : Int32) : ∃ r σ' τ', qF_move σ a1 a2 = some (r, σ') ∧ qM_move τ a1 a2 = some (r, τ') ∧ Rel σ' τ' := sorry
theorem sim_store {σ τ : gS} (h : Rel σ τ) (a1 : Int32) (a2 : Int32) (a3 : Int32) : ∃ r σ' τ', qF_store σ a1 a2 a3 = some (r, σ') ∧ qM_store τ a1 a2 a3 = some (r, τ') ∧ Rel σ' τ' := sorry
theorem sim_load {σ τ : gS} (h : Rel σ τ) (a1 : Int32) (a2 : Int32) (a3 : Int32) : ∃ r σ' τ', qF_load σ a1 a2 a3 = some (r, σ') ∧ qM_load τ a1 a2 a3 = some (r, τ') ∧ Rel σ' τ' := sorry
theorem sim_compare {σ τ : gS} (h : Rel σ τ) (a1 : Int32) (a2 : Int32) : ∃ r σ' τ', qF_compare σ a1 a2 = some (r, σ') ∧ qM_compare τ a1 a2 = some (r, τ') ∧ Rel σ' τ' := sorry
theorem sim_blit {σ τ : gS} (h : Rel σ τ) (a1 : Int32) (a2 : Int32) (a3 : Int32) : ∃ r σ' τ', qF_blit σ a1 a2 a3 = some (r, σ') ∧ qM_blit τ a1 a2 a3 = some (r, τ') ∧ Rel σ' τ' := sorry
theorem sim_freeze {σ τ : gS} (h : Rel σ τ) (a1 : Int32) : ∃ r σ' τ', qF_freeze σ a1 = some (r, σ') ∧ qM_freeze τ a1 = some (r, τ') ∧ Rel σ' τ' := sorry
theorem sim_forget {σ τ : gS} (h : Rel σ τ) (a1 : Int32) : ∃ r σ' τ', qF_forget σ a1 = some (r, σ') ∧ qM_forget τ a1 = some (r, τ') ∧ Rel σ' τ' := sorry
theorem sim_budget {σ τ : gS} (h : Rel σ τ) (a1 : Int32) : ∃ r σ' τ', qF_budget σ a1 = some (r, σ') ∧ qM_budget τ a1 = some (r, τ') ∧ Rel σ' τ' := sorry
theorem sim_register {σ τ : gS} (h : Rel σ τ) (a1 : Int32) (a2 : Int32) : ∃ r σ' τ', qF_register σ a1 a2 = some (r, σ') ∧ qM_register τ a1 a2 = some (r, τ') ∧ Rel σ' τ' := sorry
theorem sim_piece {σ τ : gS} (h : Rel σ τ) (a1 : Int32) (a2 : Int32) : ∃ r σ' τ', qF_piece σ a1 a2 = some (r, σ') ∧ qM_piece τ a1 a2 = some (r, τ') ∧ Rel σ' τ' := sorry
theorem sim_at {σ τ : gS} (h : Rel σ τ) (a1 : Int32) (a2 : Int32) : ∃ r σ' τ', qF_at σ a1 a2 = some (r, σ') ∧ qM_at τ a1 a2 = some (r, τ') ∧ Rel σ' τ' := sorry
theorem sim_image {σ τ : gS} (h : Rel σ τ) (a1 : Int32) (a2 : Int32) : ∃ r σ' τ', qF_image σ a1 a2 = some (r, σ') ∧ qM_image τ a1 a2 = some (r, τ') ∧ Rel σ' τ' := sorry
theorem sim_imaged {σ τ : gS} (h : Rel σ τ) (a1 : Int32) (a2 : Int32) (a3 : Int32) : ∃ r σ' τ', qF_imaged σ a1 a2 a3 = some (r, σ') ∧ qM_imaged τ a1 a2 a3 = some (r, τ') ∧ Rel σ' τ' := sorry
theorem sim_like {σ τ : gS} (h : Rel σ τ) (a1 : Int32) : ∃ r σ' τ', qF_like σ a1 = some (r, σ') ∧ qM_like τ a1 = some (r, τ') ∧ Rel σ' τ' := sorry
theorem sim_count {σ τ : gS} (h : Rel σ τ) (a1 : Int32) : ∃ r σ' τ', qF_count σ a1 = some (r, σ') ∧ qM_count τ a1 = some (r, τ') ∧ Rel σ' τ' := sorry
theorem sim_undefined {σ τ : gS} (h : Rel σ τ) (a1 : Int32) : ∃ r σ' τ', qF_undefined σ a1 = some (r, σ') ∧ qM_undefined τ a1 = some (r, τ') ∧ Rel σ' τ' := sorry
theorem sim_type {σ τ : gS} (h : Rel σ τ) (a1 : Int32) : ∃ r σ' τ', qF_type σ a1 = some (r, σ') ∧ qM_type τ a1 = some (r, τ') ∧ Rel σ' τ' := sorry
theorem sim_clear {σ τ : gS} (h : Rel σ τ) : ∃ r σ' τ', qF_clear σ = some (r, σ') ∧ qM_clear τ = some (r, τ') ∧ Rel σ' τ' := sorry
theorem sim_does {σ τ : gS} (h : Rel σ τ) : ∃ r σ' τ', qF_does σ = some (r, σ') ∧ qM_does τ = some (r, τ') ∧ Rel σ' τ' := sorry
theorem sim_back {σ τ : gS} (h : Rel σ τ) : ∃ r σ' τ', qF_back σ = some (r, σ') ∧ qM_back τ = some (r, τ') ∧ Rel σ' τ' := sorry
theorem sim_digest {σ τ : gS} (h : Rel σ τ) : ∃ r τ', qF_digest σ = some r ∧ qM_digest τ = some (r, τ') ∧ Rel σ τ' := sorry
theorem rel_0 : Rel gS0x gS0m := sorry
