/-! THE CLAIM OUT OF ONE WALK OF THE LAW'S BODY. Your part is whole_start (and what it stands on); all else here is the same for every law, but numbers. -/
def R_law : String := "FrozenImagesLaw"
def lw_P (b : Addr) (xs : List Int32) (args : Array Value) (s : State) : Prop := args = #[.ref b] ∧ s.IntsAt b xs ∧ xs.length ≤ 2048 ∧ (Jvm.Cond.and given_1 narrow_1).before args s = true
def lw_Q (_ : Array Value) (s : State) (o : Outcome) (t : State) : Prop := o = .returned (some (.int 1)) ∧ Framed s o t [] 600000 7302250
def lw_Z (below : List Frame) (a : Array Value) (s : State) : State → Prop := fun t => ∃ o, t.status = .running ∧ Ended t below o ∧ lw_Q a s o t
/-- the law's own end, with 1 on the stack, nothing written that was there before, its room as the claim has it -/
theorem lw_ret {p : Program} {l : Launch} {e : Env} {s : State} {m : MethodId} {below : List Frame} {meth : Method} {c : Code} {b : Nat} (hx : p.tables.exec = Jvm.exec) (hb : c.code = code) (hr : meth.sig.returnType = ret) (hlocks : meth.locks = false) {pc : Nat} {H : Heap} {ls : Array Slot} (hdg : decode code pc = .ok (.ireturn, 1)) : W p l e room_1 s m #[Value.ref b] below meth c H [] 600000 7302250 (lw_Z below #[Value.ref b] s) (F0 m pc ls [.int 1]) := by
  intro T hT X
  obtain ⟨fs, hret, hrun, hended, hW, hframe⟩ := X.leave (v := some (.int 1)) (hlocks := hlocks) (fun h => by rw [hr] at h; cases h)
  have hmeth' : T.vm.method? m = some meth := X.method'
  refine ⟨T.setFrames fs, ?_, .returned (some (.int 1)), hrun, hended, rfl, ⟨_, rfl⟩, hW, hframe⟩
  jvm_step X.here [X.here.top, hx, hb, hdg, hmeth', hr, ret, narrow_b1]
  (try refine ⟨rfl, ?_⟩); (try refine ⟨rfl, ?_⟩)
  first | (intro acts; rw [hret _ acts rfl rfl rfl]) | rw [hret _ _ rfl rfl rfl]
  exact Steps.refl _
/-- what holds at the law's entry: the machine, the code, the tables' words (any of lw_tbl by 'hts w (by decide +kernel)'), the script of L ints xs at the cell b, what the Statement gives of the start (any of its parts by flat_of_before) -/
def lw_At (p : Program) (s : State) (m : MethodId) (meth : Method) (c : Code) (b L : Nat) (xs : Nat → Int32) : Prop :=
  p.tables.exec = Jvm.exec ∧ c.code = code ∧ meth.sig.returnType = ret ∧ c.maxLocals = 4 ∧ s.vm.findClass R_law = some m.cls ∧ (∀ w ∈ lw_tbl, w.before #[Value.ref b] s = true) ∧ va_X b L xs s s.heap ∧ b < s.heap.size ∧ meth.locks = false ∧ (Jvm.Cond.and given_1 narrow_1).before #[Value.ref b] s = true
set_option maxRecDepth 20000 in
theorem nst_0 : Cond.methodLinkNest RX2 23 yX7_isRegister RX7 ∈ lw_tbl := List.mem_of_getElem? (i := 326) (by decide +kernel)
set_option maxRecDepth 20000 in
theorem nst_1 : Cond.methodLinkNest RX2 111 yX7_isPointerCode RX7 ∈ lw_tbl := List.mem_of_getElem? (i := 465) (by decide +kernel)
set_option maxRecDepth 20000 in
theorem nst_2 : Cond.methodLinkNest RX2 99 yX7_pointerCode RX7 ∈ lw_tbl := List.mem_of_getElem? (i := 472) (by decide +kernel)
set_option maxRecDepth 20000 in
theorem nst_3 : Cond.methodLinkNest RX2 114 yX7_blockOfCode RX7 ∈ lw_tbl := List.mem_of_getElem? (i := 487) (by decide +kernel)
set_option maxRecDepth 20000 in
theorem nst_4 : Cond.methodLinkNest RX2 117 yX7_offsetOfCode RX7 ∈ lw_tbl := List.mem_of_getElem? (i := 490) (by decide +kernel)
set_option maxRecDepth 20000 in
theorem nst_5 : Cond.methodLinkNest RX0 47 yX7_isPointerCode RX7 ∈ lw_tbl := List.mem_of_getElem? (i := 542) (by decide +kernel)
set_option maxRecDepth 20000 in
theorem nst_6 : Cond.methodLinkNest RX0 51 yX7_blockOfCode RX7 ∈ lw_tbl := List.mem_of_getElem? (i := 543) (by decide +kernel)
set_option maxRecDepth 20000 in
theorem nst_7 : Cond.methodLinkNest RX0 83 yX7_offsetOfCode RX7 ∈ lw_tbl := List.mem_of_getElem? (i := 569) (by decide +kernel)
set_option maxRecDepth 20000 in
theorem nst_8 : Cond.methodLinkNest RX0 86 yX7_pointerCode RX7 ∈ lw_tbl := List.mem_of_getElem? (i := 570) (by decide +kernel)
set_option maxRecDepth 20000 in
theorem nst_9 : Cond.methodLinkNest RX5 53 yX7_isRegister RX7 ∈ lw_tbl := List.mem_of_getElem? (i := 615) (by decide +kernel)
set_option maxRecDepth 20000 in
theorem nst_10 : Cond.methodLinkNest RX5 81 yX7_isPointerCode RX7 ∈ lw_tbl := List.mem_of_getElem? (i := 640) (by decide +kernel)
set_option maxRecDepth 20000 in
theorem nst_11 : Cond.methodLinkNest RX1 30 yX7_isPointerCode RX7 ∈ lw_tbl := List.mem_of_getElem? (i := 668) (by decide +kernel)
set_option maxRecDepth 20000 in
theorem ao_1 : Cond.arrayOver (.object RX1) ∈ lw_tbl := List.mem_of_getElem? (i := 155) (by decide +kernel)
set_option maxRecDepth 20000 in
theorem ao_5 : Cond.arrayOver (.object RX5) ∈ lw_tbl := List.mem_of_getElem? (i := 246) (by decide +kernel)
theorem vaP_l {D : va_G} {cl : List vw_C} {w1 w2 : va_W} {H : Heap} (h : va_P D cl (w1 ++ w2) H) : va_P D cl w1 H := fun k q hk => h k q (by
  rw [List.getElem?_append_left (List.getElem?_eq_some_iff.mp hk).1]; exact hk)
theorem vaP_r {D : va_G} {cl : List vw_C} {w1 w2 : va_W} {H : Heap} (h : va_P D cl (w1 ++ w2) H) : va_P D cl w2 H := fun k q hk => h (w1.length + k) q (by
  rw [List.getElem?_append_right (by omega), Nat.add_sub_cancel_left]; exact hk)
theorem vaD_r {A : Nat → Prop} {w1 w2 : va_W} (h : va_D A (w1 ++ w2)) : va_D A w2 := by
  have key : ∀ (k : Nat) (q : Nat × va_E), w2[k]? = some q → (w1 ++ w2)[w1.length + k]? = some q := fun k q hk => by
    rw [List.getElem?_append_right (by omega), Nat.add_sub_cancel_left]; exact hk
  refine ⟨fun i j p q hi hj e => ?_, fun k q hk => h.2 _ q (key k q hk)⟩
  have := h.1 _ _ p q (key i p hi) (key j q hj) e
  omega
theorem law_gt {i L : Nat} (h : L < i + 4) (h1 : L ≤ 2048) (h2 : i ≤ 4096) : Int32.ofNat L - 4 < nI i := by
  show nI L - nI 4 < nI i
  rw [Int32.lt_iff_toInt_lt, pk_sub_toInt (by omega) (by omega), nI_toInt (by omega)]
  omega
set_option maxHeartbeats 4000000 in
set_option maxRecDepth 100000 in
/-- the loop, from its head -/
theorem law_loop {p : Program} {l : Launch} {e : Env} {s : State} {m : MethodId} {below : List Frame} {meth : Method} {c : Code} {X Y : gXt} {b L : Nat} {xs : Nat → Int32} (hL : L ≤ 2048) (hr : meth.sig.returnType = ret) (hlocks : meth.locks = false) (E : lawE p s m meth c X Y b L xs) :
    ∀ (n i : Nat), L + 4 ≤ i + n → i ≤ 4096 → ∀ (σ τ : gS) (H : Heap) (locs : List Loc) (ls : Array Slot), Rel i σ τ → gP X xL σ H → gP Y mL τ H → va_S (fun q : Nat => s.heap.size ≤ q) s.heap H locs → lv_has ls 4 [(0, .ref b), (1, .ref (gad X 0)), (2, .ref (gad Y 0)), (3, .int (nI i))] → W p l e room_1 s m #[Value.ref b] below meth c H locs 600000 7302250 (lw_Z below #[Value.ref b] s) (F0 m 18 ls []) := by
  have E0 := E
  obtain ⟨hx, hb, hml, hown, hts, hKX, hKY, hJX, hJY, hdis, hAX, hAY, hX, hbl⟩ := E
  have hbA : ¬ (fun q : Nat => s.heap.size ≤ q) b := Nat.not_le.mpr hbl
  intro n
  induction n with
  | zero =>
    intro i h1 h2 σ τ H locs ls hR Px Py hS hl
    refine lv_iload_n hx hb dL_law_18 rfl (lv_at hl 3 rfl) ?_
    refine lv_aload_n hx hb dL_law_19 rfl (lv_at hl 0 rfl) ?_
    refine va_slen hx hb hX hbl hbA hS dL_law_20 ?_
    refine lv_iconst (v := 4) hx hb dL_law_21 (by decide) ?_
    refine lv_isub hx hb dL_law_22 ?_
    refine lv_icmp_gt (tgt := 860) hx hb dL_law_23 (by decide) (fun _ => ?_) (fun c_1 => ?_)
    · refine lv_iconst (v := 1) hx hb dL_law_860 (by decide) ?_
      refine va_forget (fun q hq => hS.2.2 q hq) ?_
      exact lw_ret hx hb hr hlocks dL_law_861
    · exact absurd (law_gt (by omega) (by omega) (by omega)) c_1
  | succ n ih =>
    intro i h1 h2 σ τ H locs ls hR Px Py hS hl
    refine lv_iload_n hx hb dL_law_18 rfl (lv_at hl 3 rfl) ?_
    refine lv_aload_n hx hb dL_law_19 rfl (lv_at hl 0 rfl) ?_
    refine va_slen hx hb hX hbl hbA hS dL_law_20 ?_
    refine lv_iconst (v := 4) hx hb dL_law_21 (by decide) ?_
    refine lv_isub hx hb dL_law_22 ?_
    refine lv_icmp_gt (tgt := 860) hx hb dL_law_23 (by decide) (fun _ => ?_) (fun c_1 => ?_)
    · refine lv_iconst (v := 1) hx hb dL_law_860 (by decide) ?_
      refine va_forget (fun q hq => hS.2.2 q hq) ?_
      exact lw_ret hx hb hr hlocks dL_law_861
    · have hi : i + 3 < L := by
        rcases Nat.lt_or_ge (i + 3) L with q | q
        · exact q
        · exact absurd (law_gt (by omega) (by omega) (by omega)) c_1
      have next : ∀ (σ' τ' : gS) (H' : Heap) (locs' : List Loc), Rel (i + 1) σ' τ' → gP X xL σ' H' → gP Y mL τ' H' → va_S (fun q : Nat => s.heap.size ≤ q) s.heap H' locs' → W p l e room_1 s m #[Value.ref b] below meth c H' locs' 600000 7302250 (lw_Z below #[Value.ref b] s) (F0 m 854 ls []) := by
        intro σ' τ' H' locs' hR' Px' Py' hS'
        refine lv_iinc (v := nI (i + 4)) (lv' := [(3, .int (nI (i + 4))), (0, .ref b), (1, .ref (gad X 0)), (2, .ref (gad Y 0))]) hx hb dL_law_854 hl (k := 3) rfl (nI_add i 4) (by decide) rfl (fun ls hl => ?_)
        refine lv_goto (tgt := 18) hx hb dL_law_857 (by decide) ?_
        exact ih (i + 4) (by omega) (by omega) σ' τ' H' locs' ls (hR'.mono (by omega)) Px' Py' hS' (lv_sub hl [1, 2, 3, 0] rfl)
      refine lv_aload_n hx hb dL_law_26 rfl (lv_at hl 0 rfl) ?_
      refine lv_iload_n hx hb dL_law_27 rfl (lv_at hl 3 rfl) ?_
      refine va_sld hx hb hX hbl hbA hS (vp_in_nI (by omega) (by omega)) dL_law_28 ?_
      refine lv_bipush (v := 31) hx hb dL_law_29 (by decide) ?_
      refine lv_iand hx hb dL_law_31 ?_
      obtain ⟨j, hj, ej⟩ := pk_andE (xs (nI i).toNatClampNeg) (m := 31) 5 (by decide)
      rw [ej]
      by_cases cs0 : j = 0
      · subst cs0
        refine lv_tableIn (off := 116) (tgt := 148) hx hb dL_law_32 (by decide) (by decide) (by rfl) (by decide) ?_
        exact lawcase_0 E0 i hi hL hR Px Py hS hl next
      by_cases cs1 : j = 1
      · subst cs1
        refine lv_tableIn (off := 149) (tgt := 181) hx hb dL_law_32 (by decide) (by decide) (by rfl) (by decide) ?_
        exact lawcase_1 E0 i hi hL hR Px Py hS hl next
      by_cases cs2 : j = 2
      · subst cs2
        refine lv_tableIn (off := 172) (tgt := 204) hx hb dL_law_32 (by decide) (by decide) (by rfl) (by decide) ?_
        exact lawcase_2 E0 i hi hL hR Px Py hS hl next
      by_cases cs3 : j = 3
      · subst cs3
        refine lv_tableIn (off := 205) (tgt := 237) hx hb dL_law_32 (by decide) (by decide) (by rfl) (by decide) ?_
        exact lawcase_3 E0 i hi hL hR Px Py hS hl next
      by_cases cs4 : j = 4
      · subst cs4
        refine lv_tableIn (off := 238) (tgt := 270) hx hb dL_law_32 (by decide) (by decide) (by rfl) (by decide) ?_
        exact lawcase_4 E0 i hi hL hR Px Py hS hl next
      by_cases cs5 : j = 5
      · subst cs5
        refine lv_tableIn (off := 271) (tgt := 303) hx hb dL_law_32 (by decide) (by decide) (by rfl) (by decide) ?_
        exact lawcase_5 E0 i hi hL hR Px Py hS hl next
      by_cases cs6 : j = 6
      · subst cs6
        refine lv_tableIn (off := 314) (tgt := 346) hx hb dL_law_32 (by decide) (by decide) (by rfl) (by decide) ?_
        exact lawcase_6 E0 i hi hL hR Px Py hS hl next
      by_cases cs7 : j = 7
      · subst cs7
        refine lv_tableIn (off := 357) (tgt := 389) hx hb dL_law_32 (by decide) (by decide) (by rfl) (by decide) ?_
        exact lawcase_7 E0 i hi hL hR Px Py hS hl next
      by_cases cs8 : j = 8
      · subst cs8
        refine lv_tableIn (off := 390) (tgt := 422) hx hb dL_law_32 (by decide) (by decide) (by rfl) (by decide) ?_
        exact lawcase_8 E0 i hi hL hR Px Py hS hl next
      by_cases cs9 : j = 9
      · subst cs9
        refine lv_tableIn (off := 433) (tgt := 465) hx hb dL_law_32 (by decide) (by decide) (by rfl) (by decide) ?_
        exact lawcase_9 E0 i hi hL hR Px Py hS hl next
      by_cases cs10 : j = 10
      · subst cs10
        refine lv_tableIn (off := 456) (tgt := 488) hx hb dL_law_32 (by decide) (by decide) (by rfl) (by decide) ?_
        exact lawcase_10 E0 i hi hL hR Px Py hS hl next
      by_cases cs11 : j = 11
      · subst cs11
        refine lv_tableIn (off := 479) (tgt := 511) hx hb dL_law_32 (by decide) (by decide) (by rfl) (by decide) ?_
        exact lawcase_11 E0 i hi hL hR Px Py hS hl next
      by_cases cs12 : j = 12
      · subst cs12
        refine lv_tableIn (off := 502) (tgt := 534) hx hb dL_law_32 (by decide) (by decide) (by rfl) (by decide) ?_
        exact lawcase_12 E0 i hi hL hR Px Py hS hl next
      by_cases cs13 : j = 13
      · subst cs13
        refine lv_tableIn (off := 535) (tgt := 567) hx hb dL_law_32 (by decide) (by decide) (by rfl) (by decide) ?_
        exact lawcase_13 E0 i hi hL hR Px Py hS hl next
      by_cases cs14 : j = 14
      · subst cs14
        refine lv_tableIn (off := 568) (tgt := 600) hx hb dL_law_32 (by decide) (by decide) (by rfl) (by decide) ?_
        exact lawcase_14 E0 i hi hL hR Px Py hS hl next
      by_cases cs15 : j = 15
      · subst cs15
        refine lv_tableIn (off := 601) (tgt := 633) hx hb dL_law_32 (by decide) (by decide) (by rfl) (by decide) ?_
        exact lawcase_15 E0 i hi hL hR Px Py hS hl next
      by_cases cs16 : j = 16
      · subst cs16
        refine lv_tableIn (off := 634) (tgt := 666) hx hb dL_law_32 (by decide) (by decide) (by rfl) (by decide) ?_
        exact lawcase_16 E0 i hi hL hR Px Py hS hl next
      by_cases cs17 : j = 17
      · subst cs17
        refine lv_tableIn (off := 677) (tgt := 709) hx hb dL_law_32 (by decide) (by decide) (by rfl) (by decide) ?_
        exact lawcase_17 E0 i hi hL hR Px Py hS hl next
      by_cases cs18 : j = 18
      · subst cs18
        refine lv_tableIn (off := 700) (tgt := 732) hx hb dL_law_32 (by decide) (by decide) (by rfl) (by decide) ?_
        exact lawcase_18 E0 i hi hL hR Px Py hS hl next
      by_cases cs19 : j = 19
      · subst cs19
        refine lv_tableIn (off := 723) (tgt := 755) hx hb dL_law_32 (by decide) (by decide) (by rfl) (by decide) ?_
        exact lawcase_19 E0 i hi hL hR Px Py hS hl next
      by_cases cs20 : j = 20
      · subst cs20
        refine lv_tableIn (off := 746) (tgt := 778) hx hb dL_law_32 (by decide) (by decide) (by rfl) (by decide) ?_
        exact lawcase_20 E0 i hi hL hR Px Py hS hl next
      by_cases cs21 : j = 21
      · subst cs21
        refine lv_tableIn (off := 769) (tgt := 801) hx hb dL_law_32 (by decide) (by decide) (by rfl) (by decide) ?_
        exact lawcase_21 E0 i hi hL hR Px Py hS hl next
      by_cases cs22 : j = 22
      · subst cs22
        refine lv_tableIn (off := 782) (tgt := 814) hx hb dL_law_32 (by decide) (by decide) (by rfl) (by decide) ?_
        exact lawcase_22 E0 i hi hL hR Px Py hS hl next
      by_cases cs23 : j = 23
      · subst cs23
        refine lv_tableIn (off := 795) (tgt := 827) hx hb dL_law_32 (by decide) (by decide) (by rfl) (by decide) ?_
        exact lawcase_23 E0 i hi hL hR Px Py hS hl next
      by_cases cs24 : j = 24
      · subst cs24
        refine lv_tableIn (off := 808) (tgt := 840) hx hb dL_law_32 (by decide) (by decide) (by rfl) (by decide) ?_
        exact lawcase_24 E0 i hi hL hR Px Py hS hl next
      refine lv_tableOut (tgt := 854) hx hb dL_law_32 (Or.inr (by rw [nI_toInt (by omega)]; omega)) (by decide) ?_
      exact next σ τ H locs (hR.mono (by omega)) Px Py hS
set_option maxHeartbeats 8000000 in
set_option maxRecDepth 100000 in
/-- THE LAW, from its entry -/
theorem whole_start {p : Program} {e : Env} {s : State} {m : MethodId} {below : List Frame} {meth : Method} {c : Code} (l : Launch) (hflags : l.flags = flags0) {b L : Nat} {xs : Nat → Int32} (hL : L ≤ 2048) (C0 : lw_At p s m meth c b L xs) : W p l e room_1 s m #[Value.ref b] below meth c s.heap [] 0 0 (lw_Z below #[Value.ref b] s) (entryFrame m ([Value.ref b] : List Value).toArray 4) := by
  obtain ⟨hx, hb, hr, hml, hown, hts0, hX, hbl, hlocks, hgv⟩ := id C0
  have hts := fun (w : Cond) (hw : w ∈ wsL_law) => hts0 w (wsL_law_in w hw)
  have hown : s.vm.findClass RL = some m.cls := hown
  have hA : ∀ q : Nat, s.heap.size ≤ q → (fun q : Nat => s.heap.size ≤ q) q := fun _ h => h
  have hbA : ¬ (fun q : Nat => s.heap.size ≤ q) b := Nat.not_le.mpr hbl
  obtain ⟨c0, iS0, hKn0⟩ := u_known (C := RX0) (T := TX0) (N := 4) (n := 4) hts inlX0 (hts _ wd_17)
  obtain ⟨c1, iS1, hKn1⟩ := u_known (C := RX1) (T := TX1) (N := 3) (n := 3) hts inlX1 (hts _ wd_55)
  obtain ⟨c2, iS2, hKn2⟩ := u_known (C := RX2) (T := TX2) (N := 3) (n := 3) hts inlX2 (hts _ wd_21)
  obtain ⟨c3, iS3, hKn3⟩ := u_known (C := RX3) (T := TX3) (N := 3) (n := 3) hts inlX3 (hts _ wd_29)
  obtain ⟨c4, iS4, hKn4⟩ := u_known (C := RX4) (T := TX4) (N := 10) (n := 10) hts inlX4 (hts _ wd_25)
  obtain ⟨c5, iS5, hKn5⟩ := u_known (C := RX5) (T := TX5) (N := 10) (n := 10) hts inlX5 (hts _ wd_13)
  obtain ⟨c6, iS6, hKn6⟩ := u_known (C := RX6) (T := TX6) (N := 4) (n := 4) hts inlX6 (hts _ wd_33)
  obtain ⟨c7, iS7, hKn7⟩ := u_known (C := RX7) (T := TX7) (N := 6) (n := 6) hts inlX7 (hts _ wd_1)
  obtain ⟨c8, iS8, hKn8⟩ := u_known (C := RX8) (T := TX8) (N := 19) (n := 19) hts inlX8 (hts _ wd_4)
  obtain ⟨dC, dI, hKcl⟩ : ∃ (dC : Nat → ClassId) (dI : Nat → Nat → Nat), ∀ (k : Nat) (q : vw_C), vwCl[k]? = some q → u_Kn s q.1 q.2.1 q.2.2 (dC k) (dI k) := by
    refine ⟨fun k => if k = 0 then c0 else if k = 1 then c1 else if k = 2 then c2 else if k = 3 then c3 else if k = 4 then c4 else if k = 5 then c5 else if k = 6 then c6 else if k = 7 then c7 else c8, fun k => if k = 0 then iS0 else if k = 1 then iS1 else if k = 2 then iS2 else if k = 3 then iS3 else if k = 4 then iS4 else if k = 5 then iS5 else if k = 6 then iS6 else if k = 7 then iS7 else iS8, ?_⟩
    intro k q hq
    match k, hq with
    | 0, hq => cases hq; exact hKn0
    | 1, hq => cases hq; exact hKn1
    | 2, hq => cases hq; exact hKn2
    | 3, hq => cases hq; exact hKn3
    | 4, hq => cases hq; exact hKn4
    | 5, hq => cases hq; exact hKn5
    | 6, hq => cases hq; exact hKn6
    | 7, hq => cases hq; exact hKn7
    | 8, hq => cases hq; exact hKn8
    | k + 9, hq => simp [vwCl] at hq
  have hnest : ∀ q ∈ gnest, va_Nw (.methodLinkNest q.1 q.2.1 q.2.2.1 q.2.2.2) s := by
    intro q hq
    simp only [gnest, List.mem_cons, List.not_mem_nil, or_false] at hq
    rcases hq with rfl | rfl | rfl | rfl | rfl | rfl | rfl | rfl | rfl | rfl | rfl | rfl
    · exact va_Nw.of rfl (hts0 _ nst_0)
    · exact va_Nw.of rfl (hts0 _ nst_1)
    · exact va_Nw.of rfl (hts0 _ nst_2)
    · exact va_Nw.of rfl (hts0 _ nst_3)
    · exact va_Nw.of rfl (hts0 _ nst_4)
    · exact va_Nw.of rfl (hts0 _ nst_5)
    · exact va_Nw.of rfl (hts0 _ nst_6)
    · exact va_Nw.of rfl (hts0 _ nst_7)
    · exact va_Nw.of rfl (hts0 _ nst_8)
    · exact va_Nw.of rfl (hts0 _ nst_9)
    · exact va_Nw.of rfl (hts0 _ nst_10)
    · exact va_Nw.of rfl (hts0 _ nst_11)
  have hAOi : va_AO RX1 s := va_AO.of (hts0 _ ao_1)
  have hAOs : va_AO RX5 s := va_AO.of (hts0 _ ao_5)
  have hS : va_S (fun q : Nat => s.heap.size ≤ q) s.heap s.heap [] := va_S.rf
  have hK : va_K (dC, dI) vwCl [] s := ⟨hKcl, fun k q h => by simp at h⟩
  have hP : va_P (dC, dI) vwCl [] s.heap := fun k q h => by simp at h
  have hD : va_D (fun q : Nat => s.heap.size ≤ q) [] := ⟨fun i j p q h => by simp at h, fun k q h => by simp at h⟩
  have hl := lv_entry ([.ref b]) (n := 4) (Nat.le_of_ble_eq_true rfl)
  rw [lg_entry_eq]
  generalize (lg_sl ([.ref b]) ++ List.replicate (4 - (lg_sl ([.ref b])).length) Slot.unset).toArray = ls at hl ⊢
  have hl : lv_has ls 4 [(0, .ref b)] := hl
  refine va_new (ci := 7) (fs := [.null, .null, .null, .null, .null, .null]) (C := RX7) (T := TX7) (N := 6) hx hb hts inlX7 tyX7 tyX7_ok hown (hts _ wd_0) (hts _ wd_1) (hts _ wd_2) hK hP hD hS hA rfl dfX7 (Nat.le_of_ble_eq_true rfl) (Nat.le_of_ble_eq_true rfl) dL_law_0 (fun q0 H hP hD hS => ?_)
  have hPc : va_P (dC, dI) vwCl [(q0, .inr (7, [.null, .null, .null, .null, .null, .null]))] H := hP
  have hDc : va_D (fun q : Nat => s.heap.size ≤ q) [(q0, .inr (7, [.null, .null, .null, .null, .null, .null]))] := hD
  refine W.widen (k := 1) (n := 6) (Nat.le_of_ble_eq_true rfl) (Nat.le_of_ble_eq_true rfl) ?_
  refine lv_dup hx hb dL_law_3 rfl ?_
  have hKc := hK.sub (tys' := []) [] rfl
  have hFc := va_free (wc := [(q0, .inr (7, [.null, .null, .null, .null, .null, .null]))]) hDc hS hA [0] rfl
  refine va_callv (va_runI (As := []) (rest := [.ref q0]) ⟨hx, hb, hml, hown, hts⟩ (kX7_init l dC dI q0 H.size) (cwI 0 hts (g_gws wd_8) rfl rfl rfl (hts _ wd_2) (hts _ wd_6) (hts _ wd_7) rfl (by decide +kernel) ⟨Nat.le_of_ble_eq_true rfl, Nat.le_of_ble_eq_true rfl⟩) ⟨fun a U g mk q => by obtain ⟨q0, q1, qP, qK, qD, qA, qB⟩ := q; exact ⟨q0, q1, qP, va_K.moved (u := U) (U := U.calling g mk a) (Vm.Alike.refl U.vm) qK, qD, va_AO.moved (u := U) (U := U.calling g mk a) (Vm.Alike.refl U.vm) qA, va_AO.moved (u := U) (U := U.calling g mk a) (Vm.Alike.refl U.vm) qB⟩, fun U hU hW => ⟨rfl, by rw [hU], by rw [hU]; exact hPc, va_K.moved hW.alike hKc, hDc.weaken (fun _ _ _ _ => trivial), hAOi.moved hW.alike, hAOs.moved hW.alike⟩⟩ rfl rfl hl.1 rfl (lv_room (Nat.le_of_ble_eq_true rfl)) dL_law_4 ⟨Nat.le_of_ble_eq_true rfl, Nat.le_of_ble_eq_true rfl⟩) hS (fun q _ h => hFc q h) hFc (fun u t H1 locs ht hvm hw hB hz1 hk1 hS => ?_)
  obtain ⟨X, hXe, hP1, hK1, hJX, hAX9, hX0⟩ := hB
  rw [ht] at hP1
  have hK1 : va_K X.1 vwCl (gtys X) s := by rw [hXe]; exact va_K.moved hvm.symm hK1
  have hAX : ∀ k : Nat, k < xL.length → s.heap.size ≤ gad X k := fun k hk => hFc _ (hAX9 k hk)
  clear hAX9
  have hKX : gK X s := ⟨hK1, hnest⟩
  refine W.widen (k := 98) (n := 2810) (Nat.le_of_ble_eq_true rfl) (Nat.le_of_ble_eq_true rfl) ?_
  clear hPc hDc hFc hP hD hk1 hz1
  generalize H1 = H at hP1 hS ⊢
  refine lv_astore_n (lv' := [(1, .ref q0), (0, .ref b)]) hx hb dL_law_7 rfl hl (by decide) rfl (fun ls hl => ?_)
  obtain ⟨D', hD'⟩ : ∃ z, z = X.1 := ⟨_, rfl⟩
  have hDX : va_D (fun q : Nat => s.heap.size ≤ q) (gw X xL gS0x) := (gw_D hJX gS0x).weaken (fun k q _ h => by
    obtain ⟨i, hi, e⟩ := h
    rw [e]; exact hAX i hi)
  have hPX : va_P (dC, dI) vwCl (gw X xL gS0x) H := by
    have := hP1
    unfold gP at this
    rw [hXe] at this
    exact this
  refine va_new (ci := 8) (fs := [.null, .null, .null, .int 0, .null, .null, .null, .int 0, .null, .null, .int 0, .null, .null, .null, .int 0, .int 0, .int 0, .int 0, .long 0]) (C := RX8) (T := TX8) (N := 19) hx hb hts inlX8 tyX8 tyX8_ok hown (hts _ wd_3) (hts _ wd_4) (hts _ wd_5) hK hPX hDX hS hA rfl dfX8 (Nat.le_of_ble_eq_true rfl) (Nat.le_of_ble_eq_true rfl) dL_law_8 (fun q1 H hP hD hS => ?_)
  have hPx := vaP_l hP
  have hPc := vaP_r hP
  have hDc := vaD_r hD
  refine W.widen (k := 99) (n := 2829) (Nat.le_of_ble_eq_true rfl) (Nat.le_of_ble_eq_true rfl) ?_
  refine lv_dup hx hb dL_law_11 rfl ?_
  have hFc := va_free (wc := [(q1, .inr (8, [.null, .null, .null, .int 0, .null, .null, .null, .int 0, .null, .null, .int 0, .null, .null, .null, .int 0, .int 0, .int 0, .int 0, .long 0]))]) hDc hS hA [0] rfl
  refine va_callv (va_runI (As := []) (rest := [.ref q1]) ⟨hx, hb, hml, hown, hts⟩ (kX8_init l dC dI q1 H.size) (cwI 0 hts (g_gws wd_93) rfl rfl rfl (hts _ wd_5) (hts _ wd_91) (hts _ wd_92) rfl (by decide +kernel) ⟨Nat.le_of_ble_eq_true rfl, Nat.le_of_ble_eq_true rfl⟩) ⟨fun a U g mk q => by obtain ⟨q0, q1, qP, qK, qD⟩ := q; exact ⟨q0, q1, qP, va_K.moved (u := U) (U := U.calling g mk a) (Vm.Alike.refl U.vm) qK, qD⟩, fun U hU hW => ⟨rfl, by rw [hU], by rw [hU]; exact hPc, va_K.moved hW.alike hKc, hDc.weaken (fun _ _ _ _ => trivial)⟩⟩ rfl rfl hl.1 rfl (lv_room (Nat.le_of_ble_eq_true rfl)) dL_law_12 ⟨Nat.le_of_ble_eq_true rfl, Nat.le_of_ble_eq_true rfl⟩) hS (fun q _ h => hFc q h) hFc (fun u t H1 locs ht hvm hw hB hz1 hk1 hS => ?_)
  obtain ⟨cy, ad, hK2, hB⟩ := hB
  have hK2 := va_K.moved hvm.symm hK2
  have hcy : gcy X 0 = cy := by
    have h1 : va_K (dC, dI) vwCl (gtys X) s := by
      have := hK1
      rw [hXe] at this
      exact this
    exact gcy_eq (h1.app hK2) (i := 0) (j := 3) rfl rfl
  obtain ⟨hP2, hJY, hAY, hY0⟩ := hB (fun z => gcy X z) hcy
  rw [ht] at hP2
  obtain ⟨Y, hYe⟩ : ∃ Y : gXt, Y = ((dC, dI), (fun z => gcy X z), ad) := ⟨_, rfl⟩
  rw [← hYe] at hP2 hJY hAY
  have hKY : gK Y s := by
    refine ⟨?_, hnest⟩
    rw [hYe]
    have h1 : va_K (dC, dI) vwCl (gtys X) s := by
      have := hK1
      rw [hXe] at this
      exact this
    exact h1
  have hPX1 : gP X xL gS0x H := by
    unfold gP
    rw [hXe]
    exact hPx
  have hlt : ∀ i : Nat, i < xL.length → gad X i < H.size ∧ gad X i ≠ q1 := by
    intro i hi
    have hg := gw_get (X := X) (σ := gS0x) (List.getElem?_eq_getElem hi)
    refine ⟨(hPX1 i _ hg).lt, fun h => ?_⟩
    have hlen : (gw X xL gS0x).length = xL.length := by simp [gw, gmap_len]
    have h1 := hD.1 i xL.length (gad X i, _) (q1, .inr (8, [.null, .null, .null, .int 0, .null, .null, .null, .int 0, .null, .null, .int 0, .null, .null, .null, .int 0, .int 0, .int 0, .int 0, .long 0])) (by rw [List.getElem?_append_left (by rw [hlen]; exact hi)]; exact hg) (by rw [List.getElem?_append_right (by rw [hlen]; exact Nat.le_refl _), hlen, Nat.sub_self]; rfl) h
    omega
  have hdis : ∀ i j : Nat, i < xL.length → j < mL.length → gad X i ≠ gad Y j := by
    intro i j hi hj h
    obtain ⟨h1, h2⟩ := hlt i hi
    rcases hAY j hj with ⟨k, e, hk⟩ | hk
    · have hk0 : k < 1 := (List.getElem?_eq_some_iff.mp hk).1
      rw [show k = 0 by omega] at hk
      cases hk
      exact h2 h
    · omega
  have hPX2 : gP X xL gS0x H1 := by
    refine gP_kept (L := mL) (X := Y) hPX1 (fun i j hi hj h => hdis j i hj hi h.symm) (fun q hq hn => hk1 q hq (fun h => ?_))
    rcases h with ⟨k, e, hk⟩ | hk
    · have hk0 : k < 1 := (List.getElem?_eq_some_iff.mp hk).1
      rw [show k = 0 by omega] at hk
      cases hk
      refine hn ⟨0, by decide, ?_⟩
      rw [hYe]; exact hY0.symm
    · omega
  have hAY' : ∀ k : Nat, k < mL.length → s.heap.size ≤ gad Y k := fun k hk => hFc _ (hAY k hk)
  refine W.widen (k := 600000) (n := 7302250) (Nat.le_of_ble_eq_true rfl) (Nat.le_of_ble_eq_true rfl) ?_
  have hX0 : q0 = gad X 0 := hX0.symm
  have hY0 : q1 = gad Y 0 := by rw [hYe]; exact hY0.symm
  subst hX0; subst hY0
  refine lv_astore_n (lv' := [(2, .ref (gad Y 0)), (1, .ref (gad X 0)), (0, .ref b)]) hx hb dL_law_15 rfl hl (by decide) rfl (fun ls hl => ?_)
  refine lv_iconst (v := 0) hx hb dL_law_16 (by decide) ?_
  refine lv_istore_n (lv' := [(3, .int 0), (2, .ref (gad Y 0)), (1, .ref (gad X 0)), (0, .ref b)]) hx hb dL_law_17 rfl hl (by decide) rfl (fun ls hl => ?_)
  exact law_loop hL hr hlocks ⟨hx, hb, hml, hown, hts, hKX, hKY, hJX, hJY, hdis, hAX, hAY', hX, hbl⟩ (L + 4) 0 (by omega) (by omega) gS0x gS0m H1 locs ls rel_0 hPX2 hP2 hS (lv_sub hl [3, 2, 1, 0] rfl)
set_option maxHeartbeats 4000000 in
theorem lw_walk (l : Launch) (hflags : l.flags = flags0) (b : Addr) (xs : List Int32) : MetFree l x (headSpec (Jvm.Cond.code x code maxLocals ret :: tables_1) room_1) (lw_P b xs) (fun _ _ _ _ _ => True) lw_Q := by
  refine MetFree.of_bodyS (code := code) (maxLocals := maxLocals) (ret := ret) (by decide) ?_ ?_
  · intro args s m h hn
    obtain ⟨meth, c, h1, h2, h3, h4, h5, h6, -, -⟩ := Cond.code_spec hn (atoms_spec (ws := Jvm.Cond.code x code maxLocals ret :: tables_1) h _ List.mem_cons_self)
    exact ⟨meth, c, h1, h2, h3, h4, h5, h6⟩
  · intro p e s m args below meth c s₁ B hml0 hP _
    obtain ⟨rfl, hx, hbd, hgv⟩ := hP
    obtain ⟨scr, harrAt, hlist, hof, hsmall⟩ := hx
    obtain ⟨hcb, hkn, -, -⟩ := State.arrayAt?_spec harrAt
    have hown : s.vm.findClass R_law = some m.cls := findClass_of_methodNamed B.named
    have hts0 : ∀ c ∈ (Jvm.Cond.code x code maxLocals ret :: tables_1), c.before #[Value.ref b] s = true := atoms_spec (ws := Jvm.Cond.code x code maxLocals ret :: tables_1) B.pre
    have hts : ∀ w ∈ lw_tbl, w.before #[Value.ref b] s = true := k2_hts_sels lw_privs (fun w hw => hts0 w (List.mem_cons_of_mem _ hw)) lw_privs_ok
    have hml : c.maxLocals = 4 := B.maxLocals_eq (hts0 _ List.mem_cons_self)
    have X₀ : Stand p l e room_1 s m #[Value.ref b] below meth c s₁ [] 0 0 := Stand.of_body B
    have hh0 : s₁.heap = s.heap := by rw [B.state]; rfl
    have hsz : scr.slots.size = xs.length := by rw [← Array.length_toList, hlist, List.length_map]
    have hval : ∀ j : Nat, j < xs.length → scr.slots[j]? = some (.int (xs.getD j 0)) := fun j hj => by
      rw [← Array.getElem?_toList, hlist]
      simp [hj]
    have hbl : b < s.heap.size := (Array.getElem?_eq_some_iff.mp hcb).1
    have hX : va_X b xs.length (fun j => xs.getD j 0) s s.heap := ⟨scr, hcb, hof, hkn, hsz, hval⟩
    have K : W p l e room_1 s m #[Value.ref b] below meth c s₁.heap [] 0 0 (lw_Z below #[Value.ref b] s) (entryFrame m ([Value.ref b] : List Value).toArray 4) := by
      rw [hh0]
      exact whole_start l hflags hbd ⟨B.exec, B.bytes, B.returns, hml, hown, hts, hX, hbl, B.notSynchronized, hgv⟩
    obtain ⟨t, a1, o, b1, b2, b3⟩ := K s₁ rfl X₀
    exact ⟨t, o, a1, b1, b2, b3⟩
theorem lw_pre_spec {args : Array Value} {s : State} (h : (Jvm.Cond.and given_1 narrow_1).before args s = true) (hr : rest_1_c.before args s = true) : ∃ (b : Addr) (xs : List Int32), lw_P b xs args s := by
  have hs := flat_of_before _ h
  have hq := flat_of_before _ hr
  have hc : (Cond.count 1).before args s = true := hs _ (by decide +kernel)
  have harr : (Cond.arrayOf (.arg 0) .int).before args s = true := hs _ (by decide +kernel)
  have hle : (Cond.le (.length (.arg 0)) (.int 2048)).before args s = true := hs _ (by decide +kernel)
  have hlen : (Cond.isInt (.length (.arg 0))).before args s = true := hq _ (by decide +kernel)
  have hall : (Cond.all (.arg 0) (.isInt (.elem (.arg 0) (.index 0)))).before args s = true := hq _ (by decide +kernel)
  obtain ⟨b, xs, hb, hx⟩ := State.ints_of_pre rfl harr hlen hall
  have hsm : xs.length < 2 ^ 31 := hx.choose_spec.2.2.2
  have hev : (Term.length (.arg 0)).eval args s none [] s = some (.int xs.length.toInt32) := hx.length_eval hb
  have hv := Cond.le_ints hev (show (Term.int 2048).eval args s none [] s = some (.int 2048) from rfl)
  have hd : xs.length.toInt32 ≤ 2048 := by
    simpa [Cond.before, Cond.holds, hv] using hle
  have hN : xs.length ≤ 2048 := (Int32.ofNat_le_ofNat hsm (by decide)).mp (show Int32.ofNat xs.length ≤ Int32.ofNat 2048 from hd)
  exact ⟨b, xs, Cond.one_arg hc (show args[0]? = some (.ref b) from hb), hx, hN, h⟩
theorem lw_comes (l : Launch) (hflags : l.flags = flags0) : Comes l x (Jvm.Cond.code x code maxLocals ret :: tables_1) room_1 (fun tb e args s => Calls_1 tb e args s ∧ rest_1 tb e args s ∧ Pre_1 tb e args s)
    (fun _ _ args s o t => lw_Q args s o t) := by
  intro p e ha hc hk s m args below hf hfit hheap happ hpre
  obtain ⟨b, xs, hP⟩ := lw_pre_spec hpre.2.2 hpre.2.1
  obtain ⟨k, o, h1, h2, h3, hQ⟩ := lw_walk l hflags b xs p e ha hc hk s m args below hf ((Spec.applies_iff_loose hf).mp happ).1 hP trivial
  exact ⟨k, o, h1, h2, h3, hQ⟩
theorem lw_frame {s t : State} {o : Outcome} {args : Array Value} (h : Framed s o t [] 600000 7302250) :
    Framed s o t (fieldLocs frame_1_writes args s ++ arrayLocs frame_1_arrays args s ++ staticLocs frame_1_statics s) 600000 7302250 := h
theorem lw_limb (L : Cond) (hL : ∀ (args : Array Value) (s t : State), L.after args s (.returned (some (.int 1))) t = true) :
    ArmFor flags0 classFile x code maxLocals ret World_1 tables_1 room_1 Calls_1 rest_1 Pre_1
      (fun tb e a s o t => postC L tb e a s o t ∧ Framed s o t (fieldLocs frame_1_writes a s ++ arrayLocs frame_1_arrays a s ++ staticLocs frame_1_statics s) 600000 7302250) := by
  intro l hflags _ _ p e ha hc hk s m args below hf hfit hheap happ hpre
  obtain ⟨k, o, h1, h2, h3, rfl, hF⟩ := lw_comes l hflags p e ha hc hk s m args below hf hfit hheap happ hpre
  exact ⟨k, _, h1, h2, h3, hL args s _, lw_frame hF⟩
theorem i_vc : Claimed_1_1 ∧ Claimed_1_2 := ⟨lw_limb limb_1_1 (fun args s t => by simp [limb_1_1, Cond.after, Cond.holds, Cond.value]), lw_limb limb_1_2 (fun args s t => Cond.after_iff.mpr (by
  first | (rw [show limb_1_2 = Cond.eq .result (.int 1) from rfl, Cond.eq_ints (x := 1) (y := 1) rfl rfl]; simp; done) | (simp [limb_1_2, Cond.value, Term.eval]; done)))⟩

