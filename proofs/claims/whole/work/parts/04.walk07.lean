/-! WALKS, by program (wip/whole/gen.py): each method does what its mirror says -/
abbrev rmX8_imageLaid : Room := { frames := 0, cells := 0, slots := 0, locals := 0 }
theorem kdX8_imageLaid : yX8_imageLaid.cls = RX8 ∧ yX8_imageLaid.cls ≠ "java/lang/invoke/MethodHandle" ∧ yX8_imageLaid.cls ≠ "java/lang/invoke/VarHandle" ∧ (parseMethodDescriptor yX8_imageLaid.desc).map (fun d => d.parameters.length) = some 0 := by decide +kernel
set_option maxHeartbeats 4000000 in
set_option maxRecDepth 100000 in
theorem kX8_imageLaid_18 {p : Program} {l : Launch} {e : Env} {s : State} {m : MethodId} {args : Array Value} {below : List Frame} {meth : Method} {c : Code} {X : gXt} (hJ : gJ X mL) (C : gC p s m args meth c RX8 cX8_imageLaid 4 (some .int) X mL) (σ : gS) (f18_1 : Int32) (k : Int32 → Option Int32) (q : Int32) (hk : ∀ (x2 : Int32) (H : Heap) (locs : List Loc) (ls : Array Slot), k x2 = some q → gH X mL σ s H locs → lv_has ls 4 [(0, .ref (gad X 0)), (1, .int f18_1), (2, .int x2)] → W p l e rmX8_imageLaid s m args below meth c H locs 0 0 (MQ below (gQi X mL q σ) args s 0 0 (gA X mL)) (F0 m 66 ls [])) : ∀ (n : Nat) (v2 : Int32) (v3 : Int32), qM_imageLaid_18 σ f18_1 k n v2 v3 = some q → ∀ (H : Heap) (locs : List Loc) (ls : Array Slot), gH X mL σ s H locs → lv_has ls 4 [(0, .ref (gad X 0)), (1, .int f18_1), (2, .int v2), (3, .int v3)] → W p l e rmX8_imageLaid s m args below meth c H locs 0 0 (MQ below (gQi X mL q σ) args s 0 0 (gA X mL)) (F0 m 18 ls []) := by
  have hx := C.1
  have hb := C.2.1
  have hK := C.2.2.2.2.2.2.2.1
  have hts := C.2.2.2.2.1
  intro n
  induction n with
  | zero => intro v2 v3 h; cases h
  | succ n ih =>
    intro v2 v3 h H locs ls P hl
    have h : (if (131 : Int32) ≤ v3 then k v2 else (if v2 = 0 then k v2 else gob (((171 : Int32) + ((131 : Int32) * f18_1)) + v3) 1219 (gob v3 131 ((if (gM σ 1 (((171 : Int32) + ((131 : Int32) * f18_1)) + v3).toNatClampNeg) = (gM σ 9 v3.toNatClampNeg) then qM_imageLaid_18 σ f18_1 k n (1 : Int32) (v3 + 1) else qM_imageLaid_18 σ f18_1 k n (0 : Int32) (v3 + 1)))))) = some q := h
    refine lv_iload_n hx hb dX8_imageLaid_18 rfl (lv_at hl 3 rfl) ?_
    refine lv_sipush (v := 131) hx hb dX8_imageLaid_19 (by decide) ?_
    refine lv_icmp_ge (tgt := 66) hx hb dX8_imageLaid_22 (by decide) (fun c2 => ?_) (fun c2 => ?_)
    · have h := g_ifp c2 h
      exact hk v2 _ _ _ h P (lv_sub hl [0, 1, 2] rfl)
    have h := g_ifn c2 h
    refine lv_iload_n hx hb dX8_imageLaid_25 rfl (lv_at hl 2 rfl) ?_
    refine lv_if_eq (tgt := 66) hx hb dX8_imageLaid_26 (by decide) (fun c3 => ?_) (fun c3 => ?_)
    · have h := g_ifp c3 h
      exact hk v2 _ _ _ h P (lv_sub hl [0, 1, 2] rfl)
    have h := g_ifn c3 h
    refine lv_aload_n hx hb dX8_imageLaid_29 rfl (lv_at hl 0 rfl) ?_
    refine g_getR C P ml0 rfl inlX8 0 (by decide) wd_95 rfl dX8_imageLaid_30 ?_
    refine lv_sipush (v := 171) hx hb dX8_imageLaid_33 (by decide) ?_
    refine lv_sipush (v := 131) hx hb dX8_imageLaid_36 (by decide) ?_
    refine lv_iload_n hx hb dX8_imageLaid_39 rfl (lv_at hl 1 rfl) ?_
    refine lv_imul hx hb dX8_imageLaid_40 ?_
    refine lv_iadd hx hb dX8_imageLaid_41 ?_
    refine lv_iload_n hx hb dX8_imageLaid_42 rfl (lv_at hl 3 rfl) ?_
    refine lv_iadd hx hb dX8_imageLaid_43 ?_
    obtain ⟨b4, h⟩ := g_ob h
    refine g_iald (j := (((171 : Int32) + ((131 : Int32) * f18_1)) + v3).toNatClampNeg) C P ml1 b4 rfl dX8_imageLaid_44 ?_
    refine lv_aload_n hx hb dX8_imageLaid_45 rfl (lv_at hl 0 rfl) ?_
    refine g_getR C P ml0 rfl inlX8 11 (by decide) wd_103 rfl dX8_imageLaid_46 ?_
    refine lv_iload_n hx hb dX8_imageLaid_49 rfl (lv_at hl 3 rfl) ?_
    obtain ⟨b5, h⟩ := g_ob h
    refine g_iald (j := v3.toNatClampNeg) C P ml9 b5 rfl dX8_imageLaid_50 ?_
    refine lv_icmp_ne (tgt := 58) hx hb dX8_imageLaid_51 (by decide) (fun c6 => ?_) (fun c6 => ?_)
    · have h := g_ifn c6 h
      refine lv_iconst (v := 0) hx hb dX8_imageLaid_58 (by decide) ?_
      refine lv_istore_n (lv' := [(2, .int (0 : Int32)), (0, .ref (gad X 0)), (1, .int f18_1), (3, .int v3)]) hx hb dX8_imageLaid_59 rfl hl (by decide) rfl (fun ls hl => ?_)
      refine lv_iinc (v := (v3 + 1)) (lv' := [(3, .int (v3 + 1)), (2, .int (0 : Int32)), (0, .ref (gad X 0)), (1, .int f18_1)]) hx hb dX8_imageLaid_60 hl (k := 3) rfl rfl (by decide) rfl (fun ls hl => ?_)
      refine lv_goto (tgt := 18) hx hb dX8_imageLaid_63 (by decide) ?_
      exact ih (0 : Int32) (v3 + 1) h _ _ _ P (lv_sub hl [2, 3, 1, 0] rfl)
    have h := g_ifp c6 h
    refine lv_iconst (v := 1) hx hb dX8_imageLaid_54 (by decide) ?_
    refine lv_goto (tgt := 59) hx hb dX8_imageLaid_55 (by decide) ?_
    refine lv_istore_n (lv' := [(2, .int (1 : Int32)), (0, .ref (gad X 0)), (1, .int f18_1), (3, .int v3)]) hx hb dX8_imageLaid_59 rfl hl (by decide) rfl (fun ls hl => ?_)
    refine lv_iinc (v := (v3 + 1)) (lv' := [(3, .int (v3 + 1)), (2, .int (1 : Int32)), (0, .ref (gad X 0)), (1, .int f18_1)]) hx hb dX8_imageLaid_60 hl (k := 3) rfl rfl (by decide) rfl (fun ls hl => ?_)
    refine lv_goto (tgt := 18) hx hb dX8_imageLaid_63 (by decide) ?_
    exact ih (1 : Int32) (v3 + 1) h _ _ _ P (lv_sub hl [2, 3, 1, 0] rfl)
set_option maxHeartbeats 4000000 in
set_option maxRecDepth 100000 in
theorem kX8_imageLaid_2 {p : Program} {l : Launch} {e : Env} {s : State} {m : MethodId} {args : Array Value} {below : List Frame} {meth : Method} {c : Code} {X : gXt} (hJ : gJ X mL) (C : gC p s m args meth c RX8 cX8_imageLaid 4 (some .int) X mL) (σ : gS) (k : Unit → Option Int32) (q : Int32) (hk : ∀ (u : Unit) (H : Heap) (locs : List Loc) (ls : Array Slot), k u = some q → gH X mL σ s H locs → lv_has ls 4 [] → W p l e rmX8_imageLaid s m args below meth c H locs 0 0 (MQ below (gQi X mL q σ) args s 0 0 (gA X mL)) (F0 m 78 ls [])) : ∀ (n : Nat) (v1 : Int32), qM_imageLaid_2 σ k n v1 = some q → ∀ (H : Heap) (locs : List Loc) (ls : Array Slot), gH X mL σ s H locs → lv_has ls 4 [(0, .ref (gad X 0)), (1, .int v1)] → W p l e rmX8_imageLaid s m args below meth c H locs 0 0 (MQ below (gQi X mL q σ) args s 0 0 (gA X mL)) (F0 m 2 ls []) := by
  have hx := C.1
  have hb := C.2.1
  have hK := C.2.2.2.2.2.2.2.1
  have hts := C.2.2.2.2.1
  intro n
  induction n with
  | zero => intro v1 h; cases h
  | succ n ih =>
    intro v1 h H locs ls P hl
    have h : (if (gM σ 1 170) ≤ v1 then k () else qM_imageLaid_18 σ v1 (fun x7 => (if x7 = 0 then qM_imageLaid_2 σ k n (v1 + 1) else some v1)) 8192 (1 : Int32) (0 : Int32)) = some q := h
    refine lv_iload_n hx hb dX8_imageLaid_2 rfl (lv_at hl 1 rfl) ?_
    refine lv_aload_n hx hb dX8_imageLaid_3 rfl (lv_at hl 0 rfl) ?_
    refine g_getR C P ml0 rfl inlX8 0 (by decide) wd_95 rfl dX8_imageLaid_4 ?_
    refine lv_sipush (v := 170) hx hb dX8_imageLaid_7 (by decide) ?_
    refine g_iald (j := 170) C P ml1 (vp_in_iff.mpr ⟨by decide, by decide⟩) (by decide) dX8_imageLaid_10 ?_
    refine lv_icmp_ge (tgt := 78) hx hb dX8_imageLaid_11 (by decide) (fun c1 => ?_) (fun c1 => ?_)
    · have h := g_ifp c1 h
      exact hk () _ _ _ h P (lv_sub hl [] rfl)
    have h := g_ifn c1 h
    refine lv_iconst (v := 1) hx hb dX8_imageLaid_14 (by decide) ?_
    refine lv_istore_n (lv' := [(2, .int (1 : Int32)), (0, .ref (gad X 0)), (1, .int v1)]) hx hb dX8_imageLaid_15 rfl hl (by decide) rfl (fun ls hl => ?_)
    refine lv_iconst (v := 0) hx hb dX8_imageLaid_16 (by decide) ?_
    refine lv_istore_n (lv' := [(3, .int (0 : Int32)), (2, .int (1 : Int32)), (0, .ref (gad X 0)), (1, .int v1)]) hx hb dX8_imageLaid_17 rfl hl (by decide) rfl (fun ls hl => ?_)
    refine kX8_imageLaid_18 hJ C σ v1 _ _ ?_ _ _ _ h _ _ _ P (lv_sub hl [2, 3, 1, 0] rfl)
    intro x7 H locs ls h P hl
    refine lv_iload_n hx hb dX8_imageLaid_66 rfl (lv_at hl 2 rfl) ?_
    refine lv_if_eq (tgt := 72) hx hb dX8_imageLaid_67 (by decide) (fun c8 => ?_) (fun c8 => ?_)
    · have h := g_ifp c8 h
      refine lv_iinc (v := (v1 + 1)) (lv' := [(1, .int (v1 + 1)), (0, .ref (gad X 0)), (2, .int x7)]) hx hb dX8_imageLaid_72 hl (k := 1) rfl rfl (by decide) rfl (fun ls hl => ?_)
      refine lv_goto (tgt := 2) hx hb dX8_imageLaid_75 (by decide) ?_
      exact ih (v1 + 1) h _ _ _ P (lv_sub hl [1, 0] rfl)
    have h := g_ifn c8 h
    refine lv_iload_n hx hb dX8_imageLaid_70 rfl (lv_at hl 1 rfl) ?_
    have h := Option.some.inj h
    exact g_iret C P h rfl dX8_imageLaid_71
set_option maxHeartbeats 4000000 in
set_option maxRecDepth 100000 in
theorem kX8_imageLaid (l : Launch) (X : gXt) (hJ : gJ X mL) (σ : gS) (q : Int32) (h : qM_imageLaid σ = some q) : gMi l yX8_imageLaid (gws yX8_imageLaid cX8_imageLaid 4 (some .int)) rmX8_imageLaid X mL [.ref (gad X 0)] σ q σ := by
  refine g_enter (cc := cX8_imageLaid) (nL := 4) (ret := (some .int)) hJ (plainFor_of_name (by decide)) (Nat.le_of_ble_eq_true rfl) ?_
  intro p e s m below meth c ls C P hl
  have C : gC p s m _ meth c RX8 cX8_imageLaid 4 (some .int) X mL := C
  have hx := C.1
  have hb := C.2.1
  have hK := C.2.2.2.2.2.2.2.1
  have hts := C.2.2.2.2.1
  have hl : lv_has ls 4 [(0, .ref (gad X 0))] := hl
  unfold qM_imageLaid at h
  refine lv_iconst (v := 0) hx hb dX8_imageLaid_0 (by decide) ?_
  refine lv_istore_n (lv' := [(1, .int (0 : Int32)), (0, .ref (gad X 0))]) hx hb dX8_imageLaid_1 rfl hl (by decide) rfl (fun ls hl => ?_)
  refine kX8_imageLaid_2 hJ C σ _ _ ?_ _ _ h _ _ _ P (lv_sub hl [1, 0] rfl)
  intro _ H locs ls h P hl
  refine lv_iconst (v := -1) hx hb dX8_imageLaid_78 (by decide) ?_
  have h := Option.some.inj h
  exact g_iret C P h rfl dX8_imageLaid_79
abbrev rmX8_freezes : Room := { frames := 3, cells := 0, slots := 0, locals := 66 }
theorem kdX8_freezes : yX8_freezes.cls = RX8 ∧ yX8_freezes.cls ≠ "java/lang/invoke/MethodHandle" ∧ yX8_freezes.cls ≠ "java/lang/invoke/VarHandle" ∧ (parseMethodDescriptor yX8_freezes.desc).map (fun d => d.parameters.length) = some 1 := by decide +kernel
set_option maxHeartbeats 4000000 in
set_option maxRecDepth 100000 in
theorem kX8_freezes_154 {p : Program} {l : Launch} {e : Env} {s : State} {m : MethodId} {args : Array Value} {below : List Frame} {meth : Method} {c : Code} {X : gXt} (hJ : gJ X mL) (C : gC p s m args meth c RX8 cX8_freezes 5 (some .int) X mL) (f154_3 : Int32) (k : gS → Option (Int32 × gS)) (q : Int32 × gS) (hk : ∀ (σ' : gS) (H : Heap) (locs : List Loc) (ls : Array Slot), k σ' = some q → gH X mL σ' s H locs → lv_has ls 5 [(3, .int f154_3)] → W p l e rmX8_freezes s m args below meth c H locs 0 0 (MQ below (gQi X mL q.1 q.2) args s 0 0 (gA X mL)) (F0 m 187 ls [])) : ∀ (n : Nat) (σ : gS) (v4 : Int32), qM_freezes_154 f154_3 k n σ v4 = some q → ∀ (H : Heap) (locs : List Loc) (ls : Array Slot), gH X mL σ s H locs → lv_has ls 5 [(0, .ref (gad X 0)), (3, .int f154_3), (4, .int v4)] → W p l e rmX8_freezes s m args below meth c H locs 0 0 (MQ below (gQi X mL q.1 q.2) args s 0 0 (gA X mL)) (F0 m 154 ls []) := by
  have hx := C.1
  have hb := C.2.1
  have hK := C.2.2.2.2.2.2.2.1
  have hts := C.2.2.2.2.1
  intro n
  induction n with
  | zero => intro σ v4 h; cases h
  | succ n ih =>
    intro σ v4 h H locs ls P hl
    have h : (if (gI σ 0 10) ≤ v4 then k σ else gob v4 10 (gob ((qM_piecePlace (gM σ 8 v4.toNatClampNeg)) + (2 : Int32)) 1219 (qM_freezes_154 f154_3 k n (sM σ 1 ((qM_piecePlace (gM σ 8 v4.toNatClampNeg)) + (2 : Int32)).toNatClampNeg (1 : Int32)) (v4 + 1)))) = some q := h
    refine lv_iload hx hb dX8_freezes_154 (lv_at hl 2 rfl) ?_
    refine lv_aload_n hx hb dX8_freezes_156 rfl (lv_at hl 0 rfl) ?_
    refine g_getI C P ml0 rfl inlX8 10 (by decide) wd_289 rfl dX8_freezes_157 ?_
    refine lv_icmp_ge (tgt := 187) hx hb dX8_freezes_160 (by decide) (fun c18 => ?_) (fun c18 => ?_)
    · have h := g_ifp c18 h
      exact hk σ _ _ _ h P (lv_sub hl [1] rfl)
    have h := g_ifn c18 h
    refine lv_aload_n hx hb dX8_freezes_163 rfl (lv_at hl 0 rfl) ?_
    refine g_getR C P ml0 rfl inlX8 0 (by decide) wd_95 rfl dX8_freezes_164 ?_
    refine lv_aload_n hx hb dX8_freezes_167 rfl (lv_at hl 0 rfl) ?_
    refine g_getR C P ml0 rfl inlX8 9 (by decide) wd_102 rfl dX8_freezes_168 ?_
    refine lv_iload hx hb dX8_freezes_171 (lv_at hl 2 rfl) ?_
    obtain ⟨b19, h⟩ := g_ob h
    refine g_iald (j := v4.toNatClampNeg) C P ml8 b19 rfl dX8_freezes_173 ?_
    refine g_callSi (n := 1) (As := [.int (gM σ 8 v4.toNatClampNeg)]) (rest := [.ref (gad X 1)]) C P (kX8_piecePlace l X hJ σ (gM σ 8 v4.toNatClampNeg) _ rfl) wd_198 wd_199 wd_5 wd_200 rfl rfl kdX8_piecePlace.2 ⟨Nat.le_of_ble_eq_true rfl, Nat.le_of_ble_eq_true rfl⟩ rfl rfl hl.1 (Nat.le_of_ble_eq_true rfl) dX8_freezes_174 (fun H locs P => ?_)
    refine lv_iconst (v := 2) hx hb dX8_freezes_177 (by decide) ?_
    refine lv_iadd hx hb dX8_freezes_178 ?_
    refine lv_iconst (v := 1) hx hb dX8_freezes_179 (by decide) ?_
    obtain ⟨b20, h⟩ := g_ob h
    refine g_iast (j := ((qM_piecePlace (gM σ 8 v4.toNatClampNeg)) + (2 : Int32)).toNatClampNeg) C P ml1 b20 rfl dX8_freezes_180 (fun H locs P => ?_)
    refine lv_iinc (v := (v4 + 1)) (lv' := [(4, .int (v4 + 1)), (0, .ref (gad X 0)), (3, .int f154_3)]) hx hb dX8_freezes_181 hl (k := 2) rfl rfl (by decide) rfl (fun ls hl => ?_)
    refine lv_goto (tgt := 154) hx hb dX8_freezes_184 (by decide) ?_
    exact ih (sM σ 1 ((qM_piecePlace (gM σ 8 v4.toNatClampNeg)) + (2 : Int32)).toNatClampNeg (1 : Int32)) (v4 + 1) h _ _ _ P (lv_sub hl [1, 2, 0] rfl)
set_option maxHeartbeats 4000000 in
set_option maxRecDepth 100000 in
theorem kX8_freezes_101 {p : Program} {l : Launch} {e : Env} {s : State} {m : MethodId} {args : Array Value} {below : List Frame} {meth : Method} {c : Code} {X : gXt} (hJ : gJ X mL) (C : gC p s m args meth c RX8 cX8_freezes 5 (some .int) X mL) (f101_3 : Int32) (k : gS → Option (Int32 × gS)) (q : Int32 × gS) (hk : ∀ (σ' : gS) (H : Heap) (locs : List Loc) (ls : Array Slot), k σ' = some q → gH X mL σ' s H locs → lv_has ls 5 [(0, .ref (gad X 0)), (3, .int f101_3)] → W p l e rmX8_freezes s m args below meth c H locs 0 0 (MQ below (gQi X mL q.1 q.2) args s 0 0 (gA X mL)) (F0 m 139 ls [])) : ∀ (n : Nat) (σ : gS) (v4 : Int32), qM_freezes_101 f101_3 k n σ v4 = some q → ∀ (H : Heap) (locs : List Loc) (ls : Array Slot), gH X mL σ s H locs → lv_has ls 5 [(0, .ref (gad X 0)), (3, .int f101_3), (4, .int v4)] → W p l e rmX8_freezes s m args below meth c H locs 0 0 (MQ below (gQi X mL q.1 q.2) args s 0 0 (gA X mL)) (F0 m 101 ls []) := by
  have hx := C.1
  have hb := C.2.1
  have hK := C.2.2.2.2.2.2.2.1
  have hts := C.2.2.2.2.1
  intro n
  induction n with
  | zero => intro σ v4 h; cases h
  | succ n ih =>
    intro σ v4 h H locs ls P hl
    have h : (if (131 : Int32) ≤ v4 then k σ else gob v4 131 (gob (((171 : Int32) + ((131 : Int32) * f101_3)) + v4) 1219 (qM_freezes_101 f101_3 k n (sM σ 1 (((171 : Int32) + ((131 : Int32) * f101_3)) + v4).toNatClampNeg (gM σ 9 v4.toNatClampNeg)) (v4 + 1)))) = some q := h
    refine lv_iload hx hb dX8_freezes_101 (lv_at hl 2 rfl) ?_
    refine lv_sipush (v := 131) hx hb dX8_freezes_103 (by decide) ?_
    refine lv_icmp_ge (tgt := 139) hx hb dX8_freezes_106 (by decide) (fun c23 => ?_) (fun c23 => ?_)
    · have h := g_ifp c23 h
      exact hk σ _ _ _ h P (lv_sub hl [0, 1] rfl)
    have h := g_ifn c23 h
    refine lv_aload_n hx hb dX8_freezes_109 rfl (lv_at hl 0 rfl) ?_
    refine g_getR C P ml0 rfl inlX8 0 (by decide) wd_95 rfl dX8_freezes_110 ?_
    refine lv_sipush (v := 171) hx hb dX8_freezes_113 (by decide) ?_
    refine lv_sipush (v := 131) hx hb dX8_freezes_116 (by decide) ?_
    refine lv_iload_n hx hb dX8_freezes_119 rfl (lv_at hl 1 rfl) ?_
    refine lv_imul hx hb dX8_freezes_120 ?_
    refine lv_iadd hx hb dX8_freezes_121 ?_
    refine lv_iload hx hb dX8_freezes_122 (lv_at hl 2 rfl) ?_
    refine lv_iadd hx hb dX8_freezes_124 ?_
    refine lv_aload_n hx hb dX8_freezes_125 rfl (lv_at hl 0 rfl) ?_
    refine g_getR C P ml0 rfl inlX8 11 (by decide) wd_103 rfl dX8_freezes_126 ?_
    refine lv_iload hx hb dX8_freezes_129 (lv_at hl 2 rfl) ?_
    obtain ⟨b24, h⟩ := g_ob h
    refine g_iald (j := v4.toNatClampNeg) C P ml9 b24 rfl dX8_freezes_131 ?_
    obtain ⟨b25, h⟩ := g_ob h
    refine g_iast (j := (((171 : Int32) + ((131 : Int32) * f101_3)) + v4).toNatClampNeg) C P ml1 b25 rfl dX8_freezes_132 (fun H locs P => ?_)
    refine lv_iinc (v := (v4 + 1)) (lv' := [(4, .int (v4 + 1)), (0, .ref (gad X 0)), (3, .int f101_3)]) hx hb dX8_freezes_133 hl (k := 2) rfl rfl (by decide) rfl (fun ls hl => ?_)
    refine lv_goto (tgt := 101) hx hb dX8_freezes_136 (by decide) ?_
    exact ih (sM σ 1 (((171 : Int32) + ((131 : Int32) * f101_3)) + v4).toNatClampNeg (gM σ 9 v4.toNatClampNeg)) (v4 + 1) h _ _ _ P (lv_sub hl [1, 2, 0] rfl)
set_option maxHeartbeats 4000000 in
set_option maxRecDepth 100000 in
theorem kX8_freezes (l : Launch) (X : gXt) (hJ : gJ X mL) (σ : gS) (a1 : Int32) (q : Int32 × gS) (h : qM_freezes σ a1 = some q) : gMi l yX8_freezes (gws yX8_freezes cX8_freezes 5 (some .int)) rmX8_freezes X mL [.ref (gad X 0), .int a1] σ q.1 q.2 := by
  refine g_enter (cc := cX8_freezes) (nL := 5) (ret := (some .int)) hJ (plainFor_of_name (by decide)) (Nat.le_of_ble_eq_true rfl) ?_
  intro p e s m below meth c ls C P hl
  have C : gC p s m _ meth c RX8 cX8_freezes 5 (some .int) X mL := C
  have hx := C.1
  have hb := C.2.1
  have hK := C.2.2.2.2.2.2.2.1
  have hts := C.2.2.2.2.1
  have hl : lv_has ls 5 [(0, .ref (gad X 0)), (1, .int a1)] := hl
  unfold qM_freezes at h
  refine lv_iload_n hx hb dX8_freezes_0 rfl (lv_at hl 1 rfl) ?_
  refine g_callSi (n := 1) (As := [.int a1]) (rest := []) C P (kX8_isRegister l X hJ σ a1 _ rfl) wd_192 wd_193 wd_5 wd_194 rfl rfl kdX8_isRegister.2 ⟨Nat.le_of_ble_eq_true rfl, Nat.le_of_ble_eq_true rfl⟩ rfl rfl hl.1 (Nat.le_of_ble_eq_true rfl) dX8_freezes_1 (fun H locs P => ?_)
  refine lv_if_ne (tgt := 10) hx hb dX8_freezes_4 (by decide) (fun c1 => ?_) (fun c1 => ?_)
  · have h := g_ifn c1 h
    refine lv_aload_n hx hb dX8_freezes_10 rfl (lv_at hl 0 rfl) ?_
    refine lv_iload_n hx hb dX8_freezes_11 rfl (lv_at hl 1 rfl) ?_
    obtain ⟨r2, hr2, h⟩ := g_bind h
    refine g_callVi (n := 1) (As := [.int a1]) (rest := []) C P (kX8_notGood l X hJ σ a1 _ hr2) wd_209 wd_210 wd_211 wd_5 wd_212 rfl rfl kdX8_notGood ⟨Nat.le_of_ble_eq_true rfl, Nat.le_of_ble_eq_true rfl⟩ ml0 rfl rfl rfl hl.1 (Nat.le_of_ble_eq_true rfl) dX8_freezes_12 (fun H locs P => ?_)
    refine lv_istore_n (lv' := [(2, .int r2), (0, .ref (gad X 0)), (1, .int a1)]) hx hb dX8_freezes_15 rfl hl (by decide) rfl (fun ls hl => ?_)
    refine lv_iload_n hx hb dX8_freezes_16 rfl (lv_at hl 0 rfl) ?_
    refine lv_if_ne (tgt := 31) hx hb dX8_freezes_17 (by decide) (fun c3 => ?_) (fun c3 => ?_)
    · have h := g_ifn c3 h
      refine lv_iload_n hx hb dX8_freezes_31 rfl (lv_at hl 0 rfl) ?_
      refine lv_if_ne (tgt := 57) hx hb dX8_freezes_32 (by decide) (fun c4 => ?_) (fun c4 => ?_)
      rotate_left
      · exact absurd c4 c3
      refine lv_iload_n hx hb dX8_freezes_57 rfl (lv_at hl 0 rfl) ?_
      refine lv_if_eq (tgt := 66) hx hb dX8_freezes_58 (by decide) (fun c5 => ?_) (fun c5 => ?_)
      · exact absurd c5 c3
      refine lv_iload_n hx hb dX8_freezes_61 rfl (lv_at hl 0 rfl) ?_
      refine g_callSi (n := 1) (As := [.int r2]) (rest := []) C P (kX8_undefinedAs l X hJ σ r2 _ rfl) wd_233 wd_234 wd_5 wd_235 rfl rfl kdX8_undefinedAs.2 ⟨Nat.le_of_ble_eq_true rfl, Nat.le_of_ble_eq_true rfl⟩ rfl rfl hl.1 (Nat.le_of_ble_eq_true rfl) dX8_freezes_62 (fun H locs P => ?_)
      have h := Option.some.inj h
      exact g_iret C P (g_fst h) (g_snd h) dX8_freezes_65
    have h := g_ifp c3 h
    refine lv_aload_n hx hb dX8_freezes_20 rfl (lv_at hl 1 rfl) ?_
    refine lv_iload_n hx hb dX8_freezes_21 rfl (lv_at hl 2 rfl) ?_
    obtain ⟨r6, hr6, h⟩ := g_bind h
    refine g_callVi (n := 1) (As := [.int a1]) (rest := []) C P (kX8_placeOf l X hJ σ a1 _ hr6) wd_225 wd_226 wd_227 wd_5 wd_228 rfl rfl kdX8_placeOf ⟨Nat.le_of_ble_eq_true rfl, Nat.le_of_ble_eq_true rfl⟩ ml0 rfl rfl rfl hl.1 (Nat.le_of_ble_eq_true rfl) dX8_freezes_22 (fun H locs P => ?_)
    refine lv_if_eq (tgt := 31) hx hb dX8_freezes_25 (by decide) (fun c7 => ?_) (fun c7 => ?_)
    · have h := g_ifp c7 h
      refine lv_iload_n hx hb dX8_freezes_31 rfl (lv_at hl 0 rfl) ?_
      refine lv_if_ne (tgt := 57) hx hb dX8_freezes_32 (by decide) (fun c8 => ?_) (fun c8 => ?_)
      · exact absurd c3 c8
      refine lv_aload_n hx hb dX8_freezes_35 rfl (lv_at hl 1 rfl) ?_
      refine lv_aload_n hx hb dX8_freezes_36 rfl (lv_at hl 1 rfl) ?_
      refine lv_iload_n hx hb dX8_freezes_37 rfl (lv_at hl 2 rfl) ?_
      obtain ⟨r9, hr9, h⟩ := g_bind h
      refine g_callVi (n := 1) (As := [.int a1]) (rest := [.ref (gad X 0)]) C P (kX8_valueOf l X hJ σ a1 _ hr9) wd_217 wd_218 wd_219 wd_5 wd_220 rfl rfl kdX8_valueOf ⟨Nat.le_of_ble_eq_true rfl, Nat.le_of_ble_eq_true rfl⟩ ml0 rfl rfl rfl hl.1 (Nat.le_of_ble_eq_true rfl) dX8_freezes_38 (fun H locs P => ?_)
      obtain ⟨r10, hr10, h⟩ := g_bind h
      refine g_callVv (n := 1) (As := [.int r9]) (rest := []) C P (kX8_reaches l X hJ σ r9 _ hr10) wd_290 wd_291 wd_292 wd_5 wd_293 rfl rfl kdX8_reaches ⟨Nat.le_of_ble_eq_true rfl, Nat.le_of_ble_eq_true rfl⟩ ml0 rfl rfl rfl hl.1 (Nat.le_of_ble_eq_true rfl) dX8_freezes_41 (fun H locs P => ?_)
      refine lv_aload_n hx hb dX8_freezes_44 rfl (lv_at hl 1 rfl) ?_
      obtain ⟨r11, hr11, h⟩ := g_bind h
      refine g_callVi (n := 0) (As := []) (rest := []) C P (kX8_allLive l X hJ r10 _ hr11) wd_298 wd_299 wd_300 wd_5 wd_301 rfl rfl kdX8_allLive ⟨Nat.le_of_ble_eq_true rfl, Nat.le_of_ble_eq_true rfl⟩ ml0 rfl rfl rfl hl.1 (Nat.le_of_ble_eq_true rfl) dX8_freezes_45 (fun H locs P => ?_)
      refine lv_if_eq (tgt := 55) hx hb dX8_freezes_48 (by decide) (fun c12 => ?_) (fun c12 => ?_)
      · have h := g_ifp c12 h
        refine lv_iconst (v := 3) hx hb dX8_freezes_55 (by decide) ?_
        refine lv_istore_n (lv' := [(2, .int (3 : Int32)), (0, .ref (gad X 0)), (1, .int a1)]) hx hb dX8_freezes_56 rfl hl (by decide) rfl (fun ls hl => ?_)
        refine lv_iload_n hx hb dX8_freezes_57 rfl (lv_at hl 0 rfl) ?_
        refine lv_if_eq (tgt := 66) hx hb dX8_freezes_58 (by decide) (fun c13 => ?_) (fun c13 => ?_)
        · exact absurd c13 (by decide)
        refine lv_iload_n hx hb dX8_freezes_61 rfl (lv_at hl 0 rfl) ?_
        refine g_callSi (n := 1) (As := [.int (3 : Int32)]) (rest := []) C P (kX8_undefinedAs l X hJ r10 (3 : Int32) _ rfl) wd_233 wd_234 wd_5 wd_235 rfl rfl kdX8_undefinedAs.2 ⟨Nat.le_of_ble_eq_true rfl, Nat.le_of_ble_eq_true rfl⟩ rfl rfl hl.1 (Nat.le_of_ble_eq_true rfl) dX8_freezes_62 (fun H locs P => ?_)
        have h := Option.some.inj h
        exact g_iret C P (g_fst h) (g_snd h) dX8_freezes_65
      have h := g_ifn c12 h
      refine lv_iconst (v := 0) hx hb dX8_freezes_51 (by decide) ?_
      refine lv_goto (tgt := 56) hx hb dX8_freezes_52 (by decide) ?_
      refine lv_istore_n (lv' := [(2, .int (0 : Int32)), (0, .ref (gad X 0)), (1, .int a1)]) hx hb dX8_freezes_56 rfl hl (by decide) rfl (fun ls hl => ?_)
      refine lv_iload_n hx hb dX8_freezes_57 rfl (lv_at hl 0 rfl) ?_
      refine lv_if_eq (tgt := 66) hx hb dX8_freezes_58 (by decide) (fun c14 => ?_) (fun c14 => ?_)
      rotate_left
      · exact absurd (by decide) c14
      refine lv_aload_n hx hb dX8_freezes_66 rfl (lv_at hl 1 rfl) ?_
      obtain ⟨r15, hr15, h⟩ := g_bind h
      refine g_callVv (n := 0) (As := []) (rest := []) C P (kX8_laysImage l X hJ r10 _ hr15) wd_302 wd_303 wd_304 wd_5 wd_305 rfl rfl kdX8_laysImage ⟨Nat.le_of_ble_eq_true rfl, Nat.le_of_ble_eq_true rfl⟩ ml0 rfl rfl rfl hl.1 (Nat.le_of_ble_eq_true rfl) dX8_freezes_67 (fun H locs P => ?_)
      refine lv_aload_n hx hb dX8_freezes_70 rfl (lv_at hl 1 rfl) ?_
      obtain ⟨r16, hr16, h⟩ := g_bind h
      refine g_callVi (n := 0) (As := []) (rest := []) C P (kX8_imageLaid l X hJ r15 _ hr16) wd_306 wd_307 wd_308 wd_5 wd_309 rfl rfl kdX8_imageLaid ⟨Nat.le_of_ble_eq_true rfl, Nat.le_of_ble_eq_true rfl⟩ ml0 rfl rfl rfl hl.1 (Nat.le_of_ble_eq_true rfl) dX8_freezes_71 (fun H locs P => ?_)
      refine lv_istore_n (lv' := [(3, .int r16), (2, .int (0 : Int32)), (0, .ref (gad X 0)), (1, .int a1)]) hx hb dX8_freezes_74 rfl hl (by decide) rfl (fun ls hl => ?_)
      refine lv_iload_n hx hb dX8_freezes_75 rfl (lv_at hl 0 rfl) ?_
      refine lv_iconst (v := -1) hx hb dX8_freezes_76 (by decide) ?_
      refine lv_icmp_ne (tgt := 151) hx hb dX8_freezes_77 (by decide) (fun c17 => ?_) (fun c17 => ?_)
      · have h := g_ifn c17 h
        refine lv_iconst (v := 0) hx hb dX8_freezes_151 (by decide) ?_
        refine lv_istore (lv' := [(4, .int (0 : Int32)), (3, .int r16), (2, .int (0 : Int32)), (0, .ref (gad X 0)), (1, .int a1)]) hx hb dX8_freezes_152 hl (by decide) rfl (fun ls hl => ?_)
        refine kX8_freezes_154 hJ C r16 _ _ ?_ _ _ _ h _ _ _ P (lv_sub hl [3, 1, 0] rfl)
        intro σ21 H locs ls h P hl
        refine lv_iload_n hx hb dX8_freezes_187 rfl (lv_at hl 0 rfl) ?_
        have h := Option.some.inj h
        exact g_iret C P (g_fst h) (g_snd h) dX8_freezes_188
      have h := g_ifp c17 h
      refine lv_aload_n hx hb dX8_freezes_80 rfl (lv_at hl 2 rfl) ?_
      refine g_getR C P ml0 rfl inlX8 0 (by decide) wd_95 rfl dX8_freezes_81 ?_
      refine lv_sipush (v := 170) hx hb dX8_freezes_84 (by decide) ?_
      refine g_iald (j := 170) C P ml1 (vp_in_iff.mpr ⟨by decide, by decide⟩) (by decide) dX8_freezes_87 ?_
      refine lv_istore_n (lv' := [(3, .int (gM r15 1 170)), (2, .int (0 : Int32)), (0, .ref (gad X 0)), (1, .int a1)]) hx hb dX8_freezes_88 rfl hl (by decide) rfl (fun ls hl => ?_)
      refine lv_iload_n hx hb dX8_freezes_89 rfl (lv_at hl 0 rfl) ?_
      refine lv_bipush (v := 8) hx hb dX8_freezes_90 (by decide) ?_
      refine lv_icmp_ne (tgt := 98) hx hb dX8_freezes_92 (by decide) (fun c22 => ?_) (fun c22 => ?_)
      · have h := g_ifn c22 h
        refine lv_iconst (v := 0) hx hb dX8_freezes_98 (by decide) ?_
        refine lv_istore (lv' := [(4, .int (0 : Int32)), (3, .int (gM r15 1 170)), (2, .int (0 : Int32)), (0, .ref (gad X 0)), (1, .int a1)]) hx hb dX8_freezes_99 hl (by decide) rfl (fun ls hl => ?_)
        refine kX8_freezes_101 hJ C (gM r15 1 170) _ _ ?_ _ _ _ h _ _ _ P (lv_sub hl [3, 1, 0] rfl)
        intro σ26 H locs ls h P hl
        refine lv_aload_n hx hb dX8_freezes_139 rfl (lv_at hl 0 rfl) ?_
        refine g_getR C P ml0 rfl inlX8 0 (by decide) wd_95 rfl dX8_freezes_140 ?_
        refine lv_sipush (v := 170) hx hb dX8_freezes_143 (by decide) ?_
        refine lv_dup2_11 hx hb dX8_freezes_146 rfl rfl ?_
        refine g_iald (j := 170) C P ml1 (vp_in_iff.mpr ⟨by decide, by decide⟩) (by decide) dX8_freezes_147 ?_
        refine lv_iconst (v := 1) hx hb dX8_freezes_148 (by decide) ?_
        refine lv_iadd hx hb dX8_freezes_149 ?_
        refine g_iast (j := 170) C P ml1 (vp_in_iff.mpr ⟨by decide, by decide⟩) (by decide) dX8_freezes_150 (fun H locs P => ?_)
        refine lv_iconst (v := 0) hx hb dX8_freezes_151 (by decide) ?_
        refine lv_istore (lv' := [(4, .int (0 : Int32)), (0, .ref (gad X 0)), (3, .int (gM r15 1 170))]) hx hb dX8_freezes_152 hl (by decide) rfl (fun ls hl => ?_)
        refine kX8_freezes_154 hJ C (gM r15 1 170) _ _ ?_ _ _ _ h _ _ _ P (lv_sub hl [1, 2, 0] rfl)
        intro σ27 H locs ls h P hl
        refine lv_iload_n hx hb dX8_freezes_187 rfl (lv_at hl 0 rfl) ?_
        have h := Option.some.inj h
        exact g_iret C P (g_fst h) (g_snd h) dX8_freezes_188
      have h := g_ifp c22 h
      refine lv_bipush (v := -4) hx hb dX8_freezes_95 (by decide) ?_
      have h := Option.some.inj h
      exact g_iret C P (g_fst h) (g_snd h) dX8_freezes_97
    have h := g_ifn c7 h
    refine lv_bipush (v := 9) hx hb dX8_freezes_28 (by decide) ?_
    refine lv_istore_n (lv' := [(2, .int (9 : Int32)), (0, .ref (gad X 0)), (1, .int a1)]) hx hb dX8_freezes_30 rfl hl (by decide) rfl (fun ls hl => ?_)
    refine lv_iload_n hx hb dX8_freezes_31 rfl (lv_at hl 0 rfl) ?_
    refine lv_if_ne (tgt := 57) hx hb dX8_freezes_32 (by decide) (fun c28 => ?_) (fun c28 => ?_)
    rotate_left
    · exact absurd c28 (by decide)
    refine lv_iload_n hx hb dX8_freezes_57 rfl (lv_at hl 0 rfl) ?_
    refine lv_if_eq (tgt := 66) hx hb dX8_freezes_58 (by decide) (fun c29 => ?_) (fun c29 => ?_)
    · exact absurd c29 (by decide)
    refine lv_iload_n hx hb dX8_freezes_61 rfl (lv_at hl 0 rfl) ?_
    refine g_callSi (n := 1) (As := [.int (9 : Int32)]) (rest := []) C P (kX8_undefinedAs l X hJ σ (9 : Int32) _ rfl) wd_233 wd_234 wd_5 wd_235 rfl rfl kdX8_undefinedAs.2 ⟨Nat.le_of_ble_eq_true rfl, Nat.le_of_ble_eq_true rfl⟩ rfl rfl hl.1 (Nat.le_of_ble_eq_true rfl) dX8_freezes_62 (fun H locs P => ?_)
    have h := Option.some.inj h
    exact g_iret C P (g_fst h) (g_snd h) dX8_freezes_65
  have h := g_ifp c1 h
  refine lv_bipush (v := -2) hx hb dX8_freezes_7 (by decide) ?_
  have h := Option.some.inj h
  exact g_iret C P (g_fst h) (g_snd h) dX8_freezes_9
abbrev rmX8_acts : Room := { frames := 5, cells := 0, slots := 0, locals := 114 }
theorem kdX8_acts : yX8_acts.cls = RX8 ∧ yX8_acts.cls ≠ "java/lang/invoke/MethodHandle" ∧ yX8_acts.cls ≠ "java/lang/invoke/VarHandle" ∧ (parseMethodDescriptor yX8_acts.desc).map (fun d => d.parameters.length) = some 4 := by decide +kernel
set_option maxHeartbeats 4000000 in
set_option maxRecDepth 100000 in
theorem kX8_acts (l : Launch) (X : gXt) (hJ : gJ X mL) (σ : gS) (a1 : Int32) (a2 : Int32) (a3 : Int32) (a4 : Int32) (q : Int32 × gS) (h : qM_acts σ a1 a2 a3 a4 = some q) : gMi l yX8_acts (gws yX8_acts cX8_acts 5 (some .int)) rmX8_acts X mL [.ref (gad X 0), .int a1, .int a2, .int a3, .int a4] σ q.1 q.2 := by
  refine g_enter (cc := cX8_acts) (nL := 5) (ret := (some .int)) hJ (plainFor_of_name (by decide)) (Nat.le_of_ble_eq_true rfl) ?_
  intro p e s m below meth c ls C P hl
  have C : gC p s m _ meth c RX8 cX8_acts 5 (some .int) X mL := C
  have hx := C.1
  have hb := C.2.1
  have hK := C.2.2.2.2.2.2.2.1
  have hts := C.2.2.2.2.1
  have hl : lv_has ls 5 [(0, .ref (gad X 0)), (1, .int a1), (2, .int a2), (3, .int a3), (4, .int a4)] := hl
  unfold qM_acts at h
  refine lv_iload_n hx hb dX8_acts_0 rfl (lv_at hl 1 rfl) ?_
  by_cases cs98 : a1 = (98 : Int32)
  · have h := g_ifp cs98 h
    refine lv_tableIn (off := 155) (tgt := 156) hx hb dX8_acts_1 (by rw [cs98]; decide) (by rw [cs98]; decide) (by rw [cs98]; rfl) (by decide) ?_
    refine lv_aload_n hx hb dX8_acts_156 rfl (lv_at hl 0 rfl) ?_
    refine lv_iload_n hx hb dX8_acts_157 rfl (lv_at hl 2 rfl) ?_
    refine lv_iload_n hx hb dX8_acts_158 rfl (lv_at hl 3 rfl) ?_
    refine lv_iload hx hb dX8_acts_159 (lv_at hl 4 rfl) ?_
    obtain ⟨r1, hr1, h⟩ := g_bind h
    refine g_callVi (n := 3) (As := [.int a2, .int a3, .int a4]) (rest := []) C P (kX8_blits l X hJ σ a2 a3 a4 _ hr1) wd_281 wd_282 wd_283 wd_5 wd_284 rfl rfl kdX8_blits ⟨Nat.le_of_ble_eq_true rfl, Nat.le_of_ble_eq_true rfl⟩ ml0 rfl rfl rfl hl.1 (Nat.le_of_ble_eq_true rfl) dX8_acts_161 (fun H locs P => ?_)
    have h := Option.some.inj h
    exact g_iret C P (g_fst h) (g_snd h) dX8_acts_164
  have h := g_ifn cs98 h
  by_cases cs99 : a1 = (99 : Int32)
  · have h := g_ifp cs99 h
    refine lv_tableIn (off := 123) (tgt := 124) hx hb dX8_acts_1 (by rw [cs99]; decide) (by rw [cs99]; decide) (by rw [cs99]; rfl) (by decide) ?_
    refine lv_aload_n hx hb dX8_acts_124 rfl (lv_at hl 0 rfl) ?_
    refine lv_iload_n hx hb dX8_acts_125 rfl (lv_at hl 2 rfl) ?_
    refine lv_iload_n hx hb dX8_acts_126 rfl (lv_at hl 3 rfl) ?_
    obtain ⟨r2, hr2, h⟩ := g_bind h
    refine g_callVi (n := 2) (As := [.int a2, .int a3]) (rest := []) C P (kX8_copiesTo l X hJ σ a2 a3 _ hr2) wd_241 wd_242 wd_243 wd_5 wd_244 rfl rfl kdX8_copiesTo ⟨Nat.le_of_ble_eq_true rfl, Nat.le_of_ble_eq_true rfl⟩ ml0 rfl rfl rfl hl.1 (Nat.le_of_ble_eq_true rfl) dX8_acts_127 (fun H locs P => ?_)
    have h := Option.some.inj h
    exact g_iret C P (g_fst h) (g_snd h) dX8_acts_130
  have h := g_ifn cs99 h
  by_cases cs101 : a1 = (101 : Int32)
  · have h := g_ifp cs101 h
    refine lv_tableIn (off := 110) (tgt := 111) hx hb dX8_acts_1 (by rw [cs101]; decide) (by rw [cs101]; decide) (by rw [cs101]; rfl) (by decide) ?_
    refine lv_aload_n hx hb dX8_acts_111 rfl (lv_at hl 0 rfl) ?_
    refine lv_iload_n hx hb dX8_acts_112 rfl (lv_at hl 2 rfl) ?_
    obtain ⟨r3, hr3, h⟩ := g_bind h
    refine g_callVi (n := 1) (As := [.int a2]) (rest := []) C P (kX8_ends l X hJ σ a2 _ hr3) wd_205 wd_206 wd_207 wd_5 wd_208 rfl rfl kdX8_ends ⟨Nat.le_of_ble_eq_true rfl, Nat.le_of_ble_eq_true rfl⟩ ml0 rfl rfl rfl hl.1 (Nat.le_of_ble_eq_true rfl) dX8_acts_113 (fun H locs P => ?_)
    have h := Option.some.inj h
    exact g_iret C P (g_fst h) (g_snd h) dX8_acts_116
  have h := g_ifn cs101 h
  by_cases cs108 : a1 = (108 : Int32)
  · have h := g_ifp cs108 h
    refine lv_tableIn (off := 146) (tgt := 147) hx hb dX8_acts_1 (by rw [cs108]; decide) (by rw [cs108]; decide) (by rw [cs108]; rfl) (by decide) ?_
    refine lv_aload_n hx hb dX8_acts_147 rfl (lv_at hl 0 rfl) ?_
    refine lv_iload_n hx hb dX8_acts_148 rfl (lv_at hl 2 rfl) ?_
    refine lv_iload_n hx hb dX8_acts_149 rfl (lv_at hl 3 rfl) ?_
    refine lv_iload hx hb dX8_acts_150 (lv_at hl 4 rfl) ?_
    obtain ⟨r4, hr4, h⟩ := g_bind h
    refine g_callVi (n := 3) (As := [.int a2, .int a3, .int a4]) (rest := []) C P (kX8_loadsFrom l X hJ σ a2 a3 a4 _ hr4) wd_273 wd_274 wd_275 wd_5 wd_276 rfl rfl kdX8_loadsFrom ⟨Nat.le_of_ble_eq_true rfl, Nat.le_of_ble_eq_true rfl⟩ ml0 rfl rfl rfl hl.1 (Nat.le_of_ble_eq_true rfl) dX8_acts_152 (fun H locs P => ?_)
    have h := Option.some.inj h
    exact g_iret C P (g_fst h) (g_snd h) dX8_acts_155
  have h := g_ifn cs108 h
  by_cases cs109 : a1 = (109 : Int32)
  · have h := g_ifp cs109 h
    refine lv_tableIn (off := 103) (tgt := 104) hx hb dX8_acts_1 (by rw [cs109]; decide) (by rw [cs109]; decide) (by rw [cs109]; rfl) (by decide) ?_
    refine lv_aload_n hx hb dX8_acts_104 rfl (lv_at hl 0 rfl) ?_
    refine lv_iload_n hx hb dX8_acts_105 rfl (lv_at hl 2 rfl) ?_
    refine lv_iload_n hx hb dX8_acts_106 rfl (lv_at hl 3 rfl) ?_
    obtain ⟨r5, hr5, h⟩ := g_bind h
    refine g_callVi (n := 2) (As := [.int a2, .int a3]) (rest := []) C P (kX8_makes l X hJ σ a2 a3 _ hr5) wd_188 wd_189 wd_190 wd_5 wd_191 rfl rfl kdX8_makes ⟨Nat.le_of_ble_eq_true rfl, Nat.le_of_ble_eq_true rfl⟩ ml0 rfl rfl rfl hl.1 (Nat.le_of_ble_eq_true rfl) dX8_acts_107 (fun H locs P => ?_)
    have h := Option.some.inj h
    exact g_iret C P (g_fst h) (g_snd h) dX8_acts_110
  have h := g_ifn cs109 h
  by_cases cs115 : a1 = (115 : Int32)
  · have h := g_ifp cs115 h
    refine lv_tableIn (off := 116) (tgt := 117) hx hb dX8_acts_1 (by rw [cs115]; decide) (by rw [cs115]; decide) (by rw [cs115]; rfl) (by decide) ?_
    refine lv_aload_n hx hb dX8_acts_117 rfl (lv_at hl 0 rfl) ?_
    refine lv_iload_n hx hb dX8_acts_118 rfl (lv_at hl 2 rfl) ?_
    refine lv_iload_n hx hb dX8_acts_119 rfl (lv_at hl 3 rfl) ?_
    obtain ⟨r6, hr6, h⟩ := g_bind h
    refine g_callVi (n := 2) (As := [.int a2, .int a3]) (rest := []) C P (kX8_setsTo l X hJ σ a2 a3 _ hr6) wd_236 wd_237 wd_238 wd_5 wd_239 rfl rfl kdX8_setsTo ⟨Nat.le_of_ble_eq_true rfl, Nat.le_of_ble_eq_true rfl⟩ ml0 rfl rfl rfl hl.1 (Nat.le_of_ble_eq_true rfl) dX8_acts_120 (fun H locs P => ?_)
    have h := Option.some.inj h
    exact g_iret C P (g_fst h) (g_snd h) dX8_acts_123
  have h := g_ifn cs115 h
  by_cases cs118 : a1 = (118 : Int32)
  · have h := g_ifp cs118 h
    refine lv_tableIn (off := 130) (tgt := 131) hx hb dX8_acts_1 (by rw [cs118]; decide) (by rw [cs118]; decide) (by rw [cs118]; rfl) (by decide) ?_
    refine lv_aload_n hx hb dX8_acts_131 rfl (lv_at hl 0 rfl) ?_
    refine lv_iload_n hx hb dX8_acts_132 rfl (lv_at hl 2 rfl) ?_
    refine lv_iload_n hx hb dX8_acts_133 rfl (lv_at hl 3 rfl) ?_
    obtain ⟨r7, hr7, h⟩ := g_bind h
    refine g_callVi (n := 2) (As := [.int a2, .int a3]) (rest := []) C P (kX8_movesBy l X hJ σ a2 a3 _ hr7) wd_245 wd_246 wd_247 wd_5 wd_248 rfl rfl kdX8_movesBy ⟨Nat.le_of_ble_eq_true rfl, Nat.le_of_ble_eq_true rfl⟩ ml0 rfl rfl rfl hl.1 (Nat.le_of_ble_eq_true rfl) dX8_acts_134 (fun H locs P => ?_)
    have h := Option.some.inj h
    exact g_iret C P (g_fst h) (g_snd h) dX8_acts_137
  have h := g_ifn cs118 h
  by_cases cs119 : a1 = (119 : Int32)
  · have h := g_ifp cs119 h
    refine lv_tableIn (off := 137) (tgt := 138) hx hb dX8_acts_1 (by rw [cs119]; decide) (by rw [cs119]; decide) (by rw [cs119]; rfl) (by decide) ?_
    refine lv_aload_n hx hb dX8_acts_138 rfl (lv_at hl 0 rfl) ?_
    refine lv_iload_n hx hb dX8_acts_139 rfl (lv_at hl 2 rfl) ?_
    refine lv_iload_n hx hb dX8_acts_140 rfl (lv_at hl 3 rfl) ?_
    refine lv_iload hx hb dX8_acts_141 (lv_at hl 4 rfl) ?_
    obtain ⟨r8, hr8, h⟩ := g_bind h
    refine g_callVi (n := 3) (As := [.int a2, .int a3, .int a4]) (rest := []) C P (kX8_storesAt l X hJ σ a2 a3 a4 _ hr8) wd_254 wd_255 wd_256 wd_5 wd_257 rfl rfl kdX8_storesAt ⟨Nat.le_of_ble_eq_true rfl, Nat.le_of_ble_eq_true rfl⟩ ml0 rfl rfl rfl hl.1 (Nat.le_of_ble_eq_true rfl) dX8_acts_143 (fun H locs P => ?_)
    have h := Option.some.inj h
    exact g_iret C P (g_fst h) (g_snd h) dX8_acts_146
  have h := g_ifn cs119 h
  by_cases cs100 : a1 = (100 : Int32)
  · refine lv_tableIn (off := 164) (tgt := 165) hx hb dX8_acts_1 (by rw [cs100]; decide) (by rw [cs100]; decide) (by rw [cs100]; rfl) (by decide) ?_
    refine lv_aload_n hx hb dX8_acts_165 rfl (lv_at hl 0 rfl) ?_
    refine lv_iload_n hx hb dX8_acts_166 rfl (lv_at hl 2 rfl) ?_
    obtain ⟨r9, hr9, h⟩ := g_bind h
    refine g_callVi (n := 1) (As := [.int a2]) (rest := []) C P (kX8_freezes l X hJ σ a2 _ hr9) wd_285 wd_286 wd_287 wd_5 wd_288 rfl rfl kdX8_freezes ⟨Nat.le_of_ble_eq_true rfl, Nat.le_of_ble_eq_true rfl⟩ ml0 rfl rfl rfl hl.1 (Nat.le_of_ble_eq_true rfl) dX8_acts_167 (fun H locs P => ?_)
    have h := Option.some.inj h
    exact g_iret C P (g_fst h) (g_snd h) dX8_acts_170
  by_cases cs102 : a1 = (102 : Int32)
  · refine lv_tableIn (off := 164) (tgt := 165) hx hb dX8_acts_1 (by rw [cs102]; decide) (by rw [cs102]; decide) (by rw [cs102]; rfl) (by decide) ?_
    refine lv_aload_n hx hb dX8_acts_165 rfl (lv_at hl 0 rfl) ?_
    refine lv_iload_n hx hb dX8_acts_166 rfl (lv_at hl 2 rfl) ?_
    obtain ⟨r9, hr9, h⟩ := g_bind h
    refine g_callVi (n := 1) (As := [.int a2]) (rest := []) C P (kX8_freezes l X hJ σ a2 _ hr9) wd_285 wd_286 wd_287 wd_5 wd_288 rfl rfl kdX8_freezes ⟨Nat.le_of_ble_eq_true rfl, Nat.le_of_ble_eq_true rfl⟩ ml0 rfl rfl rfl hl.1 (Nat.le_of_ble_eq_true rfl) dX8_acts_167 (fun H locs P => ?_)
    have h := Option.some.inj h
    exact g_iret C P (g_fst h) (g_snd h) dX8_acts_170
  by_cases cs103 : a1 = (103 : Int32)
  · refine lv_tableIn (off := 164) (tgt := 165) hx hb dX8_acts_1 (by rw [cs103]; decide) (by rw [cs103]; decide) (by rw [cs103]; rfl) (by decide) ?_
    refine lv_aload_n hx hb dX8_acts_165 rfl (lv_at hl 0 rfl) ?_
    refine lv_iload_n hx hb dX8_acts_166 rfl (lv_at hl 2 rfl) ?_
    obtain ⟨r9, hr9, h⟩ := g_bind h
    refine g_callVi (n := 1) (As := [.int a2]) (rest := []) C P (kX8_freezes l X hJ σ a2 _ hr9) wd_285 wd_286 wd_287 wd_5 wd_288 rfl rfl kdX8_freezes ⟨Nat.le_of_ble_eq_true rfl, Nat.le_of_ble_eq_true rfl⟩ ml0 rfl rfl rfl hl.1 (Nat.le_of_ble_eq_true rfl) dX8_acts_167 (fun H locs P => ?_)
    have h := Option.some.inj h
    exact g_iret C P (g_fst h) (g_snd h) dX8_acts_170
  by_cases cs104 : a1 = (104 : Int32)
  · refine lv_tableIn (off := 164) (tgt := 165) hx hb dX8_acts_1 (by rw [cs104]; decide) (by rw [cs104]; decide) (by rw [cs104]; rfl) (by decide) ?_
    refine lv_aload_n hx hb dX8_acts_165 rfl (lv_at hl 0 rfl) ?_
    refine lv_iload_n hx hb dX8_acts_166 rfl (lv_at hl 2 rfl) ?_
    obtain ⟨r9, hr9, h⟩ := g_bind h
    refine g_callVi (n := 1) (As := [.int a2]) (rest := []) C P (kX8_freezes l X hJ σ a2 _ hr9) wd_285 wd_286 wd_287 wd_5 wd_288 rfl rfl kdX8_freezes ⟨Nat.le_of_ble_eq_true rfl, Nat.le_of_ble_eq_true rfl⟩ ml0 rfl rfl rfl hl.1 (Nat.le_of_ble_eq_true rfl) dX8_acts_167 (fun H locs P => ?_)
    have h := Option.some.inj h
    exact g_iret C P (g_fst h) (g_snd h) dX8_acts_170
  by_cases cs105 : a1 = (105 : Int32)
  · refine lv_tableIn (off := 164) (tgt := 165) hx hb dX8_acts_1 (by rw [cs105]; decide) (by rw [cs105]; decide) (by rw [cs105]; rfl) (by decide) ?_
    refine lv_aload_n hx hb dX8_acts_165 rfl (lv_at hl 0 rfl) ?_
    refine lv_iload_n hx hb dX8_acts_166 rfl (lv_at hl 2 rfl) ?_
    obtain ⟨r9, hr9, h⟩ := g_bind h
    refine g_callVi (n := 1) (As := [.int a2]) (rest := []) C P (kX8_freezes l X hJ σ a2 _ hr9) wd_285 wd_286 wd_287 wd_5 wd_288 rfl rfl kdX8_freezes ⟨Nat.le_of_ble_eq_true rfl, Nat.le_of_ble_eq_true rfl⟩ ml0 rfl rfl rfl hl.1 (Nat.le_of_ble_eq_true rfl) dX8_acts_167 (fun H locs P => ?_)
    have h := Option.some.inj h
    exact g_iret C P (g_fst h) (g_snd h) dX8_acts_170
  by_cases cs106 : a1 = (106 : Int32)
  · refine lv_tableIn (off := 164) (tgt := 165) hx hb dX8_acts_1 (by rw [cs106]; decide) (by rw [cs106]; decide) (by rw [cs106]; rfl) (by decide) ?_
    refine lv_aload_n hx hb dX8_acts_165 rfl (lv_at hl 0 rfl) ?_
    refine lv_iload_n hx hb dX8_acts_166 rfl (lv_at hl 2 rfl) ?_
    obtain ⟨r9, hr9, h⟩ := g_bind h
    refine g_callVi (n := 1) (As := [.int a2]) (rest := []) C P (kX8_freezes l X hJ σ a2 _ hr9) wd_285 wd_286 wd_287 wd_5 wd_288 rfl rfl kdX8_freezes ⟨Nat.le_of_ble_eq_true rfl, Nat.le_of_ble_eq_true rfl⟩ ml0 rfl rfl rfl hl.1 (Nat.le_of_ble_eq_true rfl) dX8_acts_167 (fun H locs P => ?_)
    have h := Option.some.inj h
    exact g_iret C P (g_fst h) (g_snd h) dX8_acts_170
  by_cases cs107 : a1 = (107 : Int32)
  · refine lv_tableIn (off := 164) (tgt := 165) hx hb dX8_acts_1 (by rw [cs107]; decide) (by rw [cs107]; decide) (by rw [cs107]; rfl) (by decide) ?_
    refine lv_aload_n hx hb dX8_acts_165 rfl (lv_at hl 0 rfl) ?_
    refine lv_iload_n hx hb dX8_acts_166 rfl (lv_at hl 2 rfl) ?_
    obtain ⟨r9, hr9, h⟩ := g_bind h
    refine g_callVi (n := 1) (As := [.int a2]) (rest := []) C P (kX8_freezes l X hJ σ a2 _ hr9) wd_285 wd_286 wd_287 wd_5 wd_288 rfl rfl kdX8_freezes ⟨Nat.le_of_ble_eq_true rfl, Nat.le_of_ble_eq_true rfl⟩ ml0 rfl rfl rfl hl.1 (Nat.le_of_ble_eq_true rfl) dX8_acts_167 (fun H locs P => ?_)
    have h := Option.some.inj h
    exact g_iret C P (g_fst h) (g_snd h) dX8_acts_170
  by_cases cs110 : a1 = (110 : Int32)
  · refine lv_tableIn (off := 164) (tgt := 165) hx hb dX8_acts_1 (by rw [cs110]; decide) (by rw [cs110]; decide) (by rw [cs110]; rfl) (by decide) ?_
    refine lv_aload_n hx hb dX8_acts_165 rfl (lv_at hl 0 rfl) ?_
    refine lv_iload_n hx hb dX8_acts_166 rfl (lv_at hl 2 rfl) ?_
    obtain ⟨r9, hr9, h⟩ := g_bind h
    refine g_callVi (n := 1) (As := [.int a2]) (rest := []) C P (kX8_freezes l X hJ σ a2 _ hr9) wd_285 wd_286 wd_287 wd_5 wd_288 rfl rfl kdX8_freezes ⟨Nat.le_of_ble_eq_true rfl, Nat.le_of_ble_eq_true rfl⟩ ml0 rfl rfl rfl hl.1 (Nat.le_of_ble_eq_true rfl) dX8_acts_167 (fun H locs P => ?_)
    have h := Option.some.inj h
    exact g_iret C P (g_fst h) (g_snd h) dX8_acts_170
  by_cases cs111 : a1 = (111 : Int32)
  · refine lv_tableIn (off := 164) (tgt := 165) hx hb dX8_acts_1 (by rw [cs111]; decide) (by rw [cs111]; decide) (by rw [cs111]; rfl) (by decide) ?_
    refine lv_aload_n hx hb dX8_acts_165 rfl (lv_at hl 0 rfl) ?_
    refine lv_iload_n hx hb dX8_acts_166 rfl (lv_at hl 2 rfl) ?_
    obtain ⟨r9, hr9, h⟩ := g_bind h
    refine g_callVi (n := 1) (As := [.int a2]) (rest := []) C P (kX8_freezes l X hJ σ a2 _ hr9) wd_285 wd_286 wd_287 wd_5 wd_288 rfl rfl kdX8_freezes ⟨Nat.le_of_ble_eq_true rfl, Nat.le_of_ble_eq_true rfl⟩ ml0 rfl rfl rfl hl.1 (Nat.le_of_ble_eq_true rfl) dX8_acts_167 (fun H locs P => ?_)
    have h := Option.some.inj h
    exact g_iret C P (g_fst h) (g_snd h) dX8_acts_170
  by_cases cs112 : a1 = (112 : Int32)
  · refine lv_tableIn (off := 164) (tgt := 165) hx hb dX8_acts_1 (by rw [cs112]; decide) (by rw [cs112]; decide) (by rw [cs112]; rfl) (by decide) ?_
    refine lv_aload_n hx hb dX8_acts_165 rfl (lv_at hl 0 rfl) ?_
    refine lv_iload_n hx hb dX8_acts_166 rfl (lv_at hl 2 rfl) ?_
    obtain ⟨r9, hr9, h⟩ := g_bind h
    refine g_callVi (n := 1) (As := [.int a2]) (rest := []) C P (kX8_freezes l X hJ σ a2 _ hr9) wd_285 wd_286 wd_287 wd_5 wd_288 rfl rfl kdX8_freezes ⟨Nat.le_of_ble_eq_true rfl, Nat.le_of_ble_eq_true rfl⟩ ml0 rfl rfl rfl hl.1 (Nat.le_of_ble_eq_true rfl) dX8_acts_167 (fun H locs P => ?_)
    have h := Option.some.inj h
    exact g_iret C P (g_fst h) (g_snd h) dX8_acts_170
  by_cases cs113 : a1 = (113 : Int32)
  · refine lv_tableIn (off := 164) (tgt := 165) hx hb dX8_acts_1 (by rw [cs113]; decide) (by rw [cs113]; decide) (by rw [cs113]; rfl) (by decide) ?_
    refine lv_aload_n hx hb dX8_acts_165 rfl (lv_at hl 0 rfl) ?_
    refine lv_iload_n hx hb dX8_acts_166 rfl (lv_at hl 2 rfl) ?_
    obtain ⟨r9, hr9, h⟩ := g_bind h
    refine g_callVi (n := 1) (As := [.int a2]) (rest := []) C P (kX8_freezes l X hJ σ a2 _ hr9) wd_285 wd_286 wd_287 wd_5 wd_288 rfl rfl kdX8_freezes ⟨Nat.le_of_ble_eq_true rfl, Nat.le_of_ble_eq_true rfl⟩ ml0 rfl rfl rfl hl.1 (Nat.le_of_ble_eq_true rfl) dX8_acts_167 (fun H locs P => ?_)
    have h := Option.some.inj h
    exact g_iret C P (g_fst h) (g_snd h) dX8_acts_170
  by_cases cs114 : a1 = (114 : Int32)
  · refine lv_tableIn (off := 164) (tgt := 165) hx hb dX8_acts_1 (by rw [cs114]; decide) (by rw [cs114]; decide) (by rw [cs114]; rfl) (by decide) ?_
    refine lv_aload_n hx hb dX8_acts_165 rfl (lv_at hl 0 rfl) ?_
    refine lv_iload_n hx hb dX8_acts_166 rfl (lv_at hl 2 rfl) ?_
    obtain ⟨r9, hr9, h⟩ := g_bind h
    refine g_callVi (n := 1) (As := [.int a2]) (rest := []) C P (kX8_freezes l X hJ σ a2 _ hr9) wd_285 wd_286 wd_287 wd_5 wd_288 rfl rfl kdX8_freezes ⟨Nat.le_of_ble_eq_true rfl, Nat.le_of_ble_eq_true rfl⟩ ml0 rfl rfl rfl hl.1 (Nat.le_of_ble_eq_true rfl) dX8_acts_167 (fun H locs P => ?_)
    have h := Option.some.inj h
    exact g_iret C P (g_fst h) (g_snd h) dX8_acts_170
  by_cases cs116 : a1 = (116 : Int32)
  · refine lv_tableIn (off := 164) (tgt := 165) hx hb dX8_acts_1 (by rw [cs116]; decide) (by rw [cs116]; decide) (by rw [cs116]; rfl) (by decide) ?_
    refine lv_aload_n hx hb dX8_acts_165 rfl (lv_at hl 0 rfl) ?_
    refine lv_iload_n hx hb dX8_acts_166 rfl (lv_at hl 2 rfl) ?_
    obtain ⟨r9, hr9, h⟩ := g_bind h
    refine g_callVi (n := 1) (As := [.int a2]) (rest := []) C P (kX8_freezes l X hJ σ a2 _ hr9) wd_285 wd_286 wd_287 wd_5 wd_288 rfl rfl kdX8_freezes ⟨Nat.le_of_ble_eq_true rfl, Nat.le_of_ble_eq_true rfl⟩ ml0 rfl rfl rfl hl.1 (Nat.le_of_ble_eq_true rfl) dX8_acts_167 (fun H locs P => ?_)
    have h := Option.some.inj h
    exact g_iret C P (g_fst h) (g_snd h) dX8_acts_170
  by_cases cs117 : a1 = (117 : Int32)
  · refine lv_tableIn (off := 164) (tgt := 165) hx hb dX8_acts_1 (by rw [cs117]; decide) (by rw [cs117]; decide) (by rw [cs117]; rfl) (by decide) ?_
    refine lv_aload_n hx hb dX8_acts_165 rfl (lv_at hl 0 rfl) ?_
    refine lv_iload_n hx hb dX8_acts_166 rfl (lv_at hl 2 rfl) ?_
    obtain ⟨r9, hr9, h⟩ := g_bind h
    refine g_callVi (n := 1) (As := [.int a2]) (rest := []) C P (kX8_freezes l X hJ σ a2 _ hr9) wd_285 wd_286 wd_287 wd_5 wd_288 rfl rfl kdX8_freezes ⟨Nat.le_of_ble_eq_true rfl, Nat.le_of_ble_eq_true rfl⟩ ml0 rfl rfl rfl hl.1 (Nat.le_of_ble_eq_true rfl) dX8_acts_167 (fun H locs P => ?_)
    have h := Option.some.inj h
    exact g_iret C P (g_fst h) (g_snd h) dX8_acts_170
  refine lv_tableOut (tgt := 165) hx hb dX8_acts_1 (by have e0 := lv_neT cs98 (a := 98) rfl; have e1 := lv_neT cs99 (a := 99) rfl; have e2 := lv_neT cs101 (a := 101) rfl; have e3 := lv_neT cs108 (a := 108) rfl; have e4 := lv_neT cs109 (a := 109) rfl; have e5 := lv_neT cs115 (a := 115) rfl; have e6 := lv_neT cs118 (a := 118) rfl; have e7 := lv_neT cs119 (a := 119) rfl; have e8 := lv_neT cs100 (a := 100) rfl; have e9 := lv_neT cs102 (a := 102) rfl; have e10 := lv_neT cs103 (a := 103) rfl; have e11 := lv_neT cs104 (a := 104) rfl; have e12 := lv_neT cs105 (a := 105) rfl; have e13 := lv_neT cs106 (a := 106) rfl; have e14 := lv_neT cs107 (a := 107) rfl; have e15 := lv_neT cs110 (a := 110) rfl; have e16 := lv_neT cs111 (a := 111) rfl; have e17 := lv_neT cs112 (a := 112) rfl; have e18 := lv_neT cs113 (a := 113) rfl; have e19 := lv_neT cs114 (a := 114) rfl; have e20 := lv_neT cs116 (a := 116) rfl; have e21 := lv_neT cs117 (a := 117) rfl; omega) (by decide) ?_
  refine lv_aload_n hx hb dX8_acts_165 rfl (lv_at hl 0 rfl) ?_
  refine lv_iload_n hx hb dX8_acts_166 rfl (lv_at hl 2 rfl) ?_
  obtain ⟨r9, hr9, h⟩ := g_bind h
  refine g_callVi (n := 1) (As := [.int a2]) (rest := []) C P (kX8_freezes l X hJ σ a2 _ hr9) wd_285 wd_286 wd_287 wd_5 wd_288 rfl rfl kdX8_freezes ⟨Nat.le_of_ble_eq_true rfl, Nat.le_of_ble_eq_true rfl⟩ ml0 rfl rfl rfl hl.1 (Nat.le_of_ble_eq_true rfl) dX8_acts_167 (fun H locs P => ?_)
  have h := Option.some.inj h
  exact g_iret C P (g_fst h) (g_snd h) dX8_acts_170
abbrev rmX8_calls : Room := { frames := 6, cells := 0, slots := 0, locals := 138 }
theorem kdX8_calls : yX8_calls.cls = RX8 ∧ yX8_calls.cls ≠ "java/lang/invoke/MethodHandle" ∧ yX8_calls.cls ≠ "java/lang/invoke/VarHandle" ∧ (parseMethodDescriptor yX8_calls.desc).map (fun d => d.parameters.length) = some 4 := by decide +kernel
set_option maxHeartbeats 4000000 in
set_option maxRecDepth 100000 in
theorem kX8_calls (l : Launch) (X : gXt) (hJ : gJ X mL) (σ : gS) (a1 : Int32) (a2 : Int32) (a3 : Int32) (a4 : Int32) (q : Int32 × gS) (h : qM_calls σ a1 a2 a3 a4 = some q) : gMi l yX8_calls (gws yX8_calls cX8_calls 6 (some .int)) rmX8_calls X mL [.ref (gad X 0), .int a1, .int a2, .int a3, .int a4] σ q.1 q.2 := by
  refine g_enter (cc := cX8_calls) (nL := 6) (ret := (some .int)) hJ (plainFor_of_name (by decide)) (Nat.le_of_ble_eq_true rfl) ?_
  intro p e s m below meth c ls C P hl
  have C : gC p s m _ meth c RX8 cX8_calls 6 (some .int) X mL := C
  have hx := C.1
  have hb := C.2.1
  have hK := C.2.2.2.2.2.2.2.1
  have hts := C.2.2.2.2.1
  have hl : lv_has ls 6 [(0, .ref (gad X 0)), (1, .int a1), (2, .int a2), (3, .int a3), (4, .int a4)] := hl
  unfold qM_calls at h
  refine lv_aload_n hx hb dX8_calls_0 rfl (lv_at hl 0 rfl) ?_
  obtain ⟨r1, hr1, h⟩ := g_bind h
  refine g_callVv (n := 0) (As := []) (rest := []) C P (kX8_copies l X hJ σ _ hr1) wd_180 wd_181 wd_182 wd_5 wd_183 rfl rfl kdX8_copies ⟨Nat.le_of_ble_eq_true rfl, Nat.le_of_ble_eq_true rfl⟩ ml0 rfl rfl rfl hl.1 (Nat.le_of_ble_eq_true rfl) dX8_calls_1 (fun H locs P => ?_)
  refine lv_aload_n hx hb dX8_calls_4 rfl (lv_at hl 0 rfl) ?_
  refine lv_iload_n hx hb dX8_calls_5 rfl (lv_at hl 1 rfl) ?_
  refine lv_iload_n hx hb dX8_calls_6 rfl (lv_at hl 2 rfl) ?_
  refine lv_iload_n hx hb dX8_calls_7 rfl (lv_at hl 3 rfl) ?_
  refine lv_iload hx hb dX8_calls_8 (lv_at hl 4 rfl) ?_
  obtain ⟨r2, hr2, h⟩ := g_bind h
  refine g_callVi (n := 4) (As := [.int a1, .int a2, .int a3, .int a4]) (rest := []) C P (kX8_acts l X hJ r1 a1 a2 a3 a4 _ hr2) wd_184 wd_185 wd_186 wd_5 wd_187 rfl rfl kdX8_acts ⟨Nat.le_of_ble_eq_true rfl, Nat.le_of_ble_eq_true rfl⟩ ml0 rfl rfl rfl hl.1 (Nat.le_of_ble_eq_true rfl) dX8_calls_10 (fun H locs P => ?_)
  refine lv_istore (lv' := [(5, .int r2.1), (0, .ref (gad X 0)), (1, .int a1), (2, .int a2), (3, .int a3), (4, .int a4)]) hx hb dX8_calls_13 hl (by decide) rfl (fun ls hl => ?_)
  refine lv_iload hx hb dX8_calls_15 (lv_at hl 0 rfl) ?_
  refine lv_if_lt (tgt := 24) hx hb dX8_calls_17 (by decide) (fun c3 => ?_) (fun c3 => ?_)
  · have h := g_ifp c3 h
    refine lv_aload_n hx hb dX8_calls_24 rfl (lv_at hl 1 rfl) ?_
    refine lv_iload hx hb dX8_calls_25 (lv_at hl 0 rfl) ?_
    obtain ⟨r4, hr4, h⟩ := g_bind h
    refine g_callVi (n := 1) (As := [.int r2.1]) (rest := []) C P (kX8_counted l X hJ r2.2 r2.1 _ hr4) wd_315 wd_316 wd_317 wd_5 wd_318 rfl rfl kdX8_counted ⟨Nat.le_of_ble_eq_true rfl, Nat.le_of_ble_eq_true rfl⟩ ml0 rfl rfl rfl hl.1 (Nat.le_of_ble_eq_true rfl) dX8_calls_27 (fun H locs P => ?_)
    have h := Option.some.inj h
    exact g_iret C P (g_fst h) (g_snd h) dX8_calls_30
  have h := g_ifn c3 h
  refine lv_aload_n hx hb dX8_calls_20 rfl (lv_at hl 1 rfl) ?_
  obtain ⟨r5, hr5, h⟩ := g_bind h
  refine g_callVv (n := 0) (As := []) (rest := []) C P (kX8_remembers l X hJ r2.2 _ hr5) wd_310 wd_311 wd_312 wd_5 wd_313 rfl rfl kdX8_remembers ⟨Nat.le_of_ble_eq_true rfl, Nat.le_of_ble_eq_true rfl⟩ ml0 rfl rfl rfl hl.1 (Nat.le_of_ble_eq_true rfl) dX8_calls_21 (fun H locs P => ?_)
  refine lv_aload_n hx hb dX8_calls_24 rfl (lv_at hl 1 rfl) ?_
  refine lv_iload hx hb dX8_calls_25 (lv_at hl 0 rfl) ?_
  obtain ⟨r6, hr6, h⟩ := g_bind h
  refine g_callVi (n := 1) (As := [.int r2.1]) (rest := []) C P (kX8_counted l X hJ r5 r2.1 _ hr6) wd_315 wd_316 wd_317 wd_5 wd_318 rfl rfl kdX8_counted ⟨Nat.le_of_ble_eq_true rfl, Nat.le_of_ble_eq_true rfl⟩ ml0 rfl rfl rfl hl.1 (Nat.le_of_ble_eq_true rfl) dX8_calls_27 (fun H locs P => ?_)
  have h := Option.some.inj h
  exact g_iret C P (g_fst h) (g_snd h) dX8_calls_30
abbrev rmX8_make : Room := { frames := 7, cells := 0, slots := 0, locals := 163 }
theorem kdX8_make : yX8_make.cls = RX8 ∧ yX8_make.cls ≠ "java/lang/invoke/MethodHandle" ∧ yX8_make.cls ≠ "java/lang/invoke/VarHandle" ∧ (parseMethodDescriptor yX8_make.desc).map (fun d => d.parameters.length) = some 2 := by decide +kernel
set_option maxHeartbeats 4000000 in
set_option maxRecDepth 100000 in
theorem kX8_make (l : Launch) (X : gXt) (hJ : gJ X mL) (σ : gS) (a1 : Int32) (a2 : Int32) (q : Int32 × gS) (h : qM_make σ a1 a2 = some q) : gMi l yX8_make (gws yX8_make cX8_make 3 (some .int)) rmX8_make X mL [.ref (gad X 0), .int a1, .int a2] σ q.1 q.2 := by
  refine g_enter (cc := cX8_make) (nL := 3) (ret := (some .int)) hJ (plainFor_of_name (by decide)) (Nat.le_of_ble_eq_true rfl) ?_
  intro p e s m below meth c ls C P hl
  have C : gC p s m _ meth c RX8 cX8_make 3 (some .int) X mL := C
  have hx := C.1
  have hb := C.2.1
  have hK := C.2.2.2.2.2.2.2.1
  have hts := C.2.2.2.2.1
  have hl : lv_has ls 3 [(0, .ref (gad X 0)), (1, .int a1), (2, .int a2)] := hl
  unfold qM_make at h
  refine lv_aload_n hx hb dX8_make_0 rfl (lv_at hl 0 rfl) ?_
  refine lv_bipush (v := 109) hx hb dX8_make_1 (by decide) ?_
  refine lv_iload_n hx hb dX8_make_3 rfl (lv_at hl 1 rfl) ?_
  refine lv_iload_n hx hb dX8_make_4 rfl (lv_at hl 2 rfl) ?_
  refine lv_iconst (v := 0) hx hb dX8_make_5 (by decide) ?_
  obtain ⟨r1, hr1, h⟩ := g_bind h
  refine g_callVi (n := 4) (As := [.int (109 : Int32), .int a1, .int a2, .int (0 : Int32)]) (rest := []) C P (kX8_calls l X hJ σ (109 : Int32) a1 a2 (0 : Int32) _ hr1) wd_176 wd_177 wd_178 wd_5 wd_179 rfl rfl kdX8_calls ⟨Nat.le_of_ble_eq_true rfl, Nat.le_of_ble_eq_true rfl⟩ ml0 rfl rfl rfl hl.1 (Nat.le_of_ble_eq_true rfl) dX8_make_6 (fun H locs P => ?_)
  have h := Option.some.inj h
  exact g_iret C P (g_fst h) (g_snd h) dX8_make_9
abbrev rmX8_end : Room := { frames := 7, cells := 0, slots := 0, locals := 163 }
theorem kdX8_end : yX8_end.cls = RX8 ∧ yX8_end.cls ≠ "java/lang/invoke/MethodHandle" ∧ yX8_end.cls ≠ "java/lang/invoke/VarHandle" ∧ (parseMethodDescriptor yX8_end.desc).map (fun d => d.parameters.length) = some 1 := by decide +kernel
set_option maxHeartbeats 4000000 in
set_option maxRecDepth 100000 in
theorem kX8_end (l : Launch) (X : gXt) (hJ : gJ X mL) (σ : gS) (a1 : Int32) (q : Int32 × gS) (h : qM_end σ a1 = some q) : gMi l yX8_end (gws yX8_end cX8_end 2 (some .int)) rmX8_end X mL [.ref (gad X 0), .int a1] σ q.1 q.2 := by
  refine g_enter (cc := cX8_end) (nL := 2) (ret := (some .int)) hJ (plainFor_of_name (by decide)) (Nat.le_of_ble_eq_true rfl) ?_
  intro p e s m below meth c ls C P hl
  have C : gC p s m _ meth c RX8 cX8_end 2 (some .int) X mL := C
  have hx := C.1
  have hb := C.2.1
  have hK := C.2.2.2.2.2.2.2.1
  have hts := C.2.2.2.2.1
  have hl : lv_has ls 2 [(0, .ref (gad X 0)), (1, .int a1)] := hl
  unfold qM_end at h
  refine lv_aload_n hx hb dX8_end_0 rfl (lv_at hl 0 rfl) ?_
  refine lv_bipush (v := 101) hx hb dX8_end_1 (by decide) ?_
  refine lv_iload_n hx hb dX8_end_3 rfl (lv_at hl 1 rfl) ?_
  refine lv_iconst (v := 0) hx hb dX8_end_4 (by decide) ?_
  refine lv_iconst (v := 0) hx hb dX8_end_5 (by decide) ?_
  obtain ⟨r1, hr1, h⟩ := g_bind h
  refine g_callVi (n := 4) (As := [.int (101 : Int32), .int a1, .int (0 : Int32), .int (0 : Int32)]) (rest := []) C P (kX8_calls l X hJ σ (101 : Int32) a1 (0 : Int32) (0 : Int32) _ hr1) wd_176 wd_177 wd_178 wd_5 wd_179 rfl rfl kdX8_calls ⟨Nat.le_of_ble_eq_true rfl, Nat.le_of_ble_eq_true rfl⟩ ml0 rfl rfl rfl hl.1 (Nat.le_of_ble_eq_true rfl) dX8_end_6 (fun H locs P => ?_)
  have h := Option.some.inj h
  exact g_iret C P (g_fst h) (g_snd h) dX8_end_9
abbrev rmX8_set : Room := { frames := 7, cells := 0, slots := 0, locals := 163 }
theorem kdX8_set : yX8_set.cls = RX8 ∧ yX8_set.cls ≠ "java/lang/invoke/MethodHandle" ∧ yX8_set.cls ≠ "java/lang/invoke/VarHandle" ∧ (parseMethodDescriptor yX8_set.desc).map (fun d => d.parameters.length) = some 2 := by decide +kernel
set_option maxHeartbeats 4000000 in
set_option maxRecDepth 100000 in
theorem kX8_set (l : Launch) (X : gXt) (hJ : gJ X mL) (σ : gS) (a1 : Int32) (a2 : Int32) (q : Int32 × gS) (h : qM_set σ a1 a2 = some q) : gMi l yX8_set (gws yX8_set cX8_set 3 (some .int)) rmX8_set X mL [.ref (gad X 0), .int a1, .int a2] σ q.1 q.2 := by
  refine g_enter (cc := cX8_set) (nL := 3) (ret := (some .int)) hJ (plainFor_of_name (by decide)) (Nat.le_of_ble_eq_true rfl) ?_
  intro p e s m below meth c ls C P hl
  have C : gC p s m _ meth c RX8 cX8_set 3 (some .int) X mL := C
  have hx := C.1
  have hb := C.2.1
  have hK := C.2.2.2.2.2.2.2.1
  have hts := C.2.2.2.2.1
  have hl : lv_has ls 3 [(0, .ref (gad X 0)), (1, .int a1), (2, .int a2)] := hl
  unfold qM_set at h
  refine lv_aload_n hx hb dX8_set_0 rfl (lv_at hl 0 rfl) ?_
  refine lv_bipush (v := 115) hx hb dX8_set_1 (by decide) ?_
  refine lv_iload_n hx hb dX8_set_3 rfl (lv_at hl 1 rfl) ?_
  refine lv_iload_n hx hb dX8_set_4 rfl (lv_at hl 2 rfl) ?_
  refine lv_iconst (v := 0) hx hb dX8_set_5 (by decide) ?_
  obtain ⟨r1, hr1, h⟩ := g_bind h
  refine g_callVi (n := 4) (As := [.int (115 : Int32), .int a1, .int a2, .int (0 : Int32)]) (rest := []) C P (kX8_calls l X hJ σ (115 : Int32) a1 a2 (0 : Int32) _ hr1) wd_176 wd_177 wd_178 wd_5 wd_179 rfl rfl kdX8_calls ⟨Nat.le_of_ble_eq_true rfl, Nat.le_of_ble_eq_true rfl⟩ ml0 rfl rfl rfl hl.1 (Nat.le_of_ble_eq_true rfl) dX8_set_6 (fun H locs P => ?_)
  have h := Option.some.inj h
  exact g_iret C P (g_fst h) (g_snd h) dX8_set_9
abbrev rmX8_copy : Room := { frames := 7, cells := 0, slots := 0, locals := 163 }
theorem kdX8_copy : yX8_copy.cls = RX8 ∧ yX8_copy.cls ≠ "java/lang/invoke/MethodHandle" ∧ yX8_copy.cls ≠ "java/lang/invoke/VarHandle" ∧ (parseMethodDescriptor yX8_copy.desc).map (fun d => d.parameters.length) = some 2 := by decide +kernel
set_option maxHeartbeats 4000000 in
set_option maxRecDepth 100000 in
theorem kX8_copy (l : Launch) (X : gXt) (hJ : gJ X mL) (σ : gS) (a1 : Int32) (a2 : Int32) (q : Int32 × gS) (h : qM_copy σ a1 a2 = some q) : gMi l yX8_copy (gws yX8_copy cX8_copy 3 (some .int)) rmX8_copy X mL [.ref (gad X 0), .int a1, .int a2] σ q.1 q.2 := by
  refine g_enter (cc := cX8_copy) (nL := 3) (ret := (some .int)) hJ (plainFor_of_name (by decide)) (Nat.le_of_ble_eq_true rfl) ?_
  intro p e s m below meth c ls C P hl
  have C : gC p s m _ meth c RX8 cX8_copy 3 (some .int) X mL := C
  have hx := C.1
  have hb := C.2.1
  have hK := C.2.2.2.2.2.2.2.1
  have hts := C.2.2.2.2.1
  have hl : lv_has ls 3 [(0, .ref (gad X 0)), (1, .int a1), (2, .int a2)] := hl
  unfold qM_copy at h
  refine lv_aload_n hx hb dX8_copy_0 rfl (lv_at hl 0 rfl) ?_
  refine lv_bipush (v := 99) hx hb dX8_copy_1 (by decide) ?_
  refine lv_iload_n hx hb dX8_copy_3 rfl (lv_at hl 1 rfl) ?_
  refine lv_iload_n hx hb dX8_copy_4 rfl (lv_at hl 2 rfl) ?_
  refine lv_iconst (v := 0) hx hb dX8_copy_5 (by decide) ?_
  obtain ⟨r1, hr1, h⟩ := g_bind h
  refine g_callVi (n := 4) (As := [.int (99 : Int32), .int a1, .int a2, .int (0 : Int32)]) (rest := []) C P (kX8_calls l X hJ σ (99 : Int32) a1 a2 (0 : Int32) _ hr1) wd_176 wd_177 wd_178 wd_5 wd_179 rfl rfl kdX8_calls ⟨Nat.le_of_ble_eq_true rfl, Nat.le_of_ble_eq_true rfl⟩ ml0 rfl rfl rfl hl.1 (Nat.le_of_ble_eq_true rfl) dX8_copy_6 (fun H locs P => ?_)
  have h := Option.some.inj h
  exact g_iret C P (g_fst h) (g_snd h) dX8_copy_9
abbrev rmX8_move : Room := { frames := 7, cells := 0, slots := 0, locals := 163 }
theorem kdX8_move : yX8_move.cls = RX8 ∧ yX8_move.cls ≠ "java/lang/invoke/MethodHandle" ∧ yX8_move.cls ≠ "java/lang/invoke/VarHandle" ∧ (parseMethodDescriptor yX8_move.desc).map (fun d => d.parameters.length) = some 2 := by decide +kernel
set_option maxHeartbeats 4000000 in
set_option maxRecDepth 100000 in
theorem kX8_move (l : Launch) (X : gXt) (hJ : gJ X mL) (σ : gS) (a1 : Int32) (a2 : Int32) (q : Int32 × gS) (h : qM_move σ a1 a2 = some q) : gMi l yX8_move (gws yX8_move cX8_move 3 (some .int)) rmX8_move X mL [.ref (gad X 0), .int a1, .int a2] σ q.1 q.2 := by
  refine g_enter (cc := cX8_move) (nL := 3) (ret := (some .int)) hJ (plainFor_of_name (by decide)) (Nat.le_of_ble_eq_true rfl) ?_
  intro p e s m below meth c ls C P hl
  have C : gC p s m _ meth c RX8 cX8_move 3 (some .int) X mL := C
  have hx := C.1
  have hb := C.2.1
  have hK := C.2.2.2.2.2.2.2.1
  have hts := C.2.2.2.2.1
  have hl : lv_has ls 3 [(0, .ref (gad X 0)), (1, .int a1), (2, .int a2)] := hl
  unfold qM_move at h
  refine lv_aload_n hx hb dX8_move_0 rfl (lv_at hl 0 rfl) ?_
  refine lv_bipush (v := 118) hx hb dX8_move_1 (by decide) ?_
  refine lv_iload_n hx hb dX8_move_3 rfl (lv_at hl 1 rfl) ?_
  refine lv_iload_n hx hb dX8_move_4 rfl (lv_at hl 2 rfl) ?_
  refine lv_iconst (v := 0) hx hb dX8_move_5 (by decide) ?_
  obtain ⟨r1, hr1, h⟩ := g_bind h
  refine g_callVi (n := 4) (As := [.int (118 : Int32), .int a1, .int a2, .int (0 : Int32)]) (rest := []) C P (kX8_calls l X hJ σ (118 : Int32) a1 a2 (0 : Int32) _ hr1) wd_176 wd_177 wd_178 wd_5 wd_179 rfl rfl kdX8_calls ⟨Nat.le_of_ble_eq_true rfl, Nat.le_of_ble_eq_true rfl⟩ ml0 rfl rfl rfl hl.1 (Nat.le_of_ble_eq_true rfl) dX8_move_6 (fun H locs P => ?_)
  have h := Option.some.inj h
  exact g_iret C P (g_fst h) (g_snd h) dX8_move_9
abbrev rmX8_store : Room := { frames := 7, cells := 0, slots := 0, locals := 163 }
theorem kdX8_store : yX8_store.cls = RX8 ∧ yX8_store.cls ≠ "java/lang/invoke/MethodHandle" ∧ yX8_store.cls ≠ "java/lang/invoke/VarHandle" ∧ (parseMethodDescriptor yX8_store.desc).map (fun d => d.parameters.length) = some 3 := by decide +kernel
set_option maxHeartbeats 4000000 in
set_option maxRecDepth 100000 in
theorem kX8_store (l : Launch) (X : gXt) (hJ : gJ X mL) (σ : gS) (a1 : Int32) (a2 : Int32) (a3 : Int32) (q : Int32 × gS) (h : qM_store σ a1 a2 a3 = some q) : gMi l yX8_store (gws yX8_store cX8_store 4 (some .int)) rmX8_store X mL [.ref (gad X 0), .int a1, .int a2, .int a3] σ q.1 q.2 := by
  refine g_enter (cc := cX8_store) (nL := 4) (ret := (some .int)) hJ (plainFor_of_name (by decide)) (Nat.le_of_ble_eq_true rfl) ?_
  intro p e s m below meth c ls C P hl
  have C : gC p s m _ meth c RX8 cX8_store 4 (some .int) X mL := C
  have hx := C.1
  have hb := C.2.1
  have hK := C.2.2.2.2.2.2.2.1
  have hts := C.2.2.2.2.1
  have hl : lv_has ls 4 [(0, .ref (gad X 0)), (1, .int a1), (2, .int a2), (3, .int a3)] := hl
  unfold qM_store at h
  refine lv_aload_n hx hb dX8_store_0 rfl (lv_at hl 0 rfl) ?_
  refine lv_bipush (v := 119) hx hb dX8_store_1 (by decide) ?_
  refine lv_iload_n hx hb dX8_store_3 rfl (lv_at hl 1 rfl) ?_
  refine lv_iload_n hx hb dX8_store_4 rfl (lv_at hl 2 rfl) ?_
  refine lv_iload_n hx hb dX8_store_5 rfl (lv_at hl 3 rfl) ?_
  obtain ⟨r1, hr1, h⟩ := g_bind h
  refine g_callVi (n := 4) (As := [.int (119 : Int32), .int a1, .int a2, .int a3]) (rest := []) C P (kX8_calls l X hJ σ (119 : Int32) a1 a2 a3 _ hr1) wd_176 wd_177 wd_178 wd_5 wd_179 rfl rfl kdX8_calls ⟨Nat.le_of_ble_eq_true rfl, Nat.le_of_ble_eq_true rfl⟩ ml0 rfl rfl rfl hl.1 (Nat.le_of_ble_eq_true rfl) dX8_store_6 (fun H locs P => ?_)
  have h := Option.some.inj h
  exact g_iret C P (g_fst h) (g_snd h) dX8_store_9
abbrev rmX8_load : Room := { frames := 7, cells := 0, slots := 0, locals := 163 }
theorem kdX8_load : yX8_load.cls = RX8 ∧ yX8_load.cls ≠ "java/lang/invoke/MethodHandle" ∧ yX8_load.cls ≠ "java/lang/invoke/VarHandle" ∧ (parseMethodDescriptor yX8_load.desc).map (fun d => d.parameters.length) = some 3 := by decide +kernel
set_option maxHeartbeats 4000000 in
set_option maxRecDepth 100000 in
theorem kX8_load (l : Launch) (X : gXt) (hJ : gJ X mL) (σ : gS) (a1 : Int32) (a2 : Int32) (a3 : Int32) (q : Int32 × gS) (h : qM_load σ a1 a2 a3 = some q) : gMi l yX8_load (gws yX8_load cX8_load 4 (some .int)) rmX8_load X mL [.ref (gad X 0), .int a1, .int a2, .int a3] σ q.1 q.2 := by
  refine g_enter (cc := cX8_load) (nL := 4) (ret := (some .int)) hJ (plainFor_of_name (by decide)) (Nat.le_of_ble_eq_true rfl) ?_
  intro p e s m below meth c ls C P hl
  have C : gC p s m _ meth c RX8 cX8_load 4 (some .int) X mL := C
  have hx := C.1
  have hb := C.2.1
  have hK := C.2.2.2.2.2.2.2.1
  have hts := C.2.2.2.2.1
  have hl : lv_has ls 4 [(0, .ref (gad X 0)), (1, .int a1), (2, .int a2), (3, .int a3)] := hl
  unfold qM_load at h
  refine lv_aload_n hx hb dX8_load_0 rfl (lv_at hl 0 rfl) ?_
  refine lv_bipush (v := 108) hx hb dX8_load_1 (by decide) ?_
  refine lv_iload_n hx hb dX8_load_3 rfl (lv_at hl 1 rfl) ?_
  refine lv_iload_n hx hb dX8_load_4 rfl (lv_at hl 2 rfl) ?_
  refine lv_iload_n hx hb dX8_load_5 rfl (lv_at hl 3 rfl) ?_
  obtain ⟨r1, hr1, h⟩ := g_bind h
  refine g_callVi (n := 4) (As := [.int (108 : Int32), .int a1, .int a2, .int a3]) (rest := []) C P (kX8_calls l X hJ σ (108 : Int32) a1 a2 a3 _ hr1) wd_176 wd_177 wd_178 wd_5 wd_179 rfl rfl kdX8_calls ⟨Nat.le_of_ble_eq_true rfl, Nat.le_of_ble_eq_true rfl⟩ ml0 rfl rfl rfl hl.1 (Nat.le_of_ble_eq_true rfl) dX8_load_6 (fun H locs P => ?_)
  have h := Option.some.inj h
  exact g_iret C P (g_fst h) (g_snd h) dX8_load_9
abbrev rmX8_compare : Room := { frames := 3, cells := 0, slots := 0, locals := 67 }
theorem kdX8_compare : yX8_compare.cls = RX8 ∧ yX8_compare.cls ≠ "java/lang/invoke/MethodHandle" ∧ yX8_compare.cls ≠ "java/lang/invoke/VarHandle" ∧ (parseMethodDescriptor yX8_compare.desc).map (fun d => d.parameters.length) = some 2 := by decide +kernel
set_option maxHeartbeats 4000000 in
set_option maxRecDepth 100000 in
theorem kX8_compare (l : Launch) (X : gXt) (hJ : gJ X mL) (σ : gS) (a1 : Int32) (a2 : Int32) (q : Int32 × gS) (h : qM_compare σ a1 a2 = some q) : gMi l yX8_compare (gws yX8_compare cX8_compare 3 (some .int)) rmX8_compare X mL [.ref (gad X 0), .int a1, .int a2] σ q.1 q.2 := by
  refine g_enter (cc := cX8_compare) (nL := 3) (ret := (some .int)) hJ (plainFor_of_name (by decide)) (Nat.le_of_ble_eq_true rfl) ?_
  intro p e s m below meth c ls C P hl
  have C : gC p s m _ meth c RX8 cX8_compare 3 (some .int) X mL := C
  have hx := C.1
  have hb := C.2.1
  have hK := C.2.2.2.2.2.2.2.1
  have hts := C.2.2.2.2.1
  have hl : lv_has ls 3 [(0, .ref (gad X 0)), (1, .int a1), (2, .int a2)] := hl
  unfold qM_compare at h
  refine lv_aload_n hx hb dX8_compare_0 rfl (lv_at hl 0 rfl) ?_
  refine lv_aload_n hx hb dX8_compare_1 rfl (lv_at hl 0 rfl) ?_
  refine lv_iload_n hx hb dX8_compare_2 rfl (lv_at hl 1 rfl) ?_
  refine lv_iload_n hx hb dX8_compare_3 rfl (lv_at hl 2 rfl) ?_
  obtain ⟨r1, hr1, h⟩ := g_bind h
  refine g_callVi (n := 2) (As := [.int a1, .int a2]) (rest := [.ref (gad X 0)]) C P (kX8_comparesTo l X hJ σ a1 a2 _ hr1) wd_490 wd_491 wd_492 wd_5 wd_493 rfl rfl kdX8_comparesTo ⟨Nat.le_of_ble_eq_true rfl, Nat.le_of_ble_eq_true rfl⟩ ml0 rfl rfl rfl hl.1 (Nat.le_of_ble_eq_true rfl) dX8_compare_4 (fun H locs P => ?_)
  obtain ⟨r2, hr2, h⟩ := g_bind h
  refine g_callVi (n := 1) (As := [.int r1]) (rest := []) C P (kX8_counted l X hJ σ r1 _ hr2) wd_315 wd_316 wd_317 wd_5 wd_318 rfl rfl kdX8_counted ⟨Nat.le_of_ble_eq_true rfl, Nat.le_of_ble_eq_true rfl⟩ ml0 rfl rfl rfl hl.1 (Nat.le_of_ble_eq_true rfl) dX8_compare_7 (fun H locs P => ?_)
  have h := Option.some.inj h
  exact g_iret C P (g_fst h) (g_snd h) dX8_compare_10
abbrev rmX8_blit : Room := { frames := 7, cells := 0, slots := 0, locals := 163 }
theorem kdX8_blit : yX8_blit.cls = RX8 ∧ yX8_blit.cls ≠ "java/lang/invoke/MethodHandle" ∧ yX8_blit.cls ≠ "java/lang/invoke/VarHandle" ∧ (parseMethodDescriptor yX8_blit.desc).map (fun d => d.parameters.length) = some 3 := by decide +kernel
set_option maxHeartbeats 4000000 in
set_option maxRecDepth 100000 in
theorem kX8_blit (l : Launch) (X : gXt) (hJ : gJ X mL) (σ : gS) (a1 : Int32) (a2 : Int32) (a3 : Int32) (q : Int32 × gS) (h : qM_blit σ a1 a2 a3 = some q) : gMi l yX8_blit (gws yX8_blit cX8_blit 4 (some .int)) rmX8_blit X mL [.ref (gad X 0), .int a1, .int a2, .int a3] σ q.1 q.2 := by
  refine g_enter (cc := cX8_blit) (nL := 4) (ret := (some .int)) hJ (plainFor_of_name (by decide)) (Nat.le_of_ble_eq_true rfl) ?_
  intro p e s m below meth c ls C P hl
  have C : gC p s m _ meth c RX8 cX8_blit 4 (some .int) X mL := C
  have hx := C.1
  have hb := C.2.1
  have hK := C.2.2.2.2.2.2.2.1
  have hts := C.2.2.2.2.1
  have hl : lv_has ls 4 [(0, .ref (gad X 0)), (1, .int a1), (2, .int a2), (3, .int a3)] := hl
  unfold qM_blit at h
  refine lv_aload_n hx hb dX8_blit_0 rfl (lv_at hl 0 rfl) ?_
  refine lv_bipush (v := 98) hx hb dX8_blit_1 (by decide) ?_
  refine lv_iload_n hx hb dX8_blit_3 rfl (lv_at hl 1 rfl) ?_
  refine lv_iload_n hx hb dX8_blit_4 rfl (lv_at hl 2 rfl) ?_
  refine lv_iload_n hx hb dX8_blit_5 rfl (lv_at hl 3 rfl) ?_
  obtain ⟨r1, hr1, h⟩ := g_bind h
  refine g_callVi (n := 4) (As := [.int (98 : Int32), .int a1, .int a2, .int a3]) (rest := []) C P (kX8_calls l X hJ σ (98 : Int32) a1 a2 a3 _ hr1) wd_176 wd_177 wd_178 wd_5 wd_179 rfl rfl kdX8_calls ⟨Nat.le_of_ble_eq_true rfl, Nat.le_of_ble_eq_true rfl⟩ ml0 rfl rfl rfl hl.1 (Nat.le_of_ble_eq_true rfl) dX8_blit_6 (fun H locs P => ?_)
  have h := Option.some.inj h
  exact g_iret C P (g_fst h) (g_snd h) dX8_blit_9
abbrev rmX8_freeze : Room := { frames := 7, cells := 0, slots := 0, locals := 163 }
theorem kdX8_freeze : yX8_freeze.cls = RX8 ∧ yX8_freeze.cls ≠ "java/lang/invoke/MethodHandle" ∧ yX8_freeze.cls ≠ "java/lang/invoke/VarHandle" ∧ (parseMethodDescriptor yX8_freeze.desc).map (fun d => d.parameters.length) = some 1 := by decide +kernel
set_option maxHeartbeats 4000000 in
set_option maxRecDepth 100000 in
theorem kX8_freeze (l : Launch) (X : gXt) (hJ : gJ X mL) (σ : gS) (a1 : Int32) (q : Int32 × gS) (h : qM_freeze σ a1 = some q) : gMi l yX8_freeze (gws yX8_freeze cX8_freeze 2 (some .int)) rmX8_freeze X mL [.ref (gad X 0), .int a1] σ q.1 q.2 := by
  refine g_enter (cc := cX8_freeze) (nL := 2) (ret := (some .int)) hJ (plainFor_of_name (by decide)) (Nat.le_of_ble_eq_true rfl) ?_
  intro p e s m below meth c ls C P hl
  have C : gC p s m _ meth c RX8 cX8_freeze 2 (some .int) X mL := C
  have hx := C.1
  have hb := C.2.1
  have hK := C.2.2.2.2.2.2.2.1
  have hts := C.2.2.2.2.1
  have hl : lv_has ls 2 [(0, .ref (gad X 0)), (1, .int a1)] := hl
  unfold qM_freeze at h
  refine lv_aload_n hx hb dX8_freeze_0 rfl (lv_at hl 0 rfl) ?_
  refine lv_bipush (v := 122) hx hb dX8_freeze_1 (by decide) ?_
  refine lv_iload_n hx hb dX8_freeze_3 rfl (lv_at hl 1 rfl) ?_
  refine lv_iconst (v := 0) hx hb dX8_freeze_4 (by decide) ?_
  refine lv_iconst (v := 0) hx hb dX8_freeze_5 (by decide) ?_
  obtain ⟨r1, hr1, h⟩ := g_bind h
  refine g_callVi (n := 4) (As := [.int (122 : Int32), .int a1, .int (0 : Int32), .int (0 : Int32)]) (rest := []) C P (kX8_calls l X hJ σ (122 : Int32) a1 (0 : Int32) (0 : Int32) _ hr1) wd_176 wd_177 wd_178 wd_5 wd_179 rfl rfl kdX8_calls ⟨Nat.le_of_ble_eq_true rfl, Nat.le_of_ble_eq_true rfl⟩ ml0 rfl rfl rfl hl.1 (Nat.le_of_ble_eq_true rfl) dX8_freeze_6 (fun H locs P => ?_)
  have h := Option.some.inj h
  exact g_iret C P (g_fst h) (g_snd h) dX8_freeze_9
abbrev rmX8_forget : Room := { frames := 2, cells := 0, slots := 0, locals := 42 }
theorem kdX8_forget : yX8_forget.cls = RX8 ∧ yX8_forget.cls ≠ "java/lang/invoke/MethodHandle" ∧ yX8_forget.cls ≠ "java/lang/invoke/VarHandle" ∧ (parseMethodDescriptor yX8_forget.desc).map (fun d => d.parameters.length) = some 1 := by decide +kernel
set_option maxHeartbeats 4000000 in
set_option maxRecDepth 100000 in
theorem kX8_forget (l : Launch) (X : gXt) (hJ : gJ X mL) (σ : gS) (a1 : Int32) (q : Int32 × gS) (h : qM_forget σ a1 = some q) : gMi l yX8_forget (gws yX8_forget cX8_forget 3 (some .int)) rmX8_forget X mL [.ref (gad X 0), .int a1] σ q.1 q.2 := by
  refine g_enter (cc := cX8_forget) (nL := 3) (ret := (some .int)) hJ (plainFor_of_name (by decide)) (Nat.le_of_ble_eq_true rfl) ?_
  intro p e s m below meth c ls C P hl
  have C : gC p s m _ meth c RX8 cX8_forget 3 (some .int) X mL := C
  have hx := C.1
  have hb := C.2.1
  have hK := C.2.2.2.2.2.2.2.1
  have hts := C.2.2.2.2.1
  have hl : lv_has ls 3 [(0, .ref (gad X 0)), (1, .int a1)] := hl
  unfold qM_forget at h
  refine lv_iload_n hx hb dX8_forget_0 rfl (lv_at hl 1 rfl) ?_
  refine g_callSi (n := 1) (As := [.int a1]) (rest := []) C P (kX8_isRegister l X hJ σ a1 _ rfl) wd_192 wd_193 wd_5 wd_194 rfl rfl kdX8_isRegister.2 ⟨Nat.le_of_ble_eq_true rfl, Nat.le_of_ble_eq_true rfl⟩ rfl rfl hl.1 (Nat.le_of_ble_eq_true rfl) dX8_forget_1 (fun H locs P => ?_)
  refine lv_if_ne (tgt := 12) hx hb dX8_forget_4 (by decide) (fun c1 => ?_) (fun c1 => ?_)
  · have h := g_ifn c1 h
    refine lv_aload_n hx hb dX8_forget_12 rfl (lv_at hl 0 rfl) ?_
    obtain ⟨r2, hr2, h⟩ := g_bind h
    refine g_callVv (n := 0) (As := []) (rest := []) C P (kX8_copies l X hJ σ _ hr2) wd_180 wd_181 wd_182 wd_5 wd_183 rfl rfl kdX8_copies ⟨Nat.le_of_ble_eq_true rfl, Nat.le_of_ble_eq_true rfl⟩ ml0 rfl rfl rfl hl.1 (Nat.le_of_ble_eq_true rfl) dX8_forget_13 (fun H locs P => ?_)
    refine lv_aload_n hx hb dX8_forget_16 rfl (lv_at hl 0 rfl) ?_
    obtain ⟨r3, hr3, h⟩ := g_bind h
    refine g_callVv (n := 0) (As := []) (rest := []) C P (kX8_remembers l X hJ r2 _ hr3) wd_310 wd_311 wd_312 wd_5 wd_313 rfl rfl kdX8_remembers ⟨Nat.le_of_ble_eq_true rfl, Nat.le_of_ble_eq_true rfl⟩ ml0 rfl rfl rfl hl.1 (Nat.le_of_ble_eq_true rfl) dX8_forget_17 (fun H locs P => ?_)
    refine lv_aload_n hx hb dX8_forget_20 rfl (lv_at hl 0 rfl) ?_
    refine lv_iload_n hx hb dX8_forget_21 rfl (lv_at hl 1 rfl) ?_
    obtain ⟨r4, hr4, h⟩ := g_bind h
    refine g_callVi (n := 1) (As := [.int a1]) (rest := []) C P (kX8_kindOf l X hJ r3 a1 _ hr4) wd_213 wd_214 wd_215 wd_5 wd_216 rfl rfl kdX8_kindOf ⟨Nat.le_of_ble_eq_true rfl, Nat.le_of_ble_eq_true rfl⟩ ml0 rfl rfl rfl hl.1 (Nat.le_of_ble_eq_true rfl) dX8_forget_22 (fun H locs P => ?_)
    refine lv_istore_n (lv' := [(2, .int r4), (0, .ref (gad X 0)), (1, .int a1)]) hx hb dX8_forget_25 rfl hl (by decide) rfl (fun ls hl => ?_)
    refine lv_aload_n hx hb dX8_forget_26 rfl (lv_at hl 1 rfl) ?_
    refine lv_iload_n hx hb dX8_forget_27 rfl (lv_at hl 2 rfl) ?_
    refine lv_iconst (v := 0) hx hb dX8_forget_28 (by decide) ?_
    refine lv_iconst (v := 0) hx hb dX8_forget_29 (by decide) ?_
    refine lv_iconst (v := 0) hx hb dX8_forget_30 (by decide) ?_
    obtain ⟨r5, hr5, h⟩ := g_bind h
    refine g_callVi (n := 4) (As := [.int a1, .int (0 : Int32), .int (0 : Int32), .int (0 : Int32)]) (rest := []) C P (kX8_tells l X hJ r3 a1 (0 : Int32) (0 : Int32) (0 : Int32) _ hr5) wd_201 wd_202 wd_203 wd_5 wd_204 rfl rfl kdX8_tells ⟨Nat.le_of_ble_eq_true rfl, Nat.le_of_ble_eq_true rfl⟩ ml0 rfl rfl rfl hl.1 (Nat.le_of_ble_eq_true rfl) dX8_forget_31 (fun H locs P => ?_)
    refine lv_pop hx hb dX8_forget_34 rfl ?_
    refine lv_iload_n hx hb dX8_forget_35 rfl (lv_at hl 0 rfl) ?_
    have h := Option.some.inj h
    exact g_iret C P (g_fst h) (g_snd h) dX8_forget_36
  have h := g_ifp c1 h
  refine lv_aload_n hx hb dX8_forget_7 rfl (lv_at hl 0 rfl) ?_
  obtain ⟨r6, hr6, h⟩ := g_bind h
  refine g_callVi (n := 0) (As := []) (rest := []) C P (kX8_bad l X hJ σ _ hr6) wd_601 wd_602 wd_603 wd_5 wd_604 rfl rfl kdX8_bad ⟨Nat.le_of_ble_eq_true rfl, Nat.le_of_ble_eq_true rfl⟩ ml0 rfl rfl rfl hl.1 (Nat.le_of_ble_eq_true rfl) dX8_forget_8 (fun H locs P => ?_)
  have h := Option.some.inj h
  exact g_iret C P (g_fst h) (g_snd h) dX8_forget_11
abbrev rmX8_budget : Room := { frames := 1, cells := 0, slots := 0, locals := 22 }
theorem kdX8_budget : yX8_budget.cls = RX8 ∧ yX8_budget.cls ≠ "java/lang/invoke/MethodHandle" ∧ yX8_budget.cls ≠ "java/lang/invoke/VarHandle" ∧ (parseMethodDescriptor yX8_budget.desc).map (fun d => d.parameters.length) = some 1 := by decide +kernel
set_option maxHeartbeats 4000000 in
set_option maxRecDepth 100000 in
theorem kX8_budget (l : Launch) (X : gXt) (hJ : gJ X mL) (σ : gS) (a1 : Int32) (q : Int32 × gS) (h : qM_budget σ a1 = some q) : gMi l yX8_budget (gws yX8_budget cX8_budget 3 (some .int)) rmX8_budget X mL [.ref (gad X 0), .int a1] σ q.1 q.2 := by
  refine g_enter (cc := cX8_budget) (nL := 3) (ret := (some .int)) hJ (plainFor_of_name (by decide)) (Nat.le_of_ble_eq_true rfl) ?_
  intro p e s m below meth c ls C P hl
  have C : gC p s m _ meth c RX8 cX8_budget 3 (some .int) X mL := C
  have hx := C.1
  have hb := C.2.1
  have hK := C.2.2.2.2.2.2.2.1
  have hts := C.2.2.2.2.1
  have hl : lv_has ls 3 [(0, .ref (gad X 0)), (1, .int a1)] := hl
  unfold qM_budget at h
  refine lv_iload_n hx hb dX8_budget_0 rfl (lv_at hl 1 rfl) ?_
  refine lv_iconst (v := 1) hx hb dX8_budget_1 (by decide) ?_
  refine lv_bipush (v := 60) hx hb dX8_budget_2 (by decide) ?_
  refine g_callSi (n := 3) (As := [.int a1, .int (1 : Int32), .int (60 : Int32)]) (rest := []) C P (kX8_in l X hJ σ a1 (1 : Int32) (60 : Int32) _ rfl) wd_195 wd_196 wd_5 wd_197 rfl rfl kdX8_in.2 ⟨Nat.le_of_ble_eq_true rfl, Nat.le_of_ble_eq_true rfl⟩ rfl rfl hl.1 (Nat.le_of_ble_eq_true rfl) dX8_budget_4 (fun H locs P => ?_)
  refine lv_if_ne (tgt := 15) hx hb dX8_budget_7 (by decide) (fun c1 => ?_) (fun c1 => ?_)
  · have h := g_ifn c1 h
    refine lv_aload_n hx hb dX8_budget_15 rfl (lv_at hl 0 rfl) ?_
    obtain ⟨r2, hr2, h⟩ := g_bind h
    refine g_callVv (n := 0) (As := []) (rest := []) C P (kX8_copies l X hJ σ _ hr2) wd_180 wd_181 wd_182 wd_5 wd_183 rfl rfl kdX8_copies ⟨Nat.le_of_ble_eq_true rfl, Nat.le_of_ble_eq_true rfl⟩ ml0 rfl rfl rfl hl.1 (Nat.le_of_ble_eq_true rfl) dX8_budget_16 (fun H locs P => ?_)
    refine lv_aload_n hx hb dX8_budget_19 rfl (lv_at hl 0 rfl) ?_
    obtain ⟨r3, hr3, h⟩ := g_bind h
    refine g_callVv (n := 0) (As := []) (rest := []) C P (kX8_remembers l X hJ r2 _ hr3) wd_310 wd_311 wd_312 wd_5 wd_313 rfl rfl kdX8_remembers ⟨Nat.le_of_ble_eq_true rfl, Nat.le_of_ble_eq_true rfl⟩ ml0 rfl rfl rfl hl.1 (Nat.le_of_ble_eq_true rfl) dX8_budget_20 (fun H locs P => ?_)
    refine lv_aload_n hx hb dX8_budget_23 rfl (lv_at hl 0 rfl) ?_
    refine g_getR C P ml0 rfl inlX8 0 (by decide) wd_95 rfl dX8_budget_24 ?_
    refine lv_sipush (v := 169) hx hb dX8_budget_27 (by decide) ?_
    refine g_iald (j := 169) C P ml1 (vp_in_iff.mpr ⟨by decide, by decide⟩) (by decide) dX8_budget_30 ?_
    refine lv_istore_n (lv' := [(2, .int (gM r3 1 169)), (0, .ref (gad X 0)), (1, .int a1)]) hx hb dX8_budget_31 rfl hl (by decide) rfl (fun ls hl => ?_)
    refine lv_aload_n hx hb dX8_budget_32 rfl (lv_at hl 1 rfl) ?_
    refine g_getR C P ml0 rfl inlX8 0 (by decide) wd_95 rfl dX8_budget_33 ?_
    refine lv_sipush (v := 169) hx hb dX8_budget_36 (by decide) ?_
    refine lv_iload_n hx hb dX8_budget_39 rfl (lv_at hl 2 rfl) ?_
    refine g_iast (j := 169) C P ml1 (vp_in_iff.mpr ⟨by decide, by decide⟩) (by decide) dX8_budget_40 (fun H locs P => ?_)
    refine lv_iload_n hx hb dX8_budget_41 rfl (lv_at hl 0 rfl) ?_
    have h := Option.some.inj h
    exact g_iret C P (g_fst h) (g_snd h) dX8_budget_42
  have h := g_ifp c1 h
  refine lv_aload_n hx hb dX8_budget_10 rfl (lv_at hl 0 rfl) ?_
  obtain ⟨r4, hr4, h⟩ := g_bind h
  refine g_callVi (n := 0) (As := []) (rest := []) C P (kX8_bad l X hJ σ _ hr4) wd_601 wd_602 wd_603 wd_5 wd_604 rfl rfl kdX8_bad ⟨Nat.le_of_ble_eq_true rfl, Nat.le_of_ble_eq_true rfl⟩ ml0 rfl rfl rfl hl.1 (Nat.le_of_ble_eq_true rfl) dX8_budget_11 (fun H locs P => ?_)
  have h := Option.some.inj h
  exact g_iret C P (g_fst h) (g_snd h) dX8_budget_14
abbrev rmX8_ofRegister : Room := { frames := 1, cells := 0, slots := 0, locals := 21 }
theorem kdX8_ofRegister : yX8_ofRegister.cls = RX8 ∧ yX8_ofRegister.cls ≠ "java/lang/invoke/MethodHandle" ∧ yX8_ofRegister.cls ≠ "java/lang/invoke/VarHandle" ∧ (parseMethodDescriptor yX8_ofRegister.desc).map (fun d => d.parameters.length) = some 2 := by decide +kernel
set_option maxHeartbeats 4000000 in
set_option maxRecDepth 100000 in
theorem kX8_ofRegister (l : Launch) (X : gXt) (hJ : gJ X mL) (σ : gS) (a1 : Int32) (a2 : Int32) (q : Int32) (h : qM_ofRegister σ a1 a2 = some q) : gMi l yX8_ofRegister (gws yX8_ofRegister cX8_ofRegister 3 (some .int)) rmX8_ofRegister X mL [.ref (gad X 0), .int a1, .int a2] σ q σ := by
  refine g_enter (cc := cX8_ofRegister) (nL := 3) (ret := (some .int)) hJ (plainFor_of_name (by decide)) (Nat.le_of_ble_eq_true rfl) ?_
  intro p e s m below meth c ls C P hl
  have C : gC p s m _ meth c RX8 cX8_ofRegister 3 (some .int) X mL := C
  have hx := C.1
  have hb := C.2.1
  have hK := C.2.2.2.2.2.2.2.1
  have hts := C.2.2.2.2.1
  have hl : lv_has ls 3 [(0, .ref (gad X 0)), (1, .int a1), (2, .int a2)] := hl
  unfold qM_ofRegister at h
  refine lv_iload_n hx hb dX8_ofRegister_0 rfl (lv_at hl 2 rfl) ?_
  refine lv_if_ne (tgt := 10) hx hb dX8_ofRegister_1 (by decide) (fun c1 => ?_) (fun c1 => ?_)
  · have h := g_ifn c1 h
    refine lv_iload_n hx hb dX8_ofRegister_10 rfl (lv_at hl 2 rfl) ?_
    refine lv_iconst (v := 1) hx hb dX8_ofRegister_11 (by decide) ?_
    refine lv_icmp_ne (tgt := 35) hx hb dX8_ofRegister_12 (by decide) (fun c2 => ?_) (fun c2 => ?_)
    · have h := g_ifn c2 h
      refine lv_aload_n hx hb dX8_ofRegister_35 rfl (lv_at hl 0 rfl) ?_
      refine lv_iload_n hx hb dX8_ofRegister_36 rfl (lv_at hl 1 rfl) ?_
      obtain ⟨r3, hr3, h⟩ := g_bind h
      refine g_callVi (n := 1) (As := [.int a1]) (rest := []) C P (kX8_kindOf l X hJ σ a1 _ hr3) wd_213 wd_214 wd_215 wd_5 wd_216 rfl rfl kdX8_kindOf ⟨Nat.le_of_ble_eq_true rfl, Nat.le_of_ble_eq_true rfl⟩ ml0 rfl rfl rfl hl.1 (Nat.le_of_ble_eq_true rfl) dX8_ofRegister_37 (fun H locs P => ?_)
      refine lv_iconst (v := 2) hx hb dX8_ofRegister_40 (by decide) ?_
      refine lv_icmp_ne (tgt := 52) hx hb dX8_ofRegister_41 (by decide) (fun c4 => ?_) (fun c4 => ?_)
      · have h := g_ifn c4 h
        refine lv_iconst (v := -1) hx hb dX8_ofRegister_52 (by decide) ?_
        have h := Option.some.inj h
        exact g_iret C P h rfl dX8_ofRegister_53
      have h := g_ifp c4 h
      refine lv_aload_n hx hb dX8_ofRegister_44 rfl (lv_at hl 0 rfl) ?_
      refine lv_iload_n hx hb dX8_ofRegister_45 rfl (lv_at hl 1 rfl) ?_
      obtain ⟨r5, hr5, h⟩ := g_bind h
      refine g_callVi (n := 1) (As := [.int a1]) (rest := []) C P (kX8_placeOf l X hJ σ a1 _ hr5) wd_225 wd_226 wd_227 wd_5 wd_228 rfl rfl kdX8_placeOf ⟨Nat.le_of_ble_eq_true rfl, Nat.le_of_ble_eq_true rfl⟩ ml0 rfl rfl rfl hl.1 (Nat.le_of_ble_eq_true rfl) dX8_ofRegister_46 (fun H locs P => ?_)
      refine lv_goto (tgt := 53) hx hb dX8_ofRegister_49 (by decide) ?_
      have h := Option.some.inj h
      exact g_iret C P h rfl dX8_ofRegister_53
    have h := g_ifp c2 h
    refine lv_aload_n hx hb dX8_ofRegister_15 rfl (lv_at hl 0 rfl) ?_
    refine lv_iload_n hx hb dX8_ofRegister_16 rfl (lv_at hl 1 rfl) ?_
    obtain ⟨r6, hr6, h⟩ := g_bind h
    refine g_callVi (n := 1) (As := [.int a1]) (rest := []) C P (kX8_kindOf l X hJ σ a1 _ hr6) wd_213 wd_214 wd_215 wd_5 wd_216 rfl rfl kdX8_kindOf ⟨Nat.le_of_ble_eq_true rfl, Nat.le_of_ble_eq_true rfl⟩ ml0 rfl rfl rfl hl.1 (Nat.le_of_ble_eq_true rfl) dX8_ofRegister_17 (fun H locs P => ?_)
    refine lv_if_ne (tgt := 27) hx hb dX8_ofRegister_20 (by decide) (fun c7 => ?_) (fun c7 => ?_)
    · have h := g_ifn c7 h
      refine lv_aload_n hx hb dX8_ofRegister_27 rfl (lv_at hl 0 rfl) ?_
      refine lv_iload_n hx hb dX8_ofRegister_28 rfl (lv_at hl 1 rfl) ?_
      obtain ⟨r8, hr8, h⟩ := g_bind h
      refine g_callVi (n := 1) (As := [.int a1]) (rest := []) C P (kX8_valueOf l X hJ σ a1 _ hr8) wd_217 wd_218 wd_219 wd_5 wd_220 rfl rfl kdX8_valueOf ⟨Nat.le_of_ble_eq_true rfl, Nat.le_of_ble_eq_true rfl⟩ ml0 rfl rfl rfl hl.1 (Nat.le_of_ble_eq_true rfl) dX8_ofRegister_29 (fun H locs P => ?_)
      refine lv_goto (tgt := 53) hx hb dX8_ofRegister_32 (by decide) ?_
      have h := Option.some.inj h
      exact g_iret C P h rfl dX8_ofRegister_53
    have h := g_ifp c7 h
    refine lv_iconst (v := -1) hx hb dX8_ofRegister_23 (by decide) ?_
    refine lv_goto (tgt := 53) hx hb dX8_ofRegister_24 (by decide) ?_
    have h := Option.some.inj h
    exact g_iret C P h rfl dX8_ofRegister_53
  have h := g_ifp c1 h
  refine lv_aload_n hx hb dX8_ofRegister_4 rfl (lv_at hl 0 rfl) ?_
  refine lv_iload_n hx hb dX8_ofRegister_5 rfl (lv_at hl 1 rfl) ?_
  obtain ⟨r9, hr9, h⟩ := g_bind h
  refine g_callVi (n := 1) (As := [.int a1]) (rest := []) C P (kX8_kindOf l X hJ σ a1 _ hr9) wd_213 wd_214 wd_215 wd_5 wd_216 rfl rfl kdX8_kindOf ⟨Nat.le_of_ble_eq_true rfl, Nat.le_of_ble_eq_true rfl⟩ ml0 rfl rfl rfl hl.1 (Nat.le_of_ble_eq_true rfl) dX8_ofRegister_6 (fun H locs P => ?_)
  have h := Option.some.inj h
  exact g_iret C P h rfl dX8_ofRegister_9
abbrev rmX8_register : Room := { frames := 2, cells := 0, slots := 0, locals := 43 }
theorem kdX8_register : yX8_register.cls = RX8 ∧ yX8_register.cls ≠ "java/lang/invoke/MethodHandle" ∧ yX8_register.cls ≠ "java/lang/invoke/VarHandle" ∧ (parseMethodDescriptor yX8_register.desc).map (fun d => d.parameters.length) = some 2 := by decide +kernel
set_option maxHeartbeats 4000000 in
set_option maxRecDepth 100000 in
theorem kX8_register (l : Launch) (X : gXt) (hJ : gJ X mL) (σ : gS) (a1 : Int32) (a2 : Int32) (q : Int32 × gS) (h : qM_register σ a1 a2 = some q) : gMi l yX8_register (gws yX8_register cX8_register 3 (some .int)) rmX8_register X mL [.ref (gad X 0), .int a1, .int a2] σ q.1 q.2 := by
  refine g_enter (cc := cX8_register) (nL := 3) (ret := (some .int)) hJ (plainFor_of_name (by decide)) (Nat.le_of_ble_eq_true rfl) ?_
  intro p e s m below meth c ls C P hl
  have C : gC p s m _ meth c RX8 cX8_register 3 (some .int) X mL := C
  have hx := C.1
  have hb := C.2.1
  have hK := C.2.2.2.2.2.2.2.1
  have hts := C.2.2.2.2.1
  have hl : lv_has ls 3 [(0, .ref (gad X 0)), (1, .int a1), (2, .int a2)] := hl
  unfold qM_register at h
  refine lv_iload_n hx hb dX8_register_0 rfl (lv_at hl 1 rfl) ?_
  refine g_callSi (n := 1) (As := [.int a1]) (rest := []) C P (kX8_isRegister l X hJ σ a1 _ rfl) wd_192 wd_193 wd_5 wd_194 rfl rfl kdX8_isRegister.2 ⟨Nat.le_of_ble_eq_true rfl, Nat.le_of_ble_eq_true rfl⟩ rfl rfl hl.1 (Nat.le_of_ble_eq_true rfl) dX8_register_1 (fun H locs P => ?_)
  refine lv_if_eq (tgt := 25) hx hb dX8_register_4 (by decide) (fun c1 => ?_) (fun c1 => ?_)
  · have h := g_ifp c1 h
    refine lv_aload_n hx hb dX8_register_25 rfl (lv_at hl 0 rfl) ?_
    obtain ⟨r2, hr2, h⟩ := g_bind h
    refine g_callVi (n := 0) (As := []) (rest := []) C P (kX8_bad l X hJ σ _ hr2) wd_601 wd_602 wd_603 wd_5 wd_604 rfl rfl kdX8_bad ⟨Nat.le_of_ble_eq_true rfl, Nat.le_of_ble_eq_true rfl⟩ ml0 rfl rfl rfl hl.1 (Nat.le_of_ble_eq_true rfl) dX8_register_26 (fun H locs P => ?_)
    have h := Option.some.inj h
    exact g_iret C P (g_fst h) (g_snd h) dX8_register_29
  have h := g_ifn c1 h
  refine lv_iload_n hx hb dX8_register_7 rfl (lv_at hl 2 rfl) ?_
  refine lv_iconst (v := 0) hx hb dX8_register_8 (by decide) ?_
  refine lv_iconst (v := 2) hx hb dX8_register_9 (by decide) ?_
  refine g_callSi (n := 3) (As := [.int a2, .int (0 : Int32), .int (2 : Int32)]) (rest := []) C P (kX8_in l X hJ σ a2 (0 : Int32) (2 : Int32) _ rfl) wd_195 wd_196 wd_5 wd_197 rfl rfl kdX8_in.2 ⟨Nat.le_of_ble_eq_true rfl, Nat.le_of_ble_eq_true rfl⟩ rfl rfl hl.1 (Nat.le_of_ble_eq_true rfl) dX8_register_10 (fun H locs P => ?_)
  refine lv_if_eq (tgt := 25) hx hb dX8_register_13 (by decide) (fun c3 => ?_) (fun c3 => ?_)
  · have h := g_ifp c3 h
    refine lv_aload_n hx hb dX8_register_25 rfl (lv_at hl 0 rfl) ?_
    obtain ⟨r4, hr4, h⟩ := g_bind h
    refine g_callVi (n := 0) (As := []) (rest := []) C P (kX8_bad l X hJ σ _ hr4) wd_601 wd_602 wd_603 wd_5 wd_604 rfl rfl kdX8_bad ⟨Nat.le_of_ble_eq_true rfl, Nat.le_of_ble_eq_true rfl⟩ ml0 rfl rfl rfl hl.1 (Nat.le_of_ble_eq_true rfl) dX8_register_26 (fun H locs P => ?_)
    have h := Option.some.inj h
    exact g_iret C P (g_fst h) (g_snd h) dX8_register_29
  have h := g_ifn c3 h
  refine lv_aload_n hx hb dX8_register_16 rfl (lv_at hl 0 rfl) ?_
  refine lv_iload_n hx hb dX8_register_17 rfl (lv_at hl 1 rfl) ?_
  refine lv_iload_n hx hb dX8_register_18 rfl (lv_at hl 2 rfl) ?_
  obtain ⟨r5, hr5, h⟩ := g_bind h
  refine g_callVi (n := 2) (As := [.int a1, .int a2]) (rest := []) C P (kX8_ofRegister l X hJ σ a1 a2 _ hr5) wd_630 wd_631 wd_632 wd_5 wd_633 rfl rfl kdX8_ofRegister ⟨Nat.le_of_ble_eq_true rfl, Nat.le_of_ble_eq_true rfl⟩ ml0 rfl rfl rfl hl.1 (Nat.le_of_ble_eq_true rfl) dX8_register_19 (fun H locs P => ?_)
  refine lv_goto (tgt := 29) hx hb dX8_register_22 (by decide) ?_
  have h := Option.some.inj h
  exact g_iret C P (g_fst h) (g_snd h) dX8_register_29
abbrev rmX8_isPiece : Room := { frames := 1, cells := 0, slots := 0, locals := 22 }
theorem kdX8_isPiece : yX8_isPiece.cls = RX8 ∧ yX8_isPiece.cls ≠ "java/lang/invoke/MethodHandle" ∧ yX8_isPiece.cls ≠ "java/lang/invoke/VarHandle" ∧ (parseMethodDescriptor yX8_isPiece.desc).map (fun d => d.parameters.length) = some 1 := by decide +kernel
set_option maxHeartbeats 4000000 in
set_option maxRecDepth 100000 in
theorem kX8_isPiece (l : Launch) (X : gXt) (hJ : gJ X mL) (σ : gS) (a1 : Int32) (q : Int32) (h : qM_isPiece σ a1 = q) : gMi l yX8_isPiece (gws yX8_isPiece cX8_isPiece 2 (some .boolean)) rmX8_isPiece X mL [.ref (gad X 0), .int a1] σ q σ := by
  refine g_enter (cc := cX8_isPiece) (nL := 2) (ret := (some .boolean)) hJ (plainFor_of_name (by decide)) (Nat.le_of_ble_eq_true rfl) ?_
  intro p e s m below meth c ls C P hl
  have C : gC p s m _ meth c RX8 cX8_isPiece 2 (some .boolean) X mL := C
  have hx := C.1
  have hb := C.2.1
  have hK := C.2.2.2.2.2.2.2.1
  have hts := C.2.2.2.2.1
  have hl : lv_has ls 2 [(0, .ref (gad X 0)), (1, .int a1)] := hl
  unfold qM_isPiece at h
  refine lv_iload_n hx hb dX8_isPiece_0 rfl (lv_at hl 1 rfl) ?_
  refine lv_iconst (v := 0) hx hb dX8_isPiece_1 (by decide) ?_
  refine lv_aload_n hx hb dX8_isPiece_2 rfl (lv_at hl 0 rfl) ?_
  refine g_getR C P ml0 rfl inlX8 0 (by decide) wd_95 rfl dX8_isPiece_3 ?_
  refine lv_iconst (v := 0) hx hb dX8_isPiece_6 (by decide) ?_
  refine g_iald (j := 0) C P ml1 (vp_in_iff.mpr ⟨by decide, by decide⟩) (by decide) dX8_isPiece_7 ?_
  refine lv_iconst (v := 1) hx hb dX8_isPiece_8 (by decide) ?_
  refine lv_isub hx hb dX8_isPiece_9 ?_
  refine g_callSi (n := 3) (As := [.int a1, .int (0 : Int32), .int ((gM σ 1 0) - (1 : Int32))]) (rest := []) C P (kX8_in l X hJ σ a1 (0 : Int32) ((gM σ 1 0) - (1 : Int32)) _ rfl) wd_195 wd_196 wd_5 wd_197 rfl rfl kdX8_in.2 ⟨Nat.le_of_ble_eq_true rfl, Nat.le_of_ble_eq_true rfl⟩ rfl rfl hl.1 (Nat.le_of_ble_eq_true rfl) dX8_isPiece_10 (fun H locs P => ?_)
  exact g_zret C P (g_bon (b01_X8_in a1 (0 : Int32) ((gM σ 1 0) - (1 : Int32)))) h rfl dX8_isPiece_13
abbrev rmX8_bytesOf : Room := { frames := 2, cells := 0, slots := 0, locals := 41 }
theorem kdX8_bytesOf : yX8_bytesOf.cls = RX8 ∧ yX8_bytesOf.cls ≠ "java/lang/invoke/MethodHandle" ∧ yX8_bytesOf.cls ≠ "java/lang/invoke/VarHandle" ∧ (parseMethodDescriptor yX8_bytesOf.desc).map (fun d => d.parameters.length) = some 2 := by decide +kernel
set_option maxHeartbeats 4000000 in
set_option maxRecDepth 100000 in
theorem kX8_bytesOf_5 {p : Program} {l : Launch} {e : Env} {s : State} {m : MethodId} {args : Array Value} {below : List Frame} {meth : Method} {c : Code} {X : gXt} (hJ : gJ X mL) (C : gC p s m args meth c RX8 cX8_bytesOf 6 (some .int) X mL) (σ : gS) (f5_1 : Int32) (f5_2 : Int32) (k : Int32 → Option Int32) (q : Int32) (hk : ∀ (x3 : Int32) (H : Heap) (locs : List Loc) (ls : Array Slot), k x3 = some q → gH X mL σ s H locs → lv_has ls 6 [(3, .int x3)] → W p l e rmX8_bytesOf s m args below meth c H locs 0 0 (MQ below (gQi X mL q σ) args s 0 0 (gA X mL)) (F0 m 68 ls [])) : ∀ (n : Nat) (v3 : Int32) (v4 : Int32), qM_bytesOf_5 σ f5_1 f5_2 k n v3 v4 = some q → ∀ (H : Heap) (locs : List Loc) (ls : Array Slot), gH X mL σ s H locs → lv_has ls 6 [(0, .ref (gad X 0)), (1, .int f5_1), (2, .int f5_2), (3, .int v3), (4, .int v4)] → W p l e rmX8_bytesOf s m args below meth c H locs 0 0 (MQ below (gQi X mL q σ) args s 0 0 (gA X mL)) (F0 m 5 ls []) := by
  have hx := C.1
  have hb := C.2.1
  have hK := C.2.2.2.2.2.2.2.1
  have hts := C.2.2.2.2.1
  intro n
  induction n with
  | zero => intro v3 v4 h; cases h
  | succ n ih =>
    intro v3 v4 h H locs ls P hl
    have h : (qM_sizeOf σ f5_1).bind (fun r1 => (if r1 ≤ v4 then k v3 else gob (qM_bytePlace f5_1 v4) 1219 ((if f5_2 = 0 then (if (gM σ 1 (qM_bytePlace f5_1 v4).toNatClampNeg) = (-1 : Int32) then qM_bytesOf_5 σ f5_1 f5_2 k n (v3 + (1 : Int32)) (v4 + 1) else qM_bytesOf_5 σ f5_1 f5_2 k n (v3 + (0 : Int32)) (v4 + 1)) else (if (gM σ 1 (qM_bytePlace f5_1 v4).toNatClampNeg) < (1000 : Int32) then qM_bytesOf_5 σ f5_1 f5_2 k n (v3 + (0 : Int32)) (v4 + 1) else qM_bytesOf_5 σ f5_1 f5_2 k n (v3 + (1 : Int32)) (v4 + 1)))))) = some q := h
    refine lv_iload hx hb dX8_bytesOf_5 (lv_at hl 4 rfl) ?_
    refine lv_aload_n hx hb dX8_bytesOf_7 rfl (lv_at hl 0 rfl) ?_
    refine lv_iload_n hx hb dX8_bytesOf_8 rfl (lv_at hl 1 rfl) ?_
    obtain ⟨r1, hr1, h⟩ := g_bind h
    refine g_callVi (n := 1) (As := [.int f5_1]) (rest := [.int v4]) C P (kX8_sizeOf l X hJ σ f5_1 _ hr1) wd_250 wd_251 wd_252 wd_5 wd_253 rfl rfl kdX8_sizeOf ⟨Nat.le_of_ble_eq_true rfl, Nat.le_of_ble_eq_true rfl⟩ ml0 rfl rfl rfl hl.1 (Nat.le_of_ble_eq_true rfl) dX8_bytesOf_9 (fun H locs P => ?_)
    refine lv_icmp_ge (tgt := 68) hx hb dX8_bytesOf_12 (by decide) (fun c2 => ?_) (fun c2 => ?_)
    · have h := g_ifp c2 h
      exact hk v3 _ _ _ h P (lv_sub hl [3] rfl)
    have h := g_ifn c2 h
    refine lv_aload_n hx hb dX8_bytesOf_15 rfl (lv_at hl 0 rfl) ?_
    refine g_getR C P ml0 rfl inlX8 0 (by decide) wd_95 rfl dX8_bytesOf_16 ?_
    refine lv_iload_n hx hb dX8_bytesOf_19 rfl (lv_at hl 1 rfl) ?_
    refine lv_iload hx hb dX8_bytesOf_20 (lv_at hl 4 rfl) ?_
    refine g_callSi (n := 2) (As := [.int f5_1, .int v4]) (rest := [.ref (gad X 1)]) C P (kX8_bytePlace l X hJ σ f5_1 v4 _ rfl) wd_270 wd_271 wd_5 wd_272 rfl rfl kdX8_bytePlace.2 ⟨Nat.le_of_ble_eq_true rfl, Nat.le_of_ble_eq_true rfl⟩ rfl rfl hl.1 (Nat.le_of_ble_eq_true rfl) dX8_bytesOf_22 (fun H locs P => ?_)
    obtain ⟨b3, h⟩ := g_ob h
    refine g_iald (j := (qM_bytePlace f5_1 v4).toNatClampNeg) C P ml1 b3 rfl dX8_bytesOf_25 ?_
    refine lv_istore (lv' := [(5, .int (gM σ 1 (qM_bytePlace f5_1 v4).toNatClampNeg)), (0, .ref (gad X 0)), (1, .int f5_1), (2, .int f5_2), (3, .int v3), (4, .int v4)]) hx hb dX8_bytesOf_26 hl (by decide) rfl (fun ls hl => ?_)
    refine lv_iload_n hx hb dX8_bytesOf_28 rfl (lv_at hl 4 rfl) ?_
    refine lv_iload_n hx hb dX8_bytesOf_29 rfl (lv_at hl 3 rfl) ?_
    refine lv_if_eq (tgt := 49) hx hb dX8_bytesOf_30 (by decide) (fun c4 => ?_) (fun c4 => ?_)
    · have h := g_ifp c4 h
      refine lv_iload hx hb dX8_bytesOf_49 (lv_at hl 0 rfl) ?_
      refine lv_iconst (v := -1) hx hb dX8_bytesOf_51 (by decide) ?_
      refine lv_icmp_ne (tgt := 59) hx hb dX8_bytesOf_52 (by decide) (fun c5 => ?_) (fun c5 => ?_)
      · have h := g_ifn c5 h
        refine lv_iconst (v := 0) hx hb dX8_bytesOf_59 (by decide) ?_
        refine lv_iadd hx hb dX8_bytesOf_60 ?_
        refine lv_istore_n (lv' := [(3, .int (v3 + (0 : Int32))), (5, .int (gM σ 1 (qM_bytePlace f5_1 v4).toNatClampNeg)), (0, .ref (gad X 0)), (1, .int f5_1), (2, .int f5_2), (4, .int v4)]) hx hb dX8_bytesOf_61 rfl hl (by decide) rfl (fun ls hl => ?_)
        refine lv_iinc (v := (v4 + 1)) (lv' := [(4, .int (v4 + 1)), (3, .int (v3 + (0 : Int32))), (5, .int (gM σ 1 (qM_bytePlace f5_1 v4).toNatClampNeg)), (0, .ref (gad X 0)), (1, .int f5_1), (2, .int f5_2)]) hx hb dX8_bytesOf_62 hl (k := 5) rfl rfl (by decide) rfl (fun ls hl => ?_)
        refine lv_goto (tgt := 5) hx hb dX8_bytesOf_65 (by decide) ?_
        exact ih (v3 + (0 : Int32)) (v4 + 1) h _ _ _ P (lv_sub hl [3, 4, 5, 1, 0] rfl)
      have h := g_ifp c5 h
      refine lv_iconst (v := 1) hx hb dX8_bytesOf_55 (by decide) ?_
      refine lv_goto (tgt := 60) hx hb dX8_bytesOf_56 (by decide) ?_
      refine lv_iadd hx hb dX8_bytesOf_60 ?_
      refine lv_istore_n (lv' := [(3, .int (v3 + (1 : Int32))), (5, .int (gM σ 1 (qM_bytePlace f5_1 v4).toNatClampNeg)), (0, .ref (gad X 0)), (1, .int f5_1), (2, .int f5_2), (4, .int v4)]) hx hb dX8_bytesOf_61 rfl hl (by decide) rfl (fun ls hl => ?_)
      refine lv_iinc (v := (v4 + 1)) (lv' := [(4, .int (v4 + 1)), (3, .int (v3 + (1 : Int32))), (5, .int (gM σ 1 (qM_bytePlace f5_1 v4).toNatClampNeg)), (0, .ref (gad X 0)), (1, .int f5_1), (2, .int f5_2)]) hx hb dX8_bytesOf_62 hl (k := 5) rfl rfl (by decide) rfl (fun ls hl => ?_)
      refine lv_goto (tgt := 5) hx hb dX8_bytesOf_65 (by decide) ?_
      exact ih (v3 + (1 : Int32)) (v4 + 1) h _ _ _ P (lv_sub hl [3, 4, 5, 1, 0] rfl)
    have h := g_ifn c4 h
    refine lv_iload hx hb dX8_bytesOf_33 (lv_at hl 0 rfl) ?_
    refine lv_sipush (v := 1000) hx hb dX8_bytesOf_35 (by decide) ?_
    refine lv_icmp_lt (tgt := 45) hx hb dX8_bytesOf_38 (by decide) (fun c6 => ?_) (fun c6 => ?_)
    · have h := g_ifp c6 h
      refine lv_iconst (v := 0) hx hb dX8_bytesOf_45 (by decide) ?_
      refine lv_goto (tgt := 60) hx hb dX8_bytesOf_46 (by decide) ?_
      refine lv_iadd hx hb dX8_bytesOf_60 ?_
      refine lv_istore_n (lv' := [(3, .int (v3 + (0 : Int32))), (5, .int (gM σ 1 (qM_bytePlace f5_1 v4).toNatClampNeg)), (0, .ref (gad X 0)), (1, .int f5_1), (2, .int f5_2), (4, .int v4)]) hx hb dX8_bytesOf_61 rfl hl (by decide) rfl (fun ls hl => ?_)
      refine lv_iinc (v := (v4 + 1)) (lv' := [(4, .int (v4 + 1)), (3, .int (v3 + (0 : Int32))), (5, .int (gM σ 1 (qM_bytePlace f5_1 v4).toNatClampNeg)), (0, .ref (gad X 0)), (1, .int f5_1), (2, .int f5_2)]) hx hb dX8_bytesOf_62 hl (k := 5) rfl rfl (by decide) rfl (fun ls hl => ?_)
      refine lv_goto (tgt := 5) hx hb dX8_bytesOf_65 (by decide) ?_
      exact ih (v3 + (0 : Int32)) (v4 + 1) h _ _ _ P (lv_sub hl [3, 4, 5, 1, 0] rfl)
    have h := g_ifn c6 h
    refine lv_iconst (v := 1) hx hb dX8_bytesOf_41 (by decide) ?_
    refine lv_goto (tgt := 60) hx hb dX8_bytesOf_42 (by decide) ?_
    refine lv_iadd hx hb dX8_bytesOf_60 ?_
    refine lv_istore_n (lv' := [(3, .int (v3 + (1 : Int32))), (5, .int (gM σ 1 (qM_bytePlace f5_1 v4).toNatClampNeg)), (0, .ref (gad X 0)), (1, .int f5_1), (2, .int f5_2), (4, .int v4)]) hx hb dX8_bytesOf_61 rfl hl (by decide) rfl (fun ls hl => ?_)
    refine lv_iinc (v := (v4 + 1)) (lv' := [(4, .int (v4 + 1)), (3, .int (v3 + (1 : Int32))), (5, .int (gM σ 1 (qM_bytePlace f5_1 v4).toNatClampNeg)), (0, .ref (gad X 0)), (1, .int f5_1), (2, .int f5_2)]) hx hb dX8_bytesOf_62 hl (k := 5) rfl rfl (by decide) rfl (fun ls hl => ?_)
    refine lv_goto (tgt := 5) hx hb dX8_bytesOf_65 (by decide) ?_
    exact ih (v3 + (1 : Int32)) (v4 + 1) h _ _ _ P (lv_sub hl [3, 4, 5, 1, 0] rfl)
set_option maxHeartbeats 4000000 in
set_option maxRecDepth 100000 in
theorem kX8_bytesOf (l : Launch) (X : gXt) (hJ : gJ X mL) (σ : gS) (a1 : Int32) (a2 : Int32) (q : Int32) (h : qM_bytesOf σ a1 a2 = some q) : gMi l yX8_bytesOf (gws yX8_bytesOf cX8_bytesOf 6 (some .int)) rmX8_bytesOf X mL [.ref (gad X 0), .int a1, .int a2] σ q σ := by
  refine g_enter (cc := cX8_bytesOf) (nL := 6) (ret := (some .int)) hJ (plainFor_of_name (by decide)) (Nat.le_of_ble_eq_true rfl) ?_
  intro p e s m below meth c ls C P hl
  have C : gC p s m _ meth c RX8 cX8_bytesOf 6 (some .int) X mL := C
  have hx := C.1
  have hb := C.2.1
  have hK := C.2.2.2.2.2.2.2.1
  have hts := C.2.2.2.2.1
  have hl : lv_has ls 6 [(0, .ref (gad X 0)), (1, .int a1), (2, .int a2)] := hl
  unfold qM_bytesOf at h
  refine lv_iconst (v := 0) hx hb dX8_bytesOf_0 (by decide) ?_
  refine lv_istore_n (lv' := [(3, .int (0 : Int32)), (0, .ref (gad X 0)), (1, .int a1), (2, .int a2)]) hx hb dX8_bytesOf_1 rfl hl (by decide) rfl (fun ls hl => ?_)
  refine lv_iconst (v := 0) hx hb dX8_bytesOf_2 (by decide) ?_
  refine lv_istore (lv' := [(4, .int (0 : Int32)), (3, .int (0 : Int32)), (0, .ref (gad X 0)), (1, .int a1), (2, .int a2)]) hx hb dX8_bytesOf_3 hl (by decide) rfl (fun ls hl => ?_)
  refine kX8_bytesOf_5 hJ C σ a1 a2 _ _ ?_ _ _ _ h _ _ _ P (lv_sub hl [2, 3, 4, 1, 0] rfl)
  intro x7 H locs ls h P hl
  refine lv_iload_n hx hb dX8_bytesOf_68 rfl (lv_at hl 0 rfl) ?_
  have h := Option.some.inj h
  exact g_iret C P h rfl dX8_bytesOf_69
abbrev rmX8_reachedOf : Room := { frames := 3, cells := 0, slots := 0, locals := 66 }
theorem kdX8_reachedOf : yX8_reachedOf.cls = RX8 ∧ yX8_reachedOf.cls ≠ "java/lang/invoke/MethodHandle" ∧ yX8_reachedOf.cls ≠ "java/lang/invoke/VarHandle" ∧ (parseMethodDescriptor yX8_reachedOf.desc).map (fun d => d.parameters.length) = some 1 := by decide +kernel
set_option maxHeartbeats 4000000 in
set_option maxRecDepth 100000 in
theorem kX8_reachedOf (l : Launch) (X : gXt) (hJ : gJ X mL) (σ : gS) (a1 : Int32) (q : Int32 × gS) (h : qM_reachedOf σ a1 = some q) : gMi l yX8_reachedOf (gws yX8_reachedOf cX8_reachedOf 2 (some .int)) rmX8_reachedOf X mL [.ref (gad X 0), .int a1] σ q.1 q.2 := by
  refine g_enter (cc := cX8_reachedOf) (nL := 2) (ret := (some .int)) hJ (plainFor_of_name (by decide)) (Nat.le_of_ble_eq_true rfl) ?_
  intro p e s m below meth c ls C P hl
  have C : gC p s m _ meth c RX8 cX8_reachedOf 2 (some .int) X mL := C
  have hx := C.1
  have hb := C.2.1
  have hK := C.2.2.2.2.2.2.2.1
  have hts := C.2.2.2.2.1
  have hl : lv_has ls 2 [(0, .ref (gad X 0)), (1, .int a1)] := hl
  unfold qM_reachedOf at h
  refine lv_aload_n hx hb dX8_reachedOf_0 rfl (lv_at hl 0 rfl) ?_
  refine lv_iload_n hx hb dX8_reachedOf_1 rfl (lv_at hl 1 rfl) ?_
  obtain ⟨r1, hr1, h⟩ := g_bind h
  refine g_callVv (n := 1) (As := [.int a1]) (rest := []) C P (kX8_reaches l X hJ σ a1 _ hr1) wd_290 wd_291 wd_292 wd_5 wd_293 rfl rfl kdX8_reaches ⟨Nat.le_of_ble_eq_true rfl, Nat.le_of_ble_eq_true rfl⟩ ml0 rfl rfl rfl hl.1 (Nat.le_of_ble_eq_true rfl) dX8_reachedOf_2 (fun H locs P => ?_)
  refine lv_aload_n hx hb dX8_reachedOf_5 rfl (lv_at hl 0 rfl) ?_
  refine g_getI C P ml0 rfl inlX8 10 (by decide) wd_289 rfl dX8_reachedOf_6 ?_
  have h := Option.some.inj h
  exact g_iret C P (g_fst h) (g_snd h) dX8_reachedOf_9
abbrev rmX8_ofPiece : Room := { frames := 4, cells := 0, slots := 0, locals := 87 }
theorem kdX8_ofPiece : yX8_ofPiece.cls = RX8 ∧ yX8_ofPiece.cls ≠ "java/lang/invoke/MethodHandle" ∧ yX8_ofPiece.cls ≠ "java/lang/invoke/VarHandle" ∧ (parseMethodDescriptor yX8_ofPiece.desc).map (fun d => d.parameters.length) = some 2 := by decide +kernel
set_option maxHeartbeats 4000000 in
set_option maxRecDepth 100000 in
theorem kX8_ofPiece (l : Launch) (X : gXt) (hJ : gJ X mL) (σ : gS) (a1 : Int32) (a2 : Int32) (q : Int32 × gS) (h : qM_ofPiece σ a1 a2 = some q) : gMi l yX8_ofPiece (gws yX8_ofPiece cX8_ofPiece 3 (some .int)) rmX8_ofPiece X mL [.ref (gad X 0), .int a1, .int a2] σ q.1 q.2 := by
  refine g_enter (cc := cX8_ofPiece) (nL := 3) (ret := (some .int)) hJ (plainFor_of_name (by decide)) (Nat.le_of_ble_eq_true rfl) ?_
  intro p e s m below meth c ls C P hl
  have C : gC p s m _ meth c RX8 cX8_ofPiece 3 (some .int) X mL := C
  have hx := C.1
  have hb := C.2.1
  have hK := C.2.2.2.2.2.2.2.1
  have hts := C.2.2.2.2.1
  have hl : lv_has ls 3 [(0, .ref (gad X 0)), (1, .int a1), (2, .int a2)] := hl
  unfold qM_ofPiece at h
  refine lv_iload_n hx hb dX8_ofPiece_0 rfl (lv_at hl 2 rfl) ?_
  by_cases cs3 : a2 = (3 : Int32)
  · have h := g_ifp cs3 h
    refine lv_tableIn (off := 27) (tgt := 28) hx hb dX8_ofPiece_1 (by rw [cs3]; decide) (by rw [cs3]; decide) (by rw [cs3]; rfl) (by decide) ?_
    refine lv_aload_n hx hb dX8_ofPiece_28 rfl (lv_at hl 0 rfl) ?_
    refine lv_iload_n hx hb dX8_ofPiece_29 rfl (lv_at hl 1 rfl) ?_
    refine lv_iconst (v := 0) hx hb dX8_ofPiece_30 (by decide) ?_
    obtain ⟨r1, hr1, h⟩ := g_bind h
    refine g_callVi (n := 2) (As := [.int a1, .int (0 : Int32)]) (rest := []) C P (kX8_bytesOf l X hJ σ a1 (0 : Int32) _ hr1) wd_670 wd_671 wd_672 wd_5 wd_673 rfl rfl kdX8_bytesOf ⟨Nat.le_of_ble_eq_true rfl, Nat.le_of_ble_eq_true rfl⟩ ml0 rfl rfl rfl hl.1 (Nat.le_of_ble_eq_true rfl) dX8_ofPiece_31 (fun H locs P => ?_)
    have h := Option.some.inj h
    exact g_iret C P (g_fst h) (g_snd h) dX8_ofPiece_34
  have h := g_ifn cs3 h
  by_cases cs4 : a2 = (4 : Int32)
  · have h := g_ifp cs4 h
    refine lv_tableIn (off := 34) (tgt := 35) hx hb dX8_ofPiece_1 (by rw [cs4]; decide) (by rw [cs4]; decide) (by rw [cs4]; rfl) (by decide) ?_
    refine lv_aload_n hx hb dX8_ofPiece_35 rfl (lv_at hl 0 rfl) ?_
    refine lv_iload_n hx hb dX8_ofPiece_36 rfl (lv_at hl 1 rfl) ?_
    refine lv_iconst (v := 1) hx hb dX8_ofPiece_37 (by decide) ?_
    obtain ⟨r2, hr2, h⟩ := g_bind h
    refine g_callVi (n := 2) (As := [.int a1, .int (1 : Int32)]) (rest := []) C P (kX8_bytesOf l X hJ σ a1 (1 : Int32) _ hr2) wd_670 wd_671 wd_672 wd_5 wd_673 rfl rfl kdX8_bytesOf ⟨Nat.le_of_ble_eq_true rfl, Nat.le_of_ble_eq_true rfl⟩ ml0 rfl rfl rfl hl.1 (Nat.le_of_ble_eq_true rfl) dX8_ofPiece_38 (fun H locs P => ?_)
    have h := Option.some.inj h
    exact g_iret C P (g_fst h) (g_snd h) dX8_ofPiece_41
  have h := g_ifn cs4 h
  by_cases cs5 : a2 = (5 : Int32)
  · have h := g_ifp cs5 h
    refine lv_tableIn (off := 41) (tgt := 42) hx hb dX8_ofPiece_1 (by rw [cs5]; decide) (by rw [cs5]; decide) (by rw [cs5]; rfl) (by decide) ?_
    refine lv_aload_n hx hb dX8_ofPiece_42 rfl (lv_at hl 0 rfl) ?_
    refine lv_iload_n hx hb dX8_ofPiece_43 rfl (lv_at hl 1 rfl) ?_
    obtain ⟨r3, hr3, h⟩ := g_bind h
    refine g_callVi (n := 1) (As := [.int a1]) (rest := []) C P (kX8_reachedOf l X hJ σ a1 _ hr3) wd_674 wd_675 wd_676 wd_5 wd_677 rfl rfl kdX8_reachedOf ⟨Nat.le_of_ble_eq_true rfl, Nat.le_of_ble_eq_true rfl⟩ ml0 rfl rfl rfl hl.1 (Nat.le_of_ble_eq_true rfl) dX8_ofPiece_44 (fun H locs P => ?_)
    have h := Option.some.inj h
    exact g_iret C P (g_fst h) (g_snd h) dX8_ofPiece_47
  have h := g_ifn cs5 h
  refine lv_tableOut (tgt := 48) hx hb dX8_ofPiece_1 (by have e0 := lv_neT cs3 (a := 3) rfl; have e1 := lv_neT cs4 (a := 4) rfl; have e2 := lv_neT cs5 (a := 5) rfl; omega) (by decide) ?_
  refine lv_aload_n hx hb dX8_ofPiece_48 rfl (lv_at hl 0 rfl) ?_
  refine g_getR C P ml0 rfl inlX8 0 (by decide) wd_95 rfl dX8_ofPiece_49 ?_
  refine lv_iload_n hx hb dX8_ofPiece_52 rfl (lv_at hl 1 rfl) ?_
  refine g_callSi (n := 1) (As := [.int a1]) (rest := [.ref (gad X 1)]) C P (kX8_piecePlace l X hJ σ a1 _ rfl) wd_198 wd_199 wd_5 wd_200 rfl rfl kdX8_piecePlace.2 ⟨Nat.le_of_ble_eq_true rfl, Nat.le_of_ble_eq_true rfl⟩ rfl rfl hl.1 (Nat.le_of_ble_eq_true rfl) dX8_ofPiece_53 (fun H locs P => ?_)
  refine lv_iload_n hx hb dX8_ofPiece_56 rfl (lv_at hl 2 rfl) ?_
  refine lv_iadd hx hb dX8_ofPiece_57 ?_
  obtain ⟨b4, h⟩ := g_ob h
  refine g_iald (j := ((qM_piecePlace a1) + a2).toNatClampNeg) C P ml1 b4 rfl dX8_ofPiece_58 ?_
  have h := Option.some.inj h
  exact g_iret C P (g_fst h) (g_snd h) dX8_ofPiece_59
abbrev rmX8_piece : Room := { frames := 5, cells := 0, slots := 0, locals := 109 }
theorem kdX8_piece : yX8_piece.cls = RX8 ∧ yX8_piece.cls ≠ "java/lang/invoke/MethodHandle" ∧ yX8_piece.cls ≠ "java/lang/invoke/VarHandle" ∧ (parseMethodDescriptor yX8_piece.desc).map (fun d => d.parameters.length) = some 2 := by decide +kernel
set_option maxHeartbeats 4000000 in
set_option maxRecDepth 100000 in
theorem kX8_piece (l : Launch) (X : gXt) (hJ : gJ X mL) (σ : gS) (a1 : Int32) (a2 : Int32) (q : Int32 × gS) (h : qM_piece σ a1 a2 = some q) : gMi l yX8_piece (gws yX8_piece cX8_piece 3 (some .int)) rmX8_piece X mL [.ref (gad X 0), .int a1, .int a2] σ q.1 q.2 := by
  refine g_enter (cc := cX8_piece) (nL := 3) (ret := (some .int)) hJ (plainFor_of_name (by decide)) (Nat.le_of_ble_eq_true rfl) ?_
  intro p e s m below meth c ls C P hl
  have C : gC p s m _ meth c RX8 cX8_piece 3 (some .int) X mL := C
  have hx := C.1
  have hb := C.2.1
  have hK := C.2.2.2.2.2.2.2.1
  have hts := C.2.2.2.2.1
  have hl : lv_has ls 3 [(0, .ref (gad X 0)), (1, .int a1), (2, .int a2)] := hl
  unfold qM_piece at h
  refine lv_aload_n hx hb dX8_piece_0 rfl (lv_at hl 0 rfl) ?_
  refine lv_iload_n hx hb dX8_piece_1 rfl (lv_at hl 1 rfl) ?_
  refine g_callVi (n := 1) (As := [.int a1]) (rest := []) C P (kX8_isPiece l X hJ σ a1 _ rfl) wd_662 wd_663 wd_664 wd_5 wd_665 rfl rfl kdX8_isPiece ⟨Nat.le_of_ble_eq_true rfl, Nat.le_of_ble_eq_true rfl⟩ ml0 rfl rfl rfl hl.1 (Nat.le_of_ble_eq_true rfl) dX8_piece_2 (fun H locs P => ?_)
  refine lv_if_eq (tgt := 26) hx hb dX8_piece_5 (by decide) (fun c1 => ?_) (fun c1 => ?_)
  · have h := g_ifp c1 h
    refine lv_aload_n hx hb dX8_piece_26 rfl (lv_at hl 0 rfl) ?_
    obtain ⟨r2, hr2, h⟩ := g_bind h
    refine g_callVi (n := 0) (As := []) (rest := []) C P (kX8_bad l X hJ σ _ hr2) wd_601 wd_602 wd_603 wd_5 wd_604 rfl rfl kdX8_bad ⟨Nat.le_of_ble_eq_true rfl, Nat.le_of_ble_eq_true rfl⟩ ml0 rfl rfl rfl hl.1 (Nat.le_of_ble_eq_true rfl) dX8_piece_27 (fun H locs P => ?_)
    have h := Option.some.inj h
    exact g_iret C P (g_fst h) (g_snd h) dX8_piece_30
  have h := g_ifn c1 h
  refine lv_iload_n hx hb dX8_piece_8 rfl (lv_at hl 2 rfl) ?_
  refine lv_iconst (v := 0) hx hb dX8_piece_9 (by decide) ?_
  refine lv_iconst (v := 5) hx hb dX8_piece_10 (by decide) ?_
  refine g_callSi (n := 3) (As := [.int a2, .int (0 : Int32), .int (5 : Int32)]) (rest := []) C P (kX8_in l X hJ σ a2 (0 : Int32) (5 : Int32) _ rfl) wd_195 wd_196 wd_5 wd_197 rfl rfl kdX8_in.2 ⟨Nat.le_of_ble_eq_true rfl, Nat.le_of_ble_eq_true rfl⟩ rfl rfl hl.1 (Nat.le_of_ble_eq_true rfl) dX8_piece_11 (fun H locs P => ?_)
  refine lv_if_eq (tgt := 26) hx hb dX8_piece_14 (by decide) (fun c3 => ?_) (fun c3 => ?_)
  · have h := g_ifp c3 h
    refine lv_aload_n hx hb dX8_piece_26 rfl (lv_at hl 0 rfl) ?_
    obtain ⟨r4, hr4, h⟩ := g_bind h
    refine g_callVi (n := 0) (As := []) (rest := []) C P (kX8_bad l X hJ σ _ hr4) wd_601 wd_602 wd_603 wd_5 wd_604 rfl rfl kdX8_bad ⟨Nat.le_of_ble_eq_true rfl, Nat.le_of_ble_eq_true rfl⟩ ml0 rfl rfl rfl hl.1 (Nat.le_of_ble_eq_true rfl) dX8_piece_27 (fun H locs P => ?_)
    have h := Option.some.inj h
    exact g_iret C P (g_fst h) (g_snd h) dX8_piece_30
  have h := g_ifn c3 h
  refine lv_aload_n hx hb dX8_piece_17 rfl (lv_at hl 0 rfl) ?_
  refine lv_iload_n hx hb dX8_piece_18 rfl (lv_at hl 1 rfl) ?_
  refine lv_iload_n hx hb dX8_piece_19 rfl (lv_at hl 2 rfl) ?_
  obtain ⟨r5, hr5, h⟩ := g_bind h
  refine g_callVi (n := 2) (As := [.int a1, .int a2]) (rest := []) C P (kX8_ofPiece l X hJ σ a1 a2 _ hr5) wd_666 wd_667 wd_668 wd_5 wd_669 rfl rfl kdX8_ofPiece ⟨Nat.le_of_ble_eq_true rfl, Nat.le_of_ble_eq_true rfl⟩ ml0 rfl rfl rfl hl.1 (Nat.le_of_ble_eq_true rfl) dX8_piece_20 (fun H locs P => ?_)
  refine lv_goto (tgt := 30) hx hb dX8_piece_23 (by decide) ?_
  have h := Option.some.inj h
  exact g_iret C P (g_fst h) (g_snd h) dX8_piece_30
abbrev rmX8_at : Room := { frames := 2, cells := 0, slots := 0, locals := 43 }
theorem kdX8_at : yX8_at.cls = RX8 ∧ yX8_at.cls ≠ "java/lang/invoke/MethodHandle" ∧ yX8_at.cls ≠ "java/lang/invoke/VarHandle" ∧ (parseMethodDescriptor yX8_at.desc).map (fun d => d.parameters.length) = some 2 := by decide +kernel
set_option maxHeartbeats 4000000 in
set_option maxRecDepth 100000 in
theorem kX8_at (l : Launch) (X : gXt) (hJ : gJ X mL) (σ : gS) (a1 : Int32) (a2 : Int32) (q : Int32 × gS) (h : qM_at σ a1 a2 = some q) : gMi l yX8_at (gws yX8_at cX8_at 3 (some .int)) rmX8_at X mL [.ref (gad X 0), .int a1, .int a2] σ q.1 q.2 := by
  refine g_enter (cc := cX8_at) (nL := 3) (ret := (some .int)) hJ (plainFor_of_name (by decide)) (Nat.le_of_ble_eq_true rfl) ?_
  intro p e s m below meth c ls C P hl
  have C : gC p s m _ meth c RX8 cX8_at 3 (some .int) X mL := C
  have hx := C.1
  have hb := C.2.1
  have hK := C.2.2.2.2.2.2.2.1
  have hts := C.2.2.2.2.1
  have hl : lv_has ls 3 [(0, .ref (gad X 0)), (1, .int a1), (2, .int a2)] := hl
  unfold qM_at at h
  refine lv_aload_n hx hb dX8_at_0 rfl (lv_at hl 0 rfl) ?_
  refine lv_iload_n hx hb dX8_at_1 rfl (lv_at hl 1 rfl) ?_
  refine g_callVi (n := 1) (As := [.int a1]) (rest := []) C P (kX8_isPiece l X hJ σ a1 _ rfl) wd_662 wd_663 wd_664 wd_5 wd_665 rfl rfl kdX8_isPiece ⟨Nat.le_of_ble_eq_true rfl, Nat.le_of_ble_eq_true rfl⟩ ml0 rfl rfl rfl hl.1 (Nat.le_of_ble_eq_true rfl) dX8_at_2 (fun H locs P => ?_)
  refine lv_if_eq (tgt := 36) hx hb dX8_at_5 (by decide) (fun c1 => ?_) (fun c1 => ?_)
  · have h := g_ifp c1 h
    refine lv_aload_n hx hb dX8_at_36 rfl (lv_at hl 0 rfl) ?_
    obtain ⟨r2, hr2, h⟩ := g_bind h
    refine g_callVi (n := 0) (As := []) (rest := []) C P (kX8_bad l X hJ σ _ hr2) wd_601 wd_602 wd_603 wd_5 wd_604 rfl rfl kdX8_bad ⟨Nat.le_of_ble_eq_true rfl, Nat.le_of_ble_eq_true rfl⟩ ml0 rfl rfl rfl hl.1 (Nat.le_of_ble_eq_true rfl) dX8_at_37 (fun H locs P => ?_)
    have h := Option.some.inj h
    exact g_iret C P (g_fst h) (g_snd h) dX8_at_40
  have h := g_ifn c1 h
  refine lv_iload_n hx hb dX8_at_8 rfl (lv_at hl 2 rfl) ?_
  refine lv_iconst (v := 0) hx hb dX8_at_9 (by decide) ?_
  refine lv_aload_n hx hb dX8_at_10 rfl (lv_at hl 0 rfl) ?_
  refine lv_iload_n hx hb dX8_at_11 rfl (lv_at hl 1 rfl) ?_
  obtain ⟨r3, hr3, h⟩ := g_bind h
  refine g_callVi (n := 1) (As := [.int a1]) (rest := [.int (0 : Int32), .int a2]) C P (kX8_sizeOf l X hJ σ a1 _ hr3) wd_250 wd_251 wd_252 wd_5 wd_253 rfl rfl kdX8_sizeOf ⟨Nat.le_of_ble_eq_true rfl, Nat.le_of_ble_eq_true rfl⟩ ml0 rfl rfl rfl hl.1 (Nat.le_of_ble_eq_true rfl) dX8_at_12 (fun H locs P => ?_)
  refine lv_iconst (v := 1) hx hb dX8_at_15 (by decide) ?_
  refine lv_isub hx hb dX8_at_16 ?_
  refine g_callSi (n := 3) (As := [.int a2, .int (0 : Int32), .int (r3 - (1 : Int32))]) (rest := []) C P (kX8_in l X hJ σ a2 (0 : Int32) (r3 - (1 : Int32)) _ rfl) wd_195 wd_196 wd_5 wd_197 rfl rfl kdX8_in.2 ⟨Nat.le_of_ble_eq_true rfl, Nat.le_of_ble_eq_true rfl⟩ rfl rfl hl.1 (Nat.le_of_ble_eq_true rfl) dX8_at_17 (fun H locs P => ?_)
  refine lv_if_eq (tgt := 36) hx hb dX8_at_20 (by decide) (fun c4 => ?_) (fun c4 => ?_)
  · have h := g_ifp c4 h
    refine lv_aload_n hx hb dX8_at_36 rfl (lv_at hl 0 rfl) ?_
    obtain ⟨r5, hr5, h⟩ := g_bind h
    refine g_callVi (n := 0) (As := []) (rest := []) C P (kX8_bad l X hJ σ _ hr5) wd_601 wd_602 wd_603 wd_5 wd_604 rfl rfl kdX8_bad ⟨Nat.le_of_ble_eq_true rfl, Nat.le_of_ble_eq_true rfl⟩ ml0 rfl rfl rfl hl.1 (Nat.le_of_ble_eq_true rfl) dX8_at_37 (fun H locs P => ?_)
    have h := Option.some.inj h
    exact g_iret C P (g_fst h) (g_snd h) dX8_at_40
  have h := g_ifn c4 h
  refine lv_aload_n hx hb dX8_at_23 rfl (lv_at hl 0 rfl) ?_
  refine g_getR C P ml0 rfl inlX8 0 (by decide) wd_95 rfl dX8_at_24 ?_
  refine lv_iload_n hx hb dX8_at_27 rfl (lv_at hl 1 rfl) ?_
  refine lv_iload_n hx hb dX8_at_28 rfl (lv_at hl 2 rfl) ?_
  refine g_callSi (n := 2) (As := [.int a1, .int a2]) (rest := [.ref (gad X 1)]) C P (kX8_bytePlace l X hJ σ a1 a2 _ rfl) wd_270 wd_271 wd_5 wd_272 rfl rfl kdX8_bytePlace.2 ⟨Nat.le_of_ble_eq_true rfl, Nat.le_of_ble_eq_true rfl⟩ rfl rfl hl.1 (Nat.le_of_ble_eq_true rfl) dX8_at_29 (fun H locs P => ?_)
  obtain ⟨b6, h⟩ := g_ob h
  refine g_iald (j := (qM_bytePlace a1 a2).toNatClampNeg) C P ml1 b6 rfl dX8_at_32 ?_
  refine lv_goto (tgt := 40) hx hb dX8_at_33 (by decide) ?_
  have h := Option.some.inj h
  exact g_iret C P (g_fst h) (g_snd h) dX8_at_40
abbrev rmX8_isImage : Room := { frames := 1, cells := 0, slots := 0, locals := 22 }
theorem kdX8_isImage : yX8_isImage.cls = RX8 ∧ yX8_isImage.cls ≠ "java/lang/invoke/MethodHandle" ∧ yX8_isImage.cls ≠ "java/lang/invoke/VarHandle" ∧ (parseMethodDescriptor yX8_isImage.desc).map (fun d => d.parameters.length) = some 1 := by decide +kernel
set_option maxHeartbeats 4000000 in
set_option maxRecDepth 100000 in
theorem kX8_isImage (l : Launch) (X : gXt) (hJ : gJ X mL) (σ : gS) (a1 : Int32) (q : Int32) (h : qM_isImage σ a1 = q) : gMi l yX8_isImage (gws yX8_isImage cX8_isImage 2 (some .boolean)) rmX8_isImage X mL [.ref (gad X 0), .int a1] σ q σ := by
  refine g_enter (cc := cX8_isImage) (nL := 2) (ret := (some .boolean)) hJ (plainFor_of_name (by decide)) (Nat.le_of_ble_eq_true rfl) ?_
  intro p e s m below meth c ls C P hl
  have C : gC p s m _ meth c RX8 cX8_isImage 2 (some .boolean) X mL := C
  have hx := C.1
  have hb := C.2.1
  have hK := C.2.2.2.2.2.2.2.1
  have hts := C.2.2.2.2.1
  have hl : lv_has ls 2 [(0, .ref (gad X 0)), (1, .int a1)] := hl
  unfold qM_isImage at h
  refine lv_iload_n hx hb dX8_isImage_0 rfl (lv_at hl 1 rfl) ?_
  refine lv_iconst (v := 0) hx hb dX8_isImage_1 (by decide) ?_
  refine lv_aload_n hx hb dX8_isImage_2 rfl (lv_at hl 0 rfl) ?_
  refine g_getR C P ml0 rfl inlX8 0 (by decide) wd_95 rfl dX8_isImage_3 ?_
  refine lv_sipush (v := 170) hx hb dX8_isImage_6 (by decide) ?_
  refine g_iald (j := 170) C P ml1 (vp_in_iff.mpr ⟨by decide, by decide⟩) (by decide) dX8_isImage_9 ?_
  refine lv_iconst (v := 1) hx hb dX8_isImage_10 (by decide) ?_
  refine lv_isub hx hb dX8_isImage_11 ?_
  refine g_callSi (n := 3) (As := [.int a1, .int (0 : Int32), .int ((gM σ 1 170) - (1 : Int32))]) (rest := []) C P (kX8_in l X hJ σ a1 (0 : Int32) ((gM σ 1 170) - (1 : Int32)) _ rfl) wd_195 wd_196 wd_5 wd_197 rfl rfl kdX8_in.2 ⟨Nat.le_of_ble_eq_true rfl, Nat.le_of_ble_eq_true rfl⟩ rfl rfl hl.1 (Nat.le_of_ble_eq_true rfl) dX8_isImage_12 (fun H locs P => ?_)
  exact g_zret C P (g_bon (b01_X8_in a1 (0 : Int32) ((gM σ 1 170) - (1 : Int32)))) h rfl dX8_isImage_15
abbrev rmX8_ofImage : Room := { frames := 0, cells := 0, slots := 0, locals := 0 }
theorem kdX8_ofImage : yX8_ofImage.cls = RX8 ∧ yX8_ofImage.cls ≠ "java/lang/invoke/MethodHandle" ∧ yX8_ofImage.cls ≠ "java/lang/invoke/VarHandle" ∧ (parseMethodDescriptor yX8_ofImage.desc).map (fun d => d.parameters.length) = some 2 := by decide +kernel
set_option maxHeartbeats 4000000 in
set_option maxRecDepth 100000 in
theorem kX8_ofImage_49 {p : Program} {l : Launch} {e : Env} {s : State} {m : MethodId} {args : Array Value} {below : List Frame} {meth : Method} {c : Code} {X : gXt} (hJ : gJ X mL) (C : gC p s m args meth c RX8 cX8_ofImage 8 (some .int) X mL) (σ : gS) (f49_2 : Int32) (f49_3 : Int32) (f49_4 : Int32) (f49_6 : Int32) (k : Int32 → Option Int32) (q : Int32) (hk : ∀ (x5 : Int32) (H : Heap) (locs : List Loc) (ls : Array Slot), k x5 = some q → gH X mL σ s H locs → lv_has ls 8 [(0, .ref (gad X 0)), (2, .int f49_2), (3, .int f49_3), (4, .int f49_4), (5, .int x5), (6, .int f49_6)] → W p l e rmX8_ofImage s m args below meth c H locs 0 0 (MQ below (gQi X mL q σ) args s 0 0 (gA X mL)) (F0 m 105 ls [])) : ∀ (n : Nat) (v5 : Int32) (v7 : Int32), qM_ofImage_49 σ f49_2 f49_3 f49_4 f49_6 k n v5 v7 = some q → ∀ (H : Heap) (locs : List Loc) (ls : Array Slot), gH X mL σ s H locs → lv_has ls 8 [(0, .ref (gad X 0)), (2, .int f49_2), (3, .int f49_3), (4, .int f49_4), (5, .int v5), (6, .int f49_6), (7, .int v7)] → W p l e rmX8_ofImage s m args below meth c H locs 0 0 (MQ below (gQi X mL q σ) args s 0 0 (gA X mL)) (F0 m 49 ls []) := by
  have hx := C.1
  have hb := C.2.1
  have hK := C.2.2.2.2.2.2.2.1
  have hts := C.2.2.2.2.1
  intro n
  induction n with
  | zero => intro v5 v7 h; cases h
  | succ n ih =>
    intro v5 v7 h H locs ls P hl
    have h : gob ((f49_3 + (1 : Int32)) + f49_6) 1219 ((if (gM σ 1 ((f49_3 + (1 : Int32)) + f49_6).toNatClampNeg) ≤ v7 then k v5 else gob (((f49_3 + (11 : Int32)) + ((12 : Int32) * f49_6)) + v7) 1219 ((if (gM σ 1 (((f49_3 + (11 : Int32)) + ((12 : Int32) * f49_6)) + v7).toNatClampNeg) < (1000 : Int32) then qM_ofImage_49 σ f49_2 f49_3 f49_4 f49_6 k n (v5 + (0 : Int32)) (v7 + 1) else qM_ofImage_49 σ f49_2 f49_3 f49_4 f49_6 k n (v5 + (1 : Int32)) (v7 + 1))))) = some q := h
    refine lv_iload hx hb dX8_ofImage_49 (lv_at hl 6 rfl) ?_
    refine lv_aload_n hx hb dX8_ofImage_51 rfl (lv_at hl 0 rfl) ?_
    refine g_getR C P ml0 rfl inlX8 0 (by decide) wd_95 rfl dX8_ofImage_52 ?_
    refine lv_iload_n hx hb dX8_ofImage_55 rfl (lv_at hl 2 rfl) ?_
    refine lv_iconst (v := 1) hx hb dX8_ofImage_56 (by decide) ?_
    refine lv_iadd hx hb dX8_ofImage_57 ?_
    refine lv_iload hx hb dX8_ofImage_58 (lv_at hl 5 rfl) ?_
    refine lv_iadd hx hb dX8_ofImage_60 ?_
    obtain ⟨b4, h⟩ := g_ob h
    refine g_iald (j := ((f49_3 + (1 : Int32)) + f49_6).toNatClampNeg) C P ml1 b4 rfl dX8_ofImage_61 ?_
    refine lv_icmp_ge (tgt := 105) hx hb dX8_ofImage_62 (by decide) (fun c5 => ?_) (fun c5 => ?_)
    · have h := g_ifp c5 h
      exact hk v5 _ _ _ h P (lv_sub hl [0, 1, 2, 3, 4, 5] rfl)
    have h := g_ifn c5 h
    refine lv_iload hx hb dX8_ofImage_65 (lv_at hl 4 rfl) ?_
    refine lv_aload_n hx hb dX8_ofImage_67 rfl (lv_at hl 0 rfl) ?_
    refine g_getR C P ml0 rfl inlX8 0 (by decide) wd_95 rfl dX8_ofImage_68 ?_
    refine lv_iload_n hx hb dX8_ofImage_71 rfl (lv_at hl 2 rfl) ?_
    refine lv_bipush (v := 11) hx hb dX8_ofImage_72 (by decide) ?_
    refine lv_iadd hx hb dX8_ofImage_74 ?_
    refine lv_bipush (v := 12) hx hb dX8_ofImage_75 (by decide) ?_
    refine lv_iload hx hb dX8_ofImage_77 (lv_at hl 5 rfl) ?_
    refine lv_imul hx hb dX8_ofImage_79 ?_
    refine lv_iadd hx hb dX8_ofImage_80 ?_
    refine lv_iload hx hb dX8_ofImage_81 (lv_at hl 6 rfl) ?_
    refine lv_iadd hx hb dX8_ofImage_83 ?_
    obtain ⟨b6, h⟩ := g_ob h
    refine g_iald (j := (((f49_3 + (11 : Int32)) + ((12 : Int32) * f49_6)) + v7).toNatClampNeg) C P ml1 b6 rfl dX8_ofImage_84 ?_
    refine lv_sipush (v := 1000) hx hb dX8_ofImage_85 (by decide) ?_
    refine lv_icmp_lt (tgt := 95) hx hb dX8_ofImage_88 (by decide) (fun c7 => ?_) (fun c7 => ?_)
    · have h := g_ifp c7 h
      refine lv_iconst (v := 0) hx hb dX8_ofImage_95 (by decide) ?_
      refine lv_iadd hx hb dX8_ofImage_96 ?_
      refine lv_istore (lv' := [(5, .int (v5 + (0 : Int32))), (0, .ref (gad X 0)), (2, .int f49_2), (3, .int f49_3), (4, .int f49_4), (6, .int f49_6), (7, .int v7)]) hx hb dX8_ofImage_97 hl (by decide) rfl (fun ls hl => ?_)
      refine lv_iinc (v := (v7 + 1)) (lv' := [(7, .int (v7 + 1)), (5, .int (v5 + (0 : Int32))), (0, .ref (gad X 0)), (2, .int f49_2), (3, .int f49_3), (4, .int f49_4), (6, .int f49_6)]) hx hb dX8_ofImage_99 hl (k := 6) rfl rfl (by decide) rfl (fun ls hl => ?_)
      refine lv_goto (tgt := 49) hx hb dX8_ofImage_102 (by decide) ?_
      exact ih (v5 + (0 : Int32)) (v7 + 1) h _ _ _ P (lv_sub hl [2, 3, 4, 5, 1, 6, 0] rfl)
    have h := g_ifn c7 h
    refine lv_iconst (v := 1) hx hb dX8_ofImage_91 (by decide) ?_
    refine lv_goto (tgt := 96) hx hb dX8_ofImage_92 (by decide) ?_
    refine lv_iadd hx hb dX8_ofImage_96 ?_
    refine lv_istore (lv' := [(5, .int (v5 + (1 : Int32))), (0, .ref (gad X 0)), (2, .int f49_2), (3, .int f49_3), (4, .int f49_4), (6, .int f49_6), (7, .int v7)]) hx hb dX8_ofImage_97 hl (by decide) rfl (fun ls hl => ?_)
    refine lv_iinc (v := (v7 + 1)) (lv' := [(7, .int (v7 + 1)), (5, .int (v5 + (1 : Int32))), (0, .ref (gad X 0)), (2, .int f49_2), (3, .int f49_3), (4, .int f49_4), (6, .int f49_6)]) hx hb dX8_ofImage_99 hl (k := 6) rfl rfl (by decide) rfl (fun ls hl => ?_)
    refine lv_goto (tgt := 49) hx hb dX8_ofImage_102 (by decide) ?_
    exact ih (v5 + (1 : Int32)) (v7 + 1) h _ _ _ P (lv_sub hl [2, 3, 4, 5, 1, 6, 0] rfl)
set_option maxHeartbeats 4000000 in
set_option maxRecDepth 100000 in
theorem kX8_ofImage_19 {p : Program} {l : Launch} {e : Env} {s : State} {m : MethodId} {args : Array Value} {below : List Frame} {meth : Method} {c : Code} {X : gXt} (hJ : gJ X mL) (C : gC p s m args meth c RX8 cX8_ofImage 8 (some .int) X mL) (σ : gS) (f19_2 : Int32) (f19_3 : Int32) (k : Int32 → Int32 → Option Int32) (q : Int32) (hk : ∀ (x4 : Int32) (x5 : Int32) (H : Heap) (locs : List Loc) (ls : Array Slot), k x4 x5 = some q → gH X mL σ s H locs → lv_has ls 8 [(0, .ref (gad X 0)), (2, .int f19_2), (3, .int f19_3), (4, .int x4), (5, .int x5)] → W p l e rmX8_ofImage s m args below meth c H locs 0 0 (MQ below (gQi X mL q σ) args s 0 0 (gA X mL)) (F0 m 111 ls [])) : ∀ (n : Nat) (v4 : Int32) (v5 : Int32) (v6 : Int32), qM_ofImage_19 σ f19_2 f19_3 k n v4 v5 v6 = some q → ∀ (H : Heap) (locs : List Loc) (ls : Array Slot), gH X mL σ s H locs → lv_has ls 8 [(0, .ref (gad X 0)), (2, .int f19_2), (3, .int f19_3), (4, .int v4), (5, .int v5), (6, .int v6)] → W p l e rmX8_ofImage s m args below meth c H locs 0 0 (MQ below (gQi X mL q σ) args s 0 0 (gA X mL)) (F0 m 19 ls []) := by
  have hx := C.1
  have hb := C.2.1
  have hK := C.2.2.2.2.2.2.2.1
  have hts := C.2.2.2.2.1
  intro n
  induction n with
  | zero => intro v4 v5 v6 h; cases h
  | succ n ih =>
    intro v4 v5 v6 h H locs ls P hl
    have h : gob f19_3 1219 ((if (gM σ 1 f19_3.toNatClampNeg) ≤ v6 then k v4 v5 else gob ((f19_3 + (1 : Int32)) + v6) 1219 (qM_ofImage_49 σ f19_2 f19_3 (v4 + (gM σ 1 ((f19_3 + (1 : Int32)) + v6).toNatClampNeg)) v6 (fun x8 => qM_ofImage_19 σ f19_2 f19_3 k n (v4 + (gM σ 1 ((f19_3 + (1 : Int32)) + v6).toNatClampNeg)) x8 (v6 + 1)) 8192 v5 (0 : Int32)))) = some q := h
    refine lv_iload hx hb dX8_ofImage_19 (lv_at hl 5 rfl) ?_
    refine lv_aload_n hx hb dX8_ofImage_21 rfl (lv_at hl 0 rfl) ?_
    refine g_getR C P ml0 rfl inlX8 0 (by decide) wd_95 rfl dX8_ofImage_22 ?_
    refine lv_iload_n hx hb dX8_ofImage_25 rfl (lv_at hl 2 rfl) ?_
    obtain ⟨b1, h⟩ := g_ob h
    refine g_iald (j := f19_3.toNatClampNeg) C P ml1 b1 rfl dX8_ofImage_26 ?_
    refine lv_icmp_ge (tgt := 111) hx hb dX8_ofImage_27 (by decide) (fun c2 => ?_) (fun c2 => ?_)
    · have h := g_ifp c2 h
      exact hk v4 v5 _ _ _ h P (lv_sub hl [0, 1, 2, 3, 4] rfl)
    have h := g_ifn c2 h
    refine lv_iload hx hb dX8_ofImage_30 (lv_at hl 3 rfl) ?_
    refine lv_aload_n hx hb dX8_ofImage_32 rfl (lv_at hl 0 rfl) ?_
    refine g_getR C P ml0 rfl inlX8 0 (by decide) wd_95 rfl dX8_ofImage_33 ?_
    refine lv_iload_n hx hb dX8_ofImage_36 rfl (lv_at hl 2 rfl) ?_
    refine lv_iconst (v := 1) hx hb dX8_ofImage_37 (by decide) ?_
    refine lv_iadd hx hb dX8_ofImage_38 ?_
    refine lv_iload hx hb dX8_ofImage_39 (lv_at hl 5 rfl) ?_
    refine lv_iadd hx hb dX8_ofImage_41 ?_
    obtain ⟨b3, h⟩ := g_ob h
    refine g_iald (j := ((f19_3 + (1 : Int32)) + v6).toNatClampNeg) C P ml1 b3 rfl dX8_ofImage_42 ?_
    refine lv_iadd hx hb dX8_ofImage_43 ?_
    refine lv_istore (lv' := [(4, .int (v4 + (gM σ 1 ((f19_3 + (1 : Int32)) + v6).toNatClampNeg))), (0, .ref (gad X 0)), (2, .int f19_2), (3, .int f19_3), (5, .int v5), (6, .int v6)]) hx hb dX8_ofImage_44 hl (by decide) rfl (fun ls hl => ?_)
    refine lv_iconst (v := 0) hx hb dX8_ofImage_46 (by decide) ?_
    refine lv_istore (lv' := [(7, .int (0 : Int32)), (4, .int (v4 + (gM σ 1 ((f19_3 + (1 : Int32)) + v6).toNatClampNeg))), (0, .ref (gad X 0)), (2, .int f19_2), (3, .int f19_3), (5, .int v5), (6, .int v6)]) hx hb dX8_ofImage_47 hl (by decide) rfl (fun ls hl => ?_)
    refine kX8_ofImage_49 hJ C σ f19_2 f19_3 (v4 + (gM σ 1 ((f19_3 + (1 : Int32)) + v6).toNatClampNeg)) v6 _ _ ?_ _ _ _ h _ _ _ P (lv_sub hl [2, 3, 4, 1, 5, 6, 0] rfl)
    intro x8 H locs ls h P hl
    refine lv_iinc (v := (v6 + 1)) (lv' := [(6, .int (v6 + 1)), (0, .ref (gad X 0)), (2, .int f19_2), (3, .int f19_3), (4, .int (v4 + (gM σ 1 ((f19_3 + (1 : Int32)) + v6).toNatClampNeg))), (5, .int x8)]) hx hb dX8_ofImage_105 hl (k := 5) rfl rfl (by decide) rfl (fun ls hl => ?_)
    refine lv_goto (tgt := 19) hx hb dX8_ofImage_108 (by decide) ?_
    exact ih (v4 + (gM σ 1 ((f19_3 + (1 : Int32)) + v6).toNatClampNeg)) x8 (v6 + 1) h _ _ _ P (lv_sub hl [1, 2, 3, 4, 5, 0] rfl)
set_option maxHeartbeats 4000000 in
set_option maxRecDepth 100000 in
theorem kX8_ofImage (l : Launch) (X : gXt) (hJ : gJ X mL) (σ : gS) (a1 : Int32) (a2 : Int32) (q : Int32) (h : qM_ofImage σ a1 a2 = some q) : gMi l yX8_ofImage (gws yX8_ofImage cX8_ofImage 8 (some .int)) rmX8_ofImage X mL [.ref (gad X 0), .int a1, .int a2] σ q σ := by
  refine g_enter (cc := cX8_ofImage) (nL := 8) (ret := (some .int)) hJ (plainFor_of_name (by decide)) (Nat.le_of_ble_eq_true rfl) ?_
  intro p e s m below meth c ls C P hl
  have C : gC p s m _ meth c RX8 cX8_ofImage 8 (some .int) X mL := C
  have hx := C.1
  have hb := C.2.1
  have hK := C.2.2.2.2.2.2.2.1
  have hts := C.2.2.2.2.1
  have hl : lv_has ls 8 [(0, .ref (gad X 0)), (1, .int a1), (2, .int a2)] := hl
  unfold qM_ofImage at h
  refine lv_sipush (v := 171) hx hb dX8_ofImage_0 (by decide) ?_
  refine lv_sipush (v := 131) hx hb dX8_ofImage_3 (by decide) ?_
  refine lv_iload_n hx hb dX8_ofImage_6 rfl (lv_at hl 1 rfl) ?_
  refine lv_imul hx hb dX8_ofImage_7 ?_
  refine lv_iadd hx hb dX8_ofImage_8 ?_
  refine lv_istore_n (lv' := [(3, .int ((171 : Int32) + ((131 : Int32) * a1))), (0, .ref (gad X 0)), (1, .int a1), (2, .int a2)]) hx hb dX8_ofImage_9 rfl hl (by decide) rfl (fun ls hl => ?_)
  refine lv_iconst (v := 0) hx hb dX8_ofImage_10 (by decide) ?_
  refine lv_istore (lv' := [(4, .int (0 : Int32)), (3, .int ((171 : Int32) + ((131 : Int32) * a1))), (0, .ref (gad X 0)), (1, .int a1), (2, .int a2)]) hx hb dX8_ofImage_11 hl (by decide) rfl (fun ls hl => ?_)
  refine lv_iconst (v := 0) hx hb dX8_ofImage_13 (by decide) ?_
  refine lv_istore (lv' := [(5, .int (0 : Int32)), (4, .int (0 : Int32)), (3, .int ((171 : Int32) + ((131 : Int32) * a1))), (0, .ref (gad X 0)), (1, .int a1), (2, .int a2)]) hx hb dX8_ofImage_14 hl (by decide) rfl (fun ls hl => ?_)
  refine lv_iconst (v := 0) hx hb dX8_ofImage_16 (by decide) ?_
  refine lv_istore (lv' := [(6, .int (0 : Int32)), (5, .int (0 : Int32)), (4, .int (0 : Int32)), (3, .int ((171 : Int32) + ((131 : Int32) * a1))), (0, .ref (gad X 0)), (1, .int a1), (2, .int a2)]) hx hb dX8_ofImage_17 hl (by decide) rfl (fun ls hl => ?_)
  refine kX8_ofImage_19 hJ C σ a2 ((171 : Int32) + ((131 : Int32) * a1)) _ _ ?_ _ _ _ _ h _ _ _ P (lv_sub hl [4, 6, 3, 2, 1, 0] rfl)
  intro x9 x10 H locs ls h P hl
  refine lv_iload_n hx hb dX8_ofImage_111 rfl (lv_at hl 1 rfl) ?_
  refine lv_if_ne (tgt := 124) hx hb dX8_ofImage_112 (by decide) (fun c11 => ?_) (fun c11 => ?_)
  · have h := g_ifn c11 h
    refine lv_iload_n hx hb dX8_ofImage_124 rfl (lv_at hl 1 rfl) ?_
    refine lv_iconst (v := 1) hx hb dX8_ofImage_125 (by decide) ?_
    refine lv_icmp_ne (tgt := 134) hx hb dX8_ofImage_126 (by decide) (fun c12 => ?_) (fun c12 => ?_)
    · have h := g_ifn c12 h
      refine lv_iload hx hb dX8_ofImage_134 (lv_at hl 4 rfl) ?_
      have h := Option.some.inj h
      exact g_iret C P h rfl dX8_ofImage_136
    have h := g_ifp c12 h
    refine lv_iload hx hb dX8_ofImage_129 (lv_at hl 3 rfl) ?_
    refine lv_goto (tgt := 136) hx hb dX8_ofImage_131 (by decide) ?_
    have h := Option.some.inj h
    exact g_iret C P h rfl dX8_ofImage_136
  have h := g_ifp c11 h
  refine lv_aload_n hx hb dX8_ofImage_115 rfl (lv_at hl 0 rfl) ?_
  refine g_getR C P ml0 rfl inlX8 0 (by decide) wd_95 rfl dX8_ofImage_116 ?_
  refine lv_iload_n hx hb dX8_ofImage_119 rfl (lv_at hl 2 rfl) ?_
  obtain ⟨b13, h⟩ := g_ob h
  refine g_iald (j := ((171 : Int32) + ((131 : Int32) * a1)).toNatClampNeg) C P ml1 b13 rfl dX8_ofImage_120 ?_
  refine lv_goto (tgt := 136) hx hb dX8_ofImage_121 (by decide) ?_
  have h := Option.some.inj h
  exact g_iret C P h rfl dX8_ofImage_136
abbrev rmX8_image : Room := { frames := 2, cells := 0, slots := 0, locals := 43 }
theorem kdX8_image : yX8_image.cls = RX8 ∧ yX8_image.cls ≠ "java/lang/invoke/MethodHandle" ∧ yX8_image.cls ≠ "java/lang/invoke/VarHandle" ∧ (parseMethodDescriptor yX8_image.desc).map (fun d => d.parameters.length) = some 2 := by decide +kernel
set_option maxHeartbeats 4000000 in
set_option maxRecDepth 100000 in
theorem kX8_image (l : Launch) (X : gXt) (hJ : gJ X mL) (σ : gS) (a1 : Int32) (a2 : Int32) (q : Int32 × gS) (h : qM_image σ a1 a2 = some q) : gMi l yX8_image (gws yX8_image cX8_image 3 (some .int)) rmX8_image X mL [.ref (gad X 0), .int a1, .int a2] σ q.1 q.2 := by
  refine g_enter (cc := cX8_image) (nL := 3) (ret := (some .int)) hJ (plainFor_of_name (by decide)) (Nat.le_of_ble_eq_true rfl) ?_
  intro p e s m below meth c ls C P hl
  have C : gC p s m _ meth c RX8 cX8_image 3 (some .int) X mL := C
  have hx := C.1
  have hb := C.2.1
  have hK := C.2.2.2.2.2.2.2.1
  have hts := C.2.2.2.2.1
  have hl : lv_has ls 3 [(0, .ref (gad X 0)), (1, .int a1), (2, .int a2)] := hl
  unfold qM_image at h
  refine lv_aload_n hx hb dX8_image_0 rfl (lv_at hl 0 rfl) ?_
  refine lv_iload_n hx hb dX8_image_1 rfl (lv_at hl 1 rfl) ?_
  refine g_callVi (n := 1) (As := [.int a1]) (rest := []) C P (kX8_isImage l X hJ σ a1 _ rfl) wd_713 wd_714 wd_715 wd_5 wd_716 rfl rfl kdX8_isImage ⟨Nat.le_of_ble_eq_true rfl, Nat.le_of_ble_eq_true rfl⟩ ml0 rfl rfl rfl hl.1 (Nat.le_of_ble_eq_true rfl) dX8_image_2 (fun H locs P => ?_)
  refine lv_if_eq (tgt := 26) hx hb dX8_image_5 (by decide) (fun c1 => ?_) (fun c1 => ?_)
  · have h := g_ifp c1 h
    refine lv_aload_n hx hb dX8_image_26 rfl (lv_at hl 0 rfl) ?_
    obtain ⟨r2, hr2, h⟩ := g_bind h
    refine g_callVi (n := 0) (As := []) (rest := []) C P (kX8_bad l X hJ σ _ hr2) wd_601 wd_602 wd_603 wd_5 wd_604 rfl rfl kdX8_bad ⟨Nat.le_of_ble_eq_true rfl, Nat.le_of_ble_eq_true rfl⟩ ml0 rfl rfl rfl hl.1 (Nat.le_of_ble_eq_true rfl) dX8_image_27 (fun H locs P => ?_)
    have h := Option.some.inj h
    exact g_iret C P (g_fst h) (g_snd h) dX8_image_30
  have h := g_ifn c1 h
  refine lv_iload_n hx hb dX8_image_8 rfl (lv_at hl 2 rfl) ?_
  refine lv_iconst (v := 0) hx hb dX8_image_9 (by decide) ?_
  refine lv_iconst (v := 2) hx hb dX8_image_10 (by decide) ?_
  refine g_callSi (n := 3) (As := [.int a2, .int (0 : Int32), .int (2 : Int32)]) (rest := []) C P (kX8_in l X hJ σ a2 (0 : Int32) (2 : Int32) _ rfl) wd_195 wd_196 wd_5 wd_197 rfl rfl kdX8_in.2 ⟨Nat.le_of_ble_eq_true rfl, Nat.le_of_ble_eq_true rfl⟩ rfl rfl hl.1 (Nat.le_of_ble_eq_true rfl) dX8_image_11 (fun H locs P => ?_)
  refine lv_if_eq (tgt := 26) hx hb dX8_image_14 (by decide) (fun c3 => ?_) (fun c3 => ?_)
  · have h := g_ifp c3 h
    refine lv_aload_n hx hb dX8_image_26 rfl (lv_at hl 0 rfl) ?_
    obtain ⟨r4, hr4, h⟩ := g_bind h
    refine g_callVi (n := 0) (As := []) (rest := []) C P (kX8_bad l X hJ σ _ hr4) wd_601 wd_602 wd_603 wd_5 wd_604 rfl rfl kdX8_bad ⟨Nat.le_of_ble_eq_true rfl, Nat.le_of_ble_eq_true rfl⟩ ml0 rfl rfl rfl hl.1 (Nat.le_of_ble_eq_true rfl) dX8_image_27 (fun H locs P => ?_)
    have h := Option.some.inj h
    exact g_iret C P (g_fst h) (g_snd h) dX8_image_30
  have h := g_ifn c3 h
  refine lv_aload_n hx hb dX8_image_17 rfl (lv_at hl 0 rfl) ?_
  refine lv_iload_n hx hb dX8_image_18 rfl (lv_at hl 1 rfl) ?_
  refine lv_iload_n hx hb dX8_image_19 rfl (lv_at hl 2 rfl) ?_
  obtain ⟨r5, hr5, h⟩ := g_bind h
  refine g_callVi (n := 2) (As := [.int a1, .int a2]) (rest := []) C P (kX8_ofImage l X hJ σ a1 a2 _ hr5) wd_717 wd_718 wd_719 wd_5 wd_720 rfl rfl kdX8_ofImage ⟨Nat.le_of_ble_eq_true rfl, Nat.le_of_ble_eq_true rfl⟩ ml0 rfl rfl rfl hl.1 (Nat.le_of_ble_eq_true rfl) dX8_image_20 (fun H locs P => ?_)
  refine lv_goto (tgt := 30) hx hb dX8_image_23 (by decide) ?_
  have h := Option.some.inj h
  exact g_iret C P (g_fst h) (g_snd h) dX8_image_30
