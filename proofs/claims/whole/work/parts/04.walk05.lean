/-! WALKS, by program (wip/whole/gen.py): each method does what its mirror says -/
abbrev rmX8_remembers : Room := { frames := 0, cells := 0, slots := 0, locals := 0 }
theorem kdX8_remembers : yX8_remembers.cls = RX8 ∧ yX8_remembers.cls ≠ "java/lang/invoke/MethodHandle" ∧ yX8_remembers.cls ≠ "java/lang/invoke/VarHandle" ∧ (parseMethodDescriptor yX8_remembers.desc).map (fun d => d.parameters.length) = some 0 := by decide +kernel
set_option maxHeartbeats 4000000 in
set_option maxRecDepth 100000 in
theorem kX8_remembers_51 {p : Program} {l : Launch} {e : Env} {s : State} {m : MethodId} {args : Array Value} {below : List Frame} {meth : Method} {c : Code} {X : gXt} (hJ : gJ X mL) (C : gC p s m args meth c RX8 cX8_remembers 2 none X mL) (k : gS → Option gS) (q : gS) (hk : ∀ (σ' : gS) (H : Heap) (locs : List Loc) (ls : Array Slot), k σ' = some q → gH X mL σ' s H locs → lv_has ls 2 [(0, .ref (gad X 0))] → W p l e rmX8_remembers s m args below meth c H locs 0 0 (MQ below (gQv X mL q) args s 0 0 (gA X mL)) (F0 m 85 ls [])) : ∀ (n : Nat) (σ : gS) (v1 : Int32), qM_remembers_51 k n σ v1 = some q → ∀ (H : Heap) (locs : List Loc) (ls : Array Slot), gH X mL σ s H locs → lv_has ls 2 [(0, .ref (gad X 0)), (1, .int v1)] → W p l e rmX8_remembers s m args below meth c H locs 0 0 (MQ below (gQv X mL q) args s 0 0 (gA X mL)) (F0 m 51 ls []) := by
  have hx := C.1
  have hb := C.2.1
  have hK := C.2.2.2.2.2.2.2.1
  have hts := C.2.2.2.2.1
  intro n
  induction n with
  | zero => intro σ v1 h; cases h
  | succ n ih =>
    intro σ v1 h H locs ls P hl
    have h : (if (1219 : Int32) ≤ v1 then k σ else gob v1 1219 (gob (((1219 : Int32) * (gI σ 0 3)) + v1) 6095 (qM_remembers_51 k n (sM σ 3 (((1219 : Int32) * (gI σ 0 3)) + v1).toNatClampNeg (gM σ 2 v1.toNatClampNeg)) (v1 + 1)))) = some q := h
    refine lv_iload_n hx hb dX8_remembers_51 rfl (lv_at hl 1 rfl) ?_
    refine lv_sipush (v := 1219) hx hb dX8_remembers_52 (by decide) ?_
    refine lv_icmp_ge (tgt := 85) hx hb dX8_remembers_55 (by decide) (fun c2 => ?_) (fun c2 => ?_)
    · have h := g_ifp c2 h
      exact hk σ _ _ _ h P (lv_sub hl [0] rfl)
    have h := g_ifn c2 h
    refine lv_aload_n hx hb dX8_remembers_58 rfl (lv_at hl 0 rfl) ?_
    refine g_getR C P ml0 rfl inlX8 2 (by decide) wd_97 rfl dX8_remembers_59 ?_
    refine lv_sipush (v := 1219) hx hb dX8_remembers_62 (by decide) ?_
    refine lv_aload_n hx hb dX8_remembers_65 rfl (lv_at hl 0 rfl) ?_
    refine g_getI C P ml0 rfl inlX8 3 (by decide) wd_314 rfl dX8_remembers_66 ?_
    refine lv_imul hx hb dX8_remembers_69 ?_
    refine lv_iload_n hx hb dX8_remembers_70 rfl (lv_at hl 1 rfl) ?_
    refine lv_iadd hx hb dX8_remembers_71 ?_
    refine lv_aload_n hx hb dX8_remembers_72 rfl (lv_at hl 0 rfl) ?_
    refine g_getR C P ml0 rfl inlX8 1 (by decide) wd_96 rfl dX8_remembers_73 ?_
    refine lv_iload_n hx hb dX8_remembers_76 rfl (lv_at hl 1 rfl) ?_
    obtain ⟨b3, h⟩ := g_ob h
    refine g_iald (j := v1.toNatClampNeg) C P ml2 b3 rfl dX8_remembers_77 ?_
    obtain ⟨b4, h⟩ := g_ob h
    refine g_iast (j := (((1219 : Int32) * (gI σ 0 3)) + v1).toNatClampNeg) C P ml3 b4 rfl dX8_remembers_78 (fun H locs P => ?_)
    refine lv_iinc (v := (v1 + 1)) (lv' := [(1, .int (v1 + 1)), (0, .ref (gad X 0))]) hx hb dX8_remembers_79 hl (k := 1) rfl rfl (by decide) rfl (fun ls hl => ?_)
    refine lv_goto (tgt := 51) hx hb dX8_remembers_82 (by decide) ?_
    exact ih (sM σ 3 (((1219 : Int32) * (gI σ 0 3)) + v1).toNatClampNeg (gM σ 2 v1.toNatClampNeg)) (v1 + 1) h _ _ _ P (lv_sub hl [1, 0] rfl)
set_option maxHeartbeats 4000000 in
set_option maxRecDepth 100000 in
theorem kX8_remembers_10 {p : Program} {l : Launch} {e : Env} {s : State} {m : MethodId} {args : Array Value} {below : List Frame} {meth : Method} {c : Code} {X : gXt} (hJ : gJ X mL) (C : gC p s m args meth c RX8 cX8_remembers 2 none X mL) (k : gS → Option gS) (q : gS) (hk : ∀ (σ' : gS) (H : Heap) (locs : List Loc) (ls : Array Slot), k σ' = some q → gH X mL σ' s H locs → lv_has ls 2 [(0, .ref (gad X 0))] → W p l e rmX8_remembers s m args below meth c H locs 0 0 (MQ below (gQv X mL q) args s 0 0 (gA X mL)) (F0 m 39 ls [])) : ∀ (n : Nat) (σ : gS) (v1 : Int32), qM_remembers_10 k n σ v1 = some q → ∀ (H : Heap) (locs : List Loc) (ls : Array Slot), gH X mL σ s H locs → lv_has ls 2 [(0, .ref (gad X 0)), (1, .int v1)] → W p l e rmX8_remembers s m args below meth c H locs 0 0 (MQ below (gQv X mL q) args s 0 0 (gA X mL)) (F0 m 10 ls []) := by
  have hx := C.1
  have hb := C.2.1
  have hK := C.2.2.2.2.2.2.2.1
  have hts := C.2.2.2.2.1
  intro n
  induction n with
  | zero => intro σ v1 h; cases h
  | succ n ih =>
    intro σ v1 h H locs ls P hl
    have h : (if (4876 : Int32) ≤ v1 then k σ else gob (v1 + (1219 : Int32)) 6095 (gob v1 6095 (qM_remembers_10 k n (sM σ 3 v1.toNatClampNeg (gM σ 3 (v1 + (1219 : Int32)).toNatClampNeg)) (v1 + 1)))) = some q := h
    refine lv_iload_n hx hb dX8_remembers_10 rfl (lv_at hl 1 rfl) ?_
    refine lv_sipush (v := 4876) hx hb dX8_remembers_11 (by decide) ?_
    refine lv_icmp_ge (tgt := 39) hx hb dX8_remembers_14 (by decide) (fun c6 => ?_) (fun c6 => ?_)
    · have h := g_ifp c6 h
      exact hk σ _ _ _ h P (lv_sub hl [0] rfl)
    have h := g_ifn c6 h
    refine lv_aload_n hx hb dX8_remembers_17 rfl (lv_at hl 0 rfl) ?_
    refine g_getR C P ml0 rfl inlX8 2 (by decide) wd_97 rfl dX8_remembers_18 ?_
    refine lv_iload_n hx hb dX8_remembers_21 rfl (lv_at hl 1 rfl) ?_
    refine lv_aload_n hx hb dX8_remembers_22 rfl (lv_at hl 0 rfl) ?_
    refine g_getR C P ml0 rfl inlX8 2 (by decide) wd_97 rfl dX8_remembers_23 ?_
    refine lv_iload_n hx hb dX8_remembers_26 rfl (lv_at hl 1 rfl) ?_
    refine lv_sipush (v := 1219) hx hb dX8_remembers_27 (by decide) ?_
    refine lv_iadd hx hb dX8_remembers_30 ?_
    obtain ⟨b7, h⟩ := g_ob h
    refine g_iald (j := (v1 + (1219 : Int32)).toNatClampNeg) C P ml3 b7 rfl dX8_remembers_31 ?_
    obtain ⟨b8, h⟩ := g_ob h
    refine g_iast (j := v1.toNatClampNeg) C P ml3 b8 rfl dX8_remembers_32 (fun H locs P => ?_)
    refine lv_iinc (v := (v1 + 1)) (lv' := [(1, .int (v1 + 1)), (0, .ref (gad X 0))]) hx hb dX8_remembers_33 hl (k := 1) rfl rfl (by decide) rfl (fun ls hl => ?_)
    refine lv_goto (tgt := 10) hx hb dX8_remembers_36 (by decide) ?_
    exact ih (sM σ 3 v1.toNatClampNeg (gM σ 3 (v1 + (1219 : Int32)).toNatClampNeg)) (v1 + 1) h _ _ _ P (lv_sub hl [1, 0] rfl)
set_option maxHeartbeats 4000000 in
set_option maxRecDepth 100000 in
theorem kX8_remembers (l : Launch) (X : gXt) (hJ : gJ X mL) (σ : gS) (q : gS) (h : qM_remembers σ = some q) : gMv l yX8_remembers (gws yX8_remembers cX8_remembers 2 none) rmX8_remembers X mL [.ref (gad X 0)] σ q := by
  refine g_enter (cc := cX8_remembers) (nL := 2) (ret := none) hJ (plainFor_of_name (by decide)) (Nat.le_of_ble_eq_true rfl) ?_
  intro p e s m below meth c ls C P hl
  have C : gC p s m _ meth c RX8 cX8_remembers 2 none X mL := C
  have hx := C.1
  have hb := C.2.1
  have hK := C.2.2.2.2.2.2.2.1
  have hts := C.2.2.2.2.1
  have hl : lv_has ls 2 [(0, .ref (gad X 0))] := hl
  unfold qM_remembers at h
  refine lv_aload_n hx hb dX8_remembers_0 rfl (lv_at hl 0 rfl) ?_
  refine g_getI C P ml0 rfl inlX8 3 (by decide) wd_314 rfl dX8_remembers_1 ?_
  refine lv_iconst (v := 5) hx hb dX8_remembers_4 (by decide) ?_
  refine lv_icmp_ne (tgt := 49) hx hb dX8_remembers_5 (by decide) (fun c1 => ?_) (fun c1 => ?_)
  · have h := g_ifn c1 h
    refine lv_iconst (v := 0) hx hb dX8_remembers_49 (by decide) ?_
    refine lv_istore_n (lv' := [(1, .int (0 : Int32)), (0, .ref (gad X 0))]) hx hb dX8_remembers_50 rfl hl (by decide) rfl (fun ls hl => ?_)
    refine kX8_remembers_51 hJ C _ _ ?_ _ _ _ h _ _ _ P (lv_sub hl [1, 0] rfl)
    intro σ5 H locs ls h P hl
    refine lv_aload_n hx hb dX8_remembers_85 rfl (lv_at hl 0 rfl) ?_
    refine lv_dup hx hb dX8_remembers_86 rfl ?_
    refine g_getI C P ml0 rfl inlX8 3 (by decide) wd_314 rfl dX8_remembers_87 ?_
    refine lv_iconst (v := 1) hx hb dX8_remembers_90 (by decide) ?_
    refine lv_iadd hx hb dX8_remembers_91 ?_
    refine g_putI C P ml0 rfl inlX8 tyX8 tyX8_ok nmX8 3 (by decide) wd_314 rfl rfl rfl rfl dX8_remembers_92 (fun H locs P => ?_)
    have h := Option.some.inj h
    exact g_vret C P h dX8_remembers_95
  have h := g_ifp c1 h
  refine lv_iconst (v := 0) hx hb dX8_remembers_8 (by decide) ?_
  refine lv_istore_n (lv' := [(1, .int (0 : Int32)), (0, .ref (gad X 0))]) hx hb dX8_remembers_9 rfl hl (by decide) rfl (fun ls hl => ?_)
  refine kX8_remembers_10 hJ C _ _ ?_ _ _ _ h _ _ _ P (lv_sub hl [1, 0] rfl)
  intro σ9 H locs ls h P hl
  refine lv_aload_n hx hb dX8_remembers_39 rfl (lv_at hl 0 rfl) ?_
  refine lv_dup hx hb dX8_remembers_40 rfl ?_
  refine g_getI C P ml0 rfl inlX8 3 (by decide) wd_314 rfl dX8_remembers_41 ?_
  refine lv_iconst (v := 1) hx hb dX8_remembers_44 (by decide) ?_
  refine lv_isub hx hb dX8_remembers_45 ?_
  refine g_putI C P ml0 rfl inlX8 tyX8 tyX8_ok nmX8 3 (by decide) wd_314 rfl rfl rfl rfl dX8_remembers_46 (fun H locs P => ?_)
  refine lv_iconst (v := 0) hx hb dX8_remembers_49 (by decide) ?_
  refine lv_istore_n (lv' := [(1, .int (0 : Int32)), (0, .ref (gad X 0))]) hx hb dX8_remembers_50 rfl hl (by decide) rfl (fun ls hl => ?_)
  refine kX8_remembers_51 hJ C _ _ ?_ _ _ _ h _ _ _ P (lv_sub hl [1, 0] rfl)
  intro σ10 H locs ls h P hl
  refine lv_aload_n hx hb dX8_remembers_85 rfl (lv_at hl 0 rfl) ?_
  refine lv_dup hx hb dX8_remembers_86 rfl ?_
  refine g_getI C P ml0 rfl inlX8 3 (by decide) wd_314 rfl dX8_remembers_87 ?_
  refine lv_iconst (v := 1) hx hb dX8_remembers_90 (by decide) ?_
  refine lv_iadd hx hb dX8_remembers_91 ?_
  refine g_putI C P ml0 rfl inlX8 tyX8 tyX8_ok nmX8 3 (by decide) wd_314 rfl rfl rfl rfl dX8_remembers_92 (fun H locs P => ?_)
  have h := Option.some.inj h
  exact g_vret C P h dX8_remembers_95
abbrev rmX8_back : Room := { frames := 0, cells := 0, slots := 0, locals := 0 }
theorem kdX8_back : yX8_back.cls = RX8 ∧ yX8_back.cls ≠ "java/lang/invoke/MethodHandle" ∧ yX8_back.cls ≠ "java/lang/invoke/VarHandle" ∧ (parseMethodDescriptor yX8_back.desc).map (fun d => d.parameters.length) = some 0 := by decide +kernel
set_option maxHeartbeats 4000000 in
set_option maxRecDepth 100000 in
theorem kX8_back_32 {p : Program} {l : Launch} {e : Env} {s : State} {m : MethodId} {args : Array Value} {below : List Frame} {meth : Method} {c : Code} {X : gXt} (hJ : gJ X mL) (C : gC p s m args meth c RX8 cX8_back 2 (some .int) X mL) (k : gS → Option (Int32 × gS)) (q : Int32 × gS) (hk : ∀ (σ' : gS) (H : Heap) (locs : List Loc) (ls : Array Slot), k σ' = some q → gH X mL σ' s H locs → lv_has ls 2 [(0, .ref (gad X 0))] → W p l e rmX8_back s m args below meth c H locs 0 0 (MQ below (gQi X mL q.1 q.2) args s 0 0 (gA X mL)) (F0 m 66 ls [])) : ∀ (n : Nat) (σ : gS) (v1 : Int32), qM_back_32 k n σ v1 = some q → ∀ (H : Heap) (locs : List Loc) (ls : Array Slot), gH X mL σ s H locs → lv_has ls 2 [(0, .ref (gad X 0)), (1, .int v1)] → W p l e rmX8_back s m args below meth c H locs 0 0 (MQ below (gQi X mL q.1 q.2) args s 0 0 (gA X mL)) (F0 m 32 ls []) := by
  have hx := C.1
  have hb := C.2.1
  have hK := C.2.2.2.2.2.2.2.1
  have hts := C.2.2.2.2.1
  intro n
  induction n with
  | zero => intro σ v1 h; cases h
  | succ n ih =>
    intro σ v1 h H locs ls P hl
    have h : (if (1219 : Int32) ≤ v1 then k σ else gob (((1219 : Int32) * (gI σ 0 3)) + v1) 6095 (gob v1 1219 (qM_back_32 k n (sM σ 1 v1.toNatClampNeg (gM σ 3 (((1219 : Int32) * (gI σ 0 3)) + v1).toNatClampNeg)) (v1 + 1)))) = some q := h
    refine lv_iload_n hx hb dX8_back_32 rfl (lv_at hl 1 rfl) ?_
    refine lv_sipush (v := 1219) hx hb dX8_back_33 (by decide) ?_
    refine lv_icmp_ge (tgt := 66) hx hb dX8_back_36 (by decide) (fun c2 => ?_) (fun c2 => ?_)
    · have h := g_ifp c2 h
      exact hk σ _ _ _ h P (lv_sub hl [0] rfl)
    have h := g_ifn c2 h
    refine lv_aload_n hx hb dX8_back_39 rfl (lv_at hl 0 rfl) ?_
    refine g_getR C P ml0 rfl inlX8 0 (by decide) wd_95 rfl dX8_back_40 ?_
    refine lv_iload_n hx hb dX8_back_43 rfl (lv_at hl 1 rfl) ?_
    refine lv_aload_n hx hb dX8_back_44 rfl (lv_at hl 0 rfl) ?_
    refine g_getR C P ml0 rfl inlX8 2 (by decide) wd_97 rfl dX8_back_45 ?_
    refine lv_sipush (v := 1219) hx hb dX8_back_48 (by decide) ?_
    refine lv_aload_n hx hb dX8_back_51 rfl (lv_at hl 0 rfl) ?_
    refine g_getI C P ml0 rfl inlX8 3 (by decide) wd_314 rfl dX8_back_52 ?_
    refine lv_imul hx hb dX8_back_55 ?_
    refine lv_iload_n hx hb dX8_back_56 rfl (lv_at hl 1 rfl) ?_
    refine lv_iadd hx hb dX8_back_57 ?_
    obtain ⟨b3, h⟩ := g_ob h
    refine g_iald (j := (((1219 : Int32) * (gI σ 0 3)) + v1).toNatClampNeg) C P ml3 b3 rfl dX8_back_58 ?_
    obtain ⟨b4, h⟩ := g_ob h
    refine g_iast (j := v1.toNatClampNeg) C P ml1 b4 rfl dX8_back_59 (fun H locs P => ?_)
    refine lv_iinc (v := (v1 + 1)) (lv' := [(1, .int (v1 + 1)), (0, .ref (gad X 0))]) hx hb dX8_back_60 hl (k := 1) rfl rfl (by decide) rfl (fun ls hl => ?_)
    refine lv_goto (tgt := 32) hx hb dX8_back_63 (by decide) ?_
    exact ih (sM σ 1 v1.toNatClampNeg (gM σ 3 (((1219 : Int32) * (gI σ 0 3)) + v1).toNatClampNeg)) (v1 + 1) h _ _ _ P (lv_sub hl [1, 0] rfl)
set_option maxHeartbeats 4000000 in
set_option maxRecDepth 100000 in
theorem kX8_back (l : Launch) (X : gXt) (hJ : gJ X mL) (σ : gS) (q : Int32 × gS) (h : qM_back σ = some q) : gMi l yX8_back (gws yX8_back cX8_back 2 (some .int)) rmX8_back X mL [.ref (gad X 0)] σ q.1 q.2 := by
  refine g_enter (cc := cX8_back) (nL := 2) (ret := (some .int)) hJ (plainFor_of_name (by decide)) (Nat.le_of_ble_eq_true rfl) ?_
  intro p e s m below meth c ls C P hl
  have C : gC p s m _ meth c RX8 cX8_back 2 (some .int) X mL := C
  have hx := C.1
  have hb := C.2.1
  have hK := C.2.2.2.2.2.2.2.1
  have hts := C.2.2.2.2.1
  have hl : lv_has ls 2 [(0, .ref (gad X 0))] := hl
  unfold qM_back at h
  refine lv_aload_n hx hb dX8_back_0 rfl (lv_at hl 0 rfl) ?_
  refine g_getI C P ml0 rfl inlX8 3 (by decide) wd_314 rfl dX8_back_1 ?_
  refine lv_if_ne (tgt := 20) hx hb dX8_back_4 (by decide) (fun c1 => ?_) (fun c1 => ?_)
  · have h := g_ifn c1 h
    refine lv_aload_n hx hb dX8_back_20 rfl (lv_at hl 0 rfl) ?_
    refine lv_dup hx hb dX8_back_21 rfl ?_
    refine g_getI C P ml0 rfl inlX8 3 (by decide) wd_314 rfl dX8_back_22 ?_
    refine lv_iconst (v := 1) hx hb dX8_back_25 (by decide) ?_
    refine lv_isub hx hb dX8_back_26 ?_
    refine g_putI C P ml0 rfl inlX8 tyX8 tyX8_ok nmX8 3 (by decide) wd_314 rfl rfl rfl rfl dX8_back_27 (fun H locs P => ?_)
    refine lv_iconst (v := 0) hx hb dX8_back_30 (by decide) ?_
    refine lv_istore_n (lv' := [(1, .int (0 : Int32)), (0, .ref (gad X 0))]) hx hb dX8_back_31 rfl hl (by decide) rfl (fun ls hl => ?_)
    refine kX8_back_32 hJ C _ _ ?_ _ _ _ h _ _ _ P (lv_sub hl [1, 0] rfl)
    intro σ5 H locs ls h P hl
    refine lv_aload_n hx hb dX8_back_66 rfl (lv_at hl 0 rfl) ?_
    refine g_getI C P ml0 rfl inlX8 3 (by decide) wd_314 rfl dX8_back_67 ?_
    have h := Option.some.inj h
    exact g_iret C P (g_fst h) (g_snd h) dX8_back_70
  have h := g_ifp c1 h
  refine lv_aload_n hx hb dX8_back_7 rfl (lv_at hl 0 rfl) ?_
  refine g_getR C P ml0 rfl inlX8 4 (by decide) wd_98 rfl dX8_back_8 ?_
  refine lv_iconst (v := 1) hx hb dX8_back_11 (by decide) ?_
  refine lv_dup2_11 hx hb dX8_back_12 rfl rfl ?_
  refine g_iald (j := 1) C P ml4 (vp_in_iff.mpr ⟨by decide, by decide⟩) (by decide) dX8_back_13 ?_
  refine lv_iconst (v := 1) hx hb dX8_back_14 (by decide) ?_
  refine lv_iadd hx hb dX8_back_15 ?_
  refine g_iast (j := 1) C P ml4 (vp_in_iff.mpr ⟨by decide, by decide⟩) (by decide) dX8_back_16 (fun H locs P => ?_)
  refine lv_bipush (v := -3) hx hb dX8_back_17 (by decide) ?_
  have h := Option.some.inj h
  exact g_iret C P (g_fst h) (g_snd h) dX8_back_19
abbrev rmX8_counted : Room := { frames := 0, cells := 0, slots := 0, locals := 0 }
theorem kdX8_counted : yX8_counted.cls = RX8 ∧ yX8_counted.cls ≠ "java/lang/invoke/MethodHandle" ∧ yX8_counted.cls ≠ "java/lang/invoke/VarHandle" ∧ (parseMethodDescriptor yX8_counted.desc).map (fun d => d.parameters.length) = some 1 := by decide +kernel
set_option maxHeartbeats 4000000 in
set_option maxRecDepth 100000 in
theorem kX8_counted (l : Launch) (X : gXt) (hJ : gJ X mL) (σ : gS) (a1 : Int32) (q : Int32 × gS) (h : qM_counted σ a1 = some q) : gMi l yX8_counted (gws yX8_counted cX8_counted 2 (some .int)) rmX8_counted X mL [.ref (gad X 0), .int a1] σ q.1 q.2 := by
  refine g_enter (cc := cX8_counted) (nL := 2) (ret := (some .int)) hJ (plainFor_of_name (by decide)) (Nat.le_of_ble_eq_true rfl) ?_
  intro p e s m below meth c ls C P hl
  have C : gC p s m _ meth c RX8 cX8_counted 2 (some .int) X mL := C
  have hx := C.1
  have hb := C.2.1
  have hK := C.2.2.2.2.2.2.2.1
  have hts := C.2.2.2.2.1
  have hl : lv_has ls 2 [(0, .ref (gad X 0)), (1, .int a1)] := hl
  unfold qM_counted at h
  refine lv_iload_n hx hb dX8_counted_0 rfl (lv_at hl 1 rfl) ?_
  refine lv_bipush (v := -2) hx hb dX8_counted_1 (by decide) ?_
  refine lv_icmp_ne (tgt := 19) hx hb dX8_counted_3 (by decide) (fun c1 => ?_) (fun c1 => ?_)
  · have h := g_ifn c1 h
    refine lv_iload_n hx hb dX8_counted_19 rfl (lv_at hl 1 rfl) ?_
    refine lv_bipush (v := -4) hx hb dX8_counted_20 (by decide) ?_
    refine lv_icmp_ne (tgt := 38) hx hb dX8_counted_22 (by decide) (fun c2 => ?_) (fun c2 => ?_)
    · have h := g_ifn c2 h
      refine lv_iload_n hx hb dX8_counted_38 rfl (lv_at hl 1 rfl) ?_
      refine lv_bipush (v := -10) hx hb dX8_counted_39 (by decide) ?_
      refine lv_icmp_gt (tgt := 67) hx hb dX8_counted_41 (by decide) (fun c3 => ?_) (fun c3 => ?_)
      · have h := g_ifp c3 h
        refine lv_iload_n hx hb dX8_counted_67 rfl (lv_at hl 1 rfl) ?_
        have h := Option.some.inj h
        exact g_iret C P (g_fst h) (g_snd h) dX8_counted_68
      have h := g_ifn c3 h
      refine lv_aload_n hx hb dX8_counted_44 rfl (lv_at hl 0 rfl) ?_
      refine g_getR C P ml0 rfl inlX8 5 (by decide) wd_99 rfl dX8_counted_45 ?_
      refine lv_bipush (v := -10) hx hb dX8_counted_48 (by decide) ?_
      refine lv_iload_n hx hb dX8_counted_50 rfl (lv_at hl 1 rfl) ?_
      refine lv_isub hx hb dX8_counted_51 ?_
      refine lv_dup2_11 hx hb dX8_counted_52 rfl rfl ?_
      obtain ⟨b4, h⟩ := g_ob h
      refine g_iald (j := ((-10 : Int32) - a1).toNatClampNeg) C P ml5 b4 rfl dX8_counted_53 ?_
      refine lv_iconst (v := 1) hx hb dX8_counted_54 (by decide) ?_
      refine lv_iadd hx hb dX8_counted_55 ?_
      refine g_iast (j := ((-10 : Int32) - a1).toNatClampNeg) C P ml5 b4 rfl dX8_counted_56 (fun H locs P => ?_)
      refine lv_aload_n hx hb dX8_counted_57 rfl (lv_at hl 0 rfl) ?_
      refine g_getR C P ml0 rfl inlX8 5 (by decide) wd_99 rfl dX8_counted_58 ?_
      refine lv_iconst (v := 0) hx hb dX8_counted_61 (by decide) ?_
      refine lv_dup2_11 hx hb dX8_counted_62 rfl rfl ?_
      refine g_iald (j := 0) C P ml5 (vp_in_iff.mpr ⟨by decide, by decide⟩) (by decide) dX8_counted_63 ?_
      refine lv_iconst (v := 1) hx hb dX8_counted_64 (by decide) ?_
      refine lv_iadd hx hb dX8_counted_65 ?_
      refine g_iast (j := 0) C P ml5 (vp_in_iff.mpr ⟨by decide, by decide⟩) (by decide) dX8_counted_66 (fun H locs P => ?_)
      refine lv_iload_n hx hb dX8_counted_67 rfl (lv_at hl 1 rfl) ?_
      have h := Option.some.inj h
      exact g_iret C P (g_fst h) (g_snd h) dX8_counted_68
    have h := g_ifp c2 h
    refine lv_aload_n hx hb dX8_counted_25 rfl (lv_at hl 0 rfl) ?_
    refine g_getR C P ml0 rfl inlX8 4 (by decide) wd_98 rfl dX8_counted_26 ?_
    refine lv_iconst (v := 2) hx hb dX8_counted_29 (by decide) ?_
    refine lv_dup2_11 hx hb dX8_counted_30 rfl rfl ?_
    refine g_iald (j := 2) C P ml4 (vp_in_iff.mpr ⟨by decide, by decide⟩) (by decide) dX8_counted_31 ?_
    refine lv_iconst (v := 1) hx hb dX8_counted_32 (by decide) ?_
    refine lv_iadd hx hb dX8_counted_33 ?_
    refine g_iast (j := 2) C P ml4 (vp_in_iff.mpr ⟨by decide, by decide⟩) (by decide) dX8_counted_34 (fun H locs P => ?_)
    refine lv_goto (tgt := 67) hx hb dX8_counted_35 (by decide) ?_
    refine lv_iload_n hx hb dX8_counted_67 rfl (lv_at hl 1 rfl) ?_
    have h := Option.some.inj h
    exact g_iret C P (g_fst h) (g_snd h) dX8_counted_68
  have h := g_ifp c1 h
  refine lv_aload_n hx hb dX8_counted_6 rfl (lv_at hl 0 rfl) ?_
  refine g_getR C P ml0 rfl inlX8 4 (by decide) wd_98 rfl dX8_counted_7 ?_
  refine lv_iconst (v := 0) hx hb dX8_counted_10 (by decide) ?_
  refine lv_dup2_11 hx hb dX8_counted_11 rfl rfl ?_
  refine g_iald (j := 0) C P ml4 (vp_in_iff.mpr ⟨by decide, by decide⟩) (by decide) dX8_counted_12 ?_
  refine lv_iconst (v := 1) hx hb dX8_counted_13 (by decide) ?_
  refine lv_iadd hx hb dX8_counted_14 ?_
  refine g_iast (j := 0) C P ml4 (vp_in_iff.mpr ⟨by decide, by decide⟩) (by decide) dX8_counted_15 (fun H locs P => ?_)
  refine lv_goto (tgt := 67) hx hb dX8_counted_16 (by decide) ?_
  refine lv_iload_n hx hb dX8_counted_67 rfl (lv_at hl 1 rfl) ?_
  have h := Option.some.inj h
  exact g_iret C P (g_fst h) (g_snd h) dX8_counted_68
abbrev rmX8_piecePlace : Room := { frames := 0, cells := 0, slots := 0, locals := 0 }
theorem kdX8_piecePlace : yX8_piecePlace.cls = RX8 ∧ yX8_piecePlace.cls ≠ "java/lang/invoke/MethodHandle" ∧ yX8_piecePlace.cls ≠ "java/lang/invoke/VarHandle" ∧ (parseMethodDescriptor yX8_piecePlace.desc).map (fun d => d.parameters.length) = some 1 := by decide +kernel
set_option maxHeartbeats 4000000 in
set_option maxRecDepth 100000 in
theorem kX8_piecePlace (l : Launch) (X : gXt) (hJ : gJ X mL) (σ : gS) (a1 : Int32) (q : Int32) (h : qM_piecePlace a1 = q) : gMi l yX8_piecePlace (gws yX8_piecePlace cX8_piecePlace 1 (some .int)) rmX8_piecePlace X mL [.int a1] σ q σ := by
  refine g_enter (cc := cX8_piecePlace) (nL := 1) (ret := (some .int)) hJ (plainFor_of_name (by decide)) (Nat.le_of_ble_eq_true rfl) ?_
  intro p e s m below meth c ls C P hl
  have C : gC p s m _ meth c RX8 cX8_piecePlace 1 (some .int) X mL := C
  have hx := C.1
  have hb := C.2.1
  have hK := C.2.2.2.2.2.2.2.1
  have hts := C.2.2.2.2.1
  have hl : lv_has ls 1 [(0, .int a1)] := hl
  unfold qM_piecePlace at h
  refine lv_iconst (v := 1) hx hb dX8_piecePlace_0 (by decide) ?_
  refine lv_bipush (v := 15) hx hb dX8_piecePlace_1 (by decide) ?_
  refine lv_iload_n hx hb dX8_piecePlace_3 rfl (lv_at hl 0 rfl) ?_
  refine lv_imul hx hb dX8_piecePlace_4 ?_
  refine lv_iadd hx hb dX8_piecePlace_5 ?_
  exact g_iret C P h rfl dX8_piecePlace_6
abbrev rmX8_sizeOf : Room := { frames := 1, cells := 0, slots := 0, locals := 20 }
theorem kdX8_sizeOf : yX8_sizeOf.cls = RX8 ∧ yX8_sizeOf.cls ≠ "java/lang/invoke/MethodHandle" ∧ yX8_sizeOf.cls ≠ "java/lang/invoke/VarHandle" ∧ (parseMethodDescriptor yX8_sizeOf.desc).map (fun d => d.parameters.length) = some 1 := by decide +kernel
set_option maxHeartbeats 4000000 in
set_option maxRecDepth 100000 in
theorem kX8_sizeOf (l : Launch) (X : gXt) (hJ : gJ X mL) (σ : gS) (a1 : Int32) (q : Int32) (h : qM_sizeOf σ a1 = some q) : gMi l yX8_sizeOf (gws yX8_sizeOf cX8_sizeOf 2 (some .int)) rmX8_sizeOf X mL [.ref (gad X 0), .int a1] σ q σ := by
  refine g_enter (cc := cX8_sizeOf) (nL := 2) (ret := (some .int)) hJ (plainFor_of_name (by decide)) (Nat.le_of_ble_eq_true rfl) ?_
  intro p e s m below meth c ls C P hl
  have C : gC p s m _ meth c RX8 cX8_sizeOf 2 (some .int) X mL := C
  have hx := C.1
  have hb := C.2.1
  have hK := C.2.2.2.2.2.2.2.1
  have hts := C.2.2.2.2.1
  have hl : lv_has ls 2 [(0, .ref (gad X 0)), (1, .int a1)] := hl
  unfold qM_sizeOf at h
  refine lv_aload_n hx hb dX8_sizeOf_0 rfl (lv_at hl 0 rfl) ?_
  refine g_getR C P ml0 rfl inlX8 0 (by decide) wd_95 rfl dX8_sizeOf_1 ?_
  refine lv_iload_n hx hb dX8_sizeOf_4 rfl (lv_at hl 1 rfl) ?_
  refine g_callSi (n := 1) (As := [.int a1]) (rest := [.ref (gad X 1)]) C P (kX8_piecePlace l X hJ σ a1 _ rfl) wd_198 wd_199 wd_5 wd_200 rfl rfl kdX8_piecePlace.2 ⟨Nat.le_of_ble_eq_true rfl, Nat.le_of_ble_eq_true rfl⟩ rfl rfl hl.1 (Nat.le_of_ble_eq_true rfl) dX8_sizeOf_5 (fun H locs P => ?_)
  obtain ⟨b1, h⟩ := g_ob h
  refine g_iald (j := (qM_piecePlace a1).toNatClampNeg) C P ml1 b1 rfl dX8_sizeOf_8 ?_
  have h := Option.some.inj h
  exact g_iret C P h rfl dX8_sizeOf_9
abbrev rmX8_isLive : Room := { frames := 1, cells := 0, slots := 0, locals := 20 }
theorem kdX8_isLive : yX8_isLive.cls = RX8 ∧ yX8_isLive.cls ≠ "java/lang/invoke/MethodHandle" ∧ yX8_isLive.cls ≠ "java/lang/invoke/VarHandle" ∧ (parseMethodDescriptor yX8_isLive.desc).map (fun d => d.parameters.length) = some 1 := by decide +kernel
set_option maxHeartbeats 4000000 in
set_option maxRecDepth 100000 in
theorem kX8_isLive (l : Launch) (X : gXt) (hJ : gJ X mL) (σ : gS) (a1 : Int32) (q : Int32) (h : qM_isLive σ a1 = some q) : gMi l yX8_isLive (gws yX8_isLive cX8_isLive 2 (some .boolean)) rmX8_isLive X mL [.ref (gad X 0), .int a1] σ q σ := by
  refine g_enter (cc := cX8_isLive) (nL := 2) (ret := (some .boolean)) hJ (plainFor_of_name (by decide)) (Nat.le_of_ble_eq_true rfl) ?_
  intro p e s m below meth c ls C P hl
  have C : gC p s m _ meth c RX8 cX8_isLive 2 (some .boolean) X mL := C
  have hx := C.1
  have hb := C.2.1
  have hK := C.2.2.2.2.2.2.2.1
  have hts := C.2.2.2.2.1
  have hl : lv_has ls 2 [(0, .ref (gad X 0)), (1, .int a1)] := hl
  unfold qM_isLive at h
  refine lv_aload_n hx hb dX8_isLive_0 rfl (lv_at hl 0 rfl) ?_
  refine g_getR C P ml0 rfl inlX8 0 (by decide) wd_95 rfl dX8_isLive_1 ?_
  refine lv_iload_n hx hb dX8_isLive_4 rfl (lv_at hl 1 rfl) ?_
  refine g_callSi (n := 1) (As := [.int a1]) (rest := [.ref (gad X 1)]) C P (kX8_piecePlace l X hJ σ a1 _ rfl) wd_198 wd_199 wd_5 wd_200 rfl rfl kdX8_piecePlace.2 ⟨Nat.le_of_ble_eq_true rfl, Nat.le_of_ble_eq_true rfl⟩ rfl rfl hl.1 (Nat.le_of_ble_eq_true rfl) dX8_isLive_5 (fun H locs P => ?_)
  refine lv_iconst (v := 1) hx hb dX8_isLive_8 (by decide) ?_
  refine lv_iadd hx hb dX8_isLive_9 ?_
  obtain ⟨b1, h⟩ := g_ob h
  refine g_iald (j := ((qM_piecePlace a1) + (1 : Int32)).toNatClampNeg) C P ml1 b1 rfl dX8_isLive_10 ?_
  refine lv_iconst (v := 1) hx hb dX8_isLive_11 (by decide) ?_
  refine lv_icmp_ne (tgt := 19) hx hb dX8_isLive_12 (by decide) (fun c2 => ?_) (fun c2 => ?_)
  · have h := g_ifn c2 h
    refine lv_iconst (v := 0) hx hb dX8_isLive_19 (by decide) ?_
    have h := Option.some.inj h
    exact g_zret C P rfl h rfl dX8_isLive_20
  have h := g_ifp c2 h
  refine lv_iconst (v := 1) hx hb dX8_isLive_15 (by decide) ?_
  refine lv_goto (tgt := 20) hx hb dX8_isLive_16 (by decide) ?_
  have h := Option.some.inj h
  exact g_zret C P rfl h rfl dX8_isLive_20
abbrev rmX8_isFrozen : Room := { frames := 1, cells := 0, slots := 0, locals := 20 }
theorem kdX8_isFrozen : yX8_isFrozen.cls = RX8 ∧ yX8_isFrozen.cls ≠ "java/lang/invoke/MethodHandle" ∧ yX8_isFrozen.cls ≠ "java/lang/invoke/VarHandle" ∧ (parseMethodDescriptor yX8_isFrozen.desc).map (fun d => d.parameters.length) = some 1 := by decide +kernel
set_option maxHeartbeats 4000000 in
set_option maxRecDepth 100000 in
theorem kX8_isFrozen (l : Launch) (X : gXt) (hJ : gJ X mL) (σ : gS) (a1 : Int32) (q : Int32) (h : qM_isFrozen σ a1 = some q) : gMi l yX8_isFrozen (gws yX8_isFrozen cX8_isFrozen 2 (some .boolean)) rmX8_isFrozen X mL [.ref (gad X 0), .int a1] σ q σ := by
  refine g_enter (cc := cX8_isFrozen) (nL := 2) (ret := (some .boolean)) hJ (plainFor_of_name (by decide)) (Nat.le_of_ble_eq_true rfl) ?_
  intro p e s m below meth c ls C P hl
  have C : gC p s m _ meth c RX8 cX8_isFrozen 2 (some .boolean) X mL := C
  have hx := C.1
  have hb := C.2.1
  have hK := C.2.2.2.2.2.2.2.1
  have hts := C.2.2.2.2.1
  have hl : lv_has ls 2 [(0, .ref (gad X 0)), (1, .int a1)] := hl
  unfold qM_isFrozen at h
  refine lv_aload_n hx hb dX8_isFrozen_0 rfl (lv_at hl 0 rfl) ?_
  refine g_getR C P ml0 rfl inlX8 0 (by decide) wd_95 rfl dX8_isFrozen_1 ?_
  refine lv_iload_n hx hb dX8_isFrozen_4 rfl (lv_at hl 1 rfl) ?_
  refine g_callSi (n := 1) (As := [.int a1]) (rest := [.ref (gad X 1)]) C P (kX8_piecePlace l X hJ σ a1 _ rfl) wd_198 wd_199 wd_5 wd_200 rfl rfl kdX8_piecePlace.2 ⟨Nat.le_of_ble_eq_true rfl, Nat.le_of_ble_eq_true rfl⟩ rfl rfl hl.1 (Nat.le_of_ble_eq_true rfl) dX8_isFrozen_5 (fun H locs P => ?_)
  refine lv_iconst (v := 2) hx hb dX8_isFrozen_8 (by decide) ?_
  refine lv_iadd hx hb dX8_isFrozen_9 ?_
  obtain ⟨b1, h⟩ := g_ob h
  refine g_iald (j := ((qM_piecePlace a1) + (2 : Int32)).toNatClampNeg) C P ml1 b1 rfl dX8_isFrozen_10 ?_
  refine lv_iconst (v := 1) hx hb dX8_isFrozen_11 (by decide) ?_
  refine lv_icmp_ne (tgt := 19) hx hb dX8_isFrozen_12 (by decide) (fun c2 => ?_) (fun c2 => ?_)
  · have h := g_ifn c2 h
    refine lv_iconst (v := 0) hx hb dX8_isFrozen_19 (by decide) ?_
    have h := Option.some.inj h
    exact g_zret C P rfl h rfl dX8_isFrozen_20
  have h := g_ifp c2 h
  refine lv_iconst (v := 1) hx hb dX8_isFrozen_15 (by decide) ?_
  refine lv_goto (tgt := 20) hx hb dX8_isFrozen_16 (by decide) ?_
  have h := Option.some.inj h
  exact g_zret C P rfl h rfl dX8_isFrozen_20
abbrev rmX8_bytePlace : Room := { frames := 1, cells := 0, slots := 0, locals := 20 }
theorem kdX8_bytePlace : yX8_bytePlace.cls = RX8 ∧ yX8_bytePlace.cls ≠ "java/lang/invoke/MethodHandle" ∧ yX8_bytePlace.cls ≠ "java/lang/invoke/VarHandle" ∧ (parseMethodDescriptor yX8_bytePlace.desc).map (fun d => d.parameters.length) = some 2 := by decide +kernel
set_option maxHeartbeats 4000000 in
set_option maxRecDepth 100000 in
theorem kX8_bytePlace (l : Launch) (X : gXt) (hJ : gJ X mL) (σ : gS) (a1 : Int32) (a2 : Int32) (q : Int32) (h : qM_bytePlace a1 a2 = q) : gMi l yX8_bytePlace (gws yX8_bytePlace cX8_bytePlace 2 (some .int)) rmX8_bytePlace X mL [.int a1, .int a2] σ q σ := by
  refine g_enter (cc := cX8_bytePlace) (nL := 2) (ret := (some .int)) hJ (plainFor_of_name (by decide)) (Nat.le_of_ble_eq_true rfl) ?_
  intro p e s m below meth c ls C P hl
  have C : gC p s m _ meth c RX8 cX8_bytePlace 2 (some .int) X mL := C
  have hx := C.1
  have hb := C.2.1
  have hK := C.2.2.2.2.2.2.2.1
  have hts := C.2.2.2.2.1
  have hl : lv_has ls 2 [(0, .int a1), (1, .int a2)] := hl
  unfold qM_bytePlace at h
  refine lv_iload_n hx hb dX8_bytePlace_0 rfl (lv_at hl 0 rfl) ?_
  refine g_callSi (n := 1) (As := [.int a1]) (rest := []) C P (kX8_piecePlace l X hJ σ a1 _ rfl) wd_198 wd_199 wd_5 wd_200 rfl rfl kdX8_piecePlace.2 ⟨Nat.le_of_ble_eq_true rfl, Nat.le_of_ble_eq_true rfl⟩ rfl rfl hl.1 (Nat.le_of_ble_eq_true rfl) dX8_bytePlace_1 (fun H locs P => ?_)
  refine lv_iconst (v := 3) hx hb dX8_bytePlace_4 (by decide) ?_
  refine lv_iadd hx hb dX8_bytePlace_5 ?_
  refine lv_iload_n hx hb dX8_bytePlace_6 rfl (lv_at hl 1 rfl) ?_
  refine lv_iadd hx hb dX8_bytePlace_7 ?_
  exact g_iret C P h rfl dX8_bytePlace_8
abbrev rmX8_isRegister : Room := { frames := 1, cells := 0, slots := 0, locals := 22 }
theorem kdX8_isRegister : yX8_isRegister.cls = RX8 ∧ yX8_isRegister.cls ≠ "java/lang/invoke/MethodHandle" ∧ yX8_isRegister.cls ≠ "java/lang/invoke/VarHandle" ∧ (parseMethodDescriptor yX8_isRegister.desc).map (fun d => d.parameters.length) = some 1 := by decide +kernel
set_option maxHeartbeats 4000000 in
set_option maxRecDepth 100000 in
theorem kX8_isRegister (l : Launch) (X : gXt) (hJ : gJ X mL) (σ : gS) (a1 : Int32) (q : Int32) (h : qM_isRegister a1 = q) : gMi l yX8_isRegister (gws yX8_isRegister cX8_isRegister 1 (some .boolean)) rmX8_isRegister X mL [.int a1] σ q σ := by
  refine g_enter (cc := cX8_isRegister) (nL := 1) (ret := (some .boolean)) hJ (plainFor_of_name (by decide)) (Nat.le_of_ble_eq_true rfl) ?_
  intro p e s m below meth c ls C P hl
  have C : gC p s m _ meth c RX8 cX8_isRegister 1 (some .boolean) X mL := C
  have hx := C.1
  have hb := C.2.1
  have hK := C.2.2.2.2.2.2.2.1
  have hts := C.2.2.2.2.1
  have hl : lv_has ls 1 [(0, .int a1)] := hl
  unfold qM_isRegister at h
  refine lv_iload_n hx hb dX8_isRegister_0 rfl (lv_at hl 0 rfl) ?_
  refine lv_iconst (v := 0) hx hb dX8_isRegister_1 (by decide) ?_
  refine lv_iconst (v := 5) hx hb dX8_isRegister_2 (by decide) ?_
  refine g_callSi (n := 3) (As := [.int a1, .int (0 : Int32), .int (5 : Int32)]) (rest := []) C P (kX8_in l X hJ σ a1 (0 : Int32) (5 : Int32) _ rfl) wd_195 wd_196 wd_5 wd_197 rfl rfl kdX8_in.2 ⟨Nat.le_of_ble_eq_true rfl, Nat.le_of_ble_eq_true rfl⟩ rfl rfl hl.1 (Nat.le_of_ble_eq_true rfl) dX8_isRegister_3 (fun H locs P => ?_)
  exact g_zret C P (g_bon (b01_X8_in a1 (0 : Int32) (5 : Int32))) h rfl dX8_isRegister_6
abbrev rmX8_kindOf : Room := { frames := 0, cells := 0, slots := 0, locals := 0 }
theorem kdX8_kindOf : yX8_kindOf.cls = RX8 ∧ yX8_kindOf.cls ≠ "java/lang/invoke/MethodHandle" ∧ yX8_kindOf.cls ≠ "java/lang/invoke/VarHandle" ∧ (parseMethodDescriptor yX8_kindOf.desc).map (fun d => d.parameters.length) = some 1 := by decide +kernel
set_option maxHeartbeats 4000000 in
set_option maxRecDepth 100000 in
theorem kX8_kindOf (l : Launch) (X : gXt) (hJ : gJ X mL) (σ : gS) (a1 : Int32) (q : Int32) (h : qM_kindOf σ a1 = some q) : gMi l yX8_kindOf (gws yX8_kindOf cX8_kindOf 2 (some .int)) rmX8_kindOf X mL [.ref (gad X 0), .int a1] σ q σ := by
  refine g_enter (cc := cX8_kindOf) (nL := 2) (ret := (some .int)) hJ (plainFor_of_name (by decide)) (Nat.le_of_ble_eq_true rfl) ?_
  intro p e s m below meth c ls C P hl
  have C : gC p s m _ meth c RX8 cX8_kindOf 2 (some .int) X mL := C
  have hx := C.1
  have hb := C.2.1
  have hK := C.2.2.2.2.2.2.2.1
  have hts := C.2.2.2.2.1
  have hl : lv_has ls 2 [(0, .ref (gad X 0)), (1, .int a1)] := hl
  unfold qM_kindOf at h
  refine lv_aload_n hx hb dX8_kindOf_0 rfl (lv_at hl 0 rfl) ?_
  refine g_getR C P ml0 rfl inlX8 0 (by decide) wd_95 rfl dX8_kindOf_1 ?_
  refine lv_sipush (v := 151) hx hb dX8_kindOf_4 (by decide) ?_
  refine lv_iconst (v := 3) hx hb dX8_kindOf_7 (by decide) ?_
  refine lv_iload_n hx hb dX8_kindOf_8 rfl (lv_at hl 1 rfl) ?_
  refine lv_imul hx hb dX8_kindOf_9 ?_
  refine lv_iadd hx hb dX8_kindOf_10 ?_
  obtain ⟨b1, h⟩ := g_ob h
  refine g_iald (j := ((151 : Int32) + ((3 : Int32) * a1)).toNatClampNeg) C P ml1 b1 rfl dX8_kindOf_11 ?_
  have h := Option.some.inj h
  exact g_iret C P h rfl dX8_kindOf_12
abbrev rmX8_valueOf : Room := { frames := 0, cells := 0, slots := 0, locals := 0 }
theorem kdX8_valueOf : yX8_valueOf.cls = RX8 ∧ yX8_valueOf.cls ≠ "java/lang/invoke/MethodHandle" ∧ yX8_valueOf.cls ≠ "java/lang/invoke/VarHandle" ∧ (parseMethodDescriptor yX8_valueOf.desc).map (fun d => d.parameters.length) = some 1 := by decide +kernel
set_option maxHeartbeats 4000000 in
set_option maxRecDepth 100000 in
theorem kX8_valueOf (l : Launch) (X : gXt) (hJ : gJ X mL) (σ : gS) (a1 : Int32) (q : Int32) (h : qM_valueOf σ a1 = some q) : gMi l yX8_valueOf (gws yX8_valueOf cX8_valueOf 2 (some .int)) rmX8_valueOf X mL [.ref (gad X 0), .int a1] σ q σ := by
  refine g_enter (cc := cX8_valueOf) (nL := 2) (ret := (some .int)) hJ (plainFor_of_name (by decide)) (Nat.le_of_ble_eq_true rfl) ?_
  intro p e s m below meth c ls C P hl
  have C : gC p s m _ meth c RX8 cX8_valueOf 2 (some .int) X mL := C
  have hx := C.1
  have hb := C.2.1
  have hK := C.2.2.2.2.2.2.2.1
  have hts := C.2.2.2.2.1
  have hl : lv_has ls 2 [(0, .ref (gad X 0)), (1, .int a1)] := hl
  unfold qM_valueOf at h
  refine lv_aload_n hx hb dX8_valueOf_0 rfl (lv_at hl 0 rfl) ?_
  refine g_getR C P ml0 rfl inlX8 0 (by decide) wd_95 rfl dX8_valueOf_1 ?_
  refine lv_sipush (v := 151) hx hb dX8_valueOf_4 (by decide) ?_
  refine lv_iconst (v := 3) hx hb dX8_valueOf_7 (by decide) ?_
  refine lv_iload_n hx hb dX8_valueOf_8 rfl (lv_at hl 1 rfl) ?_
  refine lv_imul hx hb dX8_valueOf_9 ?_
  refine lv_iadd hx hb dX8_valueOf_10 ?_
  refine lv_iconst (v := 1) hx hb dX8_valueOf_11 (by decide) ?_
  refine lv_iadd hx hb dX8_valueOf_12 ?_
  obtain ⟨b1, h⟩ := g_ob h
  refine g_iald (j := (((151 : Int32) + ((3 : Int32) * a1)) + (1 : Int32)).toNatClampNeg) C P ml1 b1 rfl dX8_valueOf_13 ?_
  have h := Option.some.inj h
  exact g_iret C P h rfl dX8_valueOf_14
abbrev rmX8_placeOf : Room := { frames := 0, cells := 0, slots := 0, locals := 0 }
theorem kdX8_placeOf : yX8_placeOf.cls = RX8 ∧ yX8_placeOf.cls ≠ "java/lang/invoke/MethodHandle" ∧ yX8_placeOf.cls ≠ "java/lang/invoke/VarHandle" ∧ (parseMethodDescriptor yX8_placeOf.desc).map (fun d => d.parameters.length) = some 1 := by decide +kernel
set_option maxHeartbeats 4000000 in
set_option maxRecDepth 100000 in
theorem kX8_placeOf (l : Launch) (X : gXt) (hJ : gJ X mL) (σ : gS) (a1 : Int32) (q : Int32) (h : qM_placeOf σ a1 = some q) : gMi l yX8_placeOf (gws yX8_placeOf cX8_placeOf 2 (some .int)) rmX8_placeOf X mL [.ref (gad X 0), .int a1] σ q σ := by
  refine g_enter (cc := cX8_placeOf) (nL := 2) (ret := (some .int)) hJ (plainFor_of_name (by decide)) (Nat.le_of_ble_eq_true rfl) ?_
  intro p e s m below meth c ls C P hl
  have C : gC p s m _ meth c RX8 cX8_placeOf 2 (some .int) X mL := C
  have hx := C.1
  have hb := C.2.1
  have hK := C.2.2.2.2.2.2.2.1
  have hts := C.2.2.2.2.1
  have hl : lv_has ls 2 [(0, .ref (gad X 0)), (1, .int a1)] := hl
  unfold qM_placeOf at h
  refine lv_aload_n hx hb dX8_placeOf_0 rfl (lv_at hl 0 rfl) ?_
  refine g_getR C P ml0 rfl inlX8 0 (by decide) wd_95 rfl dX8_placeOf_1 ?_
  refine lv_sipush (v := 151) hx hb dX8_placeOf_4 (by decide) ?_
  refine lv_iconst (v := 3) hx hb dX8_placeOf_7 (by decide) ?_
  refine lv_iload_n hx hb dX8_placeOf_8 rfl (lv_at hl 1 rfl) ?_
  refine lv_imul hx hb dX8_placeOf_9 ?_
  refine lv_iadd hx hb dX8_placeOf_10 ?_
  refine lv_iconst (v := 2) hx hb dX8_placeOf_11 (by decide) ?_
  refine lv_iadd hx hb dX8_placeOf_12 ?_
  obtain ⟨b1, h⟩ := g_ob h
  refine g_iald (j := (((151 : Int32) + ((3 : Int32) * a1)) + (2 : Int32)).toNatClampNeg) C P ml1 b1 rfl dX8_placeOf_13 ?_
  have h := Option.some.inj h
  exact g_iret C P h rfl dX8_placeOf_14
abbrev rmX8_tells : Room := { frames := 0, cells := 0, slots := 0, locals := 0 }
theorem kdX8_tells : yX8_tells.cls = RX8 ∧ yX8_tells.cls ≠ "java/lang/invoke/MethodHandle" ∧ yX8_tells.cls ≠ "java/lang/invoke/VarHandle" ∧ (parseMethodDescriptor yX8_tells.desc).map (fun d => d.parameters.length) = some 4 := by decide +kernel
set_option maxHeartbeats 4000000 in
set_option maxRecDepth 100000 in
theorem kX8_tells (l : Launch) (X : gXt) (hJ : gJ X mL) (σ : gS) (a1 : Int32) (a2 : Int32) (a3 : Int32) (a4 : Int32) (q : Int32 × gS) (h : qM_tells σ a1 a2 a3 a4 = some q) : gMi l yX8_tells (gws yX8_tells cX8_tells 5 (some .int)) rmX8_tells X mL [.ref (gad X 0), .int a1, .int a2, .int a3, .int a4] σ q.1 q.2 := by
  refine g_enter (cc := cX8_tells) (nL := 5) (ret := (some .int)) hJ (plainFor_of_name (by decide)) (Nat.le_of_ble_eq_true rfl) ?_
  intro p e s m below meth c ls C P hl
  have C : gC p s m _ meth c RX8 cX8_tells 5 (some .int) X mL := C
  have hx := C.1
  have hb := C.2.1
  have hK := C.2.2.2.2.2.2.2.1
  have hts := C.2.2.2.2.1
  have hl : lv_has ls 5 [(0, .ref (gad X 0)), (1, .int a1), (2, .int a2), (3, .int a3), (4, .int a4)] := hl
  unfold qM_tells at h
  refine lv_aload_n hx hb dX8_tells_0 rfl (lv_at hl 0 rfl) ?_
  refine g_getR C P ml0 rfl inlX8 0 (by decide) wd_95 rfl dX8_tells_1 ?_
  refine lv_sipush (v := 151) hx hb dX8_tells_4 (by decide) ?_
  refine lv_iconst (v := 3) hx hb dX8_tells_7 (by decide) ?_
  refine lv_iload_n hx hb dX8_tells_8 rfl (lv_at hl 1 rfl) ?_
  refine lv_imul hx hb dX8_tells_9 ?_
  refine lv_iadd hx hb dX8_tells_10 ?_
  refine lv_iload_n hx hb dX8_tells_11 rfl (lv_at hl 2 rfl) ?_
  obtain ⟨b1, h⟩ := g_ob h
  refine g_iast (j := ((151 : Int32) + ((3 : Int32) * a1)).toNatClampNeg) C P ml1 b1 rfl dX8_tells_12 (fun H locs P => ?_)
  refine lv_aload_n hx hb dX8_tells_13 rfl (lv_at hl 0 rfl) ?_
  refine g_getR C P ml0 rfl inlX8 0 (by decide) wd_95 rfl dX8_tells_14 ?_
  refine lv_sipush (v := 151) hx hb dX8_tells_17 (by decide) ?_
  refine lv_iconst (v := 3) hx hb dX8_tells_20 (by decide) ?_
  refine lv_iload_n hx hb dX8_tells_21 rfl (lv_at hl 1 rfl) ?_
  refine lv_imul hx hb dX8_tells_22 ?_
  refine lv_iadd hx hb dX8_tells_23 ?_
  refine lv_iconst (v := 1) hx hb dX8_tells_24 (by decide) ?_
  refine lv_iadd hx hb dX8_tells_25 ?_
  refine lv_iload_n hx hb dX8_tells_26 rfl (lv_at hl 3 rfl) ?_
  obtain ⟨b2, h⟩ := g_ob h
  refine g_iast (j := (((151 : Int32) + ((3 : Int32) * a1)) + (1 : Int32)).toNatClampNeg) C P ml1 b2 rfl dX8_tells_27 (fun H locs P => ?_)
  refine lv_aload_n hx hb dX8_tells_28 rfl (lv_at hl 0 rfl) ?_
  refine g_getR C P ml0 rfl inlX8 0 (by decide) wd_95 rfl dX8_tells_29 ?_
  refine lv_sipush (v := 151) hx hb dX8_tells_32 (by decide) ?_
  refine lv_iconst (v := 3) hx hb dX8_tells_35 (by decide) ?_
  refine lv_iload_n hx hb dX8_tells_36 rfl (lv_at hl 1 rfl) ?_
  refine lv_imul hx hb dX8_tells_37 ?_
  refine lv_iadd hx hb dX8_tells_38 ?_
  refine lv_iconst (v := 2) hx hb dX8_tells_39 (by decide) ?_
  refine lv_iadd hx hb dX8_tells_40 ?_
  refine lv_iload hx hb dX8_tells_41 (lv_at hl 4 rfl) ?_
  obtain ⟨b3, h⟩ := g_ob h
  refine g_iast (j := (((151 : Int32) + ((3 : Int32) * a1)) + (2 : Int32)).toNatClampNeg) C P ml1 b3 rfl dX8_tells_43 (fun H locs P => ?_)
  refine lv_iload_n hx hb dX8_tells_44 rfl (lv_at hl 2 rfl) ?_
  have h := Option.some.inj h
  exact g_iret C P (g_fst h) (g_snd h) dX8_tells_45
abbrev rmX8_undefinedAs : Room := { frames := 0, cells := 0, slots := 0, locals := 0 }
theorem kdX8_undefinedAs : yX8_undefinedAs.cls = RX8 ∧ yX8_undefinedAs.cls ≠ "java/lang/invoke/MethodHandle" ∧ yX8_undefinedAs.cls ≠ "java/lang/invoke/VarHandle" ∧ (parseMethodDescriptor yX8_undefinedAs.desc).map (fun d => d.parameters.length) = some 1 := by decide +kernel
set_option maxHeartbeats 4000000 in
set_option maxRecDepth 100000 in
theorem kX8_undefinedAs (l : Launch) (X : gXt) (hJ : gJ X mL) (σ : gS) (a1 : Int32) (q : Int32) (h : qM_undefinedAs a1 = q) : gMi l yX8_undefinedAs (gws yX8_undefinedAs cX8_undefinedAs 1 (some .int)) rmX8_undefinedAs X mL [.int a1] σ q σ := by
  refine g_enter (cc := cX8_undefinedAs) (nL := 1) (ret := (some .int)) hJ (plainFor_of_name (by decide)) (Nat.le_of_ble_eq_true rfl) ?_
  intro p e s m below meth c ls C P hl
  have C : gC p s m _ meth c RX8 cX8_undefinedAs 1 (some .int) X mL := C
  have hx := C.1
  have hb := C.2.1
  have hK := C.2.2.2.2.2.2.2.1
  have hts := C.2.2.2.2.1
  have hl : lv_has ls 1 [(0, .int a1)] := hl
  unfold qM_undefinedAs at h
  refine lv_bipush (v := -10) hx hb dX8_undefinedAs_0 (by decide) ?_
  refine lv_iload_n hx hb dX8_undefinedAs_2 rfl (lv_at hl 0 rfl) ?_
  refine lv_isub hx hb dX8_undefinedAs_3 ?_
  exact g_iret C P h rfl dX8_undefinedAs_4
abbrev rmX8_notGood : Room := { frames := 2, cells := 0, slots := 0, locals := 41 }
theorem kdX8_notGood : yX8_notGood.cls = RX8 ∧ yX8_notGood.cls ≠ "java/lang/invoke/MethodHandle" ∧ yX8_notGood.cls ≠ "java/lang/invoke/VarHandle" ∧ (parseMethodDescriptor yX8_notGood.desc).map (fun d => d.parameters.length) = some 1 := by decide +kernel
set_option maxHeartbeats 4000000 in
set_option maxRecDepth 100000 in
theorem kX8_notGood (l : Launch) (X : gXt) (hJ : gJ X mL) (σ : gS) (a1 : Int32) (q : Int32) (h : qM_notGood σ a1 = some q) : gMi l yX8_notGood (gws yX8_notGood cX8_notGood 2 (some .int)) rmX8_notGood X mL [.ref (gad X 0), .int a1] σ q σ := by
  refine g_enter (cc := cX8_notGood) (nL := 2) (ret := (some .int)) hJ (plainFor_of_name (by decide)) (Nat.le_of_ble_eq_true rfl) ?_
  intro p e s m below meth c ls C P hl
  have C : gC p s m _ meth c RX8 cX8_notGood 2 (some .int) X mL := C
  have hx := C.1
  have hb := C.2.1
  have hK := C.2.2.2.2.2.2.2.1
  have hts := C.2.2.2.2.1
  have hl : lv_has ls 2 [(0, .ref (gad X 0)), (1, .int a1)] := hl
  unfold qM_notGood at h
  refine lv_aload_n hx hb dX8_notGood_0 rfl (lv_at hl 0 rfl) ?_
  refine lv_iload_n hx hb dX8_notGood_1 rfl (lv_at hl 1 rfl) ?_
  obtain ⟨r1, hr1, h⟩ := g_bind h
  refine g_callVi (n := 1) (As := [.int a1]) (rest := []) C P (kX8_kindOf l X hJ σ a1 _ hr1) wd_213 wd_214 wd_215 wd_5 wd_216 rfl rfl kdX8_kindOf ⟨Nat.le_of_ble_eq_true rfl, Nat.le_of_ble_eq_true rfl⟩ ml0 rfl rfl rfl hl.1 (Nat.le_of_ble_eq_true rfl) dX8_notGood_2 (fun H locs P => ?_)
  refine lv_iconst (v := 2) hx hb dX8_notGood_5 (by decide) ?_
  refine lv_icmp_eq (tgt := 23) hx hb dX8_notGood_6 (by decide) (fun c2 => ?_) (fun c2 => ?_)
  · have h := g_ifp c2 h
    refine lv_aload_n hx hb dX8_notGood_23 rfl (lv_at hl 0 rfl) ?_
    refine lv_aload_n hx hb dX8_notGood_24 rfl (lv_at hl 0 rfl) ?_
    refine lv_iload_n hx hb dX8_notGood_25 rfl (lv_at hl 1 rfl) ?_
    obtain ⟨r3, hr3, h⟩ := g_bind h
    refine g_callVi (n := 1) (As := [.int a1]) (rest := [.ref (gad X 0)]) C P (kX8_valueOf l X hJ σ a1 _ hr3) wd_217 wd_218 wd_219 wd_5 wd_220 rfl rfl kdX8_valueOf ⟨Nat.le_of_ble_eq_true rfl, Nat.le_of_ble_eq_true rfl⟩ ml0 rfl rfl rfl hl.1 (Nat.le_of_ble_eq_true rfl) dX8_notGood_26 (fun H locs P => ?_)
    obtain ⟨r4, hr4, h⟩ := g_bind h
    refine g_callVi (n := 1) (As := [.int r3]) (rest := []) C P (kX8_isLive l X hJ σ r3 _ hr4) wd_221 wd_222 wd_223 wd_5 wd_224 rfl rfl kdX8_isLive ⟨Nat.le_of_ble_eq_true rfl, Nat.le_of_ble_eq_true rfl⟩ ml0 rfl rfl rfl hl.1 (Nat.le_of_ble_eq_true rfl) dX8_notGood_29 (fun H locs P => ?_)
    refine lv_if_eq (tgt := 39) hx hb dX8_notGood_32 (by decide) (fun c5 => ?_) (fun c5 => ?_)
    · have h := g_ifp c5 h
      refine lv_iconst (v := 3) hx hb dX8_notGood_39 (by decide) ?_
      have h := Option.some.inj h
      exact g_iret C P h rfl dX8_notGood_40
    have h := g_ifn c5 h
    refine lv_iconst (v := 0) hx hb dX8_notGood_35 (by decide) ?_
    refine lv_goto (tgt := 40) hx hb dX8_notGood_36 (by decide) ?_
    have h := Option.some.inj h
    exact g_iret C P h rfl dX8_notGood_40
  have h := g_ifn c2 h
  refine lv_aload_n hx hb dX8_notGood_9 rfl (lv_at hl 0 rfl) ?_
  refine lv_iload_n hx hb dX8_notGood_10 rfl (lv_at hl 1 rfl) ?_
  obtain ⟨r6, hr6, h⟩ := g_bind h
  refine g_callVi (n := 1) (As := [.int a1]) (rest := []) C P (kX8_kindOf l X hJ σ a1 _ hr6) wd_213 wd_214 wd_215 wd_5 wd_216 rfl rfl kdX8_kindOf ⟨Nat.le_of_ble_eq_true rfl, Nat.le_of_ble_eq_true rfl⟩ ml0 rfl rfl rfl hl.1 (Nat.le_of_ble_eq_true rfl) dX8_notGood_11 (fun H locs P => ?_)
  refine lv_if_ne (tgt := 21) hx hb dX8_notGood_14 (by decide) (fun c7 => ?_) (fun c7 => ?_)
  · have h := g_ifn c7 h
    refine lv_iconst (v := 2) hx hb dX8_notGood_21 (by decide) ?_
    have h := Option.some.inj h
    exact g_iret C P h rfl dX8_notGood_22
  have h := g_ifp c7 h
  refine lv_iconst (v := 1) hx hb dX8_notGood_17 (by decide) ?_
  refine lv_goto (tgt := 22) hx hb dX8_notGood_18 (by decide) ?_
  have h := Option.some.inj h
  exact g_iret C P h rfl dX8_notGood_22
abbrev rmX8_isWithin : Room := { frames := 2, cells := 0, slots := 0, locals := 41 }
theorem kdX8_isWithin : yX8_isWithin.cls = RX8 ∧ yX8_isWithin.cls ≠ "java/lang/invoke/MethodHandle" ∧ yX8_isWithin.cls ≠ "java/lang/invoke/VarHandle" ∧ (parseMethodDescriptor yX8_isWithin.desc).map (fun d => d.parameters.length) = some 2 := by decide +kernel
set_option maxHeartbeats 4000000 in
set_option maxRecDepth 100000 in
theorem kX8_isWithin (l : Launch) (X : gXt) (hJ : gJ X mL) (σ : gS) (a1 : Int32) (a2 : Int32) (q : Int32) (h : qM_isWithin σ a1 a2 = some q) : gMi l yX8_isWithin (gws yX8_isWithin cX8_isWithin 3 (some .boolean)) rmX8_isWithin X mL [.ref (gad X 0), .int a1, .int a2] σ q σ := by
  refine g_enter (cc := cX8_isWithin) (nL := 3) (ret := (some .boolean)) hJ (plainFor_of_name (by decide)) (Nat.le_of_ble_eq_true rfl) ?_
  intro p e s m below meth c ls C P hl
  have C : gC p s m _ meth c RX8 cX8_isWithin 3 (some .boolean) X mL := C
  have hx := C.1
  have hb := C.2.1
  have hK := C.2.2.2.2.2.2.2.1
  have hts := C.2.2.2.2.1
  have hl : lv_has ls 3 [(0, .ref (gad X 0)), (1, .int a1), (2, .int a2)] := hl
  unfold qM_isWithin at h
  refine lv_aload_n hx hb dX8_isWithin_0 rfl (lv_at hl 0 rfl) ?_
  refine lv_iload_n hx hb dX8_isWithin_1 rfl (lv_at hl 1 rfl) ?_
  obtain ⟨r1, hr1, h⟩ := g_bind h
  refine g_callVi (n := 1) (As := [.int a1]) (rest := []) C P (kX8_placeOf l X hJ σ a1 _ hr1) wd_225 wd_226 wd_227 wd_5 wd_228 rfl rfl kdX8_placeOf ⟨Nat.le_of_ble_eq_true rfl, Nat.le_of_ble_eq_true rfl⟩ ml0 rfl rfl rfl hl.1 (Nat.le_of_ble_eq_true rfl) dX8_isWithin_2 (fun H locs P => ?_)
  refine lv_iload_n hx hb dX8_isWithin_5 rfl (lv_at hl 2 rfl) ?_
  refine lv_iadd hx hb dX8_isWithin_6 ?_
  refine lv_aload_n hx hb dX8_isWithin_7 rfl (lv_at hl 0 rfl) ?_
  refine lv_aload_n hx hb dX8_isWithin_8 rfl (lv_at hl 0 rfl) ?_
  refine lv_iload_n hx hb dX8_isWithin_9 rfl (lv_at hl 1 rfl) ?_
  obtain ⟨r2, hr2, h⟩ := g_bind h
  refine g_callVi (n := 1) (As := [.int a1]) (rest := [.ref (gad X 0), .int (r1 + a2)]) C P (kX8_valueOf l X hJ σ a1 _ hr2) wd_217 wd_218 wd_219 wd_5 wd_220 rfl rfl kdX8_valueOf ⟨Nat.le_of_ble_eq_true rfl, Nat.le_of_ble_eq_true rfl⟩ ml0 rfl rfl rfl hl.1 (Nat.le_of_ble_eq_true rfl) dX8_isWithin_10 (fun H locs P => ?_)
  obtain ⟨r3, hr3, h⟩ := g_bind h
  refine g_callVi (n := 1) (As := [.int r2]) (rest := [.int (r1 + a2)]) C P (kX8_sizeOf l X hJ σ r2 _ hr3) wd_250 wd_251 wd_252 wd_5 wd_253 rfl rfl kdX8_sizeOf ⟨Nat.le_of_ble_eq_true rfl, Nat.le_of_ble_eq_true rfl⟩ ml0 rfl rfl rfl hl.1 (Nat.le_of_ble_eq_true rfl) dX8_isWithin_13 (fun H locs P => ?_)
  refine lv_icmp_gt (tgt := 23) hx hb dX8_isWithin_16 (by decide) (fun c4 => ?_) (fun c4 => ?_)
  · have h := g_ifp c4 h
    refine lv_iconst (v := 0) hx hb dX8_isWithin_23 (by decide) ?_
    have h := Option.some.inj h
    exact g_zret C P rfl h rfl dX8_isWithin_24
  have h := g_ifn c4 h
  refine lv_iconst (v := 1) hx hb dX8_isWithin_19 (by decide) ?_
  refine lv_goto (tgt := 24) hx hb dX8_isWithin_20 (by decide) ?_
  have h := Option.some.inj h
  exact g_zret C P rfl h rfl dX8_isWithin_24
abbrev rmX8_notGoodFor : Room := { frames := 3, cells := 0, slots := 0, locals := 63 }
theorem kdX8_notGoodFor : yX8_notGoodFor.cls = RX8 ∧ yX8_notGoodFor.cls ≠ "java/lang/invoke/MethodHandle" ∧ yX8_notGoodFor.cls ≠ "java/lang/invoke/VarHandle" ∧ (parseMethodDescriptor yX8_notGoodFor.desc).map (fun d => d.parameters.length) = some 2 := by decide +kernel
set_option maxHeartbeats 4000000 in
set_option maxRecDepth 100000 in
theorem kX8_notGoodFor (l : Launch) (X : gXt) (hJ : gJ X mL) (σ : gS) (a1 : Int32) (a2 : Int32) (q : Int32) (h : qM_notGoodFor σ a1 a2 = some q) : gMi l yX8_notGoodFor (gws yX8_notGoodFor cX8_notGoodFor 4 (some .int)) rmX8_notGoodFor X mL [.ref (gad X 0), .int a1, .int a2] σ q σ := by
  refine g_enter (cc := cX8_notGoodFor) (nL := 4) (ret := (some .int)) hJ (plainFor_of_name (by decide)) (Nat.le_of_ble_eq_true rfl) ?_
  intro p e s m below meth c ls C P hl
  have C : gC p s m _ meth c RX8 cX8_notGoodFor 4 (some .int) X mL := C
  have hx := C.1
  have hb := C.2.1
  have hK := C.2.2.2.2.2.2.2.1
  have hts := C.2.2.2.2.1
  have hl : lv_has ls 4 [(0, .ref (gad X 0)), (1, .int a1), (2, .int a2)] := hl
  unfold qM_notGoodFor at h
  refine lv_aload_n hx hb dX8_notGoodFor_0 rfl (lv_at hl 0 rfl) ?_
  refine lv_iload_n hx hb dX8_notGoodFor_1 rfl (lv_at hl 1 rfl) ?_
  obtain ⟨r1, hr1, h⟩ := g_bind h
  refine g_callVi (n := 1) (As := [.int a1]) (rest := []) C P (kX8_notGood l X hJ σ a1 _ hr1) wd_209 wd_210 wd_211 wd_5 wd_212 rfl rfl kdX8_notGood ⟨Nat.le_of_ble_eq_true rfl, Nat.le_of_ble_eq_true rfl⟩ ml0 rfl rfl rfl hl.1 (Nat.le_of_ble_eq_true rfl) dX8_notGoodFor_2 (fun H locs P => ?_)
  refine lv_istore_n (lv' := [(3, .int r1), (0, .ref (gad X 0)), (1, .int a1), (2, .int a2)]) hx hb dX8_notGoodFor_5 rfl hl (by decide) rfl (fun ls hl => ?_)
  refine lv_iload_n hx hb dX8_notGoodFor_6 rfl (lv_at hl 0 rfl) ?_
  refine lv_if_ne (tgt := 23) hx hb dX8_notGoodFor_7 (by decide) (fun c2 => ?_) (fun c2 => ?_)
  · have h := g_ifn c2 h
    refine lv_iload_n hx hb dX8_notGoodFor_23 rfl (lv_at hl 0 rfl) ?_
    have h := Option.some.inj h
    exact g_iret C P h rfl dX8_notGoodFor_24
  have h := g_ifp c2 h
  refine lv_aload_n hx hb dX8_notGoodFor_10 rfl (lv_at hl 1 rfl) ?_
  refine lv_iload_n hx hb dX8_notGoodFor_11 rfl (lv_at hl 2 rfl) ?_
  refine lv_iload_n hx hb dX8_notGoodFor_12 rfl (lv_at hl 3 rfl) ?_
  obtain ⟨r3, hr3, h⟩ := g_bind h
  refine g_callVi (n := 2) (As := [.int a1, .int a2]) (rest := []) C P (kX8_isWithin l X hJ σ a1 a2 _ hr3) wd_262 wd_263 wd_264 wd_5 wd_265 rfl rfl kdX8_isWithin ⟨Nat.le_of_ble_eq_true rfl, Nat.le_of_ble_eq_true rfl⟩ ml0 rfl rfl rfl hl.1 (Nat.le_of_ble_eq_true rfl) dX8_notGoodFor_13 (fun H locs P => ?_)
  refine lv_if_ne (tgt := 23) hx hb dX8_notGoodFor_16 (by decide) (fun c4 => ?_) (fun c4 => ?_)
  · have h := g_ifn c4 h
    refine lv_iload_n hx hb dX8_notGoodFor_23 rfl (lv_at hl 0 rfl) ?_
    have h := Option.some.inj h
    exact g_iret C P h rfl dX8_notGoodFor_24
  have h := g_ifp c4 h
  refine lv_iconst (v := 5) hx hb dX8_notGoodFor_19 (by decide) ?_
  refine lv_goto (tgt := 24) hx hb dX8_notGoodFor_20 (by decide) ?_
  have h := Option.some.inj h
  exact g_iret C P h rfl dX8_notGoodFor_24
abbrev rmX8_notToWrite : Room := { frames := 3, cells := 0, slots := 0, locals := 63 }
theorem kdX8_notToWrite : yX8_notToWrite.cls = RX8 ∧ yX8_notToWrite.cls ≠ "java/lang/invoke/MethodHandle" ∧ yX8_notToWrite.cls ≠ "java/lang/invoke/VarHandle" ∧ (parseMethodDescriptor yX8_notToWrite.desc).map (fun d => d.parameters.length) = some 2 := by decide +kernel
set_option maxHeartbeats 4000000 in
set_option maxRecDepth 100000 in
theorem kX8_notToWrite (l : Launch) (X : gXt) (hJ : gJ X mL) (σ : gS) (a1 : Int32) (a2 : Int32) (q : Int32) (h : qM_notToWrite σ a1 a2 = some q) : gMi l yX8_notToWrite (gws yX8_notToWrite cX8_notToWrite 4 (some .int)) rmX8_notToWrite X mL [.ref (gad X 0), .int a1, .int a2] σ q σ := by
  refine g_enter (cc := cX8_notToWrite) (nL := 4) (ret := (some .int)) hJ (plainFor_of_name (by decide)) (Nat.le_of_ble_eq_true rfl) ?_
  intro p e s m below meth c ls C P hl
  have C : gC p s m _ meth c RX8 cX8_notToWrite 4 (some .int) X mL := C
  have hx := C.1
  have hb := C.2.1
  have hK := C.2.2.2.2.2.2.2.1
  have hts := C.2.2.2.2.1
  have hl : lv_has ls 4 [(0, .ref (gad X 0)), (1, .int a1), (2, .int a2)] := hl
  unfold qM_notToWrite at h
  refine lv_aload_n hx hb dX8_notToWrite_0 rfl (lv_at hl 0 rfl) ?_
  refine lv_iload_n hx hb dX8_notToWrite_1 rfl (lv_at hl 1 rfl) ?_
  obtain ⟨r1, hr1, h⟩ := g_bind h
  refine g_callVi (n := 1) (As := [.int a1]) (rest := []) C P (kX8_notGood l X hJ σ a1 _ hr1) wd_209 wd_210 wd_211 wd_5 wd_212 rfl rfl kdX8_notGood ⟨Nat.le_of_ble_eq_true rfl, Nat.le_of_ble_eq_true rfl⟩ ml0 rfl rfl rfl hl.1 (Nat.le_of_ble_eq_true rfl) dX8_notToWrite_2 (fun H locs P => ?_)
  refine lv_istore_n (lv' := [(3, .int r1), (0, .ref (gad X 0)), (1, .int a1), (2, .int a2)]) hx hb dX8_notToWrite_5 rfl hl (by decide) rfl (fun ls hl => ?_)
  refine lv_iload_n hx hb dX8_notToWrite_6 rfl (lv_at hl 0 rfl) ?_
  refine lv_if_eq (tgt := 12) hx hb dX8_notToWrite_7 (by decide) (fun c2 => ?_) (fun c2 => ?_)
  · have h := g_ifp c2 h
    refine lv_aload_n hx hb dX8_notToWrite_12 rfl (lv_at hl 1 rfl) ?_
    refine lv_aload_n hx hb dX8_notToWrite_13 rfl (lv_at hl 1 rfl) ?_
    refine lv_iload_n hx hb dX8_notToWrite_14 rfl (lv_at hl 2 rfl) ?_
    obtain ⟨r3, hr3, h⟩ := g_bind h
    refine g_callVi (n := 1) (As := [.int a1]) (rest := [.ref (gad X 0)]) C P (kX8_valueOf l X hJ σ a1 _ hr3) wd_217 wd_218 wd_219 wd_5 wd_220 rfl rfl kdX8_valueOf ⟨Nat.le_of_ble_eq_true rfl, Nat.le_of_ble_eq_true rfl⟩ ml0 rfl rfl rfl hl.1 (Nat.le_of_ble_eq_true rfl) dX8_notToWrite_15 (fun H locs P => ?_)
    obtain ⟨r4, hr4, h⟩ := g_bind h
    refine g_callVi (n := 1) (As := [.int r3]) (rest := []) C P (kX8_isFrozen l X hJ σ r3 _ hr4) wd_229 wd_230 wd_231 wd_5 wd_232 rfl rfl kdX8_isFrozen ⟨Nat.le_of_ble_eq_true rfl, Nat.le_of_ble_eq_true rfl⟩ ml0 rfl rfl rfl hl.1 (Nat.le_of_ble_eq_true rfl) dX8_notToWrite_18 (fun H locs P => ?_)
    refine lv_if_eq (tgt := 28) hx hb dX8_notToWrite_21 (by decide) (fun c5 => ?_) (fun c5 => ?_)
    · have h := g_ifp c5 h
      refine lv_aload_n hx hb dX8_notToWrite_28 rfl (lv_at hl 1 rfl) ?_
      refine lv_iload_n hx hb dX8_notToWrite_29 rfl (lv_at hl 2 rfl) ?_
      refine lv_iload_n hx hb dX8_notToWrite_30 rfl (lv_at hl 3 rfl) ?_
      obtain ⟨r6, hr6, h⟩ := g_bind h
      refine g_callVi (n := 2) (As := [.int a1, .int a2]) (rest := []) C P (kX8_isWithin l X hJ σ a1 a2 _ hr6) wd_262 wd_263 wd_264 wd_5 wd_265 rfl rfl kdX8_isWithin ⟨Nat.le_of_ble_eq_true rfl, Nat.le_of_ble_eq_true rfl⟩ ml0 rfl rfl rfl hl.1 (Nat.le_of_ble_eq_true rfl) dX8_notToWrite_31 (fun H locs P => ?_)
      refine lv_if_eq (tgt := 41) hx hb dX8_notToWrite_34 (by decide) (fun c7 => ?_) (fun c7 => ?_)
      · have h := g_ifp c7 h
        refine lv_iconst (v := 5) hx hb dX8_notToWrite_41 (by decide) ?_
        have h := Option.some.inj h
        exact g_iret C P h rfl dX8_notToWrite_42
      have h := g_ifn c7 h
      refine lv_iconst (v := 0) hx hb dX8_notToWrite_37 (by decide) ?_
      refine lv_goto (tgt := 42) hx hb dX8_notToWrite_38 (by decide) ?_
      have h := Option.some.inj h
      exact g_iret C P h rfl dX8_notToWrite_42
    have h := g_ifn c5 h
    refine lv_iconst (v := 4) hx hb dX8_notToWrite_24 (by decide) ?_
    refine lv_goto (tgt := 42) hx hb dX8_notToWrite_25 (by decide) ?_
    have h := Option.some.inj h
    exact g_iret C P h rfl dX8_notToWrite_42
  have h := g_ifn c2 h
  refine lv_iload_n hx hb dX8_notToWrite_10 rfl (lv_at hl 0 rfl) ?_
  have h := Option.some.inj h
  exact g_iret C P h rfl dX8_notToWrite_11
abbrev rmX8_cuts : Room := { frames := 2, cells := 0, slots := 0, locals := 41 }
theorem kdX8_cuts : yX8_cuts.cls = RX8 ∧ yX8_cuts.cls ≠ "java/lang/invoke/MethodHandle" ∧ yX8_cuts.cls ≠ "java/lang/invoke/VarHandle" ∧ (parseMethodDescriptor yX8_cuts.desc).map (fun d => d.parameters.length) = some 3 := by decide +kernel
set_option maxHeartbeats 4000000 in
set_option maxRecDepth 100000 in
theorem kX8_cuts (l : Launch) (X : gXt) (hJ : gJ X mL) (σ : gS) (a1 : Int32) (a2 : Int32) (a3 : Int32) (q : gS) (h : qM_cuts σ a1 a2 a3 = some q) : gMv l yX8_cuts (gws yX8_cuts cX8_cuts 4 none) rmX8_cuts X mL [.ref (gad X 0), .int a1, .int a2, .int a3] σ q := by
  refine g_enter (cc := cX8_cuts) (nL := 4) (ret := none) hJ (plainFor_of_name (by decide)) (Nat.le_of_ble_eq_true rfl) ?_
  intro p e s m below meth c ls C P hl
  have C : gC p s m _ meth c RX8 cX8_cuts 4 none X mL := C
  have hx := C.1
  have hb := C.2.1
  have hK := C.2.2.2.2.2.2.2.1
  have hts := C.2.2.2.2.1
  have hl : lv_has ls 4 [(0, .ref (gad X 0)), (1, .int a1), (2, .int a2), (3, .int a3)] := hl
  unfold qM_cuts at h
  refine lv_aload_n hx hb dX8_cuts_0 rfl (lv_at hl 0 rfl) ?_
  refine g_getR C P ml0 rfl inlX8 0 (by decide) wd_95 rfl dX8_cuts_1 ?_
  refine lv_iload_n hx hb dX8_cuts_4 rfl (lv_at hl 1 rfl) ?_
  refine lv_iload_n hx hb dX8_cuts_5 rfl (lv_at hl 2 rfl) ?_
  refine g_callSi (n := 2) (As := [.int a1, .int a2]) (rest := [.ref (gad X 1)]) C P (kX8_bytePlace l X hJ σ a1 a2 _ rfl) wd_270 wd_271 wd_5 wd_272 rfl rfl kdX8_bytePlace.2 ⟨Nat.le_of_ble_eq_true rfl, Nat.le_of_ble_eq_true rfl⟩ rfl rfl hl.1 (Nat.le_of_ble_eq_true rfl) dX8_cuts_6 (fun H locs P => ?_)
  obtain ⟨b1, h⟩ := g_ob h
  refine g_iald (j := (qM_bytePlace a1 a2).toNatClampNeg) C P ml1 b1 rfl dX8_cuts_9 ?_
  refine lv_sipush (v := 999) hx hb dX8_cuts_10 (by decide) ?_
  refine lv_icmp_ne (tgt := 29) hx hb dX8_cuts_13 (by decide) (fun c2 => ?_) (fun c2 => ?_)
  · have h := g_ifn c2 h
    refine lv_aload_n hx hb dX8_cuts_29 rfl (lv_at hl 0 rfl) ?_
    refine g_getR C P ml0 rfl inlX8 0 (by decide) wd_95 rfl dX8_cuts_30 ?_
    refine lv_iload_n hx hb dX8_cuts_33 rfl (lv_at hl 1 rfl) ?_
    refine lv_iload_n hx hb dX8_cuts_34 rfl (lv_at hl 2 rfl) ?_
    refine lv_iload_n hx hb dX8_cuts_35 rfl (lv_at hl 3 rfl) ?_
    refine lv_iadd hx hb dX8_cuts_36 ?_
    refine lv_iconst (v := 1) hx hb dX8_cuts_37 (by decide) ?_
    refine lv_isub hx hb dX8_cuts_38 ?_
    refine g_callSi (n := 2) (As := [.int a1, .int ((a2 + a3) - (1 : Int32))]) (rest := [.ref (gad X 1)]) C P (kX8_bytePlace l X hJ σ a1 ((a2 + a3) - (1 : Int32)) _ rfl) wd_270 wd_271 wd_5 wd_272 rfl rfl kdX8_bytePlace.2 ⟨Nat.le_of_ble_eq_true rfl, Nat.le_of_ble_eq_true rfl⟩ rfl rfl hl.1 (Nat.le_of_ble_eq_true rfl) dX8_cuts_39 (fun H locs P => ?_)
    obtain ⟨b3, h⟩ := g_ob h
    refine g_iald (j := (qM_bytePlace a1 ((a2 + a3) - (1 : Int32))).toNatClampNeg) C P ml1 b3 rfl dX8_cuts_42 ?_
    refine lv_sipush (v := 1000) hx hb dX8_cuts_43 (by decide) ?_
    refine lv_icmp_lt (tgt := 62) hx hb dX8_cuts_46 (by decide) (fun c4 => ?_) (fun c4 => ?_)
    · have h := g_ifp c4 h
      have h := Option.some.inj h
      exact g_vret C P h dX8_cuts_62
    have h := g_ifn c4 h
    refine lv_aload_n hx hb dX8_cuts_49 rfl (lv_at hl 0 rfl) ?_
    refine g_getR C P ml0 rfl inlX8 0 (by decide) wd_95 rfl dX8_cuts_50 ?_
    refine lv_iload_n hx hb dX8_cuts_53 rfl (lv_at hl 1 rfl) ?_
    refine lv_iload_n hx hb dX8_cuts_54 rfl (lv_at hl 2 rfl) ?_
    refine lv_iload_n hx hb dX8_cuts_55 rfl (lv_at hl 3 rfl) ?_
    refine lv_iadd hx hb dX8_cuts_56 ?_
    refine g_callSi (n := 2) (As := [.int a1, .int (a2 + a3)]) (rest := [.ref (gad X 1)]) C P (kX8_bytePlace l X hJ σ a1 (a2 + a3) _ rfl) wd_270 wd_271 wd_5 wd_272 rfl rfl kdX8_bytePlace.2 ⟨Nat.le_of_ble_eq_true rfl, Nat.le_of_ble_eq_true rfl⟩ rfl rfl hl.1 (Nat.le_of_ble_eq_true rfl) dX8_cuts_57 (fun H locs P => ?_)
    refine lv_iconst (v := -1) hx hb dX8_cuts_60 (by decide) ?_
    obtain ⟨b5, h⟩ := g_ob h
    refine g_iast (j := (qM_bytePlace a1 (a2 + a3)).toNatClampNeg) C P ml1 b5 rfl dX8_cuts_61 (fun H locs P => ?_)
    have h := Option.some.inj h
    exact g_vret C P h dX8_cuts_62
  have h := g_ifp c2 h
  refine lv_aload_n hx hb dX8_cuts_16 rfl (lv_at hl 0 rfl) ?_
  refine g_getR C P ml0 rfl inlX8 0 (by decide) wd_95 rfl dX8_cuts_17 ?_
  refine lv_iload_n hx hb dX8_cuts_20 rfl (lv_at hl 1 rfl) ?_
  refine lv_iload_n hx hb dX8_cuts_21 rfl (lv_at hl 2 rfl) ?_
  refine lv_iconst (v := 1) hx hb dX8_cuts_22 (by decide) ?_
  refine lv_isub hx hb dX8_cuts_23 ?_
  refine g_callSi (n := 2) (As := [.int a1, .int (a2 - (1 : Int32))]) (rest := [.ref (gad X 1)]) C P (kX8_bytePlace l X hJ σ a1 (a2 - (1 : Int32)) _ rfl) wd_270 wd_271 wd_5 wd_272 rfl rfl kdX8_bytePlace.2 ⟨Nat.le_of_ble_eq_true rfl, Nat.le_of_ble_eq_true rfl⟩ rfl rfl hl.1 (Nat.le_of_ble_eq_true rfl) dX8_cuts_24 (fun H locs P => ?_)
  refine lv_iconst (v := -1) hx hb dX8_cuts_27 (by decide) ?_
  obtain ⟨b6, h⟩ := g_ob h
  refine g_iast (j := (qM_bytePlace a1 (a2 - (1 : Int32))).toNatClampNeg) C P ml1 b6 rfl dX8_cuts_28 (fun H locs P => ?_)
  refine lv_aload_n hx hb dX8_cuts_29 rfl (lv_at hl 0 rfl) ?_
  refine g_getR C P ml0 rfl inlX8 0 (by decide) wd_95 rfl dX8_cuts_30 ?_
  refine lv_iload_n hx hb dX8_cuts_33 rfl (lv_at hl 1 rfl) ?_
  refine lv_iload_n hx hb dX8_cuts_34 rfl (lv_at hl 2 rfl) ?_
  refine lv_iload_n hx hb dX8_cuts_35 rfl (lv_at hl 3 rfl) ?_
  refine lv_iadd hx hb dX8_cuts_36 ?_
  refine lv_iconst (v := 1) hx hb dX8_cuts_37 (by decide) ?_
  refine lv_isub hx hb dX8_cuts_38 ?_
  refine g_callSi (n := 2) (As := [.int a1, .int ((a2 + a3) - (1 : Int32))]) (rest := [.ref (gad X 1)]) C P (kX8_bytePlace l X hJ (sM σ 1 (qM_bytePlace a1 (a2 - (1 : Int32))).toNatClampNeg (-1 : Int32)) a1 ((a2 + a3) - (1 : Int32)) _ rfl) wd_270 wd_271 wd_5 wd_272 rfl rfl kdX8_bytePlace.2 ⟨Nat.le_of_ble_eq_true rfl, Nat.le_of_ble_eq_true rfl⟩ rfl rfl hl.1 (Nat.le_of_ble_eq_true rfl) dX8_cuts_39 (fun H locs P => ?_)
  obtain ⟨b7, h⟩ := g_ob h
  refine g_iald (j := (qM_bytePlace a1 ((a2 + a3) - (1 : Int32))).toNatClampNeg) C P ml1 b7 rfl dX8_cuts_42 ?_
  refine lv_sipush (v := 1000) hx hb dX8_cuts_43 (by decide) ?_
  refine lv_icmp_lt (tgt := 62) hx hb dX8_cuts_46 (by decide) (fun c8 => ?_) (fun c8 => ?_)
  · have h := g_ifp c8 h
    have h := Option.some.inj h
    exact g_vret C P h dX8_cuts_62
  have h := g_ifn c8 h
  refine lv_aload_n hx hb dX8_cuts_49 rfl (lv_at hl 0 rfl) ?_
  refine g_getR C P ml0 rfl inlX8 0 (by decide) wd_95 rfl dX8_cuts_50 ?_
  refine lv_iload_n hx hb dX8_cuts_53 rfl (lv_at hl 1 rfl) ?_
  refine lv_iload_n hx hb dX8_cuts_54 rfl (lv_at hl 2 rfl) ?_
  refine lv_iload_n hx hb dX8_cuts_55 rfl (lv_at hl 3 rfl) ?_
  refine lv_iadd hx hb dX8_cuts_56 ?_
  refine g_callSi (n := 2) (As := [.int a1, .int (a2 + a3)]) (rest := [.ref (gad X 1)]) C P (kX8_bytePlace l X hJ (sM σ 1 (qM_bytePlace a1 (a2 - (1 : Int32))).toNatClampNeg (-1 : Int32)) a1 (a2 + a3) _ rfl) wd_270 wd_271 wd_5 wd_272 rfl rfl kdX8_bytePlace.2 ⟨Nat.le_of_ble_eq_true rfl, Nat.le_of_ble_eq_true rfl⟩ rfl rfl hl.1 (Nat.le_of_ble_eq_true rfl) dX8_cuts_57 (fun H locs P => ?_)
  refine lv_iconst (v := -1) hx hb dX8_cuts_60 (by decide) ?_
  obtain ⟨b9, h⟩ := g_ob h
  refine g_iast (j := (qM_bytePlace a1 (a2 + a3)).toNatClampNeg) C P ml1 b9 rfl dX8_cuts_61 (fun H locs P => ?_)
  have h := Option.some.inj h
  exact g_vret C P h dX8_cuts_62
abbrev rmX8_makes : Room := { frames := 2, cells := 0, slots := 0, locals := 42 }
theorem kdX8_makes : yX8_makes.cls = RX8 ∧ yX8_makes.cls ≠ "java/lang/invoke/MethodHandle" ∧ yX8_makes.cls ≠ "java/lang/invoke/VarHandle" ∧ (parseMethodDescriptor yX8_makes.desc).map (fun d => d.parameters.length) = some 2 := by decide +kernel
set_option maxHeartbeats 4000000 in
set_option maxRecDepth 100000 in
theorem kX8_makes_78 {p : Program} {l : Launch} {e : Env} {s : State} {m : MethodId} {args : Array Value} {below : List Frame} {meth : Method} {c : Code} {X : gXt} (hJ : gJ X mL) (C : gC p s m args meth c RX8 cX8_makes 6 (some .int) X mL) (f78_1 : Int32) (f78_2 : Int32) (f78_3 : Int32) (f78_4 : Int32) (k : gS → Option (Int32 × gS)) (q : Int32 × gS) (hk : ∀ (σ' : gS) (H : Heap) (locs : List Loc) (ls : Array Slot), k σ' = some q → gH X mL σ' s H locs → lv_has ls 6 [(0, .ref (gad X 0)), (1, .int f78_1), (3, .int f78_3)] → W p l e rmX8_makes s m args below meth c H locs 0 0 (MQ below (gQi X mL q.1 q.2) args s 0 0 (gA X mL)) (F0 m 114 ls [])) : ∀ (n : Nat) (σ : gS) (v5 : Int32), qM_makes_78 f78_1 f78_2 f78_3 f78_4 k n σ v5 = some q → ∀ (H : Heap) (locs : List Loc) (ls : Array Slot), gH X mL σ s H locs → lv_has ls 6 [(0, .ref (gad X 0)), (1, .int f78_1), (2, .int f78_2), (3, .int f78_3), (4, .int f78_4), (5, .int v5)] → W p l e rmX8_makes s m args below meth c H locs 0 0 (MQ below (gQi X mL q.1 q.2) args s 0 0 (gA X mL)) (F0 m 78 ls []) := by
  have hx := C.1
  have hb := C.2.1
  have hK := C.2.2.2.2.2.2.2.1
  have hts := C.2.2.2.2.1
  intro n
  induction n with
  | zero => intro σ v5 h; cases h
  | succ n ih =>
    intro σ v5 h H locs ls P hl
    have h : (if (12 : Int32) ≤ v5 then k σ else (if f78_2 ≤ v5 then gob ((f78_4 + (3 : Int32)) + v5) 1219 (qM_makes_78 f78_1 f78_2 f78_3 f78_4 k n (sM σ 1 ((f78_4 + (3 : Int32)) + v5).toNatClampNeg (0 : Int32)) (v5 + 1)) else gob ((f78_4 + (3 : Int32)) + v5) 1219 (qM_makes_78 f78_1 f78_2 f78_3 f78_4 k n (sM σ 1 ((f78_4 + (3 : Int32)) + v5).toNatClampNeg (-1 : Int32)) (v5 + 1)))) = some q := h
    refine lv_iload hx hb dX8_makes_78 (lv_at hl 5 rfl) ?_
    refine lv_bipush (v := 12) hx hb dX8_makes_80 (by decide) ?_
    refine lv_icmp_ge (tgt := 114) hx hb dX8_makes_82 (by decide) (fun c7 => ?_) (fun c7 => ?_)
    · have h := g_ifp c7 h
      exact hk σ _ _ _ h P (lv_sub hl [0, 1, 3] rfl)
    have h := g_ifn c7 h
    refine lv_aload_n hx hb dX8_makes_85 rfl (lv_at hl 0 rfl) ?_
    refine g_getR C P ml0 rfl inlX8 0 (by decide) wd_95 rfl dX8_makes_86 ?_
    refine lv_iload hx hb dX8_makes_89 (lv_at hl 4 rfl) ?_
    refine lv_iconst (v := 3) hx hb dX8_makes_91 (by decide) ?_
    refine lv_iadd hx hb dX8_makes_92 ?_
    refine lv_iload hx hb dX8_makes_93 (lv_at hl 5 rfl) ?_
    refine lv_iadd hx hb dX8_makes_95 ?_
    refine lv_iload hx hb dX8_makes_96 (lv_at hl 5 rfl) ?_
    refine lv_iload_n hx hb dX8_makes_98 rfl (lv_at hl 2 rfl) ?_
    refine lv_icmp_ge (tgt := 106) hx hb dX8_makes_99 (by decide) (fun c8 => ?_) (fun c8 => ?_)
    · have h := g_ifp c8 h
      refine lv_iconst (v := 0) hx hb dX8_makes_106 (by decide) ?_
      obtain ⟨b9, h⟩ := g_ob h
      refine g_iast (j := ((f78_4 + (3 : Int32)) + v5).toNatClampNeg) C P ml1 b9 rfl dX8_makes_107 (fun H locs P => ?_)
      refine lv_iinc (v := (v5 + 1)) (lv' := [(5, .int (v5 + 1)), (0, .ref (gad X 0)), (1, .int f78_1), (2, .int f78_2), (3, .int f78_3), (4, .int f78_4)]) hx hb dX8_makes_108 hl (k := 5) rfl rfl (by decide) rfl (fun ls hl => ?_)
      refine lv_goto (tgt := 78) hx hb dX8_makes_111 (by decide) ?_
      exact ih (sM σ 1 ((f78_4 + (3 : Int32)) + v5).toNatClampNeg (0 : Int32)) (v5 + 1) h _ _ _ P (lv_sub hl [1, 2, 3, 4, 5, 0] rfl)
    have h := g_ifn c8 h
    refine lv_iconst (v := -1) hx hb dX8_makes_102 (by decide) ?_
    refine lv_goto (tgt := 107) hx hb dX8_makes_103 (by decide) ?_
    obtain ⟨b10, h⟩ := g_ob h
    refine g_iast (j := ((f78_4 + (3 : Int32)) + v5).toNatClampNeg) C P ml1 b10 rfl dX8_makes_107 (fun H locs P => ?_)
    refine lv_iinc (v := (v5 + 1)) (lv' := [(5, .int (v5 + 1)), (0, .ref (gad X 0)), (1, .int f78_1), (2, .int f78_2), (3, .int f78_3), (4, .int f78_4)]) hx hb dX8_makes_108 hl (k := 5) rfl rfl (by decide) rfl (fun ls hl => ?_)
    refine lv_goto (tgt := 78) hx hb dX8_makes_111 (by decide) ?_
    exact ih (sM σ 1 ((f78_4 + (3 : Int32)) + v5).toNatClampNeg (-1 : Int32)) (v5 + 1) h _ _ _ P (lv_sub hl [1, 2, 3, 4, 5, 0] rfl)
set_option maxHeartbeats 4000000 in
set_option maxRecDepth 100000 in
theorem kX8_makes (l : Launch) (X : gXt) (hJ : gJ X mL) (σ : gS) (a1 : Int32) (a2 : Int32) (q : Int32 × gS) (h : qM_makes σ a1 a2 = some q) : gMi l yX8_makes (gws yX8_makes cX8_makes 6 (some .int)) rmX8_makes X mL [.ref (gad X 0), .int a1, .int a2] σ q.1 q.2 := by
  refine g_enter (cc := cX8_makes) (nL := 6) (ret := (some .int)) hJ (plainFor_of_name (by decide)) (Nat.le_of_ble_eq_true rfl) ?_
  intro p e s m below meth c ls C P hl
  have C : gC p s m _ meth c RX8 cX8_makes 6 (some .int) X mL := C
  have hx := C.1
  have hb := C.2.1
  have hK := C.2.2.2.2.2.2.2.1
  have hts := C.2.2.2.2.1
  have hl : lv_has ls 6 [(0, .ref (gad X 0)), (1, .int a1), (2, .int a2)] := hl
  unfold qM_makes at h
  refine lv_iload_n hx hb dX8_makes_0 rfl (lv_at hl 1 rfl) ?_
  refine g_callSi (n := 1) (As := [.int a1]) (rest := []) C P (kX8_isRegister l X hJ σ a1 _ rfl) wd_192 wd_193 wd_5 wd_194 rfl rfl kdX8_isRegister.2 ⟨Nat.le_of_ble_eq_true rfl, Nat.le_of_ble_eq_true rfl⟩ rfl rfl hl.1 (Nat.le_of_ble_eq_true rfl) dX8_makes_1 (fun H locs P => ?_)
  refine lv_if_eq (tgt := 17) hx hb dX8_makes_4 (by decide) (fun c1 => ?_) (fun c1 => ?_)
  · have h := g_ifp c1 h
    refine lv_bipush (v := -2) hx hb dX8_makes_17 (by decide) ?_
    have h := Option.some.inj h
    exact g_iret C P (g_fst h) (g_snd h) dX8_makes_19
  have h := g_ifn c1 h
  refine lv_iload_n hx hb dX8_makes_7 rfl (lv_at hl 2 rfl) ?_
  refine lv_iconst (v := 1) hx hb dX8_makes_8 (by decide) ?_
  refine lv_bipush (v := 12) hx hb dX8_makes_9 (by decide) ?_
  refine g_callSi (n := 3) (As := [.int a2, .int (1 : Int32), .int (12 : Int32)]) (rest := []) C P (kX8_in l X hJ σ a2 (1 : Int32) (12 : Int32) _ rfl) wd_195 wd_196 wd_5 wd_197 rfl rfl kdX8_in.2 ⟨Nat.le_of_ble_eq_true rfl, Nat.le_of_ble_eq_true rfl⟩ rfl rfl hl.1 (Nat.le_of_ble_eq_true rfl) dX8_makes_11 (fun H locs P => ?_)
  refine lv_if_ne (tgt := 20) hx hb dX8_makes_14 (by decide) (fun c2 => ?_) (fun c2 => ?_)
  · have h := g_ifn c2 h
    refine lv_aload_n hx hb dX8_makes_20 rfl (lv_at hl 0 rfl) ?_
    refine g_getR C P ml0 rfl inlX8 0 (by decide) wd_95 rfl dX8_makes_21 ?_
    refine lv_iconst (v := 0) hx hb dX8_makes_24 (by decide) ?_
    refine g_iald (j := 0) C P ml1 (vp_in_iff.mpr ⟨by decide, by decide⟩) (by decide) dX8_makes_25 ?_
    refine lv_bipush (v := 10) hx hb dX8_makes_26 (by decide) ?_
    refine lv_icmp_ne (tgt := 34) hx hb dX8_makes_28 (by decide) (fun c3 => ?_) (fun c3 => ?_)
    · have h := g_ifn c3 h
      refine lv_aload_n hx hb dX8_makes_34 rfl (lv_at hl 0 rfl) ?_
      refine g_getR C P ml0 rfl inlX8 0 (by decide) wd_95 rfl dX8_makes_35 ?_
      refine lv_iconst (v := 0) hx hb dX8_makes_38 (by decide) ?_
      refine g_iald (j := 0) C P ml1 (vp_in_iff.mpr ⟨by decide, by decide⟩) (by decide) dX8_makes_39 ?_
      refine lv_istore_n (lv' := [(3, .int (gM σ 1 0)), (0, .ref (gad X 0)), (1, .int a1), (2, .int a2)]) hx hb dX8_makes_40 rfl hl (by decide) rfl (fun ls hl => ?_)
      refine lv_iload_n hx hb dX8_makes_41 rfl (lv_at hl 0 rfl) ?_
      refine g_callSi (n := 1) (As := [.int (gM σ 1 0)]) (rest := []) C P (kX8_piecePlace l X hJ σ (gM σ 1 0) _ rfl) wd_198 wd_199 wd_5 wd_200 rfl rfl kdX8_piecePlace.2 ⟨Nat.le_of_ble_eq_true rfl, Nat.le_of_ble_eq_true rfl⟩ rfl rfl hl.1 (Nat.le_of_ble_eq_true rfl) dX8_makes_42 (fun H locs P => ?_)
      refine lv_istore (lv' := [(4, .int (qM_piecePlace (gM σ 1 0))), (3, .int (gM σ 1 0)), (0, .ref (gad X 0)), (1, .int a1), (2, .int a2)]) hx hb dX8_makes_45 hl (by decide) rfl (fun ls hl => ?_)
      refine lv_aload_n hx hb dX8_makes_47 rfl (lv_at hl 2 rfl) ?_
      refine g_getR C P ml0 rfl inlX8 0 (by decide) wd_95 rfl dX8_makes_48 ?_
      refine lv_iload hx hb dX8_makes_51 (lv_at hl 0 rfl) ?_
      refine lv_iload_n hx hb dX8_makes_53 rfl (lv_at hl 4 rfl) ?_
      obtain ⟨b4, h⟩ := g_ob h
      refine g_iast (j := (qM_piecePlace (gM σ 1 0)).toNatClampNeg) C P ml1 b4 rfl dX8_makes_54 (fun H locs P => ?_)
      refine lv_aload_n hx hb dX8_makes_55 rfl (lv_at hl 2 rfl) ?_
      refine g_getR C P ml0 rfl inlX8 0 (by decide) wd_95 rfl dX8_makes_56 ?_
      refine lv_iload hx hb dX8_makes_59 (lv_at hl 0 rfl) ?_
      refine lv_iconst (v := 1) hx hb dX8_makes_61 (by decide) ?_
      refine lv_iadd hx hb dX8_makes_62 ?_
      refine lv_iconst (v := 1) hx hb dX8_makes_63 (by decide) ?_
      obtain ⟨b5, h⟩ := g_ob h
      refine g_iast (j := ((qM_piecePlace (gM σ 1 0)) + (1 : Int32)).toNatClampNeg) C P ml1 b5 rfl dX8_makes_64 (fun H locs P => ?_)
      refine lv_aload_n hx hb dX8_makes_65 rfl (lv_at hl 2 rfl) ?_
      refine g_getR C P ml0 rfl inlX8 0 (by decide) wd_95 rfl dX8_makes_66 ?_
      refine lv_iload hx hb dX8_makes_69 (lv_at hl 0 rfl) ?_
      refine lv_iconst (v := 2) hx hb dX8_makes_71 (by decide) ?_
      refine lv_iadd hx hb dX8_makes_72 ?_
      refine lv_iconst (v := 0) hx hb dX8_makes_73 (by decide) ?_
      obtain ⟨b6, h⟩ := g_ob h
      refine g_iast (j := ((qM_piecePlace (gM σ 1 0)) + (2 : Int32)).toNatClampNeg) C P ml1 b6 rfl dX8_makes_74 (fun H locs P => ?_)
      refine lv_iconst (v := 0) hx hb dX8_makes_75 (by decide) ?_
      refine lv_istore (lv' := [(5, .int (0 : Int32)), (4, .int (qM_piecePlace (gM σ 1 0))), (3, .int (gM σ 1 0)), (0, .ref (gad X 0)), (1, .int a1), (2, .int a2)]) hx hb dX8_makes_76 hl (by decide) rfl (fun ls hl => ?_)
      refine kX8_makes_78 hJ C a1 a2 (gM σ 1 0) (qM_piecePlace (gM σ 1 0)) _ _ ?_ _ _ _ h _ _ _ P (lv_sub hl [3, 4, 5, 2, 1, 0] rfl)
      intro σ11 H locs ls h P hl
      refine lv_aload_n hx hb dX8_makes_114 rfl (lv_at hl 0 rfl) ?_
      refine g_getR C P ml0 rfl inlX8 0 (by decide) wd_95 rfl dX8_makes_115 ?_
      refine lv_iconst (v := 0) hx hb dX8_makes_118 (by decide) ?_
      refine lv_dup2_11 hx hb dX8_makes_119 rfl rfl ?_
      refine g_iald (j := 0) C P ml1 (vp_in_iff.mpr ⟨by decide, by decide⟩) (by decide) dX8_makes_120 ?_
      refine lv_iconst (v := 1) hx hb dX8_makes_121 (by decide) ?_
      refine lv_iadd hx hb dX8_makes_122 ?_
      refine g_iast (j := 0) C P ml1 (vp_in_iff.mpr ⟨by decide, by decide⟩) (by decide) dX8_makes_123 (fun H locs P => ?_)
      refine lv_aload_n hx hb dX8_makes_124 rfl (lv_at hl 0 rfl) ?_
      refine lv_iload_n hx hb dX8_makes_125 rfl (lv_at hl 1 rfl) ?_
      refine lv_iconst (v := 2) hx hb dX8_makes_126 (by decide) ?_
      refine lv_iload_n hx hb dX8_makes_127 rfl (lv_at hl 2 rfl) ?_
      refine lv_iconst (v := 0) hx hb dX8_makes_128 (by decide) ?_
      obtain ⟨r12, hr12, h⟩ := g_bind h
      refine g_callVi (n := 4) (As := [.int a1, .int (2 : Int32), .int (gM σ 1 0), .int (0 : Int32)]) (rest := []) C P (kX8_tells l X hJ (sM σ11 1 0 ((gM σ11 1 0) + (1 : Int32))) a1 (2 : Int32) (gM σ 1 0) (0 : Int32) _ hr12) wd_201 wd_202 wd_203 wd_5 wd_204 rfl rfl kdX8_tells ⟨Nat.le_of_ble_eq_true rfl, Nat.le_of_ble_eq_true rfl⟩ ml0 rfl rfl rfl hl.1 (Nat.le_of_ble_eq_true rfl) dX8_makes_129 (fun H locs P => ?_)
      refine lv_iconst (v := 2) hx hb dX8_makes_132 (by decide) ?_
      refine lv_icmp_ne (tgt := 140) hx hb dX8_makes_133 (by decide) (fun c13 => ?_) (fun c13 => ?_)
      · have h := g_ifn c13 h
        refine lv_iconst (v := -1) hx hb dX8_makes_140 (by decide) ?_
        have h := Option.some.inj h
        exact g_iret C P (g_fst h) (g_snd h) dX8_makes_141
      have h := g_ifp c13 h
      refine lv_iload_n hx hb dX8_makes_136 rfl (lv_at hl 2 rfl) ?_
      refine lv_goto (tgt := 141) hx hb dX8_makes_137 (by decide) ?_
      have h := Option.some.inj h
      exact g_iret C P (g_fst h) (g_snd h) dX8_makes_141
    have h := g_ifp c3 h
    refine lv_bipush (v := -4) hx hb dX8_makes_31 (by decide) ?_
    have h := Option.some.inj h
    exact g_iret C P (g_fst h) (g_snd h) dX8_makes_33
  have h := g_ifp c2 h
  refine lv_bipush (v := -2) hx hb dX8_makes_17 (by decide) ?_
  have h := Option.some.inj h
  exact g_iret C P (g_fst h) (g_snd h) dX8_makes_19
abbrev rmX8_ends : Room := { frames := 3, cells := 0, slots := 0, locals := 62 }
theorem kdX8_ends : yX8_ends.cls = RX8 ∧ yX8_ends.cls ≠ "java/lang/invoke/MethodHandle" ∧ yX8_ends.cls ≠ "java/lang/invoke/VarHandle" ∧ (parseMethodDescriptor yX8_ends.desc).map (fun d => d.parameters.length) = some 1 := by decide +kernel
set_option maxHeartbeats 4000000 in
set_option maxRecDepth 100000 in
theorem kX8_ends (l : Launch) (X : gXt) (hJ : gJ X mL) (σ : gS) (a1 : Int32) (q : Int32 × gS) (h : qM_ends σ a1 = some q) : gMi l yX8_ends (gws yX8_ends cX8_ends 3 (some .int)) rmX8_ends X mL [.ref (gad X 0), .int a1] σ q.1 q.2 := by
  refine g_enter (cc := cX8_ends) (nL := 3) (ret := (some .int)) hJ (plainFor_of_name (by decide)) (Nat.le_of_ble_eq_true rfl) ?_
  intro p e s m below meth c ls C P hl
  have C : gC p s m _ meth c RX8 cX8_ends 3 (some .int) X mL := C
  have hx := C.1
  have hb := C.2.1
  have hK := C.2.2.2.2.2.2.2.1
  have hts := C.2.2.2.2.1
  have hl : lv_has ls 3 [(0, .ref (gad X 0)), (1, .int a1)] := hl
  unfold qM_ends at h
  refine lv_iload_n hx hb dX8_ends_0 rfl (lv_at hl 1 rfl) ?_
  refine g_callSi (n := 1) (As := [.int a1]) (rest := []) C P (kX8_isRegister l X hJ σ a1 _ rfl) wd_192 wd_193 wd_5 wd_194 rfl rfl kdX8_isRegister.2 ⟨Nat.le_of_ble_eq_true rfl, Nat.le_of_ble_eq_true rfl⟩ rfl rfl hl.1 (Nat.le_of_ble_eq_true rfl) dX8_ends_1 (fun H locs P => ?_)
  refine lv_if_ne (tgt := 10) hx hb dX8_ends_4 (by decide) (fun c1 => ?_) (fun c1 => ?_)
  · have h := g_ifn c1 h
    refine lv_aload_n hx hb dX8_ends_10 rfl (lv_at hl 0 rfl) ?_
    refine lv_iload_n hx hb dX8_ends_11 rfl (lv_at hl 1 rfl) ?_
    obtain ⟨r2, hr2, h⟩ := g_bind h
    refine g_callVi (n := 1) (As := [.int a1]) (rest := []) C P (kX8_notGood l X hJ σ a1 _ hr2) wd_209 wd_210 wd_211 wd_5 wd_212 rfl rfl kdX8_notGood ⟨Nat.le_of_ble_eq_true rfl, Nat.le_of_ble_eq_true rfl⟩ ml0 rfl rfl rfl hl.1 (Nat.le_of_ble_eq_true rfl) dX8_ends_12 (fun H locs P => ?_)
    refine lv_istore_n (lv' := [(2, .int r2), (0, .ref (gad X 0)), (1, .int a1)]) hx hb dX8_ends_15 rfl hl (by decide) rfl (fun ls hl => ?_)
    refine lv_iload_n hx hb dX8_ends_16 rfl (lv_at hl 0 rfl) ?_
    refine lv_if_ne (tgt := 51) hx hb dX8_ends_17 (by decide) (fun c3 => ?_) (fun c3 => ?_)
    · have h := g_ifn c3 h
      refine lv_iload_n hx hb dX8_ends_51 rfl (lv_at hl 0 rfl) ?_
      refine lv_if_eq (tgt := 60) hx hb dX8_ends_52 (by decide) (fun c4 => ?_) (fun c4 => ?_)
      · exact absurd c4 c3
      refine lv_iload_n hx hb dX8_ends_55 rfl (lv_at hl 0 rfl) ?_
      refine g_callSi (n := 1) (As := [.int r2]) (rest := []) C P (kX8_undefinedAs l X hJ σ r2 _ rfl) wd_233 wd_234 wd_5 wd_235 rfl rfl kdX8_undefinedAs.2 ⟨Nat.le_of_ble_eq_true rfl, Nat.le_of_ble_eq_true rfl⟩ rfl rfl hl.1 (Nat.le_of_ble_eq_true rfl) dX8_ends_56 (fun H locs P => ?_)
      have h := Option.some.inj h
      exact g_iret C P (g_fst h) (g_snd h) dX8_ends_59
    have h := g_ifp c3 h
    refine lv_aload_n hx hb dX8_ends_20 rfl (lv_at hl 1 rfl) ?_
    refine lv_iload_n hx hb dX8_ends_21 rfl (lv_at hl 2 rfl) ?_
    obtain ⟨r5, hr5, h⟩ := g_bind h
    refine g_callVi (n := 1) (As := [.int a1]) (rest := []) C P (kX8_placeOf l X hJ σ a1 _ hr5) wd_225 wd_226 wd_227 wd_5 wd_228 rfl rfl kdX8_placeOf ⟨Nat.le_of_ble_eq_true rfl, Nat.le_of_ble_eq_true rfl⟩ ml0 rfl rfl rfl hl.1 (Nat.le_of_ble_eq_true rfl) dX8_ends_22 (fun H locs P => ?_)
    refine lv_if_eq (tgt := 33) hx hb dX8_ends_25 (by decide) (fun c6 => ?_) (fun c6 => ?_)
    · have h := g_ifp c6 h
      refine lv_aload_n hx hb dX8_ends_33 rfl (lv_at hl 1 rfl) ?_
      refine lv_aload_n hx hb dX8_ends_34 rfl (lv_at hl 1 rfl) ?_
      refine lv_iload_n hx hb dX8_ends_35 rfl (lv_at hl 2 rfl) ?_
      obtain ⟨r7, hr7, h⟩ := g_bind h
      refine g_callVi (n := 1) (As := [.int a1]) (rest := [.ref (gad X 0)]) C P (kX8_valueOf l X hJ σ a1 _ hr7) wd_217 wd_218 wd_219 wd_5 wd_220 rfl rfl kdX8_valueOf ⟨Nat.le_of_ble_eq_true rfl, Nat.le_of_ble_eq_true rfl⟩ ml0 rfl rfl rfl hl.1 (Nat.le_of_ble_eq_true rfl) dX8_ends_36 (fun H locs P => ?_)
      obtain ⟨r8, hr8, h⟩ := g_bind h
      refine g_callVi (n := 1) (As := [.int r7]) (rest := []) C P (kX8_isFrozen l X hJ σ r7 _ hr8) wd_229 wd_230 wd_231 wd_5 wd_232 rfl rfl kdX8_isFrozen ⟨Nat.le_of_ble_eq_true rfl, Nat.le_of_ble_eq_true rfl⟩ ml0 rfl rfl rfl hl.1 (Nat.le_of_ble_eq_true rfl) dX8_ends_39 (fun H locs P => ?_)
      refine lv_if_eq (tgt := 49) hx hb dX8_ends_42 (by decide) (fun c9 => ?_) (fun c9 => ?_)
      · have h := g_ifp c9 h
        refine lv_iconst (v := 0) hx hb dX8_ends_49 (by decide) ?_
        refine lv_istore_n (lv' := [(2, .int (0 : Int32)), (0, .ref (gad X 0)), (1, .int a1)]) hx hb dX8_ends_50 rfl hl (by decide) rfl (fun ls hl => ?_)
        refine lv_iload_n hx hb dX8_ends_51 rfl (lv_at hl 0 rfl) ?_
        refine lv_if_eq (tgt := 60) hx hb dX8_ends_52 (by decide) (fun c10 => ?_) (fun c10 => ?_)
        rotate_left
        · exact absurd (by decide) c10
        refine lv_aload_n hx hb dX8_ends_60 rfl (lv_at hl 1 rfl) ?_
        refine g_getR C P ml0 rfl inlX8 0 (by decide) wd_95 rfl dX8_ends_61 ?_
        refine lv_aload_n hx hb dX8_ends_64 rfl (lv_at hl 1 rfl) ?_
        refine lv_iload_n hx hb dX8_ends_65 rfl (lv_at hl 2 rfl) ?_
        obtain ⟨r11, hr11, h⟩ := g_bind h
        refine g_callVi (n := 1) (As := [.int a1]) (rest := [.ref (gad X 1)]) C P (kX8_valueOf l X hJ σ a1 _ hr11) wd_217 wd_218 wd_219 wd_5 wd_220 rfl rfl kdX8_valueOf ⟨Nat.le_of_ble_eq_true rfl, Nat.le_of_ble_eq_true rfl⟩ ml0 rfl rfl rfl hl.1 (Nat.le_of_ble_eq_true rfl) dX8_ends_66 (fun H locs P => ?_)
        refine g_callSi (n := 1) (As := [.int r11]) (rest := [.ref (gad X 1)]) C P (kX8_piecePlace l X hJ σ r11 _ rfl) wd_198 wd_199 wd_5 wd_200 rfl rfl kdX8_piecePlace.2 ⟨Nat.le_of_ble_eq_true rfl, Nat.le_of_ble_eq_true rfl⟩ rfl rfl hl.1 (Nat.le_of_ble_eq_true rfl) dX8_ends_69 (fun H locs P => ?_)
        refine lv_iconst (v := 1) hx hb dX8_ends_72 (by decide) ?_
        refine lv_iadd hx hb dX8_ends_73 ?_
        refine lv_iconst (v := 0) hx hb dX8_ends_74 (by decide) ?_
        obtain ⟨b12, h⟩ := g_ob h
        refine g_iast (j := ((qM_piecePlace r11) + (1 : Int32)).toNatClampNeg) C P ml1 b12 rfl dX8_ends_75 (fun H locs P => ?_)
        refine lv_aload_n hx hb dX8_ends_76 rfl (lv_at hl 1 rfl) ?_
        refine lv_iload_n hx hb dX8_ends_77 rfl (lv_at hl 2 rfl) ?_
        obtain ⟨r13, hr13, h⟩ := g_bind h
        refine g_callVi (n := 1) (As := [.int a1]) (rest := []) C P (kX8_valueOf l X hJ (sM σ 1 ((qM_piecePlace r11) + (1 : Int32)).toNatClampNeg (0 : Int32)) a1 _ hr13) wd_217 wd_218 wd_219 wd_5 wd_220 rfl rfl kdX8_valueOf ⟨Nat.le_of_ble_eq_true rfl, Nat.le_of_ble_eq_true rfl⟩ ml0 rfl rfl rfl hl.1 (Nat.le_of_ble_eq_true rfl) dX8_ends_78 (fun H locs P => ?_)
        have h := Option.some.inj h
        exact g_iret C P (g_fst h) (g_snd h) dX8_ends_81
      have h := g_ifn c9 h
      refine lv_iconst (v := 4) hx hb dX8_ends_45 (by decide) ?_
      refine lv_goto (tgt := 50) hx hb dX8_ends_46 (by decide) ?_
      refine lv_istore_n (lv' := [(2, .int (4 : Int32)), (0, .ref (gad X 0)), (1, .int a1)]) hx hb dX8_ends_50 rfl hl (by decide) rfl (fun ls hl => ?_)
      refine lv_iload_n hx hb dX8_ends_51 rfl (lv_at hl 0 rfl) ?_
      refine lv_if_eq (tgt := 60) hx hb dX8_ends_52 (by decide) (fun c14 => ?_) (fun c14 => ?_)
      · exact absurd c14 (by decide)
      refine lv_iload_n hx hb dX8_ends_55 rfl (lv_at hl 0 rfl) ?_
      refine g_callSi (n := 1) (As := [.int (4 : Int32)]) (rest := []) C P (kX8_undefinedAs l X hJ σ (4 : Int32) _ rfl) wd_233 wd_234 wd_5 wd_235 rfl rfl kdX8_undefinedAs.2 ⟨Nat.le_of_ble_eq_true rfl, Nat.le_of_ble_eq_true rfl⟩ rfl rfl hl.1 (Nat.le_of_ble_eq_true rfl) dX8_ends_56 (fun H locs P => ?_)
      have h := Option.some.inj h
      exact g_iret C P (g_fst h) (g_snd h) dX8_ends_59
    have h := g_ifn c6 h
    refine lv_bipush (v := 9) hx hb dX8_ends_28 (by decide) ?_
    refine lv_goto (tgt := 50) hx hb dX8_ends_30 (by decide) ?_
    refine lv_istore_n (lv' := [(2, .int (9 : Int32)), (0, .ref (gad X 0)), (1, .int a1)]) hx hb dX8_ends_50 rfl hl (by decide) rfl (fun ls hl => ?_)
    refine lv_iload_n hx hb dX8_ends_51 rfl (lv_at hl 0 rfl) ?_
    refine lv_if_eq (tgt := 60) hx hb dX8_ends_52 (by decide) (fun c15 => ?_) (fun c15 => ?_)
    · exact absurd c15 (by decide)
    refine lv_iload_n hx hb dX8_ends_55 rfl (lv_at hl 0 rfl) ?_
    refine g_callSi (n := 1) (As := [.int (9 : Int32)]) (rest := []) C P (kX8_undefinedAs l X hJ σ (9 : Int32) _ rfl) wd_233 wd_234 wd_5 wd_235 rfl rfl kdX8_undefinedAs.2 ⟨Nat.le_of_ble_eq_true rfl, Nat.le_of_ble_eq_true rfl⟩ rfl rfl hl.1 (Nat.le_of_ble_eq_true rfl) dX8_ends_56 (fun H locs P => ?_)
    have h := Option.some.inj h
    exact g_iret C P (g_fst h) (g_snd h) dX8_ends_59
  have h := g_ifp c1 h
  refine lv_bipush (v := -2) hx hb dX8_ends_7 (by decide) ?_
  have h := Option.some.inj h
  exact g_iret C P (g_fst h) (g_snd h) dX8_ends_9
abbrev rmX8_setsTo : Room := { frames := 2, cells := 0, slots := 0, locals := 42 }
theorem kdX8_setsTo : yX8_setsTo.cls = RX8 ∧ yX8_setsTo.cls ≠ "java/lang/invoke/MethodHandle" ∧ yX8_setsTo.cls ≠ "java/lang/invoke/VarHandle" ∧ (parseMethodDescriptor yX8_setsTo.desc).map (fun d => d.parameters.length) = some 2 := by decide +kernel
set_option maxHeartbeats 4000000 in
set_option maxRecDepth 100000 in
theorem kX8_setsTo (l : Launch) (X : gXt) (hJ : gJ X mL) (σ : gS) (a1 : Int32) (a2 : Int32) (q : Int32 × gS) (h : qM_setsTo σ a1 a2 = some q) : gMi l yX8_setsTo (gws yX8_setsTo cX8_setsTo 3 (some .int)) rmX8_setsTo X mL [.ref (gad X 0), .int a1, .int a2] σ q.1 q.2 := by
  refine g_enter (cc := cX8_setsTo) (nL := 3) (ret := (some .int)) hJ (plainFor_of_name (by decide)) (Nat.le_of_ble_eq_true rfl) ?_
  intro p e s m below meth c ls C P hl
  have C : gC p s m _ meth c RX8 cX8_setsTo 3 (some .int) X mL := C
  have hx := C.1
  have hb := C.2.1
  have hK := C.2.2.2.2.2.2.2.1
  have hts := C.2.2.2.2.1
  have hl : lv_has ls 3 [(0, .ref (gad X 0)), (1, .int a1), (2, .int a2)] := hl
  unfold qM_setsTo at h
  refine lv_iload_n hx hb dX8_setsTo_0 rfl (lv_at hl 1 rfl) ?_
  refine g_callSi (n := 1) (As := [.int a1]) (rest := []) C P (kX8_isRegister l X hJ σ a1 _ rfl) wd_192 wd_193 wd_5 wd_194 rfl rfl kdX8_isRegister.2 ⟨Nat.le_of_ble_eq_true rfl, Nat.le_of_ble_eq_true rfl⟩ rfl rfl hl.1 (Nat.le_of_ble_eq_true rfl) dX8_setsTo_1 (fun H locs P => ?_)
  refine lv_if_eq (tgt := 30) hx hb dX8_setsTo_4 (by decide) (fun c1 => ?_) (fun c1 => ?_)
  · have h := g_ifp c1 h
    refine lv_bipush (v := -2) hx hb dX8_setsTo_30 (by decide) ?_
    have h := Option.some.inj h
    exact g_iret C P (g_fst h) (g_snd h) dX8_setsTo_32
  have h := g_ifn c1 h
  refine lv_iload_n hx hb dX8_setsTo_7 rfl (lv_at hl 2 rfl) ?_
  refine lv_iconst (v := 0) hx hb dX8_setsTo_8 (by decide) ?_
  refine lv_ldc (v := 65535) hx hb C.2.2.2.1 (hts _ wd_240) dX8_setsTo_9 ?_
  refine g_callSi (n := 3) (As := [.int a2, .int (0 : Int32), .int (65535 : Int32)]) (rest := []) C P (kX8_in l X hJ σ a2 (0 : Int32) (65535 : Int32) _ rfl) wd_195 wd_196 wd_5 wd_197 rfl rfl kdX8_in.2 ⟨Nat.le_of_ble_eq_true rfl, Nat.le_of_ble_eq_true rfl⟩ rfl rfl hl.1 (Nat.le_of_ble_eq_true rfl) dX8_setsTo_11 (fun H locs P => ?_)
  refine lv_if_eq (tgt := 30) hx hb dX8_setsTo_14 (by decide) (fun c2 => ?_) (fun c2 => ?_)
  · have h := g_ifp c2 h
    refine lv_bipush (v := -2) hx hb dX8_setsTo_30 (by decide) ?_
    have h := Option.some.inj h
    exact g_iret C P (g_fst h) (g_snd h) dX8_setsTo_32
  have h := g_ifn c2 h
  refine lv_aload_n hx hb dX8_setsTo_17 rfl (lv_at hl 0 rfl) ?_
  refine lv_iload_n hx hb dX8_setsTo_18 rfl (lv_at hl 1 rfl) ?_
  refine lv_iconst (v := 1) hx hb dX8_setsTo_19 (by decide) ?_
  refine lv_iload_n hx hb dX8_setsTo_20 rfl (lv_at hl 2 rfl) ?_
  refine lv_iconst (v := 0) hx hb dX8_setsTo_21 (by decide) ?_
  obtain ⟨r3, hr3, h⟩ := g_bind h
  refine g_callVi (n := 4) (As := [.int a1, .int (1 : Int32), .int a2, .int (0 : Int32)]) (rest := []) C P (kX8_tells l X hJ σ a1 (1 : Int32) a2 (0 : Int32) _ hr3) wd_201 wd_202 wd_203 wd_5 wd_204 rfl rfl kdX8_tells ⟨Nat.le_of_ble_eq_true rfl, Nat.le_of_ble_eq_true rfl⟩ ml0 rfl rfl rfl hl.1 (Nat.le_of_ble_eq_true rfl) dX8_setsTo_22 (fun H locs P => ?_)
  refine lv_iload_n hx hb dX8_setsTo_25 rfl (lv_at hl 2 rfl) ?_
  refine lv_imul hx hb dX8_setsTo_26 ?_
  refine lv_goto (tgt := 32) hx hb dX8_setsTo_27 (by decide) ?_
  have h := Option.some.inj h
  exact g_iret C P (g_fst h) (g_snd h) dX8_setsTo_32
abbrev rmX8_copiesTo : Room := { frames := 2, cells := 0, slots := 0, locals := 42 }
theorem kdX8_copiesTo : yX8_copiesTo.cls = RX8 ∧ yX8_copiesTo.cls ≠ "java/lang/invoke/MethodHandle" ∧ yX8_copiesTo.cls ≠ "java/lang/invoke/VarHandle" ∧ (parseMethodDescriptor yX8_copiesTo.desc).map (fun d => d.parameters.length) = some 2 := by decide +kernel
set_option maxHeartbeats 4000000 in
set_option maxRecDepth 100000 in
theorem kX8_copiesTo (l : Launch) (X : gXt) (hJ : gJ X mL) (σ : gS) (a1 : Int32) (a2 : Int32) (q : Int32 × gS) (h : qM_copiesTo σ a1 a2 = some q) : gMi l yX8_copiesTo (gws yX8_copiesTo cX8_copiesTo 3 (some .int)) rmX8_copiesTo X mL [.ref (gad X 0), .int a1, .int a2] σ q.1 q.2 := by
  refine g_enter (cc := cX8_copiesTo) (nL := 3) (ret := (some .int)) hJ (plainFor_of_name (by decide)) (Nat.le_of_ble_eq_true rfl) ?_
  intro p e s m below meth c ls C P hl
  have C : gC p s m _ meth c RX8 cX8_copiesTo 3 (some .int) X mL := C
  have hx := C.1
  have hb := C.2.1
  have hK := C.2.2.2.2.2.2.2.1
  have hts := C.2.2.2.2.1
  have hl : lv_has ls 3 [(0, .ref (gad X 0)), (1, .int a1), (2, .int a2)] := hl
  unfold qM_copiesTo at h
  refine lv_iload_n hx hb dX8_copiesTo_0 rfl (lv_at hl 1 rfl) ?_
  refine g_callSi (n := 1) (As := [.int a1]) (rest := []) C P (kX8_isRegister l X hJ σ a1 _ rfl) wd_192 wd_193 wd_5 wd_194 rfl rfl kdX8_isRegister.2 ⟨Nat.le_of_ble_eq_true rfl, Nat.le_of_ble_eq_true rfl⟩ rfl rfl hl.1 (Nat.le_of_ble_eq_true rfl) dX8_copiesTo_1 (fun H locs P => ?_)
  refine lv_if_eq (tgt := 37) hx hb dX8_copiesTo_4 (by decide) (fun c1 => ?_) (fun c1 => ?_)
  · have h := g_ifp c1 h
    refine lv_bipush (v := -2) hx hb dX8_copiesTo_37 (by decide) ?_
    have h := Option.some.inj h
    exact g_iret C P (g_fst h) (g_snd h) dX8_copiesTo_39
  have h := g_ifn c1 h
  refine lv_iload_n hx hb dX8_copiesTo_7 rfl (lv_at hl 2 rfl) ?_
  refine g_callSi (n := 1) (As := [.int a2]) (rest := []) C P (kX8_isRegister l X hJ σ a2 _ rfl) wd_192 wd_193 wd_5 wd_194 rfl rfl kdX8_isRegister.2 ⟨Nat.le_of_ble_eq_true rfl, Nat.le_of_ble_eq_true rfl⟩ rfl rfl hl.1 (Nat.le_of_ble_eq_true rfl) dX8_copiesTo_8 (fun H locs P => ?_)
  refine lv_if_eq (tgt := 37) hx hb dX8_copiesTo_11 (by decide) (fun c2 => ?_) (fun c2 => ?_)
  · have h := g_ifp c2 h
    refine lv_bipush (v := -2) hx hb dX8_copiesTo_37 (by decide) ?_
    have h := Option.some.inj h
    exact g_iret C P (g_fst h) (g_snd h) dX8_copiesTo_39
  have h := g_ifn c2 h
  refine lv_aload_n hx hb dX8_copiesTo_14 rfl (lv_at hl 0 rfl) ?_
  refine lv_iload_n hx hb dX8_copiesTo_15 rfl (lv_at hl 1 rfl) ?_
  refine lv_aload_n hx hb dX8_copiesTo_16 rfl (lv_at hl 0 rfl) ?_
  refine lv_iload_n hx hb dX8_copiesTo_17 rfl (lv_at hl 2 rfl) ?_
  obtain ⟨r3, hr3, h⟩ := g_bind h
  refine g_callVi (n := 1) (As := [.int a2]) (rest := [.int a1, .ref (gad X 0)]) C P (kX8_kindOf l X hJ σ a2 _ hr3) wd_213 wd_214 wd_215 wd_5 wd_216 rfl rfl kdX8_kindOf ⟨Nat.le_of_ble_eq_true rfl, Nat.le_of_ble_eq_true rfl⟩ ml0 rfl rfl rfl hl.1 (Nat.le_of_ble_eq_true rfl) dX8_copiesTo_18 (fun H locs P => ?_)
  refine lv_aload_n hx hb dX8_copiesTo_21 rfl (lv_at hl 0 rfl) ?_
  refine lv_iload_n hx hb dX8_copiesTo_22 rfl (lv_at hl 2 rfl) ?_
  obtain ⟨r4, hr4, h⟩ := g_bind h
  refine g_callVi (n := 1) (As := [.int a2]) (rest := [.int r3, .int a1, .ref (gad X 0)]) C P (kX8_valueOf l X hJ σ a2 _ hr4) wd_217 wd_218 wd_219 wd_5 wd_220 rfl rfl kdX8_valueOf ⟨Nat.le_of_ble_eq_true rfl, Nat.le_of_ble_eq_true rfl⟩ ml0 rfl rfl rfl hl.1 (Nat.le_of_ble_eq_true rfl) dX8_copiesTo_23 (fun H locs P => ?_)
  refine lv_aload_n hx hb dX8_copiesTo_26 rfl (lv_at hl 0 rfl) ?_
  refine lv_iload_n hx hb dX8_copiesTo_27 rfl (lv_at hl 2 rfl) ?_
  obtain ⟨r5, hr5, h⟩ := g_bind h
  refine g_callVi (n := 1) (As := [.int a2]) (rest := [.int r4, .int r3, .int a1, .ref (gad X 0)]) C P (kX8_placeOf l X hJ σ a2 _ hr5) wd_225 wd_226 wd_227 wd_5 wd_228 rfl rfl kdX8_placeOf ⟨Nat.le_of_ble_eq_true rfl, Nat.le_of_ble_eq_true rfl⟩ ml0 rfl rfl rfl hl.1 (Nat.le_of_ble_eq_true rfl) dX8_copiesTo_28 (fun H locs P => ?_)
  obtain ⟨r6, hr6, h⟩ := g_bind h
  refine g_callVi (n := 4) (As := [.int a1, .int r3, .int r4, .int r5]) (rest := []) C P (kX8_tells l X hJ σ a1 r3 r4 r5 _ hr6) wd_201 wd_202 wd_203 wd_5 wd_204 rfl rfl kdX8_tells ⟨Nat.le_of_ble_eq_true rfl, Nat.le_of_ble_eq_true rfl⟩ ml0 rfl rfl rfl hl.1 (Nat.le_of_ble_eq_true rfl) dX8_copiesTo_31 (fun H locs P => ?_)
  refine lv_goto (tgt := 39) hx hb dX8_copiesTo_34 (by decide) ?_
  have h := Option.some.inj h
  exact g_iret C P (g_fst h) (g_snd h) dX8_copiesTo_39
abbrev rmX8_movesBy : Room := { frames := 2, cells := 0, slots := 0, locals := 42 }
theorem kdX8_movesBy : yX8_movesBy.cls = RX8 ∧ yX8_movesBy.cls ≠ "java/lang/invoke/MethodHandle" ∧ yX8_movesBy.cls ≠ "java/lang/invoke/VarHandle" ∧ (parseMethodDescriptor yX8_movesBy.desc).map (fun d => d.parameters.length) = some 2 := by decide +kernel
set_option maxHeartbeats 4000000 in
set_option maxRecDepth 100000 in
theorem kX8_movesBy (l : Launch) (X : gXt) (hJ : gJ X mL) (σ : gS) (a1 : Int32) (a2 : Int32) (q : Int32 × gS) (h : qM_movesBy σ a1 a2 = some q) : gMi l yX8_movesBy (gws yX8_movesBy cX8_movesBy 5 (some .int)) rmX8_movesBy X mL [.ref (gad X 0), .int a1, .int a2] σ q.1 q.2 := by
  refine g_enter (cc := cX8_movesBy) (nL := 5) (ret := (some .int)) hJ (plainFor_of_name (by decide)) (Nat.le_of_ble_eq_true rfl) ?_
  intro p e s m below meth c ls C P hl
  have C : gC p s m _ meth c RX8 cX8_movesBy 5 (some .int) X mL := C
  have hx := C.1
  have hb := C.2.1
  have hK := C.2.2.2.2.2.2.2.1
  have hts := C.2.2.2.2.1
  have hl : lv_has ls 5 [(0, .ref (gad X 0)), (1, .int a1), (2, .int a2)] := hl
  unfold qM_movesBy at h
  refine lv_iload_n hx hb dX8_movesBy_0 rfl (lv_at hl 1 rfl) ?_
  refine g_callSi (n := 1) (As := [.int a1]) (rest := []) C P (kX8_isRegister l X hJ σ a1 _ rfl) wd_192 wd_193 wd_5 wd_194 rfl rfl kdX8_isRegister.2 ⟨Nat.le_of_ble_eq_true rfl, Nat.le_of_ble_eq_true rfl⟩ rfl rfl hl.1 (Nat.le_of_ble_eq_true rfl) dX8_movesBy_1 (fun H locs P => ?_)
  refine lv_if_eq (tgt := 18) hx hb dX8_movesBy_4 (by decide) (fun c1 => ?_) (fun c1 => ?_)
  · have h := g_ifp c1 h
    refine lv_bipush (v := -2) hx hb dX8_movesBy_18 (by decide) ?_
    have h := Option.some.inj h
    exact g_iret C P (g_fst h) (g_snd h) dX8_movesBy_20
  have h := g_ifn c1 h
  refine lv_iload_n hx hb dX8_movesBy_7 rfl (lv_at hl 2 rfl) ?_
  refine lv_bipush (v := -12) hx hb dX8_movesBy_8 (by decide) ?_
  refine lv_bipush (v := 12) hx hb dX8_movesBy_10 (by decide) ?_
  refine g_callSi (n := 3) (As := [.int a2, .int (-12 : Int32), .int (12 : Int32)]) (rest := []) C P (kX8_in l X hJ σ a2 (-12 : Int32) (12 : Int32) _ rfl) wd_195 wd_196 wd_5 wd_197 rfl rfl kdX8_in.2 ⟨Nat.le_of_ble_eq_true rfl, Nat.le_of_ble_eq_true rfl⟩ rfl rfl hl.1 (Nat.le_of_ble_eq_true rfl) dX8_movesBy_12 (fun H locs P => ?_)
  refine lv_if_ne (tgt := 21) hx hb dX8_movesBy_15 (by decide) (fun c2 => ?_) (fun c2 => ?_)
  · have h := g_ifn c2 h
    refine lv_aload_n hx hb dX8_movesBy_21 rfl (lv_at hl 0 rfl) ?_
    refine lv_iload_n hx hb dX8_movesBy_22 rfl (lv_at hl 1 rfl) ?_
    obtain ⟨r3, hr3, h⟩ := g_bind h
    refine g_callVi (n := 1) (As := [.int a1]) (rest := []) C P (kX8_kindOf l X hJ σ a1 _ hr3) wd_213 wd_214 wd_215 wd_5 wd_216 rfl rfl kdX8_kindOf ⟨Nat.le_of_ble_eq_true rfl, Nat.le_of_ble_eq_true rfl⟩ ml0 rfl rfl rfl hl.1 (Nat.le_of_ble_eq_true rfl) dX8_movesBy_23 (fun H locs P => ?_)
    refine lv_if_ne (tgt := 34) hx hb dX8_movesBy_26 (by decide) (fun c4 => ?_) (fun c4 => ?_)
    · have h := g_ifn c4 h
      refine lv_aload_n hx hb dX8_movesBy_34 rfl (lv_at hl 0 rfl) ?_
      refine lv_iload_n hx hb dX8_movesBy_35 rfl (lv_at hl 1 rfl) ?_
      obtain ⟨r5, hr5, h⟩ := g_bind h
      refine g_callVi (n := 1) (As := [.int a1]) (rest := []) C P (kX8_valueOf l X hJ σ a1 _ hr5) wd_217 wd_218 wd_219 wd_5 wd_220 rfl rfl kdX8_valueOf ⟨Nat.le_of_ble_eq_true rfl, Nat.le_of_ble_eq_true rfl⟩ ml0 rfl rfl rfl hl.1 (Nat.le_of_ble_eq_true rfl) dX8_movesBy_36 (fun H locs P => ?_)
      refine lv_istore_n (lv' := [(3, .int r5), (0, .ref (gad X 0)), (1, .int a1), (2, .int a2)]) hx hb dX8_movesBy_39 rfl hl (by decide) rfl (fun ls hl => ?_)
      refine lv_aload_n hx hb dX8_movesBy_40 rfl (lv_at hl 1 rfl) ?_
      refine lv_iload_n hx hb dX8_movesBy_41 rfl (lv_at hl 2 rfl) ?_
      obtain ⟨r6, hr6, h⟩ := g_bind h
      refine g_callVi (n := 1) (As := [.int a1]) (rest := []) C P (kX8_kindOf l X hJ σ a1 _ hr6) wd_213 wd_214 wd_215 wd_5 wd_216 rfl rfl kdX8_kindOf ⟨Nat.le_of_ble_eq_true rfl, Nat.le_of_ble_eq_true rfl⟩ ml0 rfl rfl rfl hl.1 (Nat.le_of_ble_eq_true rfl) dX8_movesBy_42 (fun H locs P => ?_)
      refine lv_iconst (v := 1) hx hb dX8_movesBy_45 (by decide) ?_
      refine lv_icmp_ne (tgt := 73) hx hb dX8_movesBy_46 (by decide) (fun c7 => ?_) (fun c7 => ?_)
      · have h := g_ifn c7 h
        refine lv_aload_n hx hb dX8_movesBy_73 rfl (lv_at hl 1 rfl) ?_
        refine lv_iload_n hx hb dX8_movesBy_74 rfl (lv_at hl 2 rfl) ?_
        obtain ⟨r8, hr8, h⟩ := g_bind h
        refine g_callVi (n := 1) (As := [.int a1]) (rest := []) C P (kX8_placeOf l X hJ σ a1 _ hr8) wd_225 wd_226 wd_227 wd_5 wd_228 rfl rfl kdX8_placeOf ⟨Nat.le_of_ble_eq_true rfl, Nat.le_of_ble_eq_true rfl⟩ ml0 rfl rfl rfl hl.1 (Nat.le_of_ble_eq_true rfl) dX8_movesBy_75 (fun H locs P => ?_)
        refine lv_iload_n hx hb dX8_movesBy_78 rfl (lv_at hl 3 rfl) ?_
        refine lv_iadd hx hb dX8_movesBy_79 ?_
        refine lv_istore (lv' := [(4, .int (r8 + a2)), (3, .int r5), (0, .ref (gad X 0)), (1, .int a1), (2, .int a2)]) hx hb dX8_movesBy_80 hl (by decide) rfl (fun ls hl => ?_)
        refine lv_aload_n hx hb dX8_movesBy_82 rfl (lv_at hl 2 rfl) ?_
        refine lv_iload_n hx hb dX8_movesBy_83 rfl (lv_at hl 1 rfl) ?_
        obtain ⟨r9, hr9, h⟩ := g_bind h
        refine g_callVi (n := 1) (As := [.int r5]) (rest := []) C P (kX8_isLive l X hJ σ r5 _ hr9) wd_221 wd_222 wd_223 wd_5 wd_224 rfl rfl kdX8_isLive ⟨Nat.le_of_ble_eq_true rfl, Nat.le_of_ble_eq_true rfl⟩ ml0 rfl rfl rfl hl.1 (Nat.le_of_ble_eq_true rfl) dX8_movesBy_84 (fun H locs P => ?_)
        refine lv_if_eq (tgt := 104) hx hb dX8_movesBy_87 (by decide) (fun c10 => ?_) (fun c10 => ?_)
        · have h := g_ifp c10 h
          refine lv_aload_n hx hb dX8_movesBy_104 rfl (lv_at hl 2 rfl) ?_
          refine lv_iload_n hx hb dX8_movesBy_105 rfl (lv_at hl 1 rfl) ?_
          obtain ⟨r11, hr11, h⟩ := g_bind h
          refine g_callVi (n := 1) (As := [.int r5]) (rest := []) C P (kX8_isLive l X hJ σ r5 _ hr11) wd_221 wd_222 wd_223 wd_5 wd_224 rfl rfl kdX8_isLive ⟨Nat.le_of_ble_eq_true rfl, Nat.le_of_ble_eq_true rfl⟩ ml0 rfl rfl rfl hl.1 (Nat.le_of_ble_eq_true rfl) dX8_movesBy_106 (fun H locs P => ?_)
          refine lv_if_eq (tgt := 116) hx hb dX8_movesBy_109 (by decide) (fun c12 => ?_) (fun c12 => ?_)
          · have h := g_ifp c12 h
            refine lv_iconst (v := 3) hx hb dX8_movesBy_116 (by decide) ?_
            refine g_callSi (n := 1) (As := [.int (3 : Int32)]) (rest := []) C P (kX8_undefinedAs l X hJ σ (3 : Int32) _ rfl) wd_233 wd_234 wd_5 wd_235 rfl rfl kdX8_undefinedAs.2 ⟨Nat.le_of_ble_eq_true rfl, Nat.le_of_ble_eq_true rfl⟩ rfl rfl hl.1 (Nat.le_of_ble_eq_true rfl) dX8_movesBy_117 (fun H locs P => ?_)
            have h := Option.some.inj h
            exact g_iret C P (g_fst h) (g_snd h) dX8_movesBy_120
          have h := g_ifn c12 h
          refine lv_iconst (v := 5) hx hb dX8_movesBy_112 (by decide) ?_
          refine lv_goto (tgt := 117) hx hb dX8_movesBy_113 (by decide) ?_
          refine g_callSi (n := 1) (As := [.int (5 : Int32)]) (rest := []) C P (kX8_undefinedAs l X hJ σ (5 : Int32) _ rfl) wd_233 wd_234 wd_5 wd_235 rfl rfl kdX8_undefinedAs.2 ⟨Nat.le_of_ble_eq_true rfl, Nat.le_of_ble_eq_true rfl⟩ rfl rfl hl.1 (Nat.le_of_ble_eq_true rfl) dX8_movesBy_117 (fun H locs P => ?_)
          have h := Option.some.inj h
          exact g_iret C P (g_fst h) (g_snd h) dX8_movesBy_120
        have h := g_ifn c10 h
        refine lv_iload hx hb dX8_movesBy_90 (lv_at hl 0 rfl) ?_
        refine lv_iconst (v := 0) hx hb dX8_movesBy_92 (by decide) ?_
        refine lv_aload_n hx hb dX8_movesBy_93 rfl (lv_at hl 2 rfl) ?_
        refine lv_iload_n hx hb dX8_movesBy_94 rfl (lv_at hl 1 rfl) ?_
        obtain ⟨r13, hr13, h⟩ := g_bind h
        refine g_callVi (n := 1) (As := [.int r5]) (rest := [.int (0 : Int32), .int (r8 + a2)]) C P (kX8_sizeOf l X hJ σ r5 _ hr13) wd_250 wd_251 wd_252 wd_5 wd_253 rfl rfl kdX8_sizeOf ⟨Nat.le_of_ble_eq_true rfl, Nat.le_of_ble_eq_true rfl⟩ ml0 rfl rfl rfl hl.1 (Nat.le_of_ble_eq_true rfl) dX8_movesBy_95 (fun H locs P => ?_)
        refine g_callSi (n := 3) (As := [.int (r8 + a2), .int (0 : Int32), .int r13]) (rest := []) C P (kX8_in l X hJ σ (r8 + a2) (0 : Int32) r13 _ rfl) wd_195 wd_196 wd_5 wd_197 rfl rfl kdX8_in.2 ⟨Nat.le_of_ble_eq_true rfl, Nat.le_of_ble_eq_true rfl⟩ rfl rfl hl.1 (Nat.le_of_ble_eq_true rfl) dX8_movesBy_98 (fun H locs P => ?_)
        refine lv_if_ne (tgt := 121) hx hb dX8_movesBy_101 (by decide) (fun c14 => ?_) (fun c14 => ?_)
        · have h := g_ifn c14 h
          refine lv_aload_n hx hb dX8_movesBy_121 rfl (lv_at hl 2 rfl) ?_
          refine lv_iload_n hx hb dX8_movesBy_122 rfl (lv_at hl 3 rfl) ?_
          refine lv_iconst (v := 2) hx hb dX8_movesBy_123 (by decide) ?_
          refine lv_iload_n hx hb dX8_movesBy_124 rfl (lv_at hl 1 rfl) ?_
          refine lv_iload hx hb dX8_movesBy_125 (lv_at hl 0 rfl) ?_
          obtain ⟨r15, hr15, h⟩ := g_bind h
          refine g_callVi (n := 4) (As := [.int a1, .int (2 : Int32), .int r5, .int (r8 + a2)]) (rest := []) C P (kX8_tells l X hJ σ a1 (2 : Int32) r5 (r8 + a2) _ hr15) wd_201 wd_202 wd_203 wd_5 wd_204 rfl rfl kdX8_tells ⟨Nat.le_of_ble_eq_true rfl, Nat.le_of_ble_eq_true rfl⟩ ml0 rfl rfl rfl hl.1 (Nat.le_of_ble_eq_true rfl) dX8_movesBy_127 (fun H locs P => ?_)
          refine lv_iconst (v := 2) hx hb dX8_movesBy_130 (by decide) ?_
          refine lv_icmp_ne (tgt := 139) hx hb dX8_movesBy_131 (by decide) (fun c16 => ?_) (fun c16 => ?_)
          · have h := g_ifn c16 h
            refine lv_iconst (v := -1) hx hb dX8_movesBy_139 (by decide) ?_
            have h := Option.some.inj h
            exact g_iret C P (g_fst h) (g_snd h) dX8_movesBy_140
          have h := g_ifp c16 h
          refine lv_iload hx hb dX8_movesBy_134 (lv_at hl 0 rfl) ?_
          refine lv_goto (tgt := 140) hx hb dX8_movesBy_136 (by decide) ?_
          have h := Option.some.inj h
          exact g_iret C P (g_fst h) (g_snd h) dX8_movesBy_140
        have h := g_ifp c14 h
        refine lv_aload_n hx hb dX8_movesBy_104 rfl (lv_at hl 2 rfl) ?_
        refine lv_iload_n hx hb dX8_movesBy_105 rfl (lv_at hl 1 rfl) ?_
        obtain ⟨r17, hr17, h⟩ := g_bind h
        refine g_callVi (n := 1) (As := [.int r5]) (rest := []) C P (kX8_isLive l X hJ σ r5 _ hr17) wd_221 wd_222 wd_223 wd_5 wd_224 rfl rfl kdX8_isLive ⟨Nat.le_of_ble_eq_true rfl, Nat.le_of_ble_eq_true rfl⟩ ml0 rfl rfl rfl hl.1 (Nat.le_of_ble_eq_true rfl) dX8_movesBy_106 (fun H locs P => ?_)
        refine lv_if_eq (tgt := 116) hx hb dX8_movesBy_109 (by decide) (fun c18 => ?_) (fun c18 => ?_)
        · have h := g_ifp c18 h
          refine lv_iconst (v := 3) hx hb dX8_movesBy_116 (by decide) ?_
          refine g_callSi (n := 1) (As := [.int (3 : Int32)]) (rest := []) C P (kX8_undefinedAs l X hJ σ (3 : Int32) _ rfl) wd_233 wd_234 wd_5 wd_235 rfl rfl kdX8_undefinedAs.2 ⟨Nat.le_of_ble_eq_true rfl, Nat.le_of_ble_eq_true rfl⟩ rfl rfl hl.1 (Nat.le_of_ble_eq_true rfl) dX8_movesBy_117 (fun H locs P => ?_)
          have h := Option.some.inj h
          exact g_iret C P (g_fst h) (g_snd h) dX8_movesBy_120
        have h := g_ifn c18 h
        refine lv_iconst (v := 5) hx hb dX8_movesBy_112 (by decide) ?_
        refine lv_goto (tgt := 117) hx hb dX8_movesBy_113 (by decide) ?_
        refine g_callSi (n := 1) (As := [.int (5 : Int32)]) (rest := []) C P (kX8_undefinedAs l X hJ σ (5 : Int32) _ rfl) wd_233 wd_234 wd_5 wd_235 rfl rfl kdX8_undefinedAs.2 ⟨Nat.le_of_ble_eq_true rfl, Nat.le_of_ble_eq_true rfl⟩ rfl rfl hl.1 (Nat.le_of_ble_eq_true rfl) dX8_movesBy_117 (fun H locs P => ?_)
        have h := Option.some.inj h
        exact g_iret C P (g_fst h) (g_snd h) dX8_movesBy_120
      have h := g_ifp c7 h
      refine lv_iload_n hx hb dX8_movesBy_49 rfl (lv_at hl 0 rfl) ?_
      refine lv_iload_n hx hb dX8_movesBy_50 rfl (lv_at hl 3 rfl) ?_
      refine lv_iadd hx hb dX8_movesBy_51 ?_
      refine lv_ldc (v := 65536) hx hb C.2.2.2.1 (hts _ wd_249) dX8_movesBy_52 ?_
      refine lv_iadd hx hb dX8_movesBy_54 ?_
      refine lv_ldc (v := 65536) hx hb C.2.2.2.1 (hts _ wd_249) dX8_movesBy_55 ?_
      refine lv_irem hx hb dX8_movesBy_57 (by decide) ?_
      refine lv_istore (lv' := [(4, .int (((r5 + a2) + (65536 : Int32)) - ((r5 + a2) + (65536 : Int32)) / (65536 : Int32) * (65536 : Int32))), (3, .int r5), (0, .ref (gad X 0)), (1, .int a1), (2, .int a2)]) hx hb dX8_movesBy_58 hl (by decide) rfl (fun ls hl => ?_)
      refine lv_aload_n hx hb dX8_movesBy_60 rfl (lv_at hl 2 rfl) ?_
      refine lv_iload_n hx hb dX8_movesBy_61 rfl (lv_at hl 3 rfl) ?_
      refine lv_iconst (v := 1) hx hb dX8_movesBy_62 (by decide) ?_
      refine lv_iload hx hb dX8_movesBy_63 (lv_at hl 0 rfl) ?_
      refine lv_iconst (v := 0) hx hb dX8_movesBy_65 (by decide) ?_
      obtain ⟨r19, hr19, h⟩ := g_bind h
      refine g_callVi (n := 4) (As := [.int a1, .int (1 : Int32), .int (((r5 + a2) + (65536 : Int32)) - ((r5 + a2) + (65536 : Int32)) / (65536 : Int32) * (65536 : Int32)), .int (0 : Int32)]) (rest := []) C P (kX8_tells l X hJ σ a1 (1 : Int32) (((r5 + a2) + (65536 : Int32)) - ((r5 + a2) + (65536 : Int32)) / (65536 : Int32) * (65536 : Int32)) (0 : Int32) _ hr19) wd_201 wd_202 wd_203 wd_5 wd_204 rfl rfl kdX8_tells ⟨Nat.le_of_ble_eq_true rfl, Nat.le_of_ble_eq_true rfl⟩ ml0 rfl rfl rfl hl.1 (Nat.le_of_ble_eq_true rfl) dX8_movesBy_66 (fun H locs P => ?_)
      refine lv_iload hx hb dX8_movesBy_69 (lv_at hl 0 rfl) ?_
      refine lv_imul hx hb dX8_movesBy_71 ?_
      have h := Option.some.inj h
      exact g_iret C P (g_fst h) (g_snd h) dX8_movesBy_72
    have h := g_ifp c4 h
    refine lv_iconst (v := 1) hx hb dX8_movesBy_29 (by decide) ?_
    refine g_callSi (n := 1) (As := [.int (1 : Int32)]) (rest := []) C P (kX8_undefinedAs l X hJ σ (1 : Int32) _ rfl) wd_233 wd_234 wd_5 wd_235 rfl rfl kdX8_undefinedAs.2 ⟨Nat.le_of_ble_eq_true rfl, Nat.le_of_ble_eq_true rfl⟩ rfl rfl hl.1 (Nat.le_of_ble_eq_true rfl) dX8_movesBy_30 (fun H locs P => ?_)
    have h := Option.some.inj h
    exact g_iret C P (g_fst h) (g_snd h) dX8_movesBy_33
  have h := g_ifp c2 h
  refine lv_bipush (v := -2) hx hb dX8_movesBy_18 (by decide) ?_
  have h := Option.some.inj h
  exact g_iret C P (g_fst h) (g_snd h) dX8_movesBy_20
