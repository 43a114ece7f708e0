/-! WALKS, by program (wip/whole/gen.py): each method does what its mirror says -/
abbrev rmX8_does : Room := { frames := 8, cells := 0, slots := 0, locals := 186 }
theorem kdX8_does : yX8_does.cls = RX8 ∧ yX8_does.cls ≠ "java/lang/invoke/MethodHandle" ∧ yX8_does.cls ≠ "java/lang/invoke/VarHandle" ∧ (parseMethodDescriptor yX8_does.desc).map (fun d => d.parameters.length) = some 0 := by decide +kernel
set_option maxHeartbeats 4000000 in
set_option maxRecDepth 100000 in
theorem kX8_does_36 {p : Program} {l : Launch} {e : Env} {s : State} {m : MethodId} {args : Array Value} {below : List Frame} {meth : Method} {c : Code} {X : gXt} (hJ : gJ X mL) (C : gC p s m args meth c RX8 cX8_does 3 (some .int) X mL) (f36_1 : Int32) (k : gS → Option (Int32 × gS)) (q : Int32 × gS) (hk : ∀ (σ' : gS) (H : Heap) (locs : List Loc) (ls : Array Slot), k σ' = some q → gH X mL σ' s H locs → lv_has ls 3 [(1, .int f36_1)] → W p l e rmX8_does s m args below meth c H locs 0 0 (MQ below (gQi X mL q.1 q.2) args s 0 0 (gA X mL)) (F0 m 61 ls [])) : ∀ (n : Nat) (σ : gS) (v2 : Int32), qM_does_36 f36_1 k n σ v2 = some q → ∀ (H : Heap) (locs : List Loc) (ls : Array Slot), gH X mL σ s H locs → lv_has ls 3 [(0, .ref (gad X 0)), (1, .int f36_1), (2, .int v2)] → W p l e rmX8_does s m args below meth c H locs 0 0 (MQ below (gQi X mL q.1 q.2) args s 0 0 (gA X mL)) (F0 m 36 ls []) := by
  have hx := C.1
  have hb := C.2.1
  have hK := C.2.2.2.2.2.2.2.1
  have hts := C.2.2.2.2.1
  intro n
  induction n with
  | zero => intro σ v2 h; cases h
  | succ n ih =>
    intro σ v2 h H locs ls P hl
    have h : (if (1219 : Int32) ≤ v2 then k σ else gob v2 1219 (qM_does_36 f36_1 k n (sM σ 1 v2.toNatClampNeg (gM σ 2 v2.toNatClampNeg)) (v2 + 1))) = some q := h
    refine lv_iload_n hx hb dX8_does_36 rfl (lv_at hl 2 rfl) ?_
    refine lv_sipush (v := 1219) hx hb dX8_does_37 (by decide) ?_
    refine lv_icmp_ge (tgt := 61) hx hb dX8_does_40 (by decide) (fun c6 => ?_) (fun c6 => ?_)
    · have h := g_ifp c6 h
      exact hk σ _ _ _ h P (lv_sub hl [1] rfl)
    have h := g_ifn c6 h
    refine lv_aload_n hx hb dX8_does_43 rfl (lv_at hl 0 rfl) ?_
    refine g_getR C P ml0 rfl inlX8 0 (by decide) wd_95 rfl dX8_does_44 ?_
    refine lv_iload_n hx hb dX8_does_47 rfl (lv_at hl 2 rfl) ?_
    refine lv_aload_n hx hb dX8_does_48 rfl (lv_at hl 0 rfl) ?_
    refine g_getR C P ml0 rfl inlX8 1 (by decide) wd_96 rfl dX8_does_49 ?_
    refine lv_iload_n hx hb dX8_does_52 rfl (lv_at hl 2 rfl) ?_
    obtain ⟨b7, h⟩ := g_ob h
    refine g_iald (j := v2.toNatClampNeg) C P ml2 b7 rfl dX8_does_53 ?_
    refine g_iast (j := v2.toNatClampNeg) C P ml1 b7 rfl dX8_does_54 (fun H locs P => ?_)
    refine lv_iinc (v := (v2 + 1)) (lv' := [(2, .int (v2 + 1)), (0, .ref (gad X 0)), (1, .int f36_1)]) hx hb dX8_does_55 hl (k := 2) rfl rfl (by decide) rfl (fun ls hl => ?_)
    refine lv_goto (tgt := 36) hx hb dX8_does_58 (by decide) ?_
    exact ih (sM σ 1 v2.toNatClampNeg (gM σ 2 v2.toNatClampNeg)) (v2 + 1) h _ _ _ P (lv_sub hl [1, 2, 0] rfl)
set_option maxHeartbeats 4000000 in
set_option maxRecDepth 100000 in
theorem kX8_does (l : Launch) (X : gXt) (hJ : gJ X mL) (σ : gS) (q : Int32 × gS) (h : qM_does σ = some q) : gMi l yX8_does (gws yX8_does cX8_does 3 (some .int)) rmX8_does X mL [.ref (gad X 0)] σ q.1 q.2 := by
  refine g_enter (cc := cX8_does) (nL := 3) (ret := (some .int)) hJ (plainFor_of_name (by decide)) (Nat.le_of_ble_eq_true rfl) ?_
  intro p e s m below meth c ls C P hl
  have C : gC p s m _ meth c RX8 cX8_does 3 (some .int) X mL := C
  have hx := C.1
  have hb := C.2.1
  have hK := C.2.2.2.2.2.2.2.1
  have hts := C.2.2.2.2.1
  have hl : lv_has ls 3 [(0, .ref (gad X 0))] := hl
  unfold qM_does at h
  refine lv_aload_n hx hb dX8_does_0 rfl (lv_at hl 0 rfl) ?_
  obtain ⟨r1, hr1, h⟩ := g_bind h
  refine g_callVi (n := 0) (As := []) (rest := []) C P (kX8_isRead l X hJ σ _ hr1) wd_908 wd_909 wd_910 wd_5 wd_911 rfl rfl kdX8_isRead ⟨Nat.le_of_ble_eq_true rfl, Nat.le_of_ble_eq_true rfl⟩ ml0 rfl rfl rfl hl.1 (Nat.le_of_ble_eq_true rfl) dX8_does_1 (fun H locs P => ?_)
  refine lv_if_ne (tgt := 15) hx hb dX8_does_4 (by decide) (fun c2 => ?_) (fun c2 => ?_)
  · have h := g_ifn c2 h
    refine lv_aload_n hx hb dX8_does_15 rfl (lv_at hl 0 rfl) ?_
    obtain ⟨r3, hr3, h⟩ := g_bind h
    refine g_callVv (n := 0) (As := []) (rest := []) C P (kX8_copies l X hJ r1.2 _ hr3) wd_180 wd_181 wd_182 wd_5 wd_183 rfl rfl kdX8_copies ⟨Nat.le_of_ble_eq_true rfl, Nat.le_of_ble_eq_true rfl⟩ ml0 rfl rfl rfl hl.1 (Nat.le_of_ble_eq_true rfl) dX8_does_16 (fun H locs P => ?_)
    refine lv_aload_n hx hb dX8_does_19 rfl (lv_at hl 0 rfl) ?_
    obtain ⟨r4, hr4, h⟩ := g_bind h
    refine g_callVi (n := 0) (As := []) (rest := []) C P (kX8_goes l X hJ r3 _ hr4) wd_937 wd_938 wd_939 wd_5 wd_940 rfl rfl kdX8_goes ⟨Nat.le_of_ble_eq_true rfl, Nat.le_of_ble_eq_true rfl⟩ ml0 rfl rfl rfl hl.1 (Nat.le_of_ble_eq_true rfl) dX8_does_20 (fun H locs P => ?_)
    refine lv_istore_n (lv' := [(1, .int r4.1), (0, .ref (gad X 0))]) hx hb dX8_does_23 rfl hl (by decide) rfl (fun ls hl => ?_)
    refine lv_iload_n hx hb dX8_does_24 rfl (lv_at hl 0 rfl) ?_
    refine lv_if_lt (tgt := 34) hx hb dX8_does_25 (by decide) (fun c5 => ?_) (fun c5 => ?_)
    · have h := g_ifp c5 h
      refine lv_iconst (v := 0) hx hb dX8_does_34 (by decide) ?_
      refine lv_istore_n (lv' := [(2, .int (0 : Int32)), (1, .int r4.1), (0, .ref (gad X 0))]) hx hb dX8_does_35 rfl hl (by decide) rfl (fun ls hl => ?_)
      refine kX8_does_36 hJ C r4.1 _ _ ?_ _ _ _ h _ _ _ P (lv_sub hl [2, 1, 0] rfl)
      intro σ8 H locs ls h P hl
      refine lv_iload_n hx hb dX8_does_61 rfl (lv_at hl 0 rfl) ?_
      have h := Option.some.inj h
      exact g_iret C P (g_fst h) (g_snd h) dX8_does_62
    have h := g_ifn c5 h
    refine lv_aload_n hx hb dX8_does_28 rfl (lv_at hl 1 rfl) ?_
    obtain ⟨r9, hr9, h⟩ := g_bind h
    refine g_callVv (n := 0) (As := []) (rest := []) C P (kX8_remembers l X hJ r4.2 _ hr9) wd_310 wd_311 wd_312 wd_5 wd_313 rfl rfl kdX8_remembers ⟨Nat.le_of_ble_eq_true rfl, Nat.le_of_ble_eq_true rfl⟩ ml0 rfl rfl rfl hl.1 (Nat.le_of_ble_eq_true rfl) dX8_does_29 (fun H locs P => ?_)
    refine lv_iload_n hx hb dX8_does_32 rfl (lv_at hl 0 rfl) ?_
    have h := Option.some.inj h
    exact g_iret C P (g_fst h) (g_snd h) dX8_does_33
  have h := g_ifp c2 h
  refine lv_bipush (v := -10) hx hb dX8_does_7 (by decide) ?_
  refine lv_aload_n hx hb dX8_does_9 rfl (lv_at hl 0 rfl) ?_
  refine g_getI C P ml0 rfl inlX8 16 (by decide) wd_907 rfl dX8_does_10 ?_
  refine lv_isub hx hb dX8_does_13 ?_
  have h := Option.some.inj h
  exact g_iret C P (g_fst h) (g_snd h) dX8_does_14
abbrev rmX8_mix : Room := { frames := 0, cells := 0, slots := 0, locals := 0 }
theorem kdX8_mix : yX8_mix.cls = RX8 ∧ yX8_mix.cls ≠ "java/lang/invoke/MethodHandle" ∧ yX8_mix.cls ≠ "java/lang/invoke/VarHandle" ∧ (parseMethodDescriptor yX8_mix.desc).map (fun d => d.parameters.length) = some 1 := by decide +kernel
set_option maxHeartbeats 4000000 in
set_option maxRecDepth 100000 in
theorem kX8_mix (l : Launch) (X : gXt) (hJ : gJ X mL) (σ : gS) (a1 : Int64) (q : gS) (h : qM_mix σ a1 = some q) : gMv l yX8_mix (gws yX8_mix cX8_mix 3 none) rmX8_mix X mL [.ref (gad X 0), .long a1] σ q := by
  refine g_enter (cc := cX8_mix) (nL := 3) (ret := none) hJ (plainFor_of_name (by decide)) (Nat.le_of_ble_eq_true rfl) ?_
  intro p e s m below meth c ls C P hl
  have C : gC p s m _ meth c RX8 cX8_mix 3 none X mL := C
  have hx := C.1
  have hb := C.2.1
  have hK := C.2.2.2.2.2.2.2.1
  have hts := C.2.2.2.2.1
  have hl : lv_has ls 3 [(0, .ref (gad X 0)), (1, .long a1)] := hl
  unfold qM_mix at h
  refine lv_aload_n hx hb dX8_mix_0 rfl (lv_at hl 0 rfl) ?_
  refine lv_ldc2 (v := 31) hx hb C.2.2.2.1 (hts _ wd_993) dX8_mix_1 ?_
  refine lv_aload_n hx hb dX8_mix_4 rfl (lv_at hl 0 rfl) ?_
  refine g_getL C P ml0 rfl inlX8 18 (by decide) wd_988 rfl dX8_mix_5 ?_
  refine lv_lmul hx hb dX8_mix_8 ?_
  refine lv_lload_n hx hb dX8_mix_9 rfl (lv_at hl 1 rfl) ?_
  refine lv_ladd hx hb dX8_mix_10 ?_
  refine g_putL C P ml0 rfl inlX8 tyX8 tyX8_ok nmX8 18 (by decide) wd_988 rfl gml_hash gml_others rfl rfl rfl dX8_mix_11 (fun H locs P => ?_)
  have h := Option.some.inj h
  exact g_vret C P h dX8_mix_14
abbrev rmX8_mixImage : Room := { frames := 1, cells := 0, slots := 0, locals := 27 }
theorem kdX8_mixImage : yX8_mixImage.cls = RX8 ∧ yX8_mixImage.cls ≠ "java/lang/invoke/MethodHandle" ∧ yX8_mixImage.cls ≠ "java/lang/invoke/VarHandle" ∧ (parseMethodDescriptor yX8_mixImage.desc).map (fun d => d.parameters.length) = some 1 := by decide +kernel
set_option maxHeartbeats 4000000 in
set_option maxRecDepth 100000 in
theorem kX8_mixImage_12 {p : Program} {l : Launch} {e : Env} {s : State} {m : MethodId} {args : Array Value} {below : List Frame} {meth : Method} {c : Code} {X : gXt} (hJ : gJ X mL) (C : gC p s m args meth c RX8 cX8_mixImage 5 none X mL) (f12_1 : Int32) (f12_2 : Int32) (k : gS → Option gS) (q : gS) (hk : ∀ (σ' : gS) (H : Heap) (locs : List Loc) (ls : Array Slot), k σ' = some q → gH X mL σ' s H locs → lv_has ls 5 [(0, .ref (gad X 0)), (2, .int f12_2)] → W p l e rmX8_mixImage s m args below meth c H locs 0 0 (MQ below (gQv X mL q) args s 0 0 (gA X mL)) (F0 m 34 ls [])) : ∀ (n : Nat) (σ : gS) (v3 : Int32), qM_mixImage_12 f12_1 f12_2 k n σ v3 = some q → ∀ (H : Heap) (locs : List Loc) (ls : Array Slot), gH X mL σ s H locs → lv_has ls 5 [(0, .ref (gad X 0)), (1, .int f12_1), (2, .int f12_2), (3, .int v3)] → W p l e rmX8_mixImage s m args below meth c H locs 0 0 (MQ below (gQv X mL q) args s 0 0 (gA X mL)) (F0 m 12 ls []) := by
  have hx := C.1
  have hb := C.2.1
  have hK := C.2.2.2.2.2.2.2.1
  have hts := C.2.2.2.2.1
  intro n
  induction n with
  | zero => intro σ v3 h; cases h
  | succ n ih =>
    intro σ v3 h H locs ls P hl
    have h : (if (3 : Int32) ≤ v3 then k σ else (qM_ofImage σ f12_1 v3).bind (fun r2 => (qM_mix σ r2.toInt64).bind (fun r3 => qM_mixImage_12 f12_1 f12_2 k n r3 (v3 + 1)))) = some q := h
    refine lv_iload_n hx hb dX8_mixImage_12 rfl (lv_at hl 3 rfl) ?_
    refine lv_iconst (v := 3) hx hb dX8_mixImage_13 (by decide) ?_
    refine lv_icmp_ge (tgt := 34) hx hb dX8_mixImage_14 (by decide) (fun c1 => ?_) (fun c1 => ?_)
    · have h := g_ifp c1 h
      exact hk σ _ _ _ h P (lv_sub hl [0, 2] rfl)
    have h := g_ifn c1 h
    refine lv_aload_n hx hb dX8_mixImage_17 rfl (lv_at hl 0 rfl) ?_
    refine lv_aload_n hx hb dX8_mixImage_18 rfl (lv_at hl 0 rfl) ?_
    refine lv_iload_n hx hb dX8_mixImage_19 rfl (lv_at hl 1 rfl) ?_
    refine lv_iload_n hx hb dX8_mixImage_20 rfl (lv_at hl 3 rfl) ?_
    obtain ⟨r2, hr2, h⟩ := g_bind h
    refine g_callVi (n := 2) (As := [.int f12_1, .int v3]) (rest := [.ref (gad X 0)]) C P (kX8_ofImage l X hJ σ f12_1 v3 _ hr2) wd_717 wd_718 wd_719 wd_5 wd_720 rfl rfl kdX8_ofImage ⟨Nat.le_of_ble_eq_true rfl, Nat.le_of_ble_eq_true rfl⟩ ml0 rfl rfl rfl hl.1 (Nat.le_of_ble_eq_true rfl) dX8_mixImage_21 (fun H locs P => ?_)
    refine lv_i2l hx hb dX8_mixImage_24 rfl ?_
    obtain ⟨r3, hr3, h⟩ := g_bind h
    refine g_callVv (n := 1) (As := [.long r2.toInt64]) (rest := []) C P (kX8_mix l X hJ σ r2.toInt64 _ hr3) wd_989 wd_990 wd_991 wd_5 wd_992 rfl rfl kdX8_mix ⟨Nat.le_of_ble_eq_true rfl, Nat.le_of_ble_eq_true rfl⟩ ml0 rfl rfl rfl hl.1 (Nat.le_of_ble_eq_true rfl) dX8_mixImage_25 (fun H locs P => ?_)
    refine lv_iinc (v := (v3 + 1)) (lv' := [(3, .int (v3 + 1)), (0, .ref (gad X 0)), (1, .int f12_1), (2, .int f12_2)]) hx hb dX8_mixImage_28 hl (k := 3) rfl rfl (by decide) rfl (fun ls hl => ?_)
    refine lv_goto (tgt := 12) hx hb dX8_mixImage_31 (by decide) ?_
    exact ih r3 (v3 + 1) h _ _ _ P (lv_sub hl [1, 2, 3, 0] rfl)
set_option maxHeartbeats 4000000 in
set_option maxRecDepth 100000 in
theorem kX8_mixImage_49 {p : Program} {l : Launch} {e : Env} {s : State} {m : MethodId} {args : Array Value} {below : List Frame} {meth : Method} {c : Code} {X : gXt} (hJ : gJ X mL) (C : gC p s m args meth c RX8 cX8_mixImage 5 none X mL) (f49_2 : Int32) (f49_3 : Int32) (k : gS → Option gS) (q : gS) (hk : ∀ (σ' : gS) (H : Heap) (locs : List Loc) (ls : Array Slot), k σ' = some q → gH X mL σ' s H locs → lv_has ls 5 [(0, .ref (gad X 0)), (2, .int f49_2), (3, .int f49_3)] → W p l e rmX8_mixImage s m args below meth c H locs 0 0 (MQ below (gQv X mL q) args s 0 0 (gA X mL)) (F0 m 92 ls [])) : ∀ (n : Nat) (σ : gS) (v4 : Int32), qM_mixImage_49 f49_2 f49_3 k n σ v4 = some q → ∀ (H : Heap) (locs : List Loc) (ls : Array Slot), gH X mL σ s H locs → lv_has ls 5 [(0, .ref (gad X 0)), (2, .int f49_2), (3, .int f49_3), (4, .int v4)] → W p l e rmX8_mixImage s m args below meth c H locs 0 0 (MQ below (gQv X mL q) args s 0 0 (gA X mL)) (F0 m 49 ls []) := by
  have hx := C.1
  have hb := C.2.1
  have hK := C.2.2.2.2.2.2.2.1
  have hts := C.2.2.2.2.1
  intro n
  induction n with
  | zero => intro σ v4 h; cases h
  | succ n ih =>
    intro σ v4 h H locs ls P hl
    have h : gob ((f49_2 + (1 : Int32)) + f49_3) 1219 ((if (gM σ 1 ((f49_2 + (1 : Int32)) + f49_3).toNatClampNeg) ≤ v4 then k σ else gob (((f49_2 + (11 : Int32)) + ((12 : Int32) * f49_3)) + v4) 1219 ((qM_mix σ ((gM σ 1 (((f49_2 + (11 : Int32)) + ((12 : Int32) * f49_3)) + v4).toNatClampNeg).toInt64)).bind (fun r10 => qM_mixImage_49 f49_2 f49_3 k n r10 (v4 + 1))))) = some q := h
    refine lv_iload hx hb dX8_mixImage_49 (lv_at hl 3 rfl) ?_
    refine lv_aload_n hx hb dX8_mixImage_51 rfl (lv_at hl 0 rfl) ?_
    refine g_getR C P ml0 rfl inlX8 0 (by decide) wd_95 rfl dX8_mixImage_52 ?_
    refine lv_iload_n hx hb dX8_mixImage_55 rfl (lv_at hl 1 rfl) ?_
    refine lv_iconst (v := 1) hx hb dX8_mixImage_56 (by decide) ?_
    refine lv_iadd hx hb dX8_mixImage_57 ?_
    refine lv_iload_n hx hb dX8_mixImage_58 rfl (lv_at hl 2 rfl) ?_
    refine lv_iadd hx hb dX8_mixImage_59 ?_
    obtain ⟨b7, h⟩ := g_ob h
    refine g_iald (j := ((f49_2 + (1 : Int32)) + f49_3).toNatClampNeg) C P ml1 b7 rfl dX8_mixImage_60 ?_
    refine lv_icmp_ge (tgt := 92) hx hb dX8_mixImage_61 (by decide) (fun c8 => ?_) (fun c8 => ?_)
    · have h := g_ifp c8 h
      exact hk σ _ _ _ h P (lv_sub hl [0, 1, 2] rfl)
    have h := g_ifn c8 h
    refine lv_aload_n hx hb dX8_mixImage_64 rfl (lv_at hl 0 rfl) ?_
    refine lv_aload_n hx hb dX8_mixImage_65 rfl (lv_at hl 0 rfl) ?_
    refine g_getR C P ml0 rfl inlX8 0 (by decide) wd_95 rfl dX8_mixImage_66 ?_
    refine lv_iload_n hx hb dX8_mixImage_69 rfl (lv_at hl 1 rfl) ?_
    refine lv_bipush (v := 11) hx hb dX8_mixImage_70 (by decide) ?_
    refine lv_iadd hx hb dX8_mixImage_72 ?_
    refine lv_bipush (v := 12) hx hb dX8_mixImage_73 (by decide) ?_
    refine lv_iload_n hx hb dX8_mixImage_75 rfl (lv_at hl 2 rfl) ?_
    refine lv_imul hx hb dX8_mixImage_76 ?_
    refine lv_iadd hx hb dX8_mixImage_77 ?_
    refine lv_iload hx hb dX8_mixImage_78 (lv_at hl 3 rfl) ?_
    refine lv_iadd hx hb dX8_mixImage_80 ?_
    obtain ⟨b9, h⟩ := g_ob h
    refine g_iald (j := (((f49_2 + (11 : Int32)) + ((12 : Int32) * f49_3)) + v4).toNatClampNeg) C P ml1 b9 rfl dX8_mixImage_81 ?_
    refine lv_i2l hx hb dX8_mixImage_82 rfl ?_
    obtain ⟨r10, hr10, h⟩ := g_bind h
    refine g_callVv (n := 1) (As := [.long ((gM σ 1 (((f49_2 + (11 : Int32)) + ((12 : Int32) * f49_3)) + v4).toNatClampNeg).toInt64)]) (rest := []) C P (kX8_mix l X hJ σ ((gM σ 1 (((f49_2 + (11 : Int32)) + ((12 : Int32) * f49_3)) + v4).toNatClampNeg).toInt64) _ hr10) wd_989 wd_990 wd_991 wd_5 wd_992 rfl rfl kdX8_mix ⟨Nat.le_of_ble_eq_true rfl, Nat.le_of_ble_eq_true rfl⟩ ml0 rfl rfl rfl hl.1 (Nat.le_of_ble_eq_true rfl) dX8_mixImage_83 (fun H locs P => ?_)
    refine lv_iinc (v := (v4 + 1)) (lv' := [(4, .int (v4 + 1)), (0, .ref (gad X 0)), (2, .int f49_2), (3, .int f49_3)]) hx hb dX8_mixImage_86 hl (k := 3) rfl rfl (by decide) rfl (fun ls hl => ?_)
    refine lv_goto (tgt := 49) hx hb dX8_mixImage_89 (by decide) ?_
    exact ih r10 (v4 + 1) h _ _ _ P (lv_sub hl [1, 2, 3, 0] rfl)
set_option maxHeartbeats 4000000 in
set_option maxRecDepth 100000 in
theorem kX8_mixImage_36 {p : Program} {l : Launch} {e : Env} {s : State} {m : MethodId} {args : Array Value} {below : List Frame} {meth : Method} {c : Code} {X : gXt} (hJ : gJ X mL) (C : gC p s m args meth c RX8 cX8_mixImage 5 none X mL) (f36_2 : Int32) (k : gS → Option gS) (q : gS) (hk : ∀ (σ' : gS) (H : Heap) (locs : List Loc) (ls : Array Slot), k σ' = some q → gH X mL σ' s H locs → lv_has ls 5 [] → W p l e rmX8_mixImage s m args below meth c H locs 0 0 (MQ below (gQv X mL q) args s 0 0 (gA X mL)) (F0 m 98 ls [])) : ∀ (n : Nat) (σ : gS) (v3 : Int32), qM_mixImage_36 f36_2 k n σ v3 = some q → ∀ (H : Heap) (locs : List Loc) (ls : Array Slot), gH X mL σ s H locs → lv_has ls 5 [(0, .ref (gad X 0)), (2, .int f36_2), (3, .int v3)] → W p l e rmX8_mixImage s m args below meth c H locs 0 0 (MQ below (gQv X mL q) args s 0 0 (gA X mL)) (F0 m 36 ls []) := by
  have hx := C.1
  have hb := C.2.1
  have hK := C.2.2.2.2.2.2.2.1
  have hts := C.2.2.2.2.1
  intro n
  induction n with
  | zero => intro σ v3 h; cases h
  | succ n ih =>
    intro σ v3 h H locs ls P hl
    have h : gob f36_2 1219 ((if (gM σ 1 f36_2.toNatClampNeg) ≤ v3 then k σ else qM_mixImage_49 f36_2 v3 (fun σ11 => qM_mixImage_36 f36_2 k n σ11 (v3 + 1)) 8192 σ (0 : Int32))) = some q := h
    refine lv_iload_n hx hb dX8_mixImage_36 rfl (lv_at hl 2 rfl) ?_
    refine lv_aload_n hx hb dX8_mixImage_37 rfl (lv_at hl 0 rfl) ?_
    refine g_getR C P ml0 rfl inlX8 0 (by decide) wd_95 rfl dX8_mixImage_38 ?_
    refine lv_iload_n hx hb dX8_mixImage_41 rfl (lv_at hl 1 rfl) ?_
    obtain ⟨b5, h⟩ := g_ob h
    refine g_iald (j := f36_2.toNatClampNeg) C P ml1 b5 rfl dX8_mixImage_42 ?_
    refine lv_icmp_ge (tgt := 98) hx hb dX8_mixImage_43 (by decide) (fun c6 => ?_) (fun c6 => ?_)
    · have h := g_ifp c6 h
      exact hk σ _ _ _ h P (lv_sub hl [] rfl)
    have h := g_ifn c6 h
    refine lv_iconst (v := 0) hx hb dX8_mixImage_46 (by decide) ?_
    refine lv_istore (lv' := [(4, .int (0 : Int32)), (0, .ref (gad X 0)), (2, .int f36_2), (3, .int v3)]) hx hb dX8_mixImage_47 hl (by decide) rfl (fun ls hl => ?_)
    refine kX8_mixImage_49 hJ C f36_2 v3 _ _ ?_ _ _ _ h _ _ _ P (lv_sub hl [1, 2, 3, 0] rfl)
    intro σ11 H locs ls h P hl
    refine lv_iinc (v := (v3 + 1)) (lv' := [(3, .int (v3 + 1)), (0, .ref (gad X 0)), (2, .int f36_2)]) hx hb dX8_mixImage_92 hl (k := 2) rfl rfl (by decide) rfl (fun ls hl => ?_)
    refine lv_goto (tgt := 36) hx hb dX8_mixImage_95 (by decide) ?_
    exact ih σ11 (v3 + 1) h _ _ _ P (lv_sub hl [1, 2, 0] rfl)
set_option maxHeartbeats 4000000 in
set_option maxRecDepth 100000 in
theorem kX8_mixImage (l : Launch) (X : gXt) (hJ : gJ X mL) (σ : gS) (a1 : Int32) (q : gS) (h : qM_mixImage σ a1 = some q) : gMv l yX8_mixImage (gws yX8_mixImage cX8_mixImage 5 none) rmX8_mixImage X mL [.ref (gad X 0), .int a1] σ q := by
  refine g_enter (cc := cX8_mixImage) (nL := 5) (ret := none) hJ (plainFor_of_name (by decide)) (Nat.le_of_ble_eq_true rfl) ?_
  intro p e s m below meth c ls C P hl
  have C : gC p s m _ meth c RX8 cX8_mixImage 5 none X mL := C
  have hx := C.1
  have hb := C.2.1
  have hK := C.2.2.2.2.2.2.2.1
  have hts := C.2.2.2.2.1
  have hl : lv_has ls 5 [(0, .ref (gad X 0)), (1, .int a1)] := hl
  unfold qM_mixImage at h
  refine lv_sipush (v := 171) hx hb dX8_mixImage_0 (by decide) ?_
  refine lv_sipush (v := 131) hx hb dX8_mixImage_3 (by decide) ?_
  refine lv_iload_n hx hb dX8_mixImage_6 rfl (lv_at hl 1 rfl) ?_
  refine lv_imul hx hb dX8_mixImage_7 ?_
  refine lv_iadd hx hb dX8_mixImage_8 ?_
  refine lv_istore_n (lv' := [(2, .int ((171 : Int32) + ((131 : Int32) * a1))), (0, .ref (gad X 0)), (1, .int a1)]) hx hb dX8_mixImage_9 rfl hl (by decide) rfl (fun ls hl => ?_)
  refine lv_iconst (v := 0) hx hb dX8_mixImage_10 (by decide) ?_
  refine lv_istore_n (lv' := [(3, .int (0 : Int32)), (2, .int ((171 : Int32) + ((131 : Int32) * a1))), (0, .ref (gad X 0)), (1, .int a1)]) hx hb dX8_mixImage_11 rfl hl (by decide) rfl (fun ls hl => ?_)
  refine kX8_mixImage_12 hJ C a1 ((171 : Int32) + ((131 : Int32) * a1)) _ _ ?_ _ _ _ h _ _ _ P (lv_sub hl [2, 3, 1, 0] rfl)
  intro σ4 H locs ls h P hl
  refine lv_iconst (v := 0) hx hb dX8_mixImage_34 (by decide) ?_
  refine lv_istore_n (lv' := [(3, .int (0 : Int32)), (0, .ref (gad X 0)), (2, .int ((171 : Int32) + ((131 : Int32) * a1)))]) hx hb dX8_mixImage_35 rfl hl (by decide) rfl (fun ls hl => ?_)
  refine kX8_mixImage_36 hJ C ((171 : Int32) + ((131 : Int32) * a1)) _ _ ?_ _ _ _ h _ _ _ P (lv_sub hl [1, 2, 0] rfl)
  intro σ12 H locs ls h P hl
  have h := Option.some.inj h
  exact g_vret C P h dX8_mixImage_98
abbrev rmX8_digest : Room := { frames := 5, cells := 0, slots := 0, locals := 109 }
theorem kdX8_digest : yX8_digest.cls = RX8 ∧ yX8_digest.cls ≠ "java/lang/invoke/MethodHandle" ∧ yX8_digest.cls ≠ "java/lang/invoke/VarHandle" ∧ (parseMethodDescriptor yX8_digest.desc).map (fun d => d.parameters.length) = some 0 := by decide +kernel
set_option maxHeartbeats 4000000 in
set_option maxRecDepth 100000 in
theorem kX8_digest_9 {p : Program} {l : Launch} {e : Env} {s : State} {m : MethodId} {args : Array Value} {below : List Frame} {meth : Method} {c : Code} {X : gXt} (hJ : gJ X mL) (C : gC p s m args meth c RX8 cX8_digest 3 (some .long) X mL) (k : gS → Option (Int64 × gS)) (q : Int64 × gS) (hk : ∀ (σ' : gS) (H : Heap) (locs : List Loc) (ls : Array Slot), k σ' = some q → gH X mL σ' s H locs → lv_has ls 3 [(0, .ref (gad X 0))] → W p l e rmX8_digest s m args below meth c H locs 0 0 (MQ below (gQl X mL q.1 q.2) args s 0 0 (gA X mL)) (F0 m 31 ls [])) : ∀ (n : Nat) (σ : gS) (v1 : Int32), qM_digest_9 k n σ v1 = some q → ∀ (H : Heap) (locs : List Loc) (ls : Array Slot), gH X mL σ s H locs → lv_has ls 3 [(0, .ref (gad X 0)), (1, .int v1)] → W p l e rmX8_digest s m args below meth c H locs 0 0 (MQ below (gQl X mL q.1 q.2) args s 0 0 (gA X mL)) (F0 m 9 ls []) := by
  have hx := C.1
  have hb := C.2.1
  have hK := C.2.2.2.2.2.2.2.1
  have hts := C.2.2.2.2.1
  intro n
  induction n with
  | zero => intro σ v1 h; cases h
  | succ n ih =>
    intro σ v1 h H locs ls P hl
    have h : (if (10 : Int32) ≤ v1 then k σ else (qM_countOf σ v1).bind (fun r2 => (qM_mix σ r2.toInt64).bind (fun r3 => qM_digest_9 k n r3 (v1 + 1)))) = some q := h
    refine lv_iload_n hx hb dX8_digest_9 rfl (lv_at hl 1 rfl) ?_
    refine lv_bipush (v := 10) hx hb dX8_digest_10 (by decide) ?_
    refine lv_icmp_ge (tgt := 31) hx hb dX8_digest_12 (by decide) (fun c1 => ?_) (fun c1 => ?_)
    · have h := g_ifp c1 h
      exact hk σ _ _ _ h P (lv_sub hl [0] rfl)
    have h := g_ifn c1 h
    refine lv_aload_n hx hb dX8_digest_15 rfl (lv_at hl 0 rfl) ?_
    refine lv_aload_n hx hb dX8_digest_16 rfl (lv_at hl 0 rfl) ?_
    refine lv_iload_n hx hb dX8_digest_17 rfl (lv_at hl 1 rfl) ?_
    obtain ⟨r2, hr2, h⟩ := g_bind h
    refine g_callVi (n := 1) (As := [.int v1]) (rest := [.ref (gad X 0)]) C P (kX8_countOf l X hJ σ v1 _ hr2) wd_775 wd_776 wd_777 wd_5 wd_778 rfl rfl kdX8_countOf ⟨Nat.le_of_ble_eq_true rfl, Nat.le_of_ble_eq_true rfl⟩ ml0 rfl rfl rfl hl.1 (Nat.le_of_ble_eq_true rfl) dX8_digest_18 (fun H locs P => ?_)
    refine lv_i2l hx hb dX8_digest_21 rfl ?_
    obtain ⟨r3, hr3, h⟩ := g_bind h
    refine g_callVv (n := 1) (As := [.long r2.toInt64]) (rest := []) C P (kX8_mix l X hJ σ r2.toInt64 _ hr3) wd_989 wd_990 wd_991 wd_5 wd_992 rfl rfl kdX8_mix ⟨Nat.le_of_ble_eq_true rfl, Nat.le_of_ble_eq_true rfl⟩ ml0 rfl rfl rfl hl.1 (Nat.le_of_ble_eq_true rfl) dX8_digest_22 (fun H locs P => ?_)
    refine lv_iinc (v := (v1 + 1)) (lv' := [(1, .int (v1 + 1)), (0, .ref (gad X 0))]) hx hb dX8_digest_25 hl (k := 1) rfl rfl (by decide) rfl (fun ls hl => ?_)
    refine lv_goto (tgt := 9) hx hb dX8_digest_28 (by decide) ?_
    exact ih r3 (v1 + 1) h _ _ _ P (lv_sub hl [1, 0] rfl)
set_option maxHeartbeats 4000000 in
set_option maxRecDepth 100000 in
theorem kX8_digest_33 {p : Program} {l : Launch} {e : Env} {s : State} {m : MethodId} {args : Array Value} {below : List Frame} {meth : Method} {c : Code} {X : gXt} (hJ : gJ X mL) (C : gC p s m args meth c RX8 cX8_digest 3 (some .long) X mL) (k : gS → Option (Int64 × gS)) (q : Int64 × gS) (hk : ∀ (σ' : gS) (H : Heap) (locs : List Loc) (ls : Array Slot), k σ' = some q → gH X mL σ' s H locs → lv_has ls 3 [(0, .ref (gad X 0))] → W p l e rmX8_digest s m args below meth c H locs 0 0 (MQ below (gQl X mL q.1 q.2) args s 0 0 (gA X mL)) (F0 m 56 ls [])) : ∀ (n : Nat) (σ : gS) (v1 : Int32), qM_digest_33 k n σ v1 = some q → ∀ (H : Heap) (locs : List Loc) (ls : Array Slot), gH X mL σ s H locs → lv_has ls 3 [(0, .ref (gad X 0)), (1, .int v1)] → W p l e rmX8_digest s m args below meth c H locs 0 0 (MQ below (gQl X mL q.1 q.2) args s 0 0 (gA X mL)) (F0 m 33 ls []) := by
  have hx := C.1
  have hb := C.2.1
  have hK := C.2.2.2.2.2.2.2.1
  have hts := C.2.2.2.2.1
  intro n
  induction n with
  | zero => intro σ v1 h; cases h
  | succ n ih =>
    intro σ v1 h H locs ls P hl
    have h : (if (10 : Int32) ≤ v1 then k σ else gob v1 10 ((qM_mix σ ((gM σ 5 v1.toNatClampNeg).toInt64)).bind (fun r7 => qM_digest_33 k n r7 (v1 + 1)))) = some q := h
    refine lv_iload_n hx hb dX8_digest_33 rfl (lv_at hl 1 rfl) ?_
    refine lv_bipush (v := 10) hx hb dX8_digest_34 (by decide) ?_
    refine lv_icmp_ge (tgt := 56) hx hb dX8_digest_36 (by decide) (fun c5 => ?_) (fun c5 => ?_)
    · have h := g_ifp c5 h
      exact hk σ _ _ _ h P (lv_sub hl [0] rfl)
    have h := g_ifn c5 h
    refine lv_aload_n hx hb dX8_digest_39 rfl (lv_at hl 0 rfl) ?_
    refine lv_aload_n hx hb dX8_digest_40 rfl (lv_at hl 0 rfl) ?_
    refine g_getR C P ml0 rfl inlX8 5 (by decide) wd_99 rfl dX8_digest_41 ?_
    refine lv_iload_n hx hb dX8_digest_44 rfl (lv_at hl 1 rfl) ?_
    obtain ⟨b6, h⟩ := g_ob h
    refine g_iald (j := v1.toNatClampNeg) C P ml5 b6 rfl dX8_digest_45 ?_
    refine lv_i2l hx hb dX8_digest_46 rfl ?_
    obtain ⟨r7, hr7, h⟩ := g_bind h
    refine g_callVv (n := 1) (As := [.long ((gM σ 5 v1.toNatClampNeg).toInt64)]) (rest := []) C P (kX8_mix l X hJ σ ((gM σ 5 v1.toNatClampNeg).toInt64) _ hr7) wd_989 wd_990 wd_991 wd_5 wd_992 rfl rfl kdX8_mix ⟨Nat.le_of_ble_eq_true rfl, Nat.le_of_ble_eq_true rfl⟩ ml0 rfl rfl rfl hl.1 (Nat.le_of_ble_eq_true rfl) dX8_digest_47 (fun H locs P => ?_)
    refine lv_iinc (v := (v1 + 1)) (lv' := [(1, .int (v1 + 1)), (0, .ref (gad X 0))]) hx hb dX8_digest_50 hl (k := 1) rfl rfl (by decide) rfl (fun ls hl => ?_)
    refine lv_goto (tgt := 33) hx hb dX8_digest_53 (by decide) ?_
    exact ih r7 (v1 + 1) h _ _ _ P (lv_sub hl [1, 0] rfl)
set_option maxHeartbeats 4000000 in
set_option maxRecDepth 100000 in
theorem kX8_digest_66 {p : Program} {l : Launch} {e : Env} {s : State} {m : MethodId} {args : Array Value} {below : List Frame} {meth : Method} {c : Code} {X : gXt} (hJ : gJ X mL) (C : gC p s m args meth c RX8 cX8_digest 3 (some .long) X mL) (f66_1 : Int32) (k : gS → Option (Int64 × gS)) (q : Int64 × gS) (hk : ∀ (σ' : gS) (H : Heap) (locs : List Loc) (ls : Array Slot), k σ' = some q → gH X mL σ' s H locs → lv_has ls 3 [(0, .ref (gad X 0)), (1, .int f66_1)] → W p l e rmX8_digest s m args below meth c H locs 0 0 (MQ below (gQl X mL q.1 q.2) args s 0 0 (gA X mL)) (F0 m 88 ls [])) : ∀ (n : Nat) (σ : gS) (v2 : Int32), qM_digest_66 f66_1 k n σ v2 = some q → ∀ (H : Heap) (locs : List Loc) (ls : Array Slot), gH X mL σ s H locs → lv_has ls 3 [(0, .ref (gad X 0)), (1, .int f66_1), (2, .int v2)] → W p l e rmX8_digest s m args below meth c H locs 0 0 (MQ below (gQl X mL q.1 q.2) args s 0 0 (gA X mL)) (F0 m 66 ls []) := by
  have hx := C.1
  have hb := C.2.1
  have hK := C.2.2.2.2.2.2.2.1
  have hts := C.2.2.2.2.1
  intro n
  induction n with
  | zero => intro σ v2 h; cases h
  | succ n ih =>
    intro σ v2 h H locs ls P hl
    have h : (if (3 : Int32) ≤ v2 then k σ else (qM_ofRegister σ f66_1 v2).bind (fun r11 => (qM_mix σ r11.toInt64).bind (fun r12 => qM_digest_66 f66_1 k n r12 (v2 + 1)))) = some q := h
    refine lv_iload_n hx hb dX8_digest_66 rfl (lv_at hl 2 rfl) ?_
    refine lv_iconst (v := 3) hx hb dX8_digest_67 (by decide) ?_
    refine lv_icmp_ge (tgt := 88) hx hb dX8_digest_68 (by decide) (fun c10 => ?_) (fun c10 => ?_)
    · have h := g_ifp c10 h
      exact hk σ _ _ _ h P (lv_sub hl [0, 1] rfl)
    have h := g_ifn c10 h
    refine lv_aload_n hx hb dX8_digest_71 rfl (lv_at hl 0 rfl) ?_
    refine lv_aload_n hx hb dX8_digest_72 rfl (lv_at hl 0 rfl) ?_
    refine lv_iload_n hx hb dX8_digest_73 rfl (lv_at hl 1 rfl) ?_
    refine lv_iload_n hx hb dX8_digest_74 rfl (lv_at hl 2 rfl) ?_
    obtain ⟨r11, hr11, h⟩ := g_bind h
    refine g_callVi (n := 2) (As := [.int f66_1, .int v2]) (rest := [.ref (gad X 0)]) C P (kX8_ofRegister l X hJ σ f66_1 v2 _ hr11) wd_630 wd_631 wd_632 wd_5 wd_633 rfl rfl kdX8_ofRegister ⟨Nat.le_of_ble_eq_true rfl, Nat.le_of_ble_eq_true rfl⟩ ml0 rfl rfl rfl hl.1 (Nat.le_of_ble_eq_true rfl) dX8_digest_75 (fun H locs P => ?_)
    refine lv_i2l hx hb dX8_digest_78 rfl ?_
    obtain ⟨r12, hr12, h⟩ := g_bind h
    refine g_callVv (n := 1) (As := [.long r11.toInt64]) (rest := []) C P (kX8_mix l X hJ σ r11.toInt64 _ hr12) wd_989 wd_990 wd_991 wd_5 wd_992 rfl rfl kdX8_mix ⟨Nat.le_of_ble_eq_true rfl, Nat.le_of_ble_eq_true rfl⟩ ml0 rfl rfl rfl hl.1 (Nat.le_of_ble_eq_true rfl) dX8_digest_79 (fun H locs P => ?_)
    refine lv_iinc (v := (v2 + 1)) (lv' := [(2, .int (v2 + 1)), (0, .ref (gad X 0)), (1, .int f66_1)]) hx hb dX8_digest_82 hl (k := 2) rfl rfl (by decide) rfl (fun ls hl => ?_)
    refine lv_goto (tgt := 66) hx hb dX8_digest_85 (by decide) ?_
    exact ih r12 (v2 + 1) h _ _ _ P (lv_sub hl [1, 2, 0] rfl)
set_option maxHeartbeats 4000000 in
set_option maxRecDepth 100000 in
theorem kX8_digest_58 {p : Program} {l : Launch} {e : Env} {s : State} {m : MethodId} {args : Array Value} {below : List Frame} {meth : Method} {c : Code} {X : gXt} (hJ : gJ X mL) (C : gC p s m args meth c RX8 cX8_digest 3 (some .long) X mL) (k : gS → Option (Int64 × gS)) (q : Int64 × gS) (hk : ∀ (σ' : gS) (H : Heap) (locs : List Loc) (ls : Array Slot), k σ' = some q → gH X mL σ' s H locs → lv_has ls 3 [(0, .ref (gad X 0))] → W p l e rmX8_digest s m args below meth c H locs 0 0 (MQ below (gQl X mL q.1 q.2) args s 0 0 (gA X mL)) (F0 m 94 ls [])) : ∀ (n : Nat) (σ : gS) (v1 : Int32), qM_digest_58 k n σ v1 = some q → ∀ (H : Heap) (locs : List Loc) (ls : Array Slot), gH X mL σ s H locs → lv_has ls 3 [(0, .ref (gad X 0)), (1, .int v1)] → W p l e rmX8_digest s m args below meth c H locs 0 0 (MQ below (gQl X mL q.1 q.2) args s 0 0 (gA X mL)) (F0 m 58 ls []) := by
  have hx := C.1
  have hb := C.2.1
  have hK := C.2.2.2.2.2.2.2.1
  have hts := C.2.2.2.2.1
  intro n
  induction n with
  | zero => intro σ v1 h; cases h
  | succ n ih =>
    intro σ v1 h H locs ls P hl
    have h : (if (6 : Int32) ≤ v1 then k σ else qM_digest_66 v1 (fun σ13 => qM_digest_58 k n σ13 (v1 + 1)) 8192 σ (0 : Int32)) = some q := h
    refine lv_iload_n hx hb dX8_digest_58 rfl (lv_at hl 1 rfl) ?_
    refine lv_bipush (v := 6) hx hb dX8_digest_59 (by decide) ?_
    refine lv_icmp_ge (tgt := 94) hx hb dX8_digest_61 (by decide) (fun c9 => ?_) (fun c9 => ?_)
    · have h := g_ifp c9 h
      exact hk σ _ _ _ h P (lv_sub hl [0] rfl)
    have h := g_ifn c9 h
    refine lv_iconst (v := 0) hx hb dX8_digest_64 (by decide) ?_
    refine lv_istore_n (lv' := [(2, .int (0 : Int32)), (0, .ref (gad X 0)), (1, .int v1)]) hx hb dX8_digest_65 rfl hl (by decide) rfl (fun ls hl => ?_)
    refine kX8_digest_66 hJ C v1 _ _ ?_ _ _ _ h _ _ _ P (lv_sub hl [1, 2, 0] rfl)
    intro σ13 H locs ls h P hl
    refine lv_iinc (v := (v1 + 1)) (lv' := [(1, .int (v1 + 1)), (0, .ref (gad X 0))]) hx hb dX8_digest_88 hl (k := 1) rfl rfl (by decide) rfl (fun ls hl => ?_)
    refine lv_goto (tgt := 58) hx hb dX8_digest_91 (by decide) ?_
    exact ih σ13 (v1 + 1) h _ _ _ P (lv_sub hl [1, 0] rfl)
set_option maxHeartbeats 4000000 in
set_option maxRecDepth 100000 in
theorem kX8_digest_108 {p : Program} {l : Launch} {e : Env} {s : State} {m : MethodId} {args : Array Value} {below : List Frame} {meth : Method} {c : Code} {X : gXt} (hJ : gJ X mL) (C : gC p s m args meth c RX8 cX8_digest 3 (some .long) X mL) (f108_1 : Int32) (k : gS → Option (Int64 × gS)) (q : Int64 × gS) (hk : ∀ (σ' : gS) (H : Heap) (locs : List Loc) (ls : Array Slot), k σ' = some q → gH X mL σ' s H locs → lv_has ls 3 [(0, .ref (gad X 0)), (1, .int f108_1)] → W p l e rmX8_digest s m args below meth c H locs 0 0 (MQ below (gQl X mL q.1 q.2) args s 0 0 (gA X mL)) (F0 m 130 ls [])) : ∀ (n : Nat) (σ : gS) (v2 : Int32), qM_digest_108 f108_1 k n σ v2 = some q → ∀ (H : Heap) (locs : List Loc) (ls : Array Slot), gH X mL σ s H locs → lv_has ls 3 [(0, .ref (gad X 0)), (1, .int f108_1), (2, .int v2)] → W p l e rmX8_digest s m args below meth c H locs 0 0 (MQ below (gQl X mL q.1 q.2) args s 0 0 (gA X mL)) (F0 m 108 ls []) := by
  have hx := C.1
  have hb := C.2.1
  have hK := C.2.2.2.2.2.2.2.1
  have hts := C.2.2.2.2.1
  intro n
  induction n with
  | zero => intro σ v2 h; cases h
  | succ n ih =>
    intro σ v2 h H locs ls P hl
    have h : (if (5 : Int32) ≤ v2 then k σ else (qM_ofPiece σ f108_1 v2).bind (fun r17 => (qM_mix r17.2 r17.1.toInt64).bind (fun r18 => qM_digest_108 f108_1 k n r18 (v2 + 1)))) = some q := h
    refine lv_iload_n hx hb dX8_digest_108 rfl (lv_at hl 2 rfl) ?_
    refine lv_iconst (v := 5) hx hb dX8_digest_109 (by decide) ?_
    refine lv_icmp_ge (tgt := 130) hx hb dX8_digest_110 (by decide) (fun c16 => ?_) (fun c16 => ?_)
    · have h := g_ifp c16 h
      exact hk σ _ _ _ h P (lv_sub hl [0, 1] rfl)
    have h := g_ifn c16 h
    refine lv_aload_n hx hb dX8_digest_113 rfl (lv_at hl 0 rfl) ?_
    refine lv_aload_n hx hb dX8_digest_114 rfl (lv_at hl 0 rfl) ?_
    refine lv_iload_n hx hb dX8_digest_115 rfl (lv_at hl 1 rfl) ?_
    refine lv_iload_n hx hb dX8_digest_116 rfl (lv_at hl 2 rfl) ?_
    obtain ⟨r17, hr17, h⟩ := g_bind h
    refine g_callVi (n := 2) (As := [.int f108_1, .int v2]) (rest := [.ref (gad X 0)]) C P (kX8_ofPiece l X hJ σ f108_1 v2 _ hr17) wd_666 wd_667 wd_668 wd_5 wd_669 rfl rfl kdX8_ofPiece ⟨Nat.le_of_ble_eq_true rfl, Nat.le_of_ble_eq_true rfl⟩ ml0 rfl rfl rfl hl.1 (Nat.le_of_ble_eq_true rfl) dX8_digest_117 (fun H locs P => ?_)
    refine lv_i2l hx hb dX8_digest_120 rfl ?_
    obtain ⟨r18, hr18, h⟩ := g_bind h
    refine g_callVv (n := 1) (As := [.long r17.1.toInt64]) (rest := []) C P (kX8_mix l X hJ r17.2 r17.1.toInt64 _ hr18) wd_989 wd_990 wd_991 wd_5 wd_992 rfl rfl kdX8_mix ⟨Nat.le_of_ble_eq_true rfl, Nat.le_of_ble_eq_true rfl⟩ ml0 rfl rfl rfl hl.1 (Nat.le_of_ble_eq_true rfl) dX8_digest_121 (fun H locs P => ?_)
    refine lv_iinc (v := (v2 + 1)) (lv' := [(2, .int (v2 + 1)), (0, .ref (gad X 0)), (1, .int f108_1)]) hx hb dX8_digest_124 hl (k := 2) rfl rfl (by decide) rfl (fun ls hl => ?_)
    refine lv_goto (tgt := 108) hx hb dX8_digest_127 (by decide) ?_
    exact ih r18 (v2 + 1) h _ _ _ P (lv_sub hl [1, 2, 0] rfl)
set_option maxHeartbeats 4000000 in
set_option maxRecDepth 100000 in
theorem kX8_digest_132 {p : Program} {l : Launch} {e : Env} {s : State} {m : MethodId} {args : Array Value} {below : List Frame} {meth : Method} {c : Code} {X : gXt} (hJ : gJ X mL) (C : gC p s m args meth c RX8 cX8_digest 3 (some .long) X mL) (f132_1 : Int32) (k : gS → Option (Int64 × gS)) (q : Int64 × gS) (hk : ∀ (σ' : gS) (H : Heap) (locs : List Loc) (ls : Array Slot), k σ' = some q → gH X mL σ' s H locs → lv_has ls 3 [(0, .ref (gad X 0)), (1, .int f132_1)] → W p l e rmX8_digest s m args below meth c H locs 0 0 (MQ below (gQl X mL q.1 q.2) args s 0 0 (gA X mL)) (F0 m 162 ls [])) : ∀ (n : Nat) (σ : gS) (v2 : Int32), qM_digest_132 f132_1 k n σ v2 = some q → ∀ (H : Heap) (locs : List Loc) (ls : Array Slot), gH X mL σ s H locs → lv_has ls 3 [(0, .ref (gad X 0)), (1, .int f132_1), (2, .int v2)] → W p l e rmX8_digest s m args below meth c H locs 0 0 (MQ below (gQl X mL q.1 q.2) args s 0 0 (gA X mL)) (F0 m 132 ls []) := by
  have hx := C.1
  have hb := C.2.1
  have hK := C.2.2.2.2.2.2.2.1
  have hts := C.2.2.2.2.1
  intro n
  induction n with
  | zero => intro σ v2 h; cases h
  | succ n ih =>
    intro σ v2 h H locs ls P hl
    have h : (qM_sizeOf σ f132_1).bind (fun r20 => (if r20 ≤ v2 then k σ else gob (qM_bytePlace f132_1 v2) 1219 ((qM_mix σ ((gM σ 1 (qM_bytePlace f132_1 v2).toNatClampNeg).toInt64)).bind (fun r23 => qM_digest_132 f132_1 k n r23 (v2 + 1))))) = some q := h
    refine lv_iload_n hx hb dX8_digest_132 rfl (lv_at hl 2 rfl) ?_
    refine lv_aload_n hx hb dX8_digest_133 rfl (lv_at hl 0 rfl) ?_
    refine lv_iload_n hx hb dX8_digest_134 rfl (lv_at hl 1 rfl) ?_
    obtain ⟨r20, hr20, h⟩ := g_bind h
    refine g_callVi (n := 1) (As := [.int f132_1]) (rest := [.int v2]) C P (kX8_sizeOf l X hJ σ f132_1 _ hr20) wd_250 wd_251 wd_252 wd_5 wd_253 rfl rfl kdX8_sizeOf ⟨Nat.le_of_ble_eq_true rfl, Nat.le_of_ble_eq_true rfl⟩ ml0 rfl rfl rfl hl.1 (Nat.le_of_ble_eq_true rfl) dX8_digest_135 (fun H locs P => ?_)
    refine lv_icmp_ge (tgt := 162) hx hb dX8_digest_138 (by decide) (fun c21 => ?_) (fun c21 => ?_)
    · have h := g_ifp c21 h
      exact hk σ _ _ _ h P (lv_sub hl [0, 1] rfl)
    have h := g_ifn c21 h
    refine lv_aload_n hx hb dX8_digest_141 rfl (lv_at hl 0 rfl) ?_
    refine lv_aload_n hx hb dX8_digest_142 rfl (lv_at hl 0 rfl) ?_
    refine g_getR C P ml0 rfl inlX8 0 (by decide) wd_95 rfl dX8_digest_143 ?_
    refine lv_iload_n hx hb dX8_digest_146 rfl (lv_at hl 1 rfl) ?_
    refine lv_iload_n hx hb dX8_digest_147 rfl (lv_at hl 2 rfl) ?_
    refine g_callSi (n := 2) (As := [.int f132_1, .int v2]) (rest := [.ref (gad X 1), .ref (gad X 0)]) C P (kX8_bytePlace l X hJ σ f132_1 v2 _ rfl) wd_270 wd_271 wd_5 wd_272 rfl rfl kdX8_bytePlace.2 ⟨Nat.le_of_ble_eq_true rfl, Nat.le_of_ble_eq_true rfl⟩ rfl rfl hl.1 (Nat.le_of_ble_eq_true rfl) dX8_digest_148 (fun H locs P => ?_)
    obtain ⟨b22, h⟩ := g_ob h
    refine g_iald (j := (qM_bytePlace f132_1 v2).toNatClampNeg) C P ml1 b22 rfl dX8_digest_151 ?_
    refine lv_i2l hx hb dX8_digest_152 rfl ?_
    obtain ⟨r23, hr23, h⟩ := g_bind h
    refine g_callVv (n := 1) (As := [.long ((gM σ 1 (qM_bytePlace f132_1 v2).toNatClampNeg).toInt64)]) (rest := []) C P (kX8_mix l X hJ σ ((gM σ 1 (qM_bytePlace f132_1 v2).toNatClampNeg).toInt64) _ hr23) wd_989 wd_990 wd_991 wd_5 wd_992 rfl rfl kdX8_mix ⟨Nat.le_of_ble_eq_true rfl, Nat.le_of_ble_eq_true rfl⟩ ml0 rfl rfl rfl hl.1 (Nat.le_of_ble_eq_true rfl) dX8_digest_153 (fun H locs P => ?_)
    refine lv_iinc (v := (v2 + 1)) (lv' := [(2, .int (v2 + 1)), (0, .ref (gad X 0)), (1, .int f132_1)]) hx hb dX8_digest_156 hl (k := 2) rfl rfl (by decide) rfl (fun ls hl => ?_)
    refine lv_goto (tgt := 132) hx hb dX8_digest_159 (by decide) ?_
    exact ih r23 (v2 + 1) h _ _ _ P (lv_sub hl [1, 2, 0] rfl)
set_option maxHeartbeats 4000000 in
set_option maxRecDepth 100000 in
theorem kX8_digest_96 {p : Program} {l : Launch} {e : Env} {s : State} {m : MethodId} {args : Array Value} {below : List Frame} {meth : Method} {c : Code} {X : gXt} (hJ : gJ X mL) (C : gC p s m args meth c RX8 cX8_digest 3 (some .long) X mL) (k : gS → Option (Int64 × gS)) (q : Int64 × gS) (hk : ∀ (σ' : gS) (H : Heap) (locs : List Loc) (ls : Array Slot), k σ' = some q → gH X mL σ' s H locs → lv_has ls 3 [(0, .ref (gad X 0))] → W p l e rmX8_digest s m args below meth c H locs 0 0 (MQ below (gQl X mL q.1 q.2) args s 0 0 (gA X mL)) (F0 m 168 ls [])) : ∀ (n : Nat) (σ : gS) (v1 : Int32), qM_digest_96 k n σ v1 = some q → ∀ (H : Heap) (locs : List Loc) (ls : Array Slot), gH X mL σ s H locs → lv_has ls 3 [(0, .ref (gad X 0)), (1, .int v1)] → W p l e rmX8_digest s m args below meth c H locs 0 0 (MQ below (gQl X mL q.1 q.2) args s 0 0 (gA X mL)) (F0 m 96 ls []) := by
  have hx := C.1
  have hb := C.2.1
  have hK := C.2.2.2.2.2.2.2.1
  have hts := C.2.2.2.2.1
  intro n
  induction n with
  | zero => intro σ v1 h; cases h
  | succ n ih =>
    intro σ v1 h H locs ls P hl
    have h : (if (gM σ 1 0) ≤ v1 then k σ else qM_digest_108 v1 (fun σ19 => qM_digest_132 v1 (fun σ24 => qM_digest_96 k n σ24 (v1 + 1)) 8192 σ19 (0 : Int32)) 8192 σ (0 : Int32)) = some q := h
    refine lv_iload_n hx hb dX8_digest_96 rfl (lv_at hl 1 rfl) ?_
    refine lv_aload_n hx hb dX8_digest_97 rfl (lv_at hl 0 rfl) ?_
    refine g_getR C P ml0 rfl inlX8 0 (by decide) wd_95 rfl dX8_digest_98 ?_
    refine lv_iconst (v := 0) hx hb dX8_digest_101 (by decide) ?_
    refine g_iald (j := 0) C P ml1 (vp_in_iff.mpr ⟨by decide, by decide⟩) (by decide) dX8_digest_102 ?_
    refine lv_icmp_ge (tgt := 168) hx hb dX8_digest_103 (by decide) (fun c15 => ?_) (fun c15 => ?_)
    · have h := g_ifp c15 h
      exact hk σ _ _ _ h P (lv_sub hl [0] rfl)
    have h := g_ifn c15 h
    refine lv_iconst (v := 0) hx hb dX8_digest_106 (by decide) ?_
    refine lv_istore_n (lv' := [(2, .int (0 : Int32)), (0, .ref (gad X 0)), (1, .int v1)]) hx hb dX8_digest_107 rfl hl (by decide) rfl (fun ls hl => ?_)
    refine kX8_digest_108 hJ C v1 _ _ ?_ _ _ _ h _ _ _ P (lv_sub hl [1, 2, 0] rfl)
    intro σ19 H locs ls h P hl
    refine lv_iconst (v := 0) hx hb dX8_digest_130 (by decide) ?_
    refine lv_istore_n (lv' := [(2, .int (0 : Int32)), (0, .ref (gad X 0)), (1, .int v1)]) hx hb dX8_digest_131 rfl hl (by decide) rfl (fun ls hl => ?_)
    refine kX8_digest_132 hJ C v1 _ _ ?_ _ _ _ h _ _ _ P (lv_sub hl [1, 2, 0] rfl)
    intro σ24 H locs ls h P hl
    refine lv_iinc (v := (v1 + 1)) (lv' := [(1, .int (v1 + 1)), (0, .ref (gad X 0))]) hx hb dX8_digest_162 hl (k := 1) rfl rfl (by decide) rfl (fun ls hl => ?_)
    refine lv_goto (tgt := 96) hx hb dX8_digest_165 (by decide) ?_
    exact ih σ24 (v1 + 1) h _ _ _ P (lv_sub hl [1, 0] rfl)
set_option maxHeartbeats 4000000 in
set_option maxRecDepth 100000 in
theorem kX8_digest_170 {p : Program} {l : Launch} {e : Env} {s : State} {m : MethodId} {args : Array Value} {below : List Frame} {meth : Method} {c : Code} {X : gXt} (hJ : gJ X mL) (C : gC p s m args meth c RX8 cX8_digest 3 (some .long) X mL) (k : gS → Option (Int64 × gS)) (q : Int64 × gS) (hk : ∀ (σ' : gS) (H : Heap) (locs : List Loc) (ls : Array Slot), k σ' = some q → gH X mL σ' s H locs → lv_has ls 3 [(0, .ref (gad X 0))] → W p l e rmX8_digest s m args below meth c H locs 0 0 (MQ below (gQl X mL q.1 q.2) args s 0 0 (gA X mL)) (F0 m 193 ls [])) : ∀ (n : Nat) (σ : gS) (v1 : Int32), qM_digest_170 k n σ v1 = some q → ∀ (H : Heap) (locs : List Loc) (ls : Array Slot), gH X mL σ s H locs → lv_has ls 3 [(0, .ref (gad X 0)), (1, .int v1)] → W p l e rmX8_digest s m args below meth c H locs 0 0 (MQ below (gQl X mL q.1 q.2) args s 0 0 (gA X mL)) (F0 m 170 ls []) := by
  have hx := C.1
  have hb := C.2.1
  have hK := C.2.2.2.2.2.2.2.1
  have hts := C.2.2.2.2.1
  intro n
  induction n with
  | zero => intro σ v1 h; cases h
  | succ n ih =>
    intro σ v1 h H locs ls P hl
    have h : (if (gM σ 1 170) ≤ v1 then k σ else (qM_mixImage σ v1).bind (fun r27 => qM_digest_170 k n r27 (v1 + 1))) = some q := h
    refine lv_iload_n hx hb dX8_digest_170 rfl (lv_at hl 1 rfl) ?_
    refine lv_aload_n hx hb dX8_digest_171 rfl (lv_at hl 0 rfl) ?_
    refine g_getR C P ml0 rfl inlX8 0 (by decide) wd_95 rfl dX8_digest_172 ?_
    refine lv_sipush (v := 170) hx hb dX8_digest_175 (by decide) ?_
    refine g_iald (j := 170) C P ml1 (vp_in_iff.mpr ⟨by decide, by decide⟩) (by decide) dX8_digest_178 ?_
    refine lv_icmp_ge (tgt := 193) hx hb dX8_digest_179 (by decide) (fun c26 => ?_) (fun c26 => ?_)
    · have h := g_ifp c26 h
      exact hk σ _ _ _ h P (lv_sub hl [0] rfl)
    have h := g_ifn c26 h
    refine lv_aload_n hx hb dX8_digest_182 rfl (lv_at hl 0 rfl) ?_
    refine lv_iload_n hx hb dX8_digest_183 rfl (lv_at hl 1 rfl) ?_
    obtain ⟨r27, hr27, h⟩ := g_bind h
    refine g_callVv (n := 1) (As := [.int v1]) (rest := []) C P (kX8_mixImage l X hJ σ v1 _ hr27) wd_994 wd_995 wd_996 wd_5 wd_997 rfl rfl kdX8_mixImage ⟨Nat.le_of_ble_eq_true rfl, Nat.le_of_ble_eq_true rfl⟩ ml0 rfl rfl rfl hl.1 (Nat.le_of_ble_eq_true rfl) dX8_digest_184 (fun H locs P => ?_)
    refine lv_iinc (v := (v1 + 1)) (lv' := [(1, .int (v1 + 1)), (0, .ref (gad X 0))]) hx hb dX8_digest_187 hl (k := 1) rfl rfl (by decide) rfl (fun ls hl => ?_)
    refine lv_goto (tgt := 170) hx hb dX8_digest_190 (by decide) ?_
    exact ih r27 (v1 + 1) h _ _ _ P (lv_sub hl [1, 0] rfl)
set_option maxHeartbeats 4000000 in
set_option maxRecDepth 100000 in
theorem kX8_digest (l : Launch) (X : gXt) (hJ : gJ X mL) (σ : gS) (q : Int64 × gS) (h : qM_digest σ = some q) : gMl l yX8_digest (gws yX8_digest cX8_digest 3 (some .long)) rmX8_digest X mL [.ref (gad X 0)] σ q.1 q.2 := by
  refine g_enter (cc := cX8_digest) (nL := 3) (ret := (some .long)) hJ (plainFor_of_name (by decide)) (Nat.le_of_ble_eq_true rfl) ?_
  intro p e s m below meth c ls C P hl
  have C : gC p s m _ meth c RX8 cX8_digest 3 (some .long) X mL := C
  have hx := C.1
  have hb := C.2.1
  have hK := C.2.2.2.2.2.2.2.1
  have hts := C.2.2.2.2.1
  have hl : lv_has ls 3 [(0, .ref (gad X 0))] := hl
  unfold qM_digest at h
  refine lv_aload_n hx hb dX8_digest_0 rfl (lv_at hl 0 rfl) ?_
  refine lv_ldc2 (v := 2010) hx hb C.2.2.2.1 (hts _ wd_987) dX8_digest_1 ?_
  refine g_putL C P ml0 rfl inlX8 tyX8 tyX8_ok nmX8 18 (by decide) wd_988 rfl gml_hash gml_others rfl rfl rfl dX8_digest_4 (fun H locs P => ?_)
  refine lv_iconst (v := 0) hx hb dX8_digest_7 (by decide) ?_
  refine lv_istore_n (lv' := [(1, .int (0 : Int32)), (0, .ref (gad X 0))]) hx hb dX8_digest_8 rfl hl (by decide) rfl (fun ls hl => ?_)
  refine kX8_digest_9 hJ C _ _ ?_ _ _ _ h _ _ _ P (lv_sub hl [1, 0] rfl)
  intro σ4 H locs ls h P hl
  refine lv_iconst (v := 1) hx hb dX8_digest_31 (by decide) ?_
  refine lv_istore_n (lv' := [(1, .int (1 : Int32)), (0, .ref (gad X 0))]) hx hb dX8_digest_32 rfl hl (by decide) rfl (fun ls hl => ?_)
  refine kX8_digest_33 hJ C _ _ ?_ _ _ _ h _ _ _ P (lv_sub hl [1, 0] rfl)
  intro σ8 H locs ls h P hl
  refine lv_iconst (v := 0) hx hb dX8_digest_56 (by decide) ?_
  refine lv_istore_n (lv' := [(1, .int (0 : Int32)), (0, .ref (gad X 0))]) hx hb dX8_digest_57 rfl hl (by decide) rfl (fun ls hl => ?_)
  refine kX8_digest_58 hJ C _ _ ?_ _ _ _ h _ _ _ P (lv_sub hl [1, 0] rfl)
  intro σ14 H locs ls h P hl
  refine lv_iconst (v := 0) hx hb dX8_digest_94 (by decide) ?_
  refine lv_istore_n (lv' := [(1, .int (0 : Int32)), (0, .ref (gad X 0))]) hx hb dX8_digest_95 rfl hl (by decide) rfl (fun ls hl => ?_)
  refine kX8_digest_96 hJ C _ _ ?_ _ _ _ h _ _ _ P (lv_sub hl [1, 0] rfl)
  intro σ25 H locs ls h P hl
  refine lv_iconst (v := 0) hx hb dX8_digest_168 (by decide) ?_
  refine lv_istore_n (lv' := [(1, .int (0 : Int32)), (0, .ref (gad X 0))]) hx hb dX8_digest_169 rfl hl (by decide) rfl (fun ls hl => ?_)
  refine kX8_digest_170 hJ C _ _ ?_ _ _ _ h _ _ _ P (lv_sub hl [1, 0] rfl)
  intro σ28 H locs ls h P hl
  refine lv_aload_n hx hb dX8_digest_193 rfl (lv_at hl 0 rfl) ?_
  refine g_getL C P ml0 rfl inlX8 18 (by decide) wd_988 rfl dX8_digest_194 ?_
  have h := Option.some.inj h
  exact g_lret C P (g_fst h) (g_snd h) dX8_digest_197
