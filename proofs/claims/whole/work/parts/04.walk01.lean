/-! WALKS, by program (wip/whole/gen.py): each method does what its mirror says -/
abbrev rmX2_makeBlock : Room := { frames := 2, cells := 0, slots := 0, locals := 47 }
theorem kdX2_makeBlock : yX2_makeBlock.cls = RX2 ∧ yX2_makeBlock.cls ≠ "java/lang/invoke/MethodHandle" ∧ yX2_makeBlock.cls ≠ "java/lang/invoke/VarHandle" ∧ (parseMethodDescriptor yX2_makeBlock.desc).map (fun d => d.parameters.length) = some 2 := by decide +kernel
set_option maxHeartbeats 4000000 in
set_option maxRecDepth 100000 in
theorem kX2_makeBlock (l : Launch) (X : gXt) (hJ : gJ X xL) (σ : gS) (a1 : Int32) (a2 : Int32) (q : Int32 × gS) (h : qO_makeBlock σ a1 a2 = some q) : gMi l yX2_makeBlock (gws yX2_makeBlock cX2_makeBlock 4 (some .int)) rmX2_makeBlock X xL [.ref (gad X 40), .int a1, .int a2] σ q.1 q.2 := by
  refine g_enter (cc := cX2_makeBlock) (nL := 4) (ret := (some .int)) hJ (plainFor_of_name (by decide)) (Nat.le_of_ble_eq_true rfl) ?_
  intro p e s m below meth c ls C P hl
  have C : gC p s m _ meth c RX2 cX2_makeBlock 4 (some .int) X xL := C
  have hx := C.1
  have hb := C.2.1
  have hK := C.2.2.2.2.2.2.2.1
  have hts := C.2.2.2.2.1
  have hl : lv_has ls 4 [(0, .ref (gad X 40)), (1, .int a1), (2, .int a2)] := hl
  unfold qO_makeBlock at h
  refine lv_iload_n hx hb dX2_makeBlock_0 rfl (lv_at hl 1 rfl) ?_
  refine g_callNi (n := 1) (As := [.int a1]) (rest := []) C P (kX7_isRegister l X hJ σ a1 _ rfl) wd_139 rfl rfl kdX7_isRegister.2 ⟨Nat.le_of_ble_eq_true rfl, Nat.le_of_ble_eq_true rfl⟩ (hK.2 (RX2, 23, yX7_isRegister, RX7) (List.mem_of_getElem? (i := 0) rfl)) wd_2 wd_138 rfl rfl hl.1 (Nat.le_of_ble_eq_true rfl) dX2_makeBlock_1 (fun H locs P => ?_)
  refine lv_if_eq (tgt := 18) hx hb dX2_makeBlock_4 (by decide) (fun c1 => ?_) (fun c1 => ?_)
  · have h := g_ifp c1 h
    refine lv_bipush (v := -2) hx hb dX2_makeBlock_18 (by decide) ?_
    have h := Option.some.inj h
    exact g_iret C P (g_fst h) (g_snd h) dX2_makeBlock_20
  have h := g_ifn c1 h
  refine lv_iload_n hx hb dX2_makeBlock_7 rfl (lv_at hl 2 rfl) ?_
  refine lv_iconst (v := 1) hx hb dX2_makeBlock_8 (by decide) ?_
  refine lv_icmp_lt (tgt := 18) hx hb dX2_makeBlock_9 (by decide) (fun c2 => ?_) (fun c2 => ?_)
  · have h := g_ifp c2 h
    refine lv_bipush (v := -2) hx hb dX2_makeBlock_18 (by decide) ?_
    have h := Option.some.inj h
    exact g_iret C P (g_fst h) (g_snd h) dX2_makeBlock_20
  have h := g_ifn c2 h
  refine lv_iload_n hx hb dX2_makeBlock_12 rfl (lv_at hl 2 rfl) ?_
  refine lv_bipush (v := 12) hx hb dX2_makeBlock_13 (by decide) ?_
  refine lv_icmp_le (tgt := 21) hx hb dX2_makeBlock_15 (by decide) (fun c3 => ?_) (fun c3 => ?_)
  · have h := g_ifp c3 h
    refine lv_aload_n hx hb dX2_makeBlock_21 rfl (lv_at hl 0 rfl) ?_
    refine g_getR C P xl40 rfl inlX2 0 (by decide) wd_69 rfl dX2_makeBlock_22 ?_
    refine g_getI C P xl1 rfl inlX5 7 (by decide) wd_137 rfl dX2_makeBlock_25 ?_
    refine lv_bipush (v := 10) hx hb dX2_makeBlock_28 (by decide) ?_
    refine lv_icmp_lt (tgt := 36) hx hb dX2_makeBlock_30 (by decide) (fun c4 => ?_) (fun c4 => ?_)
    · have h := g_ifp c4 h
      refine lv_aload_n hx hb dX2_makeBlock_36 rfl (lv_at hl 0 rfl) ?_
      refine g_getR C P xl40 rfl inlX2 0 (by decide) wd_69 rfl dX2_makeBlock_37 ?_
      refine g_getI C P xl1 rfl inlX5 7 (by decide) wd_137 rfl dX2_makeBlock_40 ?_
      refine lv_istore_n (lv' := [(3, .int (gI σ 1 7)), (0, .ref (gad X 40)), (1, .int a1), (2, .int a2)]) hx hb dX2_makeBlock_43 rfl hl (by decide) rfl (fun ls hl => ?_)
      refine lv_aload_n hx hb dX2_makeBlock_44 rfl (lv_at hl 1 rfl) ?_
      refine g_getR C P xl40 rfl inlX2 0 (by decide) wd_69 rfl dX2_makeBlock_45 ?_
      refine lv_iload_n hx hb dX2_makeBlock_48 rfl (lv_at hl 3 rfl) ?_
      obtain ⟨r5, hr5, h⟩ := g_bind h
      refine g_callVv (n := 1) (As := [.int a2]) (rest := []) C P (kX5_addBlock l X hJ σ a2 _ hr5) wd_140 wd_141 wd_142 wd_14 wd_143 rfl rfl kdX5_addBlock ⟨Nat.le_of_ble_eq_true rfl, Nat.le_of_ble_eq_true rfl⟩ xl1 rfl rfl rfl hl.1 (Nat.le_of_ble_eq_true rfl) dX2_makeBlock_49 (fun H locs P => ?_)
      refine lv_aload_n hx hb dX2_makeBlock_52 rfl (lv_at hl 1 rfl) ?_
      refine g_getR C P xl40 rfl inlX2 0 (by decide) wd_69 rfl dX2_makeBlock_53 ?_
      refine lv_iload_n hx hb dX2_makeBlock_56 rfl (lv_at hl 2 rfl) ?_
      refine lv_iload_n hx hb dX2_makeBlock_57 rfl (lv_at hl 0 rfl) ?_
      refine lv_iconst (v := 0) hx hb dX2_makeBlock_58 (by decide) ?_
      obtain ⟨r6, hr6, h⟩ := g_bind h
      refine g_callVv (n := 3) (As := [.int a1, .int (gI σ 1 7), .int (0 : Int32)]) (rest := []) C P (kX5_fillWithPointer l X hJ r5 a1 (gI σ 1 7) (0 : Int32) _ hr6) wd_148 wd_149 wd_150 wd_14 wd_151 rfl rfl kdX5_fillWithPointer ⟨Nat.le_of_ble_eq_true rfl, Nat.le_of_ble_eq_true rfl⟩ xl1 rfl rfl rfl hl.1 (Nat.le_of_ble_eq_true rfl) dX2_makeBlock_59 (fun H locs P => ?_)
      refine lv_iload_n hx hb dX2_makeBlock_62 rfl (lv_at hl 0 rfl) ?_
      have h := Option.some.inj h
      exact g_iret C P (g_fst h) (g_snd h) dX2_makeBlock_63
    have h := g_ifn c4 h
    refine lv_bipush (v := -4) hx hb dX2_makeBlock_33 (by decide) ?_
    have h := Option.some.inj h
    exact g_iret C P (g_fst h) (g_snd h) dX2_makeBlock_35
  have h := g_ifn c3 h
  refine lv_bipush (v := -2) hx hb dX2_makeBlock_18 (by decide) ?_
  have h := Option.some.inj h
  exact g_iret C P (g_fst h) (g_snd h) dX2_makeBlock_20
abbrev rmX5_kindOf : Room := { frames := 0, cells := 0, slots := 0, locals := 0 }
theorem kdX5_kindOf : yX5_kindOf.cls = RX5 ∧ yX5_kindOf.cls ≠ "java/lang/invoke/MethodHandle" ∧ yX5_kindOf.cls ≠ "java/lang/invoke/VarHandle" ∧ (parseMethodDescriptor yX5_kindOf.desc).map (fun d => d.parameters.length) = some 1 := by decide +kernel
set_option maxHeartbeats 4000000 in
set_option maxRecDepth 100000 in
theorem kX5_kindOf (l : Launch) (X : gXt) (hJ : gJ X xL) (σ : gS) (a1 : Int32) (q : Int32) (h : qS_kindOf σ a1 = some q) : gMi l yX5_kindOf (gws yX5_kindOf cX5_kindOf 2 (some .int)) rmX5_kindOf X xL [.ref (gad X 1), .int a1] σ q σ := by
  refine g_enter (cc := cX5_kindOf) (nL := 2) (ret := (some .int)) hJ (plainFor_of_name (by decide)) (Nat.le_of_ble_eq_true rfl) ?_
  intro p e s m below meth c ls C P hl
  have C : gC p s m _ meth c RX5 cX5_kindOf 2 (some .int) X xL := C
  have hx := C.1
  have hb := C.2.1
  have hK := C.2.2.2.2.2.2.2.1
  have hts := C.2.2.2.2.1
  have hl : lv_has ls 2 [(0, .ref (gad X 1)), (1, .int a1)] := hl
  unfold qS_kindOf at h
  refine lv_iload_n hx hb dX5_kindOf_0 rfl (lv_at hl 1 rfl) ?_
  refine lv_if_lt (tgt := 19) hx hb dX5_kindOf_1 (by decide) (fun c1 => ?_) (fun c1 => ?_)
  · have h := g_ifp c1 h
    refine lv_iconst (v := 0) hx hb dX5_kindOf_19 (by decide) ?_
    have h := Option.some.inj h
    exact g_iret C P h rfl dX5_kindOf_20
  have h := g_ifn c1 h
  refine lv_iload_n hx hb dX5_kindOf_4 rfl (lv_at hl 1 rfl) ?_
  refine lv_bipush (v := 6) hx hb dX5_kindOf_5 (by decide) ?_
  refine lv_icmp_ge (tgt := 19) hx hb dX5_kindOf_7 (by decide) (fun c2 => ?_) (fun c2 => ?_)
  · have h := g_ifp c2 h
    refine lv_iconst (v := 0) hx hb dX5_kindOf_19 (by decide) ?_
    have h := Option.some.inj h
    exact g_iret C P h rfl dX5_kindOf_20
  have h := g_ifn c2 h
  refine lv_aload_n hx hb dX5_kindOf_10 rfl (lv_at hl 0 rfl) ?_
  refine g_getR C P xl1 rfl inlX5 0 (by decide) wd_41 rfl dX5_kindOf_11 ?_
  refine lv_iload_n hx hb dX5_kindOf_14 rfl (lv_at hl 1 rfl) ?_
  obtain ⟨b3, h⟩ := g_ob h
  refine g_iald (j := a1.toNatClampNeg) C P xl2 b3 rfl dX5_kindOf_15 ?_
  refine lv_goto (tgt := 20) hx hb dX5_kindOf_16 (by decide) ?_
  have h := Option.some.inj h
  exact g_iret C P h rfl dX5_kindOf_20
abbrev rmX5_valueOf : Room := { frames := 0, cells := 0, slots := 0, locals := 0 }
theorem kdX5_valueOf : yX5_valueOf.cls = RX5 ∧ yX5_valueOf.cls ≠ "java/lang/invoke/MethodHandle" ∧ yX5_valueOf.cls ≠ "java/lang/invoke/VarHandle" ∧ (parseMethodDescriptor yX5_valueOf.desc).map (fun d => d.parameters.length) = some 1 := by decide +kernel
set_option maxHeartbeats 4000000 in
set_option maxRecDepth 100000 in
theorem kX5_valueOf (l : Launch) (X : gXt) (hJ : gJ X xL) (σ : gS) (a1 : Int32) (q : Int32) (h : qS_valueOf σ a1 = some q) : gMi l yX5_valueOf (gws yX5_valueOf cX5_valueOf 2 (some .int)) rmX5_valueOf X xL [.ref (gad X 1), .int a1] σ q σ := by
  refine g_enter (cc := cX5_valueOf) (nL := 2) (ret := (some .int)) hJ (plainFor_of_name (by decide)) (Nat.le_of_ble_eq_true rfl) ?_
  intro p e s m below meth c ls C P hl
  have C : gC p s m _ meth c RX5 cX5_valueOf 2 (some .int) X xL := C
  have hx := C.1
  have hb := C.2.1
  have hK := C.2.2.2.2.2.2.2.1
  have hts := C.2.2.2.2.1
  have hl : lv_has ls 2 [(0, .ref (gad X 1)), (1, .int a1)] := hl
  unfold qS_valueOf at h
  refine lv_iload_n hx hb dX5_valueOf_0 rfl (lv_at hl 1 rfl) ?_
  refine lv_if_lt (tgt := 19) hx hb dX5_valueOf_1 (by decide) (fun c1 => ?_) (fun c1 => ?_)
  · have h := g_ifp c1 h
    refine lv_iconst (v := -1) hx hb dX5_valueOf_19 (by decide) ?_
    have h := Option.some.inj h
    exact g_iret C P h rfl dX5_valueOf_20
  have h := g_ifn c1 h
  refine lv_iload_n hx hb dX5_valueOf_4 rfl (lv_at hl 1 rfl) ?_
  refine lv_bipush (v := 6) hx hb dX5_valueOf_5 (by decide) ?_
  refine lv_icmp_ge (tgt := 19) hx hb dX5_valueOf_7 (by decide) (fun c2 => ?_) (fun c2 => ?_)
  · have h := g_ifp c2 h
    refine lv_iconst (v := -1) hx hb dX5_valueOf_19 (by decide) ?_
    have h := Option.some.inj h
    exact g_iret C P h rfl dX5_valueOf_20
  have h := g_ifn c2 h
  refine lv_aload_n hx hb dX5_valueOf_10 rfl (lv_at hl 0 rfl) ?_
  refine g_getR C P xl1 rfl inlX5 1 (by decide) wd_42 rfl dX5_valueOf_11 ?_
  refine lv_iload_n hx hb dX5_valueOf_14 rfl (lv_at hl 1 rfl) ?_
  obtain ⟨b3, h⟩ := g_ob h
  refine g_iald (j := a1.toNatClampNeg) C P xl3 b3 rfl dX5_valueOf_15 ?_
  refine lv_goto (tgt := 20) hx hb dX5_valueOf_16 (by decide) ?_
  have h := Option.some.inj h
  exact g_iret C P h rfl dX5_valueOf_20
abbrev rmX2_fault : Room := { frames := 1, cells := 0, slots := 0, locals := 21 }
theorem kdX2_fault : yX2_fault.cls = RX2 ∧ yX2_fault.cls ≠ "java/lang/invoke/MethodHandle" ∧ yX2_fault.cls ≠ "java/lang/invoke/VarHandle" ∧ (parseMethodDescriptor yX2_fault.desc).map (fun d => d.parameters.length) = some 1 := by decide +kernel
set_option maxHeartbeats 4000000 in
set_option maxRecDepth 100000 in
theorem kX2_fault (l : Launch) (X : gXt) (hJ : gJ X xL) (σ : gS) (a1 : Int32) (q : Int32) (h : qO_fault σ a1 = some q) : gMi l yX2_fault (gws yX2_fault cX2_fault 3 (some .int)) rmX2_fault X xL [.ref (gad X 40), .int a1] σ q σ := by
  refine g_enter (cc := cX2_fault) (nL := 3) (ret := (some .int)) hJ (plainFor_of_name (by decide)) (Nat.le_of_ble_eq_true rfl) ?_
  intro p e s m below meth c ls C P hl
  have C : gC p s m _ meth c RX2 cX2_fault 3 (some .int) X xL := C
  have hx := C.1
  have hb := C.2.1
  have hK := C.2.2.2.2.2.2.2.1
  have hts := C.2.2.2.2.1
  have hl : lv_has ls 3 [(0, .ref (gad X 40)), (1, .int a1)] := hl
  unfold qO_fault at h
  refine lv_aload_n hx hb dX2_fault_0 rfl (lv_at hl 0 rfl) ?_
  refine g_getR C P xl40 rfl inlX2 0 (by decide) wd_69 rfl dX2_fault_1 ?_
  refine lv_iload_n hx hb dX2_fault_4 rfl (lv_at hl 1 rfl) ?_
  obtain ⟨r1, hr1, h⟩ := g_bind h
  refine g_callVi (n := 1) (As := [.int a1]) (rest := []) C P (kX5_kindOf l X hJ σ a1 _ hr1) wd_335 wd_336 wd_337 wd_14 wd_338 rfl rfl kdX5_kindOf ⟨Nat.le_of_ble_eq_true rfl, Nat.le_of_ble_eq_true rfl⟩ xl1 rfl rfl rfl hl.1 (Nat.le_of_ble_eq_true rfl) dX2_fault_5 (fun H locs P => ?_)
  refine lv_istore_n (lv' := [(2, .int r1), (0, .ref (gad X 40)), (1, .int a1)]) hx hb dX2_fault_8 rfl hl (by decide) rfl (fun ls hl => ?_)
  refine lv_iload_n hx hb dX2_fault_9 rfl (lv_at hl 0 rfl) ?_
  refine lv_if_ne (tgt := 16) hx hb dX2_fault_10 (by decide) (fun c2 => ?_) (fun c2 => ?_)
  · have h := g_ifn c2 h
    refine lv_iload_n hx hb dX2_fault_16 rfl (lv_at hl 0 rfl) ?_
    refine lv_iconst (v := 1) hx hb dX2_fault_17 (by decide) ?_
    refine lv_icmp_ne (tgt := 24) hx hb dX2_fault_18 (by decide) (fun c3 => ?_) (fun c3 => ?_)
    · have h := g_ifn c3 h
      refine lv_aload_n hx hb dX2_fault_24 rfl (lv_at hl 1 rfl) ?_
      refine g_getR C P xl40 rfl inlX2 0 (by decide) wd_69 rfl dX2_fault_25 ?_
      refine lv_aload_n hx hb dX2_fault_28 rfl (lv_at hl 1 rfl) ?_
      refine g_getR C P xl40 rfl inlX2 0 (by decide) wd_69 rfl dX2_fault_29 ?_
      refine lv_iload_n hx hb dX2_fault_32 rfl (lv_at hl 2 rfl) ?_
      obtain ⟨r4, hr4, h⟩ := g_bind h
      refine g_callVi (n := 1) (As := [.int a1]) (rest := [.ref (gad X 1)]) C P (kX5_valueOf l X hJ σ a1 _ hr4) wd_339 wd_340 wd_341 wd_14 wd_342 rfl rfl kdX5_valueOf ⟨Nat.le_of_ble_eq_true rfl, Nat.le_of_ble_eq_true rfl⟩ xl1 rfl rfl rfl hl.1 (Nat.le_of_ble_eq_true rfl) dX2_fault_33 (fun H locs P => ?_)
      obtain ⟨r5, hr5, h⟩ := g_bind h
      refine g_callVi (n := 1) (As := [.int r4]) (rest := []) C P (kX5_isLive l X hJ σ r4 _ hr5) wd_343 wd_344 wd_345 wd_14 wd_346 rfl rfl kdX5_isLive ⟨Nat.le_of_ble_eq_true rfl, Nat.le_of_ble_eq_true rfl⟩ xl1 rfl rfl rfl hl.1 (Nat.le_of_ble_eq_true rfl) dX2_fault_36 (fun H locs P => ?_)
      refine lv_if_eq (tgt := 46) hx hb dX2_fault_39 (by decide) (fun c6 => ?_) (fun c6 => ?_)
      · have h := g_ifp c6 h
        refine lv_bipush (v := -13) hx hb dX2_fault_46 (by decide) ?_
        have h := Option.some.inj h
        exact g_iret C P h rfl dX2_fault_48
      have h := g_ifn c6 h
      refine lv_iconst (v := 0) hx hb dX2_fault_42 (by decide) ?_
      refine lv_goto (tgt := 48) hx hb dX2_fault_43 (by decide) ?_
      have h := Option.some.inj h
      exact g_iret C P h rfl dX2_fault_48
    have h := g_ifp c3 h
    refine lv_bipush (v := -12) hx hb dX2_fault_21 (by decide) ?_
    have h := Option.some.inj h
    exact g_iret C P h rfl dX2_fault_23
  have h := g_ifp c2 h
  refine lv_bipush (v := -11) hx hb dX2_fault_13 (by decide) ?_
  have h := Option.some.inj h
  exact g_iret C P h rfl dX2_fault_15
abbrev rmX5_offsetOf : Room := { frames := 0, cells := 0, slots := 0, locals := 0 }
theorem kdX5_offsetOf : yX5_offsetOf.cls = RX5 ∧ yX5_offsetOf.cls ≠ "java/lang/invoke/MethodHandle" ∧ yX5_offsetOf.cls ≠ "java/lang/invoke/VarHandle" ∧ (parseMethodDescriptor yX5_offsetOf.desc).map (fun d => d.parameters.length) = some 1 := by decide +kernel
set_option maxHeartbeats 4000000 in
set_option maxRecDepth 100000 in
theorem kX5_offsetOf (l : Launch) (X : gXt) (hJ : gJ X xL) (σ : gS) (a1 : Int32) (q : Int32) (h : qS_offsetOf σ a1 = some q) : gMi l yX5_offsetOf (gws yX5_offsetOf cX5_offsetOf 2 (some .int)) rmX5_offsetOf X xL [.ref (gad X 1), .int a1] σ q σ := by
  refine g_enter (cc := cX5_offsetOf) (nL := 2) (ret := (some .int)) hJ (plainFor_of_name (by decide)) (Nat.le_of_ble_eq_true rfl) ?_
  intro p e s m below meth c ls C P hl
  have C : gC p s m _ meth c RX5 cX5_offsetOf 2 (some .int) X xL := C
  have hx := C.1
  have hb := C.2.1
  have hK := C.2.2.2.2.2.2.2.1
  have hts := C.2.2.2.2.1
  have hl : lv_has ls 2 [(0, .ref (gad X 1)), (1, .int a1)] := hl
  unfold qS_offsetOf at h
  refine lv_iload_n hx hb dX5_offsetOf_0 rfl (lv_at hl 1 rfl) ?_
  refine lv_if_lt (tgt := 19) hx hb dX5_offsetOf_1 (by decide) (fun c1 => ?_) (fun c1 => ?_)
  · have h := g_ifp c1 h
    refine lv_iconst (v := -1) hx hb dX5_offsetOf_19 (by decide) ?_
    have h := Option.some.inj h
    exact g_iret C P h rfl dX5_offsetOf_20
  have h := g_ifn c1 h
  refine lv_iload_n hx hb dX5_offsetOf_4 rfl (lv_at hl 1 rfl) ?_
  refine lv_bipush (v := 6) hx hb dX5_offsetOf_5 (by decide) ?_
  refine lv_icmp_ge (tgt := 19) hx hb dX5_offsetOf_7 (by decide) (fun c2 => ?_) (fun c2 => ?_)
  · have h := g_ifp c2 h
    refine lv_iconst (v := -1) hx hb dX5_offsetOf_19 (by decide) ?_
    have h := Option.some.inj h
    exact g_iret C P h rfl dX5_offsetOf_20
  have h := g_ifn c2 h
  refine lv_aload_n hx hb dX5_offsetOf_10 rfl (lv_at hl 0 rfl) ?_
  refine g_getR C P xl1 rfl inlX5 2 (by decide) wd_43 rfl dX5_offsetOf_11 ?_
  refine lv_iload_n hx hb dX5_offsetOf_14 rfl (lv_at hl 1 rfl) ?_
  obtain ⟨b3, h⟩ := g_ob h
  refine g_iald (j := a1.toNatClampNeg) C P xl4 b3 rfl dX5_offsetOf_15 ?_
  refine lv_goto (tgt := 20) hx hb dX5_offsetOf_16 (by decide) ?_
  have h := Option.some.inj h
  exact g_iret C P h rfl dX5_offsetOf_20
abbrev rmX2_faultAsBegin : Room := { frames := 2, cells := 0, slots := 0, locals := 43 }
theorem kdX2_faultAsBegin : yX2_faultAsBegin.cls = RX2 ∧ yX2_faultAsBegin.cls ≠ "java/lang/invoke/MethodHandle" ∧ yX2_faultAsBegin.cls ≠ "java/lang/invoke/VarHandle" ∧ (parseMethodDescriptor yX2_faultAsBegin.desc).map (fun d => d.parameters.length) = some 1 := by decide +kernel
set_option maxHeartbeats 4000000 in
set_option maxRecDepth 100000 in
theorem kX2_faultAsBegin (l : Launch) (X : gXt) (hJ : gJ X xL) (σ : gS) (a1 : Int32) (q : Int32) (h : qO_faultAsBegin σ a1 = some q) : gMi l yX2_faultAsBegin (gws yX2_faultAsBegin cX2_faultAsBegin 3 (some .int)) rmX2_faultAsBegin X xL [.ref (gad X 40), .int a1] σ q σ := by
  refine g_enter (cc := cX2_faultAsBegin) (nL := 3) (ret := (some .int)) hJ (plainFor_of_name (by decide)) (Nat.le_of_ble_eq_true rfl) ?_
  intro p e s m below meth c ls C P hl
  have C : gC p s m _ meth c RX2 cX2_faultAsBegin 3 (some .int) X xL := C
  have hx := C.1
  have hb := C.2.1
  have hK := C.2.2.2.2.2.2.2.1
  have hts := C.2.2.2.2.1
  have hl : lv_has ls 3 [(0, .ref (gad X 40)), (1, .int a1)] := hl
  unfold qO_faultAsBegin at h
  refine lv_aload_n hx hb dX2_faultAsBegin_0 rfl (lv_at hl 0 rfl) ?_
  refine lv_iload_n hx hb dX2_faultAsBegin_1 rfl (lv_at hl 1 rfl) ?_
  obtain ⟨r1, hr1, h⟩ := g_bind h
  refine g_callVi (n := 1) (As := [.int a1]) (rest := []) C P (kX2_fault l X hJ σ a1 _ hr1) wd_331 wd_332 wd_333 wd_22 wd_334 rfl rfl kdX2_fault ⟨Nat.le_of_ble_eq_true rfl, Nat.le_of_ble_eq_true rfl⟩ xl40 rfl rfl rfl hl.1 (Nat.le_of_ble_eq_true rfl) dX2_faultAsBegin_2 (fun H locs P => ?_)
  refine lv_istore_n (lv' := [(2, .int r1), (0, .ref (gad X 40)), (1, .int a1)]) hx hb dX2_faultAsBegin_5 rfl hl (by decide) rfl (fun ls hl => ?_)
  refine lv_iload_n hx hb dX2_faultAsBegin_6 rfl (lv_at hl 0 rfl) ?_
  refine lv_if_eq (tgt := 12) hx hb dX2_faultAsBegin_7 (by decide) (fun c2 => ?_) (fun c2 => ?_)
  · have h := g_ifp c2 h
    refine lv_aload_n hx hb dX2_faultAsBegin_12 rfl (lv_at hl 1 rfl) ?_
    refine g_getR C P xl40 rfl inlX2 0 (by decide) wd_69 rfl dX2_faultAsBegin_13 ?_
    refine lv_iload_n hx hb dX2_faultAsBegin_16 rfl (lv_at hl 2 rfl) ?_
    obtain ⟨r3, hr3, h⟩ := g_bind h
    refine g_callVi (n := 1) (As := [.int a1]) (rest := []) C P (kX5_offsetOf l X hJ σ a1 _ hr3) wd_347 wd_348 wd_349 wd_14 wd_350 rfl rfl kdX5_offsetOf ⟨Nat.le_of_ble_eq_true rfl, Nat.le_of_ble_eq_true rfl⟩ xl1 rfl rfl rfl hl.1 (Nat.le_of_ble_eq_true rfl) dX2_faultAsBegin_17 (fun H locs P => ?_)
    refine lv_if_ne (tgt := 27) hx hb dX2_faultAsBegin_20 (by decide) (fun c4 => ?_) (fun c4 => ?_)
    · have h := g_ifn c4 h
      refine lv_bipush (v := -19) hx hb dX2_faultAsBegin_27 (by decide) ?_
      have h := Option.some.inj h
      exact g_iret C P h rfl dX2_faultAsBegin_29
    have h := g_ifp c4 h
    refine lv_iconst (v := 0) hx hb dX2_faultAsBegin_23 (by decide) ?_
    refine lv_goto (tgt := 29) hx hb dX2_faultAsBegin_24 (by decide) ?_
    have h := Option.some.inj h
    exact g_iret C P h rfl dX2_faultAsBegin_29
  have h := g_ifn c2 h
  refine lv_iload_n hx hb dX2_faultAsBegin_10 rfl (lv_at hl 0 rfl) ?_
  have h := Option.some.inj h
  exact g_iret C P h rfl dX2_faultAsBegin_11
abbrev rmX5_isConstant : Room := { frames := 0, cells := 0, slots := 0, locals := 0 }
theorem kdX5_isConstant : yX5_isConstant.cls = RX5 ∧ yX5_isConstant.cls ≠ "java/lang/invoke/MethodHandle" ∧ yX5_isConstant.cls ≠ "java/lang/invoke/VarHandle" ∧ (parseMethodDescriptor yX5_isConstant.desc).map (fun d => d.parameters.length) = some 1 := by decide +kernel
set_option maxHeartbeats 4000000 in
set_option maxRecDepth 100000 in
theorem kX5_isConstant (l : Launch) (X : gXt) (hJ : gJ X xL) (σ : gS) (a1 : Int32) (q : Int32) (h : qS_isConstant σ a1 = some q) : gMi l yX5_isConstant (gws yX5_isConstant cX5_isConstant 2 (some .boolean)) rmX5_isConstant X xL [.ref (gad X 1), .int a1] σ q σ := by
  refine g_enter (cc := cX5_isConstant) (nL := 2) (ret := (some .boolean)) hJ (plainFor_of_name (by decide)) (Nat.le_of_ble_eq_true rfl) ?_
  intro p e s m below meth c ls C P hl
  have C : gC p s m _ meth c RX5 cX5_isConstant 2 (some .boolean) X xL := C
  have hx := C.1
  have hb := C.2.1
  have hK := C.2.2.2.2.2.2.2.1
  have hts := C.2.2.2.2.1
  have hl : lv_has ls 2 [(0, .ref (gad X 1)), (1, .int a1)] := hl
  unfold qS_isConstant at h
  refine lv_iload_n hx hb dX5_isConstant_0 rfl (lv_at hl 1 rfl) ?_
  refine lv_if_lt (tgt := 24) hx hb dX5_isConstant_1 (by decide) (fun c1 => ?_) (fun c1 => ?_)
  · have h := g_ifp c1 h
    refine lv_iconst (v := 0) hx hb dX5_isConstant_24 (by decide) ?_
    have h := Option.some.inj h
    exact g_zret C P rfl h rfl dX5_isConstant_25
  have h := g_ifn c1 h
  refine lv_iload_n hx hb dX5_isConstant_4 rfl (lv_at hl 1 rfl) ?_
  refine lv_bipush (v := 10) hx hb dX5_isConstant_5 (by decide) ?_
  refine lv_icmp_ge (tgt := 24) hx hb dX5_isConstant_7 (by decide) (fun c2 => ?_) (fun c2 => ?_)
  · have h := g_ifp c2 h
    refine lv_iconst (v := 0) hx hb dX5_isConstant_24 (by decide) ?_
    have h := Option.some.inj h
    exact g_zret C P rfl h rfl dX5_isConstant_25
  have h := g_ifn c2 h
  refine lv_aload_n hx hb dX5_isConstant_10 rfl (lv_at hl 0 rfl) ?_
  refine g_getR C P xl1 rfl inlX5 5 (by decide) wd_46 rfl dX5_isConstant_11 ?_
  refine lv_iload_n hx hb dX5_isConstant_14 rfl (lv_at hl 1 rfl) ?_
  obtain ⟨b3, h⟩ := g_ob h
  refine g_iald (j := a1.toNatClampNeg) C P xl7 b3 rfl dX5_isConstant_15 ?_
  refine lv_iconst (v := 1) hx hb dX5_isConstant_16 (by decide) ?_
  refine lv_icmp_ne (tgt := 24) hx hb dX5_isConstant_17 (by decide) (fun c4 => ?_) (fun c4 => ?_)
  · have h := g_ifn c4 h
    refine lv_iconst (v := 0) hx hb dX5_isConstant_24 (by decide) ?_
    have h := Option.some.inj h
    exact g_zret C P rfl h rfl dX5_isConstant_25
  have h := g_ifp c4 h
  refine lv_iconst (v := 1) hx hb dX5_isConstant_20 (by decide) ?_
  refine lv_goto (tgt := 25) hx hb dX5_isConstant_21 (by decide) ?_
  have h := Option.some.inj h
  exact g_zret C P rfl h rfl dX5_isConstant_25
abbrev rmX5_markEnded : Room := { frames := 0, cells := 0, slots := 0, locals := 0 }
theorem kdX5_markEnded : yX5_markEnded.cls = RX5 ∧ yX5_markEnded.cls ≠ "java/lang/invoke/MethodHandle" ∧ yX5_markEnded.cls ≠ "java/lang/invoke/VarHandle" ∧ (parseMethodDescriptor yX5_markEnded.desc).map (fun d => d.parameters.length) = some 1 := by decide +kernel
set_option maxHeartbeats 4000000 in
set_option maxRecDepth 100000 in
theorem kX5_markEnded (l : Launch) (X : gXt) (hJ : gJ X xL) (σ : gS) (a1 : Int32) (q : gS) (h : qS_markEnded σ a1 = some q) : gMv l yX5_markEnded (gws yX5_markEnded cX5_markEnded 2 none) rmX5_markEnded X xL [.ref (gad X 1), .int a1] σ q := by
  refine g_enter (cc := cX5_markEnded) (nL := 2) (ret := none) hJ (plainFor_of_name (by decide)) (Nat.le_of_ble_eq_true rfl) ?_
  intro p e s m below meth c ls C P hl
  have C : gC p s m _ meth c RX5 cX5_markEnded 2 none X xL := C
  have hx := C.1
  have hb := C.2.1
  have hK := C.2.2.2.2.2.2.2.1
  have hts := C.2.2.2.2.1
  have hl : lv_has ls 2 [(0, .ref (gad X 1)), (1, .int a1)] := hl
  unfold qS_markEnded at h
  refine lv_iload_n hx hb dX5_markEnded_0 rfl (lv_at hl 1 rfl) ?_
  refine lv_if_lt (tgt := 17) hx hb dX5_markEnded_1 (by decide) (fun c1 => ?_) (fun c1 => ?_)
  · have h := g_ifp c1 h
    have h := Option.some.inj h
    exact g_vret C P h dX5_markEnded_17
  have h := g_ifn c1 h
  refine lv_iload_n hx hb dX5_markEnded_4 rfl (lv_at hl 1 rfl) ?_
  refine lv_bipush (v := 10) hx hb dX5_markEnded_5 (by decide) ?_
  refine lv_icmp_ge (tgt := 17) hx hb dX5_markEnded_7 (by decide) (fun c2 => ?_) (fun c2 => ?_)
  · have h := g_ifp c2 h
    have h := Option.some.inj h
    exact g_vret C P h dX5_markEnded_17
  have h := g_ifn c2 h
  refine lv_aload_n hx hb dX5_markEnded_10 rfl (lv_at hl 0 rfl) ?_
  refine g_getR C P xl1 rfl inlX5 4 (by decide) wd_45 rfl dX5_markEnded_11 ?_
  refine lv_iload_n hx hb dX5_markEnded_14 rfl (lv_at hl 1 rfl) ?_
  refine lv_iconst (v := 0) hx hb dX5_markEnded_15 (by decide) ?_
  obtain ⟨b3, h⟩ := g_ob h
  refine g_iast (j := a1.toNatClampNeg) C P xl6 b3 rfl dX5_markEnded_16 (fun H locs P => ?_)
  have h := Option.some.inj h
  exact g_vret C P h dX5_markEnded_17
abbrev rmX2_endBlock : Room := { frames := 3, cells := 0, slots := 0, locals := 65 }
theorem kdX2_endBlock : yX2_endBlock.cls = RX2 ∧ yX2_endBlock.cls ≠ "java/lang/invoke/MethodHandle" ∧ yX2_endBlock.cls ≠ "java/lang/invoke/VarHandle" ∧ (parseMethodDescriptor yX2_endBlock.desc).map (fun d => d.parameters.length) = some 1 := by decide +kernel
set_option maxHeartbeats 4000000 in
set_option maxRecDepth 100000 in
theorem kX2_endBlock (l : Launch) (X : gXt) (hJ : gJ X xL) (σ : gS) (a1 : Int32) (q : Int32 × gS) (h : qO_endBlock σ a1 = some q) : gMi l yX2_endBlock (gws yX2_endBlock cX2_endBlock 4 (some .int)) rmX2_endBlock X xL [.ref (gad X 40), .int a1] σ q.1 q.2 := by
  refine g_enter (cc := cX2_endBlock) (nL := 4) (ret := (some .int)) hJ (plainFor_of_name (by decide)) (Nat.le_of_ble_eq_true rfl) ?_
  intro p e s m below meth c ls C P hl
  have C : gC p s m _ meth c RX2 cX2_endBlock 4 (some .int) X xL := C
  have hx := C.1
  have hb := C.2.1
  have hK := C.2.2.2.2.2.2.2.1
  have hts := C.2.2.2.2.1
  have hl : lv_has ls 4 [(0, .ref (gad X 40)), (1, .int a1)] := hl
  unfold qO_endBlock at h
  refine lv_iload_n hx hb dX2_endBlock_0 rfl (lv_at hl 1 rfl) ?_
  refine g_callNi (n := 1) (As := [.int a1]) (rest := []) C P (kX7_isRegister l X hJ σ a1 _ rfl) wd_139 rfl rfl kdX7_isRegister.2 ⟨Nat.le_of_ble_eq_true rfl, Nat.le_of_ble_eq_true rfl⟩ (hK.2 (RX2, 23, yX7_isRegister, RX7) (List.mem_of_getElem? (i := 0) rfl)) wd_2 wd_138 rfl rfl hl.1 (Nat.le_of_ble_eq_true rfl) dX2_endBlock_1 (fun H locs P => ?_)
  refine lv_if_ne (tgt := 10) hx hb dX2_endBlock_4 (by decide) (fun c1 => ?_) (fun c1 => ?_)
  · have h := g_ifn c1 h
    refine lv_aload_n hx hb dX2_endBlock_10 rfl (lv_at hl 0 rfl) ?_
    refine lv_iload_n hx hb dX2_endBlock_11 rfl (lv_at hl 1 rfl) ?_
    obtain ⟨r2, hr2, h⟩ := g_bind h
    refine g_callVi (n := 1) (As := [.int a1]) (rest := []) C P (kX2_faultAsBegin l X hJ σ a1 _ hr2) wd_327 wd_328 wd_329 wd_22 wd_330 rfl rfl kdX2_faultAsBegin ⟨Nat.le_of_ble_eq_true rfl, Nat.le_of_ble_eq_true rfl⟩ xl40 rfl rfl rfl hl.1 (Nat.le_of_ble_eq_true rfl) dX2_endBlock_12 (fun H locs P => ?_)
    refine lv_istore_n (lv' := [(2, .int r2), (0, .ref (gad X 40)), (1, .int a1)]) hx hb dX2_endBlock_15 rfl hl (by decide) rfl (fun ls hl => ?_)
    refine lv_iload_n hx hb dX2_endBlock_16 rfl (lv_at hl 0 rfl) ?_
    refine lv_if_eq (tgt := 22) hx hb dX2_endBlock_17 (by decide) (fun c3 => ?_) (fun c3 => ?_)
    · have h := g_ifp c3 h
      refine lv_aload_n hx hb dX2_endBlock_22 rfl (lv_at hl 1 rfl) ?_
      refine g_getR C P xl40 rfl inlX2 0 (by decide) wd_69 rfl dX2_endBlock_23 ?_
      refine lv_iload_n hx hb dX2_endBlock_26 rfl (lv_at hl 2 rfl) ?_
      obtain ⟨r4, hr4, h⟩ := g_bind h
      refine g_callVi (n := 1) (As := [.int a1]) (rest := []) C P (kX5_valueOf l X hJ σ a1 _ hr4) wd_339 wd_340 wd_341 wd_14 wd_342 rfl rfl kdX5_valueOf ⟨Nat.le_of_ble_eq_true rfl, Nat.le_of_ble_eq_true rfl⟩ xl1 rfl rfl rfl hl.1 (Nat.le_of_ble_eq_true rfl) dX2_endBlock_27 (fun H locs P => ?_)
      refine lv_istore_n (lv' := [(3, .int r4), (2, .int r2), (0, .ref (gad X 40)), (1, .int a1)]) hx hb dX2_endBlock_30 rfl hl (by decide) rfl (fun ls hl => ?_)
      refine lv_aload_n hx hb dX2_endBlock_31 rfl (lv_at hl 2 rfl) ?_
      refine g_getR C P xl40 rfl inlX2 0 (by decide) wd_69 rfl dX2_endBlock_32 ?_
      refine lv_iload_n hx hb dX2_endBlock_35 rfl (lv_at hl 0 rfl) ?_
      obtain ⟨r5, hr5, h⟩ := g_bind h
      refine g_callVi (n := 1) (As := [.int r4]) (rest := []) C P (kX5_isConstant l X hJ σ r4 _ hr5) wd_351 wd_352 wd_353 wd_14 wd_354 rfl rfl kdX5_isConstant ⟨Nat.le_of_ble_eq_true rfl, Nat.le_of_ble_eq_true rfl⟩ xl1 rfl rfl rfl hl.1 (Nat.le_of_ble_eq_true rfl) dX2_endBlock_36 (fun H locs P => ?_)
      refine lv_if_eq (tgt := 45) hx hb dX2_endBlock_39 (by decide) (fun c6 => ?_) (fun c6 => ?_)
      · have h := g_ifp c6 h
        refine lv_aload_n hx hb dX2_endBlock_45 rfl (lv_at hl 2 rfl) ?_
        refine g_getR C P xl40 rfl inlX2 0 (by decide) wd_69 rfl dX2_endBlock_46 ?_
        refine lv_iload_n hx hb dX2_endBlock_49 rfl (lv_at hl 0 rfl) ?_
        obtain ⟨r7, hr7, h⟩ := g_bind h
        refine g_callVv (n := 1) (As := [.int r4]) (rest := []) C P (kX5_markEnded l X hJ σ r4 _ hr7) wd_355 wd_356 wd_357 wd_14 wd_358 rfl rfl kdX5_markEnded ⟨Nat.le_of_ble_eq_true rfl, Nat.le_of_ble_eq_true rfl⟩ xl1 rfl rfl rfl hl.1 (Nat.le_of_ble_eq_true rfl) dX2_endBlock_50 (fun H locs P => ?_)
        refine lv_iload_n hx hb dX2_endBlock_53 rfl (lv_at hl 0 rfl) ?_
        have h := Option.some.inj h
        exact g_iret C P (g_fst h) (g_snd h) dX2_endBlock_54
      have h := g_ifn c6 h
      refine lv_bipush (v := -14) hx hb dX2_endBlock_42 (by decide) ?_
      have h := Option.some.inj h
      exact g_iret C P (g_fst h) (g_snd h) dX2_endBlock_44
    have h := g_ifn c3 h
    refine lv_iload_n hx hb dX2_endBlock_20 rfl (lv_at hl 0 rfl) ?_
    have h := Option.some.inj h
    exact g_iret C P (g_fst h) (g_snd h) dX2_endBlock_21
  have h := g_ifp c1 h
  refine lv_bipush (v := -2) hx hb dX2_endBlock_7 (by decide) ?_
  have h := Option.some.inj h
  exact g_iret C P (g_fst h) (g_snd h) dX2_endBlock_9
abbrev rmX5_fillWithNumber : Room := { frames := 1, cells := 0, slots := 0, locals := 24 }
theorem kdX5_fillWithNumber : yX5_fillWithNumber.cls = RX5 ∧ yX5_fillWithNumber.cls ≠ "java/lang/invoke/MethodHandle" ∧ yX5_fillWithNumber.cls ≠ "java/lang/invoke/VarHandle" ∧ (parseMethodDescriptor yX5_fillWithNumber.desc).map (fun d => d.parameters.length) = some 2 := by decide +kernel
set_option maxHeartbeats 4000000 in
set_option maxRecDepth 100000 in
theorem kX5_fillWithNumber (l : Launch) (X : gXt) (hJ : gJ X xL) (σ : gS) (a1 : Int32) (a2 : Int32) (q : gS) (h : qS_fillWithNumber σ a1 a2 = some q) : gMv l yX5_fillWithNumber (gws yX5_fillWithNumber cX5_fillWithNumber 3 none) rmX5_fillWithNumber X xL [.ref (gad X 1), .int a1, .int a2] σ q := by
  refine g_enter (cc := cX5_fillWithNumber) (nL := 3) (ret := none) hJ (plainFor_of_name (by decide)) (Nat.le_of_ble_eq_true rfl) ?_
  intro p e s m below meth c ls C P hl
  have C : gC p s m _ meth c RX5 cX5_fillWithNumber 3 none X xL := C
  have hx := C.1
  have hb := C.2.1
  have hK := C.2.2.2.2.2.2.2.1
  have hts := C.2.2.2.2.1
  have hl : lv_has ls 3 [(0, .ref (gad X 1)), (1, .int a1), (2, .int a2)] := hl
  unfold qS_fillWithNumber at h
  refine lv_aload_n hx hb dX5_fillWithNumber_0 rfl (lv_at hl 0 rfl) ?_
  refine lv_iload_n hx hb dX5_fillWithNumber_1 rfl (lv_at hl 1 rfl) ?_
  refine lv_iconst (v := 1) hx hb dX5_fillWithNumber_2 (by decide) ?_
  refine lv_iload_n hx hb dX5_fillWithNumber_3 rfl (lv_at hl 2 rfl) ?_
  refine lv_iconst (v := -1) hx hb dX5_fillWithNumber_4 (by decide) ?_
  obtain ⟨r1, hr1, h⟩ := g_bind h
  refine g_callVv (n := 4) (As := [.int a1, .int (1 : Int32), .int a2, .int (-1 : Int32)]) (rest := []) C P (kX5_fillRegister l X hJ σ a1 (1 : Int32) a2 (-1 : Int32) _ hr1) wd_152 wd_153 wd_154 wd_14 wd_155 rfl rfl kdX5_fillRegister ⟨Nat.le_of_ble_eq_true rfl, Nat.le_of_ble_eq_true rfl⟩ xl1 rfl rfl rfl hl.1 (Nat.le_of_ble_eq_true rfl) dX5_fillWithNumber_5 (fun H locs P => ?_)
  have h := Option.some.inj h
  exact g_vret C P h dX5_fillWithNumber_8
abbrev rmX2_setNumber : Room := { frames := 2, cells := 0, slots := 0, locals := 46 }
theorem kdX2_setNumber : yX2_setNumber.cls = RX2 ∧ yX2_setNumber.cls ≠ "java/lang/invoke/MethodHandle" ∧ yX2_setNumber.cls ≠ "java/lang/invoke/VarHandle" ∧ (parseMethodDescriptor yX2_setNumber.desc).map (fun d => d.parameters.length) = some 2 := by decide +kernel
set_option maxHeartbeats 4000000 in
set_option maxRecDepth 100000 in
theorem kX2_setNumber (l : Launch) (X : gXt) (hJ : gJ X xL) (σ : gS) (a1 : Int32) (a2 : Int32) (q : Int32 × gS) (h : qO_setNumber σ a1 a2 = some q) : gMi l yX2_setNumber (gws yX2_setNumber cX2_setNumber 3 (some .int)) rmX2_setNumber X xL [.ref (gad X 40), .int a1, .int a2] σ q.1 q.2 := by
  refine g_enter (cc := cX2_setNumber) (nL := 3) (ret := (some .int)) hJ (plainFor_of_name (by decide)) (Nat.le_of_ble_eq_true rfl) ?_
  intro p e s m below meth c ls C P hl
  have C : gC p s m _ meth c RX2 cX2_setNumber 3 (some .int) X xL := C
  have hx := C.1
  have hb := C.2.1
  have hK := C.2.2.2.2.2.2.2.1
  have hts := C.2.2.2.2.1
  have hl : lv_has ls 3 [(0, .ref (gad X 40)), (1, .int a1), (2, .int a2)] := hl
  unfold qO_setNumber at h
  refine lv_iload_n hx hb dX2_setNumber_0 rfl (lv_at hl 1 rfl) ?_
  refine g_callNi (n := 1) (As := [.int a1]) (rest := []) C P (kX7_isRegister l X hJ σ a1 _ rfl) wd_139 rfl rfl kdX7_isRegister.2 ⟨Nat.le_of_ble_eq_true rfl, Nat.le_of_ble_eq_true rfl⟩ (hK.2 (RX2, 23, yX7_isRegister, RX7) (List.mem_of_getElem? (i := 0) rfl)) wd_2 wd_138 rfl rfl hl.1 (Nat.le_of_ble_eq_true rfl) dX2_setNumber_1 (fun H locs P => ?_)
  refine lv_if_eq (tgt := 17) hx hb dX2_setNumber_4 (by decide) (fun c1 => ?_) (fun c1 => ?_)
  · have h := g_ifp c1 h
    refine lv_bipush (v := -2) hx hb dX2_setNumber_17 (by decide) ?_
    have h := Option.some.inj h
    exact g_iret C P (g_fst h) (g_snd h) dX2_setNumber_19
  have h := g_ifn c1 h
  refine lv_iload_n hx hb dX2_setNumber_7 rfl (lv_at hl 2 rfl) ?_
  refine lv_if_lt (tgt := 17) hx hb dX2_setNumber_8 (by decide) (fun c2 => ?_) (fun c2 => ?_)
  · have h := g_ifp c2 h
    refine lv_bipush (v := -2) hx hb dX2_setNumber_17 (by decide) ?_
    have h := Option.some.inj h
    exact g_iret C P (g_fst h) (g_snd h) dX2_setNumber_19
  have h := g_ifn c2 h
  refine lv_iload_n hx hb dX2_setNumber_11 rfl (lv_at hl 2 rfl) ?_
  refine lv_ldc (v := 65536) hx hb C.2.2.2.1 (hts _ wd_371) dX2_setNumber_12 ?_
  refine lv_icmp_lt (tgt := 20) hx hb dX2_setNumber_14 (by decide) (fun c3 => ?_) (fun c3 => ?_)
  · have h := g_ifp c3 h
    refine lv_aload_n hx hb dX2_setNumber_20 rfl (lv_at hl 0 rfl) ?_
    refine g_getR C P xl40 rfl inlX2 0 (by decide) wd_69 rfl dX2_setNumber_21 ?_
    refine lv_iload_n hx hb dX2_setNumber_24 rfl (lv_at hl 1 rfl) ?_
    refine lv_iload_n hx hb dX2_setNumber_25 rfl (lv_at hl 2 rfl) ?_
    obtain ⟨r4, hr4, h⟩ := g_bind h
    refine g_callVv (n := 2) (As := [.int a1, .int a2]) (rest := []) C P (kX5_fillWithNumber l X hJ σ a1 a2 _ hr4) wd_372 wd_373 wd_374 wd_14 wd_375 rfl rfl kdX5_fillWithNumber ⟨Nat.le_of_ble_eq_true rfl, Nat.le_of_ble_eq_true rfl⟩ xl1 rfl rfl rfl hl.1 (Nat.le_of_ble_eq_true rfl) dX2_setNumber_26 (fun H locs P => ?_)
    refine lv_iload_n hx hb dX2_setNumber_29 rfl (lv_at hl 2 rfl) ?_
    have h := Option.some.inj h
    exact g_iret C P (g_fst h) (g_snd h) dX2_setNumber_30
  have h := g_ifn c3 h
  refine lv_bipush (v := -2) hx hb dX2_setNumber_17 (by decide) ?_
  have h := Option.some.inj h
  exact g_iret C P (g_fst h) (g_snd h) dX2_setNumber_19
abbrev rmX2_copyRegister : Room := { frames := 1, cells := 0, slots := 0, locals := 24 }
theorem kdX2_copyRegister : yX2_copyRegister.cls = RX2 ∧ yX2_copyRegister.cls ≠ "java/lang/invoke/MethodHandle" ∧ yX2_copyRegister.cls ≠ "java/lang/invoke/VarHandle" ∧ (parseMethodDescriptor yX2_copyRegister.desc).map (fun d => d.parameters.length) = some 2 := by decide +kernel
set_option maxHeartbeats 4000000 in
set_option maxRecDepth 100000 in
theorem kX2_copyRegister (l : Launch) (X : gXt) (hJ : gJ X xL) (σ : gS) (a1 : Int32) (a2 : Int32) (q : Int32 × gS) (h : qO_copyRegister σ a1 a2 = some q) : gMi l yX2_copyRegister (gws yX2_copyRegister cX2_copyRegister 4 (some .int)) rmX2_copyRegister X xL [.ref (gad X 40), .int a1, .int a2] σ q.1 q.2 := by
  refine g_enter (cc := cX2_copyRegister) (nL := 4) (ret := (some .int)) hJ (plainFor_of_name (by decide)) (Nat.le_of_ble_eq_true rfl) ?_
  intro p e s m below meth c ls C P hl
  have C : gC p s m _ meth c RX2 cX2_copyRegister 4 (some .int) X xL := C
  have hx := C.1
  have hb := C.2.1
  have hK := C.2.2.2.2.2.2.2.1
  have hts := C.2.2.2.2.1
  have hl : lv_has ls 4 [(0, .ref (gad X 40)), (1, .int a1), (2, .int a2)] := hl
  unfold qO_copyRegister at h
  refine lv_iload_n hx hb dX2_copyRegister_0 rfl (lv_at hl 1 rfl) ?_
  refine g_callNi (n := 1) (As := [.int a1]) (rest := []) C P (kX7_isRegister l X hJ σ a1 _ rfl) wd_139 rfl rfl kdX7_isRegister.2 ⟨Nat.le_of_ble_eq_true rfl, Nat.le_of_ble_eq_true rfl⟩ (hK.2 (RX2, 23, yX7_isRegister, RX7) (List.mem_of_getElem? (i := 0) rfl)) wd_2 wd_138 rfl rfl hl.1 (Nat.le_of_ble_eq_true rfl) dX2_copyRegister_1 (fun H locs P => ?_)
  refine lv_if_eq (tgt := 14) hx hb dX2_copyRegister_4 (by decide) (fun c1 => ?_) (fun c1 => ?_)
  · have h := g_ifp c1 h
    refine lv_bipush (v := -2) hx hb dX2_copyRegister_14 (by decide) ?_
    have h := Option.some.inj h
    exact g_iret C P (g_fst h) (g_snd h) dX2_copyRegister_16
  have h := g_ifn c1 h
  refine lv_iload_n hx hb dX2_copyRegister_7 rfl (lv_at hl 2 rfl) ?_
  refine g_callNi (n := 1) (As := [.int a2]) (rest := []) C P (kX7_isRegister l X hJ σ a2 _ rfl) wd_139 rfl rfl kdX7_isRegister.2 ⟨Nat.le_of_ble_eq_true rfl, Nat.le_of_ble_eq_true rfl⟩ (hK.2 (RX2, 23, yX7_isRegister, RX7) (List.mem_of_getElem? (i := 0) rfl)) wd_2 wd_138 rfl rfl hl.1 (Nat.le_of_ble_eq_true rfl) dX2_copyRegister_8 (fun H locs P => ?_)
  refine lv_if_ne (tgt := 17) hx hb dX2_copyRegister_11 (by decide) (fun c2 => ?_) (fun c2 => ?_)
  · have h := g_ifn c2 h
    refine lv_aload_n hx hb dX2_copyRegister_17 rfl (lv_at hl 0 rfl) ?_
    refine g_getR C P xl40 rfl inlX2 0 (by decide) wd_69 rfl dX2_copyRegister_18 ?_
    refine lv_iload_n hx hb dX2_copyRegister_21 rfl (lv_at hl 2 rfl) ?_
    obtain ⟨r3, hr3, h⟩ := g_bind h
    refine g_callVi (n := 1) (As := [.int a2]) (rest := []) C P (kX5_kindOf l X hJ σ a2 _ hr3) wd_335 wd_336 wd_337 wd_14 wd_338 rfl rfl kdX5_kindOf ⟨Nat.le_of_ble_eq_true rfl, Nat.le_of_ble_eq_true rfl⟩ xl1 rfl rfl rfl hl.1 (Nat.le_of_ble_eq_true rfl) dX2_copyRegister_22 (fun H locs P => ?_)
    refine lv_istore_n (lv' := [(3, .int r3), (0, .ref (gad X 40)), (1, .int a1), (2, .int a2)]) hx hb dX2_copyRegister_25 rfl hl (by decide) rfl (fun ls hl => ?_)
    refine lv_aload_n hx hb dX2_copyRegister_26 rfl (lv_at hl 1 rfl) ?_
    refine g_getR C P xl40 rfl inlX2 0 (by decide) wd_69 rfl dX2_copyRegister_27 ?_
    refine lv_iload_n hx hb dX2_copyRegister_30 rfl (lv_at hl 2 rfl) ?_
    refine lv_iload_n hx hb dX2_copyRegister_31 rfl (lv_at hl 0 rfl) ?_
    refine lv_aload_n hx hb dX2_copyRegister_32 rfl (lv_at hl 1 rfl) ?_
    refine g_getR C P xl40 rfl inlX2 0 (by decide) wd_69 rfl dX2_copyRegister_33 ?_
    refine lv_iload_n hx hb dX2_copyRegister_36 rfl (lv_at hl 3 rfl) ?_
    obtain ⟨r4, hr4, h⟩ := g_bind h
    refine g_callVi (n := 1) (As := [.int a2]) (rest := [.int r3, .int a1, .ref (gad X 1)]) C P (kX5_valueOf l X hJ σ a2 _ hr4) wd_339 wd_340 wd_341 wd_14 wd_342 rfl rfl kdX5_valueOf ⟨Nat.le_of_ble_eq_true rfl, Nat.le_of_ble_eq_true rfl⟩ xl1 rfl rfl rfl hl.1 (Nat.le_of_ble_eq_true rfl) dX2_copyRegister_37 (fun H locs P => ?_)
    refine lv_aload_n hx hb dX2_copyRegister_40 rfl (lv_at hl 1 rfl) ?_
    refine g_getR C P xl40 rfl inlX2 0 (by decide) wd_69 rfl dX2_copyRegister_41 ?_
    refine lv_iload_n hx hb dX2_copyRegister_44 rfl (lv_at hl 3 rfl) ?_
    obtain ⟨r5, hr5, h⟩ := g_bind h
    refine g_callVi (n := 1) (As := [.int a2]) (rest := [.int r4, .int r3, .int a1, .ref (gad X 1)]) C P (kX5_offsetOf l X hJ σ a2 _ hr5) wd_347 wd_348 wd_349 wd_14 wd_350 rfl rfl kdX5_offsetOf ⟨Nat.le_of_ble_eq_true rfl, Nat.le_of_ble_eq_true rfl⟩ xl1 rfl rfl rfl hl.1 (Nat.le_of_ble_eq_true rfl) dX2_copyRegister_45 (fun H locs P => ?_)
    obtain ⟨r6, hr6, h⟩ := g_bind h
    refine g_callVv (n := 4) (As := [.int a1, .int r3, .int r4, .int r5]) (rest := []) C P (kX5_fillRegister l X hJ σ a1 r3 r4 r5 _ hr6) wd_388 wd_153 wd_154 wd_14 wd_155 rfl rfl kdX5_fillRegister ⟨Nat.le_of_ble_eq_true rfl, Nat.le_of_ble_eq_true rfl⟩ xl1 rfl rfl rfl hl.1 (Nat.le_of_ble_eq_true rfl) dX2_copyRegister_48 (fun H locs P => ?_)
    refine lv_iload_n hx hb dX2_copyRegister_51 rfl (lv_at hl 0 rfl) ?_
    have h := Option.some.inj h
    exact g_iret C P (g_fst h) (g_snd h) dX2_copyRegister_52
  have h := g_ifp c2 h
  refine lv_bipush (v := -2) hx hb dX2_copyRegister_14 (by decide) ?_
  have h := Option.some.inj h
  exact g_iret C P (g_fst h) (g_snd h) dX2_copyRegister_16
abbrev rmX2_forgetRegister : Room := { frames := 1, cells := 0, slots := 0, locals := 24 }
theorem kdX2_forgetRegister : yX2_forgetRegister.cls = RX2 ∧ yX2_forgetRegister.cls ≠ "java/lang/invoke/MethodHandle" ∧ yX2_forgetRegister.cls ≠ "java/lang/invoke/VarHandle" ∧ (parseMethodDescriptor yX2_forgetRegister.desc).map (fun d => d.parameters.length) = some 1 := by decide +kernel
set_option maxHeartbeats 4000000 in
set_option maxRecDepth 100000 in
theorem kX2_forgetRegister (l : Launch) (X : gXt) (hJ : gJ X xL) (σ : gS) (a1 : Int32) (q : Int32 × gS) (h : qO_forgetRegister σ a1 = some q) : gMi l yX2_forgetRegister (gws yX2_forgetRegister cX2_forgetRegister 3 (some .int)) rmX2_forgetRegister X xL [.ref (gad X 40), .int a1] σ q.1 q.2 := by
  refine g_enter (cc := cX2_forgetRegister) (nL := 3) (ret := (some .int)) hJ (plainFor_of_name (by decide)) (Nat.le_of_ble_eq_true rfl) ?_
  intro p e s m below meth c ls C P hl
  have C : gC p s m _ meth c RX2 cX2_forgetRegister 3 (some .int) X xL := C
  have hx := C.1
  have hb := C.2.1
  have hK := C.2.2.2.2.2.2.2.1
  have hts := C.2.2.2.2.1
  have hl : lv_has ls 3 [(0, .ref (gad X 40)), (1, .int a1)] := hl
  unfold qO_forgetRegister at h
  refine lv_iload_n hx hb dX2_forgetRegister_0 rfl (lv_at hl 1 rfl) ?_
  refine g_callNi (n := 1) (As := [.int a1]) (rest := []) C P (kX7_isRegister l X hJ σ a1 _ rfl) wd_139 rfl rfl kdX7_isRegister.2 ⟨Nat.le_of_ble_eq_true rfl, Nat.le_of_ble_eq_true rfl⟩ (hK.2 (RX2, 23, yX7_isRegister, RX7) (List.mem_of_getElem? (i := 0) rfl)) wd_2 wd_138 rfl rfl hl.1 (Nat.le_of_ble_eq_true rfl) dX2_forgetRegister_1 (fun H locs P => ?_)
  refine lv_if_ne (tgt := 10) hx hb dX2_forgetRegister_4 (by decide) (fun c1 => ?_) (fun c1 => ?_)
  · have h := g_ifn c1 h
    refine lv_aload_n hx hb dX2_forgetRegister_10 rfl (lv_at hl 0 rfl) ?_
    refine g_getR C P xl40 rfl inlX2 0 (by decide) wd_69 rfl dX2_forgetRegister_11 ?_
    refine lv_iload_n hx hb dX2_forgetRegister_14 rfl (lv_at hl 1 rfl) ?_
    obtain ⟨r2, hr2, h⟩ := g_bind h
    refine g_callVi (n := 1) (As := [.int a1]) (rest := []) C P (kX5_kindOf l X hJ σ a1 _ hr2) wd_335 wd_336 wd_337 wd_14 wd_338 rfl rfl kdX5_kindOf ⟨Nat.le_of_ble_eq_true rfl, Nat.le_of_ble_eq_true rfl⟩ xl1 rfl rfl rfl hl.1 (Nat.le_of_ble_eq_true rfl) dX2_forgetRegister_15 (fun H locs P => ?_)
    refine lv_istore_n (lv' := [(2, .int r2), (0, .ref (gad X 40)), (1, .int a1)]) hx hb dX2_forgetRegister_18 rfl hl (by decide) rfl (fun ls hl => ?_)
    refine lv_aload_n hx hb dX2_forgetRegister_19 rfl (lv_at hl 1 rfl) ?_
    refine g_getR C P xl40 rfl inlX2 0 (by decide) wd_69 rfl dX2_forgetRegister_20 ?_
    refine lv_iload_n hx hb dX2_forgetRegister_23 rfl (lv_at hl 2 rfl) ?_
    refine lv_iconst (v := 0) hx hb dX2_forgetRegister_24 (by decide) ?_
    refine lv_iconst (v := -1) hx hb dX2_forgetRegister_25 (by decide) ?_
    refine lv_iconst (v := -1) hx hb dX2_forgetRegister_26 (by decide) ?_
    obtain ⟨r3, hr3, h⟩ := g_bind h
    refine g_callVv (n := 4) (As := [.int a1, .int (0 : Int32), .int (-1 : Int32), .int (-1 : Int32)]) (rest := []) C P (kX5_fillRegister l X hJ σ a1 (0 : Int32) (-1 : Int32) (-1 : Int32) _ hr3) wd_388 wd_153 wd_154 wd_14 wd_155 rfl rfl kdX5_fillRegister ⟨Nat.le_of_ble_eq_true rfl, Nat.le_of_ble_eq_true rfl⟩ xl1 rfl rfl rfl hl.1 (Nat.le_of_ble_eq_true rfl) dX2_forgetRegister_27 (fun H locs P => ?_)
    refine lv_iload_n hx hb dX2_forgetRegister_30 rfl (lv_at hl 0 rfl) ?_
    have h := Option.some.inj h
    exact g_iret C P (g_fst h) (g_snd h) dX2_forgetRegister_31
  have h := g_ifp c1 h
  refine lv_bipush (v := -2) hx hb dX2_forgetRegister_7 (by decide) ?_
  have h := Option.some.inj h
  exact g_iret C P (g_fst h) (g_snd h) dX2_forgetRegister_9
abbrev rmX2_changeBudget : Room := { frames := 0, cells := 0, slots := 0, locals := 0 }
theorem kdX2_changeBudget : yX2_changeBudget.cls = RX2 ∧ yX2_changeBudget.cls ≠ "java/lang/invoke/MethodHandle" ∧ yX2_changeBudget.cls ≠ "java/lang/invoke/VarHandle" ∧ (parseMethodDescriptor yX2_changeBudget.desc).map (fun d => d.parameters.length) = some 1 := by decide +kernel
set_option maxHeartbeats 4000000 in
set_option maxRecDepth 100000 in
theorem kX2_changeBudget (l : Launch) (X : gXt) (hJ : gJ X xL) (σ : gS) (a1 : Int32) (q : Int32 × gS) (h : qO_changeBudget σ a1 = some q) : gMi l yX2_changeBudget (gws yX2_changeBudget cX2_changeBudget 3 (some .int)) rmX2_changeBudget X xL [.ref (gad X 40), .int a1] σ q.1 q.2 := by
  refine g_enter (cc := cX2_changeBudget) (nL := 3) (ret := (some .int)) hJ (plainFor_of_name (by decide)) (Nat.le_of_ble_eq_true rfl) ?_
  intro p e s m below meth c ls C P hl
  have C : gC p s m _ meth c RX2 cX2_changeBudget 3 (some .int) X xL := C
  have hx := C.1
  have hb := C.2.1
  have hK := C.2.2.2.2.2.2.2.1
  have hts := C.2.2.2.2.1
  have hl : lv_has ls 3 [(0, .ref (gad X 40)), (1, .int a1)] := hl
  unfold qO_changeBudget at h
  refine lv_iload_n hx hb dX2_changeBudget_0 rfl (lv_at hl 1 rfl) ?_
  refine lv_iconst (v := 1) hx hb dX2_changeBudget_1 (by decide) ?_
  refine lv_icmp_lt (tgt := 11) hx hb dX2_changeBudget_2 (by decide) (fun c1 => ?_) (fun c1 => ?_)
  · have h := g_ifp c1 h
    refine lv_bipush (v := -2) hx hb dX2_changeBudget_11 (by decide) ?_
    have h := Option.some.inj h
    exact g_iret C P (g_fst h) (g_snd h) dX2_changeBudget_13
  have h := g_ifn c1 h
  refine lv_iload_n hx hb dX2_changeBudget_5 rfl (lv_at hl 1 rfl) ?_
  refine lv_bipush (v := 60) hx hb dX2_changeBudget_6 (by decide) ?_
  refine lv_icmp_le (tgt := 14) hx hb dX2_changeBudget_8 (by decide) (fun c2 => ?_) (fun c2 => ?_)
  · have h := g_ifp c2 h
    refine lv_aload_n hx hb dX2_changeBudget_14 rfl (lv_at hl 0 rfl) ?_
    refine g_getR C P xl40 rfl inlX2 0 (by decide) wd_69 rfl dX2_changeBudget_15 ?_
    refine g_getI C P xl1 rfl inlX5 9 (by decide) wd_613 rfl dX2_changeBudget_18 ?_
    refine lv_istore_n (lv' := [(2, .int (gI σ 1 9)), (0, .ref (gad X 40)), (1, .int a1)]) hx hb dX2_changeBudget_21 rfl hl (by decide) rfl (fun ls hl => ?_)
    refine lv_aload_n hx hb dX2_changeBudget_22 rfl (lv_at hl 1 rfl) ?_
    refine g_getR C P xl40 rfl inlX2 0 (by decide) wd_69 rfl dX2_changeBudget_23 ?_
    refine lv_iload_n hx hb dX2_changeBudget_26 rfl (lv_at hl 2 rfl) ?_
    refine g_putI C P xl1 rfl inlX5 tyX5 tyX5_ok nmX5 9 (by decide) wd_613 rfl rfl rfl rfl dX2_changeBudget_27 (fun H locs P => ?_)
    refine lv_iload_n hx hb dX2_changeBudget_30 rfl (lv_at hl 0 rfl) ?_
    have h := Option.some.inj h
    exact g_iret C P (g_fst h) (g_snd h) dX2_changeBudget_31
  have h := g_ifn c2 h
  refine lv_bipush (v := -2) hx hb dX2_changeBudget_11 (by decide) ?_
  have h := Option.some.inj h
  exact g_iret C P (g_fst h) (g_snd h) dX2_changeBudget_13
abbrev rmJ9_floorMod_7cf53 : Room := { frames := 0, cells := 0, slots := 0, locals := 0 }
theorem kdJ9_floorMod_7cf53 : yJ9_floorMod_7cf53.cls = RJ9 ∧ yJ9_floorMod_7cf53.cls ≠ "java/lang/invoke/MethodHandle" ∧ yJ9_floorMod_7cf53.cls ≠ "java/lang/invoke/VarHandle" ∧ (parseMethodDescriptor yJ9_floorMod_7cf53.desc).map (fun d => d.parameters.length) = some 2 := by decide +kernel
set_option maxHeartbeats 4000000 in
set_option maxRecDepth 100000 in
theorem kJ9_floorMod_7cf53 (l : Launch) (X : gXt) (hJ : gJ X xL) (σ : gS) (a1 : Int32) (a2 : Int32) (q : Int32) (h : qJ_floorMod a1 a2 = some q) : gMi l yJ9_floorMod_7cf53 (gws yJ9_floorMod_7cf53 cJ9_floorMod_7cf53 3 (some .int)) rmJ9_floorMod_7cf53 X xL [.int a1, .int a2] σ q σ := by
  refine g_enter (cc := cJ9_floorMod_7cf53) (nL := 3) (ret := (some .int)) hJ (by decide +kernel) (Nat.le_of_ble_eq_true rfl) ?_
  intro p e s m below meth c ls C P hl
  have C : gC p s m _ meth c RJ9 cJ9_floorMod_7cf53 3 (some .int) X xL := C
  have hx := C.1
  have hb := C.2.1
  have hK := C.2.2.2.2.2.2.2.1
  have hts := C.2.2.2.2.1
  have hl : lv_has ls 3 [(0, .int a1), (1, .int a2)] := hl
  unfold qJ_floorMod at h
  refine lv_iload_n hx hb dJ9_floorMod_7cf53_0 rfl (lv_at hl 0 rfl) ?_
  refine lv_iload_n hx hb dJ9_floorMod_7cf53_1 rfl (lv_at hl 1 rfl) ?_
  obtain ⟨hz, h⟩ := g_nz h
  refine lv_irem hx hb dJ9_floorMod_7cf53_2 hz ?_
  refine lv_istore_n (lv' := [(2, .int (a1 - a1 / a2 * a2)), (0, .int a1), (1, .int a2)]) hx hb dJ9_floorMod_7cf53_3 rfl hl (by decide) rfl (fun ls hl => ?_)
  refine lv_iload_n hx hb dJ9_floorMod_7cf53_4 rfl (lv_at hl 1 rfl) ?_
  refine lv_iload_n hx hb dJ9_floorMod_7cf53_5 rfl (lv_at hl 2 rfl) ?_
  refine lv_ixor hx hb dJ9_floorMod_7cf53_6 ?_
  refine lv_if_ge (tgt := 18) hx hb dJ9_floorMod_7cf53_7 (by decide) (fun c1 => ?_) (fun c1 => ?_)
  · have h := g_ifp c1 h
    refine lv_iload_n hx hb dJ9_floorMod_7cf53_18 rfl (lv_at hl 0 rfl) ?_
    have h := Option.some.inj h
    exact g_iret C P h rfl dJ9_floorMod_7cf53_19
  have h := g_ifn c1 h
  refine lv_iload_n hx hb dJ9_floorMod_7cf53_10 rfl (lv_at hl 0 rfl) ?_
  refine lv_if_eq (tgt := 18) hx hb dJ9_floorMod_7cf53_11 (by decide) (fun c2 => ?_) (fun c2 => ?_)
  · have h := g_ifp c2 h
    refine lv_iload_n hx hb dJ9_floorMod_7cf53_18 rfl (lv_at hl 0 rfl) ?_
    have h := Option.some.inj h
    exact g_iret C P h rfl dJ9_floorMod_7cf53_19
  have h := g_ifn c2 h
  refine lv_iload_n hx hb dJ9_floorMod_7cf53_14 rfl (lv_at hl 0 rfl) ?_
  refine lv_iload_n hx hb dJ9_floorMod_7cf53_15 rfl (lv_at hl 2 rfl) ?_
  refine lv_iadd hx hb dJ9_floorMod_7cf53_16 ?_
  have h := Option.some.inj h
  exact g_iret C P h rfl dJ9_floorMod_7cf53_17
abbrev rmX2_moveNumber : Room := { frames := 2, cells := 0, slots := 0, locals := 46 }
theorem kdX2_moveNumber : yX2_moveNumber.cls = RX2 ∧ yX2_moveNumber.cls ≠ "java/lang/invoke/MethodHandle" ∧ yX2_moveNumber.cls ≠ "java/lang/invoke/VarHandle" ∧ (parseMethodDescriptor yX2_moveNumber.desc).map (fun d => d.parameters.length) = some 2 := by decide +kernel
set_option maxHeartbeats 4000000 in
set_option maxRecDepth 100000 in
theorem kX2_moveNumber (l : Launch) (X : gXt) (hJ : gJ X xL) (σ : gS) (a1 : Int32) (a2 : Int32) (q : Int32 × gS) (h : qO_moveNumber σ a1 a2 = some q) : gMi l yX2_moveNumber (gws yX2_moveNumber cX2_moveNumber 4 (some .int)) rmX2_moveNumber X xL [.ref (gad X 40), .int a1, .int a2] σ q.1 q.2 := by
  refine g_enter (cc := cX2_moveNumber) (nL := 4) (ret := (some .int)) hJ (plainFor_of_name (by decide)) (Nat.le_of_ble_eq_true rfl) ?_
  intro p e s m below meth c ls C P hl
  have C : gC p s m _ meth c RX2 cX2_moveNumber 4 (some .int) X xL := C
  have hx := C.1
  have hb := C.2.1
  have hK := C.2.2.2.2.2.2.2.1
  have hts := C.2.2.2.2.1
  have hl : lv_has ls 4 [(0, .ref (gad X 40)), (1, .int a1), (2, .int a2)] := hl
  unfold qO_moveNumber at h
  refine lv_aload_n hx hb dX2_moveNumber_0 rfl (lv_at hl 0 rfl) ?_
  refine g_getR C P xl40 rfl inlX2 0 (by decide) wd_69 rfl dX2_moveNumber_1 ?_
  refine lv_iload_n hx hb dX2_moveNumber_4 rfl (lv_at hl 1 rfl) ?_
  obtain ⟨r1, hr1, h⟩ := g_bind h
  refine g_callVi (n := 1) (As := [.int a1]) (rest := []) C P (kX5_valueOf l X hJ σ a1 _ hr1) wd_339 wd_340 wd_341 wd_14 wd_342 rfl rfl kdX5_valueOf ⟨Nat.le_of_ble_eq_true rfl, Nat.le_of_ble_eq_true rfl⟩ xl1 rfl rfl rfl hl.1 (Nat.le_of_ble_eq_true rfl) dX2_moveNumber_5 (fun H locs P => ?_)
  refine lv_iload_n hx hb dX2_moveNumber_8 rfl (lv_at hl 2 rfl) ?_
  refine lv_iadd hx hb dX2_moveNumber_9 ?_
  refine lv_ldc (v := 65536) hx hb C.2.2.2.1 (hts _ wd_371) dX2_moveNumber_10 ?_
  obtain ⟨r2, hr2, h⟩ := g_bind h
  refine g_callSi (n := 2) (As := [.int (r1 + a2), .int (65536 : Int32)]) (rest := []) C P (kJ9_floorMod_7cf53 l X hJ σ (r1 + a2) (65536 : Int32) _ hr2) wd_405 wd_120 wd_121 wd_122 rfl rfl kdJ9_floorMod_7cf53.2 ⟨Nat.le_of_ble_eq_true rfl, Nat.le_of_ble_eq_true rfl⟩ rfl rfl hl.1 (Nat.le_of_ble_eq_true rfl) dX2_moveNumber_12 (fun H locs P => ?_)
  refine lv_istore_n (lv' := [(3, .int r2), (0, .ref (gad X 40)), (1, .int a1), (2, .int a2)]) hx hb dX2_moveNumber_15 rfl hl (by decide) rfl (fun ls hl => ?_)
  refine lv_aload_n hx hb dX2_moveNumber_16 rfl (lv_at hl 1 rfl) ?_
  refine g_getR C P xl40 rfl inlX2 0 (by decide) wd_69 rfl dX2_moveNumber_17 ?_
  refine lv_iload_n hx hb dX2_moveNumber_20 rfl (lv_at hl 2 rfl) ?_
  refine lv_iload_n hx hb dX2_moveNumber_21 rfl (lv_at hl 0 rfl) ?_
  obtain ⟨r3, hr3, h⟩ := g_bind h
  refine g_callVv (n := 2) (As := [.int a1, .int r2]) (rest := []) C P (kX5_fillWithNumber l X hJ σ a1 r2 _ hr3) wd_372 wd_373 wd_374 wd_14 wd_375 rfl rfl kdX5_fillWithNumber ⟨Nat.le_of_ble_eq_true rfl, Nat.le_of_ble_eq_true rfl⟩ xl1 rfl rfl rfl hl.1 (Nat.le_of_ble_eq_true rfl) dX2_moveNumber_22 (fun H locs P => ?_)
  refine lv_iload_n hx hb dX2_moveNumber_25 rfl (lv_at hl 0 rfl) ?_
  have h := Option.some.inj h
  exact g_iret C P (g_fst h) (g_snd h) dX2_moveNumber_26
abbrev rmX2_movePointer : Room := { frames := 2, cells := 0, slots := 0, locals := 47 }
theorem kdX2_movePointer : yX2_movePointer.cls = RX2 ∧ yX2_movePointer.cls ≠ "java/lang/invoke/MethodHandle" ∧ yX2_movePointer.cls ≠ "java/lang/invoke/VarHandle" ∧ (parseMethodDescriptor yX2_movePointer.desc).map (fun d => d.parameters.length) = some 2 := by decide +kernel
set_option maxHeartbeats 4000000 in
set_option maxRecDepth 100000 in
theorem kX2_movePointer (l : Launch) (X : gXt) (hJ : gJ X xL) (σ : gS) (a1 : Int32) (a2 : Int32) (q : Int32 × gS) (h : qO_movePointer σ a1 a2 = some q) : gMi l yX2_movePointer (gws yX2_movePointer cX2_movePointer 5 (some .int)) rmX2_movePointer X xL [.ref (gad X 40), .int a1, .int a2] σ q.1 q.2 := by
  refine g_enter (cc := cX2_movePointer) (nL := 5) (ret := (some .int)) hJ (plainFor_of_name (by decide)) (Nat.le_of_ble_eq_true rfl) ?_
  intro p e s m below meth c ls C P hl
  have C : gC p s m _ meth c RX2 cX2_movePointer 5 (some .int) X xL := C
  have hx := C.1
  have hb := C.2.1
  have hK := C.2.2.2.2.2.2.2.1
  have hts := C.2.2.2.2.1
  have hl : lv_has ls 5 [(0, .ref (gad X 40)), (1, .int a1), (2, .int a2)] := hl
  unfold qO_movePointer at h
  refine lv_aload_n hx hb dX2_movePointer_0 rfl (lv_at hl 0 rfl) ?_
  refine g_getR C P xl40 rfl inlX2 0 (by decide) wd_69 rfl dX2_movePointer_1 ?_
  refine lv_iload_n hx hb dX2_movePointer_4 rfl (lv_at hl 1 rfl) ?_
  obtain ⟨r1, hr1, h⟩ := g_bind h
  refine g_callVi (n := 1) (As := [.int a1]) (rest := []) C P (kX5_valueOf l X hJ σ a1 _ hr1) wd_339 wd_340 wd_341 wd_14 wd_342 rfl rfl kdX5_valueOf ⟨Nat.le_of_ble_eq_true rfl, Nat.le_of_ble_eq_true rfl⟩ xl1 rfl rfl rfl hl.1 (Nat.le_of_ble_eq_true rfl) dX2_movePointer_5 (fun H locs P => ?_)
  refine lv_istore_n (lv' := [(3, .int r1), (0, .ref (gad X 40)), (1, .int a1), (2, .int a2)]) hx hb dX2_movePointer_8 rfl hl (by decide) rfl (fun ls hl => ?_)
  refine lv_aload_n hx hb dX2_movePointer_9 rfl (lv_at hl 1 rfl) ?_
  refine g_getR C P xl40 rfl inlX2 0 (by decide) wd_69 rfl dX2_movePointer_10 ?_
  refine lv_iload_n hx hb dX2_movePointer_13 rfl (lv_at hl 0 rfl) ?_
  obtain ⟨r2, hr2, h⟩ := g_bind h
  refine g_callVi (n := 1) (As := [.int r1]) (rest := []) C P (kX5_isLive l X hJ σ r1 _ hr2) wd_343 wd_344 wd_345 wd_14 wd_346 rfl rfl kdX5_isLive ⟨Nat.le_of_ble_eq_true rfl, Nat.le_of_ble_eq_true rfl⟩ xl1 rfl rfl rfl hl.1 (Nat.le_of_ble_eq_true rfl) dX2_movePointer_14 (fun H locs P => ?_)
  refine lv_if_ne (tgt := 23) hx hb dX2_movePointer_17 (by decide) (fun c3 => ?_) (fun c3 => ?_)
  · have h := g_ifn c3 h
    refine lv_aload_n hx hb dX2_movePointer_23 rfl (lv_at hl 1 rfl) ?_
    refine g_getR C P xl40 rfl inlX2 0 (by decide) wd_69 rfl dX2_movePointer_24 ?_
    refine lv_iload_n hx hb dX2_movePointer_27 rfl (lv_at hl 2 rfl) ?_
    obtain ⟨r4, hr4, h⟩ := g_bind h
    refine g_callVi (n := 1) (As := [.int a1]) (rest := []) C P (kX5_offsetOf l X hJ σ a1 _ hr4) wd_347 wd_348 wd_349 wd_14 wd_350 rfl rfl kdX5_offsetOf ⟨Nat.le_of_ble_eq_true rfl, Nat.le_of_ble_eq_true rfl⟩ xl1 rfl rfl rfl hl.1 (Nat.le_of_ble_eq_true rfl) dX2_movePointer_28 (fun H locs P => ?_)
    refine lv_iload_n hx hb dX2_movePointer_31 rfl (lv_at hl 3 rfl) ?_
    refine lv_iadd hx hb dX2_movePointer_32 ?_
    refine lv_istore (lv' := [(4, .int (r4 + a2)), (3, .int r1), (0, .ref (gad X 40)), (1, .int a1), (2, .int a2)]) hx hb dX2_movePointer_33 hl (by decide) rfl (fun ls hl => ?_)
    refine lv_iload hx hb dX2_movePointer_35 (lv_at hl 0 rfl) ?_
    refine lv_if_lt (tgt := 53) hx hb dX2_movePointer_37 (by decide) (fun c5 => ?_) (fun c5 => ?_)
    · have h := g_ifp c5 h
      refine lv_bipush (v := -15) hx hb dX2_movePointer_53 (by decide) ?_
      have h := Option.some.inj h
      exact g_iret C P (g_fst h) (g_snd h) dX2_movePointer_55
    have h := g_ifn c5 h
    refine lv_iload hx hb dX2_movePointer_40 (lv_at hl 0 rfl) ?_
    refine lv_aload_n hx hb dX2_movePointer_42 rfl (lv_at hl 2 rfl) ?_
    refine g_getR C P xl40 rfl inlX2 0 (by decide) wd_69 rfl dX2_movePointer_43 ?_
    refine lv_iload_n hx hb dX2_movePointer_46 rfl (lv_at hl 1 rfl) ?_
    obtain ⟨r6, hr6, h⟩ := g_bind h
    refine g_callVi (n := 1) (As := [.int r1]) (rest := [.int (r4 + a2)]) C P (kX5_sizeOf l X hJ σ r1 _ hr6) wd_410 wd_411 wd_412 wd_14 wd_413 rfl rfl kdX5_sizeOf ⟨Nat.le_of_ble_eq_true rfl, Nat.le_of_ble_eq_true rfl⟩ xl1 rfl rfl rfl hl.1 (Nat.le_of_ble_eq_true rfl) dX2_movePointer_47 (fun H locs P => ?_)
    refine lv_icmp_le (tgt := 56) hx hb dX2_movePointer_50 (by decide) (fun c7 => ?_) (fun c7 => ?_)
    · have h := g_ifp c7 h
      refine lv_aload_n hx hb dX2_movePointer_56 rfl (lv_at hl 2 rfl) ?_
      refine g_getR C P xl40 rfl inlX2 0 (by decide) wd_69 rfl dX2_movePointer_57 ?_
      refine lv_iload_n hx hb dX2_movePointer_60 rfl (lv_at hl 3 rfl) ?_
      refine lv_iload_n hx hb dX2_movePointer_61 rfl (lv_at hl 1 rfl) ?_
      refine lv_iload hx hb dX2_movePointer_62 (lv_at hl 0 rfl) ?_
      obtain ⟨r8, hr8, h⟩ := g_bind h
      refine g_callVv (n := 3) (As := [.int a1, .int r1, .int (r4 + a2)]) (rest := []) C P (kX5_fillWithPointer l X hJ σ a1 r1 (r4 + a2) _ hr8) wd_148 wd_149 wd_150 wd_14 wd_151 rfl rfl kdX5_fillWithPointer ⟨Nat.le_of_ble_eq_true rfl, Nat.le_of_ble_eq_true rfl⟩ xl1 rfl rfl rfl hl.1 (Nat.le_of_ble_eq_true rfl) dX2_movePointer_64 (fun H locs P => ?_)
      refine lv_iload hx hb dX2_movePointer_67 (lv_at hl 0 rfl) ?_
      have h := Option.some.inj h
      exact g_iret C P (g_fst h) (g_snd h) dX2_movePointer_69
    have h := g_ifn c7 h
    refine lv_bipush (v := -15) hx hb dX2_movePointer_53 (by decide) ?_
    have h := Option.some.inj h
    exact g_iret C P (g_fst h) (g_snd h) dX2_movePointer_55
  have h := g_ifp c3 h
  refine lv_bipush (v := -13) hx hb dX2_movePointer_20 (by decide) ?_
  have h := Option.some.inj h
  exact g_iret C P (g_fst h) (g_snd h) dX2_movePointer_22
abbrev rmX2_moveRegister : Room := { frames := 3, cells := 0, slots := 0, locals := 71 }
theorem kdX2_moveRegister : yX2_moveRegister.cls = RX2 ∧ yX2_moveRegister.cls ≠ "java/lang/invoke/MethodHandle" ∧ yX2_moveRegister.cls ≠ "java/lang/invoke/VarHandle" ∧ (parseMethodDescriptor yX2_moveRegister.desc).map (fun d => d.parameters.length) = some 2 := by decide +kernel
set_option maxHeartbeats 4000000 in
set_option maxRecDepth 100000 in
theorem kX2_moveRegister (l : Launch) (X : gXt) (hJ : gJ X xL) (σ : gS) (a1 : Int32) (a2 : Int32) (q : Int32 × gS) (h : qO_moveRegister σ a1 a2 = some q) : gMi l yX2_moveRegister (gws yX2_moveRegister cX2_moveRegister 4 (some .int)) rmX2_moveRegister X xL [.ref (gad X 40), .int a1, .int a2] σ q.1 q.2 := by
  refine g_enter (cc := cX2_moveRegister) (nL := 4) (ret := (some .int)) hJ (plainFor_of_name (by decide)) (Nat.le_of_ble_eq_true rfl) ?_
  intro p e s m below meth c ls C P hl
  have C : gC p s m _ meth c RX2 cX2_moveRegister 4 (some .int) X xL := C
  have hx := C.1
  have hb := C.2.1
  have hK := C.2.2.2.2.2.2.2.1
  have hts := C.2.2.2.2.1
  have hl : lv_has ls 4 [(0, .ref (gad X 40)), (1, .int a1), (2, .int a2)] := hl
  unfold qO_moveRegister at h
  refine lv_iload_n hx hb dX2_moveRegister_0 rfl (lv_at hl 1 rfl) ?_
  refine g_callNi (n := 1) (As := [.int a1]) (rest := []) C P (kX7_isRegister l X hJ σ a1 _ rfl) wd_139 rfl rfl kdX7_isRegister.2 ⟨Nat.le_of_ble_eq_true rfl, Nat.le_of_ble_eq_true rfl⟩ (hK.2 (RX2, 23, yX7_isRegister, RX7) (List.mem_of_getElem? (i := 0) rfl)) wd_2 wd_138 rfl rfl hl.1 (Nat.le_of_ble_eq_true rfl) dX2_moveRegister_1 (fun H locs P => ?_)
  refine lv_if_eq (tgt := 19) hx hb dX2_moveRegister_4 (by decide) (fun c1 => ?_) (fun c1 => ?_)
  · have h := g_ifp c1 h
    refine lv_bipush (v := -2) hx hb dX2_moveRegister_19 (by decide) ?_
    have h := Option.some.inj h
    exact g_iret C P (g_fst h) (g_snd h) dX2_moveRegister_21
  have h := g_ifn c1 h
  refine lv_iload_n hx hb dX2_moveRegister_7 rfl (lv_at hl 2 rfl) ?_
  refine lv_bipush (v := -12) hx hb dX2_moveRegister_8 (by decide) ?_
  refine lv_icmp_lt (tgt := 19) hx hb dX2_moveRegister_10 (by decide) (fun c2 => ?_) (fun c2 => ?_)
  · have h := g_ifp c2 h
    refine lv_bipush (v := -2) hx hb dX2_moveRegister_19 (by decide) ?_
    have h := Option.some.inj h
    exact g_iret C P (g_fst h) (g_snd h) dX2_moveRegister_21
  have h := g_ifn c2 h
  refine lv_iload_n hx hb dX2_moveRegister_13 rfl (lv_at hl 2 rfl) ?_
  refine lv_bipush (v := 12) hx hb dX2_moveRegister_14 (by decide) ?_
  refine lv_icmp_le (tgt := 22) hx hb dX2_moveRegister_16 (by decide) (fun c3 => ?_) (fun c3 => ?_)
  · have h := g_ifp c3 h
    refine lv_aload_n hx hb dX2_moveRegister_22 rfl (lv_at hl 0 rfl) ?_
    refine g_getR C P xl40 rfl inlX2 0 (by decide) wd_69 rfl dX2_moveRegister_23 ?_
    refine lv_iload_n hx hb dX2_moveRegister_26 rfl (lv_at hl 1 rfl) ?_
    obtain ⟨r4, hr4, h⟩ := g_bind h
    refine g_callVi (n := 1) (As := [.int a1]) (rest := []) C P (kX5_kindOf l X hJ σ a1 _ hr4) wd_335 wd_336 wd_337 wd_14 wd_338 rfl rfl kdX5_kindOf ⟨Nat.le_of_ble_eq_true rfl, Nat.le_of_ble_eq_true rfl⟩ xl1 rfl rfl rfl hl.1 (Nat.le_of_ble_eq_true rfl) dX2_moveRegister_27 (fun H locs P => ?_)
    refine lv_istore_n (lv' := [(3, .int r4), (0, .ref (gad X 40)), (1, .int a1), (2, .int a2)]) hx hb dX2_moveRegister_30 rfl hl (by decide) rfl (fun ls hl => ?_)
    refine lv_iload_n hx hb dX2_moveRegister_31 rfl (lv_at hl 0 rfl) ?_
    refine lv_if_ne (tgt := 38) hx hb dX2_moveRegister_32 (by decide) (fun c5 => ?_) (fun c5 => ?_)
    · have h := g_ifn c5 h
      refine lv_iload_n hx hb dX2_moveRegister_38 rfl (lv_at hl 0 rfl) ?_
      refine lv_iconst (v := 1) hx hb dX2_moveRegister_39 (by decide) ?_
      refine lv_icmp_ne (tgt := 52) hx hb dX2_moveRegister_40 (by decide) (fun c6 => ?_) (fun c6 => ?_)
      · have h := g_ifn c6 h
        refine lv_aload_n hx hb dX2_moveRegister_52 rfl (lv_at hl 1 rfl) ?_
        refine lv_iload_n hx hb dX2_moveRegister_53 rfl (lv_at hl 2 rfl) ?_
        refine lv_iload_n hx hb dX2_moveRegister_54 rfl (lv_at hl 3 rfl) ?_
        obtain ⟨r7, hr7, h⟩ := g_bind h
        refine g_callVi (n := 2) (As := [.int a1, .int a2]) (rest := []) C P (kX2_movePointer l X hJ σ a1 a2 _ hr7) wd_406 wd_407 wd_408 wd_22 wd_409 rfl rfl kdX2_movePointer ⟨Nat.le_of_ble_eq_true rfl, Nat.le_of_ble_eq_true rfl⟩ xl40 rfl rfl rfl hl.1 (Nat.le_of_ble_eq_true rfl) dX2_moveRegister_55 (fun H locs P => ?_)
        have h := Option.some.inj h
        exact g_iret C P (g_fst h) (g_snd h) dX2_moveRegister_58
      have h := g_ifp c6 h
      refine lv_aload_n hx hb dX2_moveRegister_43 rfl (lv_at hl 1 rfl) ?_
      refine lv_iload_n hx hb dX2_moveRegister_44 rfl (lv_at hl 2 rfl) ?_
      refine lv_iload_n hx hb dX2_moveRegister_45 rfl (lv_at hl 3 rfl) ?_
      obtain ⟨r8, hr8, h⟩ := g_bind h
      refine g_callVi (n := 2) (As := [.int a1, .int a2]) (rest := []) C P (kX2_moveNumber l X hJ σ a1 a2 _ hr8) wd_401 wd_402 wd_403 wd_22 wd_404 rfl rfl kdX2_moveNumber ⟨Nat.le_of_ble_eq_true rfl, Nat.le_of_ble_eq_true rfl⟩ xl40 rfl rfl rfl hl.1 (Nat.le_of_ble_eq_true rfl) dX2_moveRegister_46 (fun H locs P => ?_)
      refine lv_goto (tgt := 58) hx hb dX2_moveRegister_49 (by decide) ?_
      have h := Option.some.inj h
      exact g_iret C P (g_fst h) (g_snd h) dX2_moveRegister_58
    have h := g_ifp c5 h
    refine lv_bipush (v := -11) hx hb dX2_moveRegister_35 (by decide) ?_
    have h := Option.some.inj h
    exact g_iret C P (g_fst h) (g_snd h) dX2_moveRegister_37
  have h := g_ifn c3 h
  refine lv_bipush (v := -2) hx hb dX2_moveRegister_19 (by decide) ?_
  have h := Option.some.inj h
  exact g_iret C P (g_fst h) (g_snd h) dX2_moveRegister_21
abbrev rmX2_hasBytes : Room := { frames := 1, cells := 0, slots := 0, locals := 21 }
theorem kdX2_hasBytes : yX2_hasBytes.cls = RX2 ∧ yX2_hasBytes.cls ≠ "java/lang/invoke/MethodHandle" ∧ yX2_hasBytes.cls ≠ "java/lang/invoke/VarHandle" ∧ (parseMethodDescriptor yX2_hasBytes.desc).map (fun d => d.parameters.length) = some 2 := by decide +kernel
set_option maxHeartbeats 4000000 in
set_option maxRecDepth 100000 in
theorem kX2_hasBytes (l : Launch) (X : gXt) (hJ : gJ X xL) (σ : gS) (a1 : Int32) (a2 : Int32) (q : Int32) (h : qO_hasBytes σ a1 a2 = some q) : gMi l yX2_hasBytes (gws yX2_hasBytes cX2_hasBytes 3 (some .boolean)) rmX2_hasBytes X xL [.ref (gad X 40), .int a1, .int a2] σ q σ := by
  refine g_enter (cc := cX2_hasBytes) (nL := 3) (ret := (some .boolean)) hJ (plainFor_of_name (by decide)) (Nat.le_of_ble_eq_true rfl) ?_
  intro p e s m below meth c ls C P hl
  have C : gC p s m _ meth c RX2 cX2_hasBytes 3 (some .boolean) X xL := C
  have hx := C.1
  have hb := C.2.1
  have hK := C.2.2.2.2.2.2.2.1
  have hts := C.2.2.2.2.1
  have hl : lv_has ls 3 [(0, .ref (gad X 40)), (1, .int a1), (2, .int a2)] := hl
  unfold qO_hasBytes at h
  refine lv_aload_n hx hb dX2_hasBytes_0 rfl (lv_at hl 0 rfl) ?_
  refine g_getR C P xl40 rfl inlX2 0 (by decide) wd_69 rfl dX2_hasBytes_1 ?_
  refine lv_iload_n hx hb dX2_hasBytes_4 rfl (lv_at hl 1 rfl) ?_
  obtain ⟨r1, hr1, h⟩ := g_bind h
  refine g_callVi (n := 1) (As := [.int a1]) (rest := []) C P (kX5_offsetOf l X hJ σ a1 _ hr1) wd_347 wd_348 wd_349 wd_14 wd_350 rfl rfl kdX5_offsetOf ⟨Nat.le_of_ble_eq_true rfl, Nat.le_of_ble_eq_true rfl⟩ xl1 rfl rfl rfl hl.1 (Nat.le_of_ble_eq_true rfl) dX2_hasBytes_5 (fun H locs P => ?_)
  refine lv_iload_n hx hb dX2_hasBytes_8 rfl (lv_at hl 2 rfl) ?_
  refine lv_iadd hx hb dX2_hasBytes_9 ?_
  refine lv_aload_n hx hb dX2_hasBytes_10 rfl (lv_at hl 0 rfl) ?_
  refine g_getR C P xl40 rfl inlX2 0 (by decide) wd_69 rfl dX2_hasBytes_11 ?_
  refine lv_aload_n hx hb dX2_hasBytes_14 rfl (lv_at hl 0 rfl) ?_
  refine g_getR C P xl40 rfl inlX2 0 (by decide) wd_69 rfl dX2_hasBytes_15 ?_
  refine lv_iload_n hx hb dX2_hasBytes_18 rfl (lv_at hl 1 rfl) ?_
  obtain ⟨r2, hr2, h⟩ := g_bind h
  refine g_callVi (n := 1) (As := [.int a1]) (rest := [.ref (gad X 1), .int (r1 + a2)]) C P (kX5_valueOf l X hJ σ a1 _ hr2) wd_339 wd_340 wd_341 wd_14 wd_342 rfl rfl kdX5_valueOf ⟨Nat.le_of_ble_eq_true rfl, Nat.le_of_ble_eq_true rfl⟩ xl1 rfl rfl rfl hl.1 (Nat.le_of_ble_eq_true rfl) dX2_hasBytes_19 (fun H locs P => ?_)
  obtain ⟨r3, hr3, h⟩ := g_bind h
  refine g_callVi (n := 1) (As := [.int r2]) (rest := [.int (r1 + a2)]) C P (kX5_sizeOf l X hJ σ r2 _ hr3) wd_410 wd_411 wd_412 wd_14 wd_413 rfl rfl kdX5_sizeOf ⟨Nat.le_of_ble_eq_true rfl, Nat.le_of_ble_eq_true rfl⟩ xl1 rfl rfl rfl hl.1 (Nat.le_of_ble_eq_true rfl) dX2_hasBytes_22 (fun H locs P => ?_)
  refine lv_icmp_gt (tgt := 32) hx hb dX2_hasBytes_25 (by decide) (fun c4 => ?_) (fun c4 => ?_)
  · have h := g_ifp c4 h
    refine lv_iconst (v := 0) hx hb dX2_hasBytes_32 (by decide) ?_
    have h := Option.some.inj h
    exact g_zret C P rfl h rfl dX2_hasBytes_33
  have h := g_ifn c4 h
  refine lv_iconst (v := 1) hx hb dX2_hasBytes_28 (by decide) ?_
  refine lv_goto (tgt := 33) hx hb dX2_hasBytes_29 (by decide) ?_
  have h := Option.some.inj h
  exact g_zret C P rfl h rfl dX2_hasBytes_33
abbrev rmX2_faultForWriting : Room := { frames := 2, cells := 0, slots := 0, locals := 43 }
theorem kdX2_faultForWriting : yX2_faultForWriting.cls = RX2 ∧ yX2_faultForWriting.cls ≠ "java/lang/invoke/MethodHandle" ∧ yX2_faultForWriting.cls ≠ "java/lang/invoke/VarHandle" ∧ (parseMethodDescriptor yX2_faultForWriting.desc).map (fun d => d.parameters.length) = some 2 := by decide +kernel
set_option maxHeartbeats 4000000 in
set_option maxRecDepth 100000 in
theorem kX2_faultForWriting (l : Launch) (X : gXt) (hJ : gJ X xL) (σ : gS) (a1 : Int32) (a2 : Int32) (q : Int32) (h : qO_faultForWriting σ a1 a2 = some q) : gMi l yX2_faultForWriting (gws yX2_faultForWriting cX2_faultForWriting 4 (some .int)) rmX2_faultForWriting X xL [.ref (gad X 40), .int a1, .int a2] σ q σ := by
  refine g_enter (cc := cX2_faultForWriting) (nL := 4) (ret := (some .int)) hJ (plainFor_of_name (by decide)) (Nat.le_of_ble_eq_true rfl) ?_
  intro p e s m below meth c ls C P hl
  have C : gC p s m _ meth c RX2 cX2_faultForWriting 4 (some .int) X xL := C
  have hx := C.1
  have hb := C.2.1
  have hK := C.2.2.2.2.2.2.2.1
  have hts := C.2.2.2.2.1
  have hl : lv_has ls 4 [(0, .ref (gad X 40)), (1, .int a1), (2, .int a2)] := hl
  unfold qO_faultForWriting at h
  refine lv_aload_n hx hb dX2_faultForWriting_0 rfl (lv_at hl 0 rfl) ?_
  refine lv_iload_n hx hb dX2_faultForWriting_1 rfl (lv_at hl 1 rfl) ?_
  obtain ⟨r1, hr1, h⟩ := g_bind h
  refine g_callVi (n := 1) (As := [.int a1]) (rest := []) C P (kX2_fault l X hJ σ a1 _ hr1) wd_331 wd_332 wd_333 wd_22 wd_334 rfl rfl kdX2_fault ⟨Nat.le_of_ble_eq_true rfl, Nat.le_of_ble_eq_true rfl⟩ xl40 rfl rfl rfl hl.1 (Nat.le_of_ble_eq_true rfl) dX2_faultForWriting_2 (fun H locs P => ?_)
  refine lv_istore_n (lv' := [(3, .int r1), (0, .ref (gad X 40)), (1, .int a1), (2, .int a2)]) hx hb dX2_faultForWriting_5 rfl hl (by decide) rfl (fun ls hl => ?_)
  refine lv_iload_n hx hb dX2_faultForWriting_6 rfl (lv_at hl 0 rfl) ?_
  refine lv_if_eq (tgt := 12) hx hb dX2_faultForWriting_7 (by decide) (fun c2 => ?_) (fun c2 => ?_)
  · have h := g_ifp c2 h
    refine lv_aload_n hx hb dX2_faultForWriting_12 rfl (lv_at hl 1 rfl) ?_
    refine g_getR C P xl40 rfl inlX2 0 (by decide) wd_69 rfl dX2_faultForWriting_13 ?_
    refine lv_aload_n hx hb dX2_faultForWriting_16 rfl (lv_at hl 1 rfl) ?_
    refine g_getR C P xl40 rfl inlX2 0 (by decide) wd_69 rfl dX2_faultForWriting_17 ?_
    refine lv_iload_n hx hb dX2_faultForWriting_20 rfl (lv_at hl 2 rfl) ?_
    obtain ⟨r3, hr3, h⟩ := g_bind h
    refine g_callVi (n := 1) (As := [.int a1]) (rest := [.ref (gad X 1)]) C P (kX5_valueOf l X hJ σ a1 _ hr3) wd_339 wd_340 wd_341 wd_14 wd_342 rfl rfl kdX5_valueOf ⟨Nat.le_of_ble_eq_true rfl, Nat.le_of_ble_eq_true rfl⟩ xl1 rfl rfl rfl hl.1 (Nat.le_of_ble_eq_true rfl) dX2_faultForWriting_21 (fun H locs P => ?_)
    obtain ⟨r4, hr4, h⟩ := g_bind h
    refine g_callVi (n := 1) (As := [.int r3]) (rest := []) C P (kX5_isConstant l X hJ σ r3 _ hr4) wd_351 wd_352 wd_353 wd_14 wd_354 rfl rfl kdX5_isConstant ⟨Nat.le_of_ble_eq_true rfl, Nat.le_of_ble_eq_true rfl⟩ xl1 rfl rfl rfl hl.1 (Nat.le_of_ble_eq_true rfl) dX2_faultForWriting_24 (fun H locs P => ?_)
    refine lv_if_eq (tgt := 33) hx hb dX2_faultForWriting_27 (by decide) (fun c5 => ?_) (fun c5 => ?_)
    · have h := g_ifp c5 h
      refine lv_aload_n hx hb dX2_faultForWriting_33 rfl (lv_at hl 1 rfl) ?_
      refine lv_iload_n hx hb dX2_faultForWriting_34 rfl (lv_at hl 2 rfl) ?_
      refine lv_iload_n hx hb dX2_faultForWriting_35 rfl (lv_at hl 3 rfl) ?_
      obtain ⟨r6, hr6, h⟩ := g_bind h
      refine g_callVi (n := 2) (As := [.int a1, .int a2]) (rest := []) C P (kX2_hasBytes l X hJ σ a1 a2 _ hr6) wd_430 wd_431 wd_432 wd_22 wd_433 rfl rfl kdX2_hasBytes ⟨Nat.le_of_ble_eq_true rfl, Nat.le_of_ble_eq_true rfl⟩ xl40 rfl rfl rfl hl.1 (Nat.le_of_ble_eq_true rfl) dX2_faultForWriting_36 (fun H locs P => ?_)
      refine lv_if_eq (tgt := 46) hx hb dX2_faultForWriting_39 (by decide) (fun c7 => ?_) (fun c7 => ?_)
      · have h := g_ifp c7 h
        refine lv_bipush (v := -15) hx hb dX2_faultForWriting_46 (by decide) ?_
        have h := Option.some.inj h
        exact g_iret C P h rfl dX2_faultForWriting_48
      have h := g_ifn c7 h
      refine lv_iconst (v := 0) hx hb dX2_faultForWriting_42 (by decide) ?_
      refine lv_goto (tgt := 48) hx hb dX2_faultForWriting_43 (by decide) ?_
      have h := Option.some.inj h
      exact g_iret C P h rfl dX2_faultForWriting_48
    have h := g_ifn c5 h
    refine lv_bipush (v := -14) hx hb dX2_faultForWriting_30 (by decide) ?_
    have h := Option.some.inj h
    exact g_iret C P h rfl dX2_faultForWriting_32
  have h := g_ifn c2 h
  refine lv_iload_n hx hb dX2_faultForWriting_10 rfl (lv_at hl 0 rfl) ?_
  have h := Option.some.inj h
  exact g_iret C P h rfl dX2_faultForWriting_11
abbrev rmX2_splitPointers : Room := { frames := 1, cells := 0, slots := 0, locals := 23 }
theorem kdX2_splitPointers : yX2_splitPointers.cls = RX2 ∧ yX2_splitPointers.cls ≠ "java/lang/invoke/MethodHandle" ∧ yX2_splitPointers.cls ≠ "java/lang/invoke/VarHandle" ∧ (parseMethodDescriptor yX2_splitPointers.desc).map (fun d => d.parameters.length) = some 3 := by decide +kernel
set_option maxHeartbeats 4000000 in
set_option maxRecDepth 100000 in
theorem kX2_splitPointers (l : Launch) (X : gXt) (hJ : gJ X xL) (σ : gS) (a1 : Int32) (a2 : Int32) (a3 : Int32) (q : gS) (h : qO_splitPointers σ a1 a2 a3 = some q) : gMv l yX2_splitPointers (gws yX2_splitPointers cX2_splitPointers 4 none) rmX2_splitPointers X xL [.ref (gad X 40), .int a1, .int a2, .int a3] σ q := by
  refine g_enter (cc := cX2_splitPointers) (nL := 4) (ret := none) hJ (plainFor_of_name (by decide)) (Nat.le_of_ble_eq_true rfl) ?_
  intro p e s m below meth c ls C P hl
  have C : gC p s m _ meth c RX2 cX2_splitPointers 4 none X xL := C
  have hx := C.1
  have hb := C.2.1
  have hK := C.2.2.2.2.2.2.2.1
  have hts := C.2.2.2.2.1
  have hl : lv_has ls 4 [(0, .ref (gad X 40)), (1, .int a1), (2, .int a2), (3, .int a3)] := hl
  unfold qO_splitPointers at h
  refine lv_aload_n hx hb dX2_splitPointers_0 rfl (lv_at hl 0 rfl) ?_
  refine g_getR C P xl40 rfl inlX2 0 (by decide) wd_69 rfl dX2_splitPointers_1 ?_
  refine lv_iload_n hx hb dX2_splitPointers_4 rfl (lv_at hl 1 rfl) ?_
  refine lv_iload_n hx hb dX2_splitPointers_5 rfl (lv_at hl 2 rfl) ?_
  obtain ⟨r1, hr1, h⟩ := g_bind h
  refine g_callVi (n := 2) (As := [.int a1, .int a2]) (rest := []) C P (kX5_cellAt l X hJ σ a1 a2 _ hr1) wd_438 wd_439 wd_440 wd_14 wd_441 rfl rfl kdX5_cellAt ⟨Nat.le_of_ble_eq_true rfl, Nat.le_of_ble_eq_true rfl⟩ xl1 rfl rfl rfl hl.1 (Nat.le_of_ble_eq_true rfl) dX2_splitPointers_6 (fun H locs P => ?_)
  refine lv_sipush (v := 999) hx hb dX2_splitPointers_9 (by decide) ?_
  refine lv_icmp_ne (tgt := 27) hx hb dX2_splitPointers_12 (by decide) (fun c2 => ?_) (fun c2 => ?_)
  · have h := g_ifn c2 h
    refine lv_aload_n hx hb dX2_splitPointers_27 rfl (lv_at hl 0 rfl) ?_
    refine g_getR C P xl40 rfl inlX2 0 (by decide) wd_69 rfl dX2_splitPointers_28 ?_
    refine lv_iload_n hx hb dX2_splitPointers_31 rfl (lv_at hl 1 rfl) ?_
    refine lv_iload_n hx hb dX2_splitPointers_32 rfl (lv_at hl 2 rfl) ?_
    refine lv_iload_n hx hb dX2_splitPointers_33 rfl (lv_at hl 3 rfl) ?_
    refine lv_iadd hx hb dX2_splitPointers_34 ?_
    refine lv_iconst (v := 1) hx hb dX2_splitPointers_35 (by decide) ?_
    refine lv_isub hx hb dX2_splitPointers_36 ?_
    obtain ⟨r3, hr3, h⟩ := g_bind h
    refine g_callVi (n := 2) (As := [.int a1, .int ((a2 + a3) - (1 : Int32))]) (rest := []) C P (kX5_cellAt l X hJ σ a1 ((a2 + a3) - (1 : Int32)) _ hr3) wd_438 wd_439 wd_440 wd_14 wd_441 rfl rfl kdX5_cellAt ⟨Nat.le_of_ble_eq_true rfl, Nat.le_of_ble_eq_true rfl⟩ xl1 rfl rfl rfl hl.1 (Nat.le_of_ble_eq_true rfl) dX2_splitPointers_37 (fun H locs P => ?_)
    refine g_callNi (n := 1) (As := [.int r3]) (rest := []) C P (kX7_isPointerCode l X hJ σ r3 _ rfl) wd_444 rfl rfl kdX7_isPointerCode.2 ⟨Nat.le_of_ble_eq_true rfl, Nat.le_of_ble_eq_true rfl⟩ (hK.2 (RX2, 111, yX7_isPointerCode, RX7) (List.mem_of_getElem? (i := 1) rfl)) wd_2 wd_443 rfl rfl hl.1 (Nat.le_of_ble_eq_true rfl) dX2_splitPointers_40 (fun H locs P => ?_)
    refine lv_if_eq (tgt := 58) hx hb dX2_splitPointers_43 (by decide) (fun c4 => ?_) (fun c4 => ?_)
    · have h := g_ifp c4 h
      have h := Option.some.inj h
      exact g_vret C P h dX2_splitPointers_58
    have h := g_ifn c4 h
    refine lv_aload_n hx hb dX2_splitPointers_46 rfl (lv_at hl 0 rfl) ?_
    refine g_getR C P xl40 rfl inlX2 0 (by decide) wd_69 rfl dX2_splitPointers_47 ?_
    refine lv_iload_n hx hb dX2_splitPointers_50 rfl (lv_at hl 1 rfl) ?_
    refine lv_iload_n hx hb dX2_splitPointers_51 rfl (lv_at hl 2 rfl) ?_
    refine lv_iload_n hx hb dX2_splitPointers_52 rfl (lv_at hl 3 rfl) ?_
    refine lv_iadd hx hb dX2_splitPointers_53 ?_
    refine lv_iconst (v := -1) hx hb dX2_splitPointers_54 (by decide) ?_
    obtain ⟨r5, hr5, h⟩ := g_bind h
    refine g_callVv (n := 3) (As := [.int a1, .int (a2 + a3), .int (-1 : Int32)]) (rest := []) C P (kX5_putCell l X hJ σ a1 (a2 + a3) (-1 : Int32) _ hr5) wd_442 wd_145 wd_146 wd_14 wd_147 rfl rfl kdX5_putCell ⟨Nat.le_of_ble_eq_true rfl, Nat.le_of_ble_eq_true rfl⟩ xl1 rfl rfl rfl hl.1 (Nat.le_of_ble_eq_true rfl) dX2_splitPointers_55 (fun H locs P => ?_)
    have h := Option.some.inj h
    exact g_vret C P h dX2_splitPointers_58
  have h := g_ifp c2 h
  refine lv_aload_n hx hb dX2_splitPointers_15 rfl (lv_at hl 0 rfl) ?_
  refine g_getR C P xl40 rfl inlX2 0 (by decide) wd_69 rfl dX2_splitPointers_16 ?_
  refine lv_iload_n hx hb dX2_splitPointers_19 rfl (lv_at hl 1 rfl) ?_
  refine lv_iload_n hx hb dX2_splitPointers_20 rfl (lv_at hl 2 rfl) ?_
  refine lv_iconst (v := 1) hx hb dX2_splitPointers_21 (by decide) ?_
  refine lv_isub hx hb dX2_splitPointers_22 ?_
  refine lv_iconst (v := -1) hx hb dX2_splitPointers_23 (by decide) ?_
  obtain ⟨r6, hr6, h⟩ := g_bind h
  refine g_callVv (n := 3) (As := [.int a1, .int (a2 - (1 : Int32)), .int (-1 : Int32)]) (rest := []) C P (kX5_putCell l X hJ σ a1 (a2 - (1 : Int32)) (-1 : Int32) _ hr6) wd_442 wd_145 wd_146 wd_14 wd_147 rfl rfl kdX5_putCell ⟨Nat.le_of_ble_eq_true rfl, Nat.le_of_ble_eq_true rfl⟩ xl1 rfl rfl rfl hl.1 (Nat.le_of_ble_eq_true rfl) dX2_splitPointers_24 (fun H locs P => ?_)
  refine lv_aload_n hx hb dX2_splitPointers_27 rfl (lv_at hl 0 rfl) ?_
  refine g_getR C P xl40 rfl inlX2 0 (by decide) wd_69 rfl dX2_splitPointers_28 ?_
  refine lv_iload_n hx hb dX2_splitPointers_31 rfl (lv_at hl 1 rfl) ?_
  refine lv_iload_n hx hb dX2_splitPointers_32 rfl (lv_at hl 2 rfl) ?_
  refine lv_iload_n hx hb dX2_splitPointers_33 rfl (lv_at hl 3 rfl) ?_
  refine lv_iadd hx hb dX2_splitPointers_34 ?_
  refine lv_iconst (v := 1) hx hb dX2_splitPointers_35 (by decide) ?_
  refine lv_isub hx hb dX2_splitPointers_36 ?_
  obtain ⟨r7, hr7, h⟩ := g_bind h
  refine g_callVi (n := 2) (As := [.int a1, .int ((a2 + a3) - (1 : Int32))]) (rest := []) C P (kX5_cellAt l X hJ r6 a1 ((a2 + a3) - (1 : Int32)) _ hr7) wd_438 wd_439 wd_440 wd_14 wd_441 rfl rfl kdX5_cellAt ⟨Nat.le_of_ble_eq_true rfl, Nat.le_of_ble_eq_true rfl⟩ xl1 rfl rfl rfl hl.1 (Nat.le_of_ble_eq_true rfl) dX2_splitPointers_37 (fun H locs P => ?_)
  refine g_callNi (n := 1) (As := [.int r7]) (rest := []) C P (kX7_isPointerCode l X hJ r6 r7 _ rfl) wd_444 rfl rfl kdX7_isPointerCode.2 ⟨Nat.le_of_ble_eq_true rfl, Nat.le_of_ble_eq_true rfl⟩ (hK.2 (RX2, 111, yX7_isPointerCode, RX7) (List.mem_of_getElem? (i := 1) rfl)) wd_2 wd_443 rfl rfl hl.1 (Nat.le_of_ble_eq_true rfl) dX2_splitPointers_40 (fun H locs P => ?_)
  refine lv_if_eq (tgt := 58) hx hb dX2_splitPointers_43 (by decide) (fun c8 => ?_) (fun c8 => ?_)
  · have h := g_ifp c8 h
    have h := Option.some.inj h
    exact g_vret C P h dX2_splitPointers_58
  have h := g_ifn c8 h
  refine lv_aload_n hx hb dX2_splitPointers_46 rfl (lv_at hl 0 rfl) ?_
  refine g_getR C P xl40 rfl inlX2 0 (by decide) wd_69 rfl dX2_splitPointers_47 ?_
  refine lv_iload_n hx hb dX2_splitPointers_50 rfl (lv_at hl 1 rfl) ?_
  refine lv_iload_n hx hb dX2_splitPointers_51 rfl (lv_at hl 2 rfl) ?_
  refine lv_iload_n hx hb dX2_splitPointers_52 rfl (lv_at hl 3 rfl) ?_
  refine lv_iadd hx hb dX2_splitPointers_53 ?_
  refine lv_iconst (v := -1) hx hb dX2_splitPointers_54 (by decide) ?_
  obtain ⟨r9, hr9, h⟩ := g_bind h
  refine g_callVv (n := 3) (As := [.int a1, .int (a2 + a3), .int (-1 : Int32)]) (rest := []) C P (kX5_putCell l X hJ r6 a1 (a2 + a3) (-1 : Int32) _ hr9) wd_442 wd_145 wd_146 wd_14 wd_147 rfl rfl kdX5_putCell ⟨Nat.le_of_ble_eq_true rfl, Nat.le_of_ble_eq_true rfl⟩ xl1 rfl rfl rfl hl.1 (Nat.le_of_ble_eq_true rfl) dX2_splitPointers_55 (fun H locs P => ?_)
  have h := Option.some.inj h
  exact g_vret C P h dX2_splitPointers_58
abbrev rmX2_putValue : Room := { frames := 1, cells := 0, slots := 0, locals := 23 }
theorem kdX2_putValue : yX2_putValue.cls = RX2 ∧ yX2_putValue.cls ≠ "java/lang/invoke/MethodHandle" ∧ yX2_putValue.cls ≠ "java/lang/invoke/VarHandle" ∧ (parseMethodDescriptor yX2_putValue.desc).map (fun d => d.parameters.length) = some 4 := by decide +kernel
set_option maxHeartbeats 4000000 in
set_option maxRecDepth 100000 in
theorem kX2_putValue (l : Launch) (X : gXt) (hJ : gJ X xL) (σ : gS) (a1 : Int32) (a2 : Int32) (a3 : Int32) (a4 : Int32) (q : gS) (h : qO_putValue σ a1 a2 a3 a4 = some q) : gMv l yX2_putValue (gws yX2_putValue cX2_putValue 6 none) rmX2_putValue X xL [.ref (gad X 40), .int a1, .int a2, .int a3, .int a4] σ q := by
  refine g_enter (cc := cX2_putValue) (nL := 6) (ret := none) hJ (plainFor_of_name (by decide)) (Nat.le_of_ble_eq_true rfl) ?_
  intro p e s m below meth c ls C P hl
  have C : gC p s m _ meth c RX2 cX2_putValue 6 none X xL := C
  have hx := C.1
  have hb := C.2.1
  have hK := C.2.2.2.2.2.2.2.1
  have hts := C.2.2.2.2.1
  have hl : lv_has ls 6 [(0, .ref (gad X 40)), (1, .int a1), (2, .int a2), (3, .int a3), (4, .int a4)] := hl
  unfold qO_putValue at h
  refine lv_aload_n hx hb dX2_putValue_0 rfl (lv_at hl 0 rfl) ?_
  refine g_getR C P xl40 rfl inlX2 0 (by decide) wd_69 rfl dX2_putValue_1 ?_
  refine lv_iload_n hx hb dX2_putValue_4 rfl (lv_at hl 3 rfl) ?_
  obtain ⟨r1, hr1, h⟩ := g_bind h
  refine g_callVi (n := 1) (As := [.int a3]) (rest := []) C P (kX5_valueOf l X hJ σ a3 _ hr1) wd_339 wd_340 wd_341 wd_14 wd_342 rfl rfl kdX5_valueOf ⟨Nat.le_of_ble_eq_true rfl, Nat.le_of_ble_eq_true rfl⟩ xl1 rfl rfl rfl hl.1 (Nat.le_of_ble_eq_true rfl) dX2_putValue_5 (fun H locs P => ?_)
  refine lv_istore (lv' := [(5, .int r1), (0, .ref (gad X 40)), (1, .int a1), (2, .int a2), (3, .int a3), (4, .int a4)]) hx hb dX2_putValue_8 hl (by decide) rfl (fun ls hl => ?_)
  refine lv_aload_n hx hb dX2_putValue_10 rfl (lv_at hl 1 rfl) ?_
  refine g_getR C P xl40 rfl inlX2 0 (by decide) wd_69 rfl dX2_putValue_11 ?_
  refine lv_iload_n hx hb dX2_putValue_14 rfl (lv_at hl 4 rfl) ?_
  obtain ⟨r2, hr2, h⟩ := g_bind h
  refine g_callVi (n := 1) (As := [.int a3]) (rest := []) C P (kX5_kindOf l X hJ σ a3 _ hr2) wd_335 wd_336 wd_337 wd_14 wd_338 rfl rfl kdX5_kindOf ⟨Nat.le_of_ble_eq_true rfl, Nat.le_of_ble_eq_true rfl⟩ xl1 rfl rfl rfl hl.1 (Nat.le_of_ble_eq_true rfl) dX2_putValue_15 (fun H locs P => ?_)
  refine lv_iconst (v := 2) hx hb dX2_putValue_18 (by decide) ?_
  refine lv_icmp_ne (tgt := 59) hx hb dX2_putValue_19 (by decide) (fun c3 => ?_) (fun c3 => ?_)
  · have h := g_ifn c3 h
    refine lv_aload_n hx hb dX2_putValue_59 rfl (lv_at hl 1 rfl) ?_
    refine g_getR C P xl40 rfl inlX2 0 (by decide) wd_69 rfl dX2_putValue_60 ?_
    refine lv_iload_n hx hb dX2_putValue_63 rfl (lv_at hl 2 rfl) ?_
    refine lv_iload_n hx hb dX2_putValue_64 rfl (lv_at hl 3 rfl) ?_
    refine lv_iload hx hb dX2_putValue_65 (lv_at hl 0 rfl) ?_
    refine lv_sipush (v := 255) hx hb dX2_putValue_67 (by decide) ?_
    refine lv_iand hx hb dX2_putValue_70 ?_
    obtain ⟨r4, hr4, h⟩ := g_bind h
    refine g_callVv (n := 3) (As := [.int a1, .int a2, .int (r1 &&& (255 : Int32))]) (rest := []) C P (kX5_putCell l X hJ σ a1 a2 (r1 &&& (255 : Int32)) _ hr4) wd_442 wd_145 wd_146 wd_14 wd_147 rfl rfl kdX5_putCell ⟨Nat.le_of_ble_eq_true rfl, Nat.le_of_ble_eq_true rfl⟩ xl1 rfl rfl rfl hl.1 (Nat.le_of_ble_eq_true rfl) dX2_putValue_71 (fun H locs P => ?_)
    refine lv_iload hx hb dX2_putValue_74 (lv_at hl 5 rfl) ?_
    refine lv_iconst (v := 2) hx hb dX2_putValue_76 (by decide) ?_
    refine lv_icmp_ne (tgt := 100) hx hb dX2_putValue_77 (by decide) (fun c5 => ?_) (fun c5 => ?_)
    · have h := g_ifn c5 h
      have h := Option.some.inj h
      exact g_vret C P h dX2_putValue_100
    have h := g_ifp c5 h
    refine lv_aload_n hx hb dX2_putValue_80 rfl (lv_at hl 1 rfl) ?_
    refine g_getR C P xl40 rfl inlX2 0 (by decide) wd_69 rfl dX2_putValue_81 ?_
    refine lv_iload_n hx hb dX2_putValue_84 rfl (lv_at hl 2 rfl) ?_
    refine lv_iload_n hx hb dX2_putValue_85 rfl (lv_at hl 3 rfl) ?_
    refine lv_iconst (v := 1) hx hb dX2_putValue_86 (by decide) ?_
    refine lv_iadd hx hb dX2_putValue_87 ?_
    refine lv_iload hx hb dX2_putValue_88 (lv_at hl 0 rfl) ?_
    refine lv_bipush (v := 8) hx hb dX2_putValue_90 (by decide) ?_
    refine lv_ishr hx hb dX2_putValue_92 ?_
    refine lv_sipush (v := 255) hx hb dX2_putValue_93 (by decide) ?_
    refine lv_iand hx hb dX2_putValue_96 ?_
    obtain ⟨r6, hr6, h⟩ := g_bind h
    refine g_callVv (n := 3) (As := [.int a1, .int (a2 + (1 : Int32)), .int ((r1 >>> ((8 : Int32) &&& 31)) &&& (255 : Int32))]) (rest := []) C P (kX5_putCell l X hJ r4 a1 (a2 + (1 : Int32)) ((r1 >>> ((8 : Int32) &&& 31)) &&& (255 : Int32)) _ hr6) wd_442 wd_145 wd_146 wd_14 wd_147 rfl rfl kdX5_putCell ⟨Nat.le_of_ble_eq_true rfl, Nat.le_of_ble_eq_true rfl⟩ xl1 rfl rfl rfl hl.1 (Nat.le_of_ble_eq_true rfl) dX2_putValue_97 (fun H locs P => ?_)
    have h := Option.some.inj h
    exact g_vret C P h dX2_putValue_100
  have h := g_ifp c3 h
  refine lv_aload_n hx hb dX2_putValue_22 rfl (lv_at hl 1 rfl) ?_
  refine g_getR C P xl40 rfl inlX2 0 (by decide) wd_69 rfl dX2_putValue_23 ?_
  refine lv_iload_n hx hb dX2_putValue_26 rfl (lv_at hl 2 rfl) ?_
  refine lv_iload_n hx hb dX2_putValue_27 rfl (lv_at hl 3 rfl) ?_
  refine lv_iload hx hb dX2_putValue_28 (lv_at hl 0 rfl) ?_
  refine lv_aload_n hx hb dX2_putValue_30 rfl (lv_at hl 1 rfl) ?_
  refine g_getR C P xl40 rfl inlX2 0 (by decide) wd_69 rfl dX2_putValue_31 ?_
  refine lv_iload_n hx hb dX2_putValue_34 rfl (lv_at hl 4 rfl) ?_
  obtain ⟨r7, hr7, h⟩ := g_bind h
  refine g_callVi (n := 1) (As := [.int a3]) (rest := [.int r1, .int a2, .int a1, .ref (gad X 1)]) C P (kX5_offsetOf l X hJ σ a3 _ hr7) wd_347 wd_348 wd_349 wd_14 wd_350 rfl rfl kdX5_offsetOf ⟨Nat.le_of_ble_eq_true rfl, Nat.le_of_ble_eq_true rfl⟩ xl1 rfl rfl rfl hl.1 (Nat.le_of_ble_eq_true rfl) dX2_putValue_35 (fun H locs P => ?_)
  refine g_callNi (n := 2) (As := [.int r1, .int r7]) (rest := [.int a2, .int a1, .ref (gad X 1)]) C P (kX7_pointerCode l X hJ σ r1 r7 _ rfl) wd_450 rfl rfl kdX7_pointerCode.2 ⟨Nat.le_of_ble_eq_true rfl, Nat.le_of_ble_eq_true rfl⟩ (hK.2 (RX2, 99, yX7_pointerCode, RX7) (List.mem_of_getElem? (i := 2) rfl)) wd_2 wd_449 rfl rfl hl.1 (Nat.le_of_ble_eq_true rfl) dX2_putValue_38 (fun H locs P => ?_)
  obtain ⟨r8, hr8, h⟩ := g_bind h
  refine g_callVv (n := 3) (As := [.int a1, .int a2, .int (qF_pointerCode r1 r7)]) (rest := []) C P (kX5_putCell l X hJ σ a1 a2 (qF_pointerCode r1 r7) _ hr8) wd_442 wd_145 wd_146 wd_14 wd_147 rfl rfl kdX5_putCell ⟨Nat.le_of_ble_eq_true rfl, Nat.le_of_ble_eq_true rfl⟩ xl1 rfl rfl rfl hl.1 (Nat.le_of_ble_eq_true rfl) dX2_putValue_41 (fun H locs P => ?_)
  refine lv_aload_n hx hb dX2_putValue_44 rfl (lv_at hl 1 rfl) ?_
  refine g_getR C P xl40 rfl inlX2 0 (by decide) wd_69 rfl dX2_putValue_45 ?_
  refine lv_iload_n hx hb dX2_putValue_48 rfl (lv_at hl 2 rfl) ?_
  refine lv_iload_n hx hb dX2_putValue_49 rfl (lv_at hl 3 rfl) ?_
  refine lv_iconst (v := 1) hx hb dX2_putValue_50 (by decide) ?_
  refine lv_iadd hx hb dX2_putValue_51 ?_
  refine lv_sipush (v := 999) hx hb dX2_putValue_52 (by decide) ?_
  obtain ⟨r9, hr9, h⟩ := g_bind h
  refine g_callVv (n := 3) (As := [.int a1, .int (a2 + (1 : Int32)), .int (999 : Int32)]) (rest := []) C P (kX5_putCell l X hJ r8 a1 (a2 + (1 : Int32)) (999 : Int32) _ hr9) wd_442 wd_145 wd_146 wd_14 wd_147 rfl rfl kdX5_putCell ⟨Nat.le_of_ble_eq_true rfl, Nat.le_of_ble_eq_true rfl⟩ xl1 rfl rfl rfl hl.1 (Nat.le_of_ble_eq_true rfl) dX2_putValue_55 (fun H locs P => ?_)
  have h := Option.some.inj h
  exact g_vret C P h dX2_putValue_58
abbrev rmX2_storeBytes : Room := { frames := 3, cells := 0, slots := 0, locals := 66 }
theorem kdX2_storeBytes : yX2_storeBytes.cls = RX2 ∧ yX2_storeBytes.cls ≠ "java/lang/invoke/MethodHandle" ∧ yX2_storeBytes.cls ≠ "java/lang/invoke/VarHandle" ∧ (parseMethodDescriptor yX2_storeBytes.desc).map (fun d => d.parameters.length) = some 3 := by decide +kernel
set_option maxHeartbeats 4000000 in
set_option maxRecDepth 100000 in
theorem kX2_storeBytes (l : Launch) (X : gXt) (hJ : gJ X xL) (σ : gS) (a1 : Int32) (a2 : Int32) (a3 : Int32) (q : Int32 × gS) (h : qO_storeBytes σ a1 a2 a3 = some q) : gMi l yX2_storeBytes (gws yX2_storeBytes cX2_storeBytes 8 (some .int)) rmX2_storeBytes X xL [.ref (gad X 40), .int a1, .int a2, .int a3] σ q.1 q.2 := by
  refine g_enter (cc := cX2_storeBytes) (nL := 8) (ret := (some .int)) hJ (plainFor_of_name (by decide)) (Nat.le_of_ble_eq_true rfl) ?_
  intro p e s m below meth c ls C P hl
  have C : gC p s m _ meth c RX2 cX2_storeBytes 8 (some .int) X xL := C
  have hx := C.1
  have hb := C.2.1
  have hK := C.2.2.2.2.2.2.2.1
  have hts := C.2.2.2.2.1
  have hl : lv_has ls 8 [(0, .ref (gad X 40)), (1, .int a1), (2, .int a2), (3, .int a3)] := hl
  unfold qO_storeBytes at h
  refine lv_iload_n hx hb dX2_storeBytes_0 rfl (lv_at hl 1 rfl) ?_
  refine g_callNi (n := 1) (As := [.int a1]) (rest := []) C P (kX7_isRegister l X hJ σ a1 _ rfl) wd_139 rfl rfl kdX7_isRegister.2 ⟨Nat.le_of_ble_eq_true rfl, Nat.le_of_ble_eq_true rfl⟩ (hK.2 (RX2, 23, yX7_isRegister, RX7) (List.mem_of_getElem? (i := 0) rfl)) wd_2 wd_138 rfl rfl hl.1 (Nat.le_of_ble_eq_true rfl) dX2_storeBytes_1 (fun H locs P => ?_)
  refine lv_if_eq (tgt := 24) hx hb dX2_storeBytes_4 (by decide) (fun c1 => ?_) (fun c1 => ?_)
  · have h := g_ifp c1 h
    refine lv_bipush (v := -2) hx hb dX2_storeBytes_24 (by decide) ?_
    have h := Option.some.inj h
    exact g_iret C P (g_fst h) (g_snd h) dX2_storeBytes_26
  have h := g_ifn c1 h
  refine lv_iload_n hx hb dX2_storeBytes_7 rfl (lv_at hl 2 rfl) ?_
  refine g_callNi (n := 1) (As := [.int a2]) (rest := []) C P (kX7_isRegister l X hJ σ a2 _ rfl) wd_139 rfl rfl kdX7_isRegister.2 ⟨Nat.le_of_ble_eq_true rfl, Nat.le_of_ble_eq_true rfl⟩ (hK.2 (RX2, 23, yX7_isRegister, RX7) (List.mem_of_getElem? (i := 0) rfl)) wd_2 wd_138 rfl rfl hl.1 (Nat.le_of_ble_eq_true rfl) dX2_storeBytes_8 (fun H locs P => ?_)
  refine lv_if_eq (tgt := 24) hx hb dX2_storeBytes_11 (by decide) (fun c2 => ?_) (fun c2 => ?_)
  · have h := g_ifp c2 h
    refine lv_bipush (v := -2) hx hb dX2_storeBytes_24 (by decide) ?_
    have h := Option.some.inj h
    exact g_iret C P (g_fst h) (g_snd h) dX2_storeBytes_26
  have h := g_ifn c2 h
  refine lv_iload_n hx hb dX2_storeBytes_14 rfl (lv_at hl 3 rfl) ?_
  refine lv_iconst (v := 1) hx hb dX2_storeBytes_15 (by decide) ?_
  refine lv_icmp_lt (tgt := 24) hx hb dX2_storeBytes_16 (by decide) (fun c3 => ?_) (fun c3 => ?_)
  · have h := g_ifp c3 h
    refine lv_bipush (v := -2) hx hb dX2_storeBytes_24 (by decide) ?_
    have h := Option.some.inj h
    exact g_iret C P (g_fst h) (g_snd h) dX2_storeBytes_26
  have h := g_ifn c3 h
  refine lv_iload_n hx hb dX2_storeBytes_19 rfl (lv_at hl 3 rfl) ?_
  refine lv_iconst (v := 2) hx hb dX2_storeBytes_20 (by decide) ?_
  refine lv_icmp_le (tgt := 27) hx hb dX2_storeBytes_21 (by decide) (fun c4 => ?_) (fun c4 => ?_)
  · have h := g_ifp c4 h
    refine lv_aload_n hx hb dX2_storeBytes_27 rfl (lv_at hl 0 rfl) ?_
    refine lv_iload_n hx hb dX2_storeBytes_28 rfl (lv_at hl 1 rfl) ?_
    refine lv_iload_n hx hb dX2_storeBytes_29 rfl (lv_at hl 3 rfl) ?_
    obtain ⟨r5, hr5, h⟩ := g_bind h
    refine g_callVi (n := 2) (As := [.int a1, .int a3]) (rest := []) C P (kX2_faultForWriting l X hJ σ a1 a3 _ hr5) wd_426 wd_427 wd_428 wd_22 wd_429 rfl rfl kdX2_faultForWriting ⟨Nat.le_of_ble_eq_true rfl, Nat.le_of_ble_eq_true rfl⟩ xl40 rfl rfl rfl hl.1 (Nat.le_of_ble_eq_true rfl) dX2_storeBytes_30 (fun H locs P => ?_)
    refine lv_istore (lv' := [(4, .int r5), (0, .ref (gad X 40)), (1, .int a1), (2, .int a2), (3, .int a3)]) hx hb dX2_storeBytes_33 hl (by decide) rfl (fun ls hl => ?_)
    refine lv_iload hx hb dX2_storeBytes_35 (lv_at hl 0 rfl) ?_
    refine lv_if_eq (tgt := 43) hx hb dX2_storeBytes_37 (by decide) (fun c6 => ?_) (fun c6 => ?_)
    · have h := g_ifp c6 h
      refine lv_aload_n hx hb dX2_storeBytes_43 rfl (lv_at hl 1 rfl) ?_
      refine g_getR C P xl40 rfl inlX2 0 (by decide) wd_69 rfl dX2_storeBytes_44 ?_
      refine lv_iload_n hx hb dX2_storeBytes_47 rfl (lv_at hl 3 rfl) ?_
      obtain ⟨r7, hr7, h⟩ := g_bind h
      refine g_callVi (n := 1) (As := [.int a2]) (rest := []) C P (kX5_kindOf l X hJ σ a2 _ hr7) wd_335 wd_336 wd_337 wd_14 wd_338 rfl rfl kdX5_kindOf ⟨Nat.le_of_ble_eq_true rfl, Nat.le_of_ble_eq_true rfl⟩ xl1 rfl rfl rfl hl.1 (Nat.le_of_ble_eq_true rfl) dX2_storeBytes_48 (fun H locs P => ?_)
      refine lv_istore (lv' := [(5, .int r7), (4, .int r5), (0, .ref (gad X 40)), (1, .int a1), (2, .int a2), (3, .int a3)]) hx hb dX2_storeBytes_51 hl (by decide) rfl (fun ls hl => ?_)
      refine lv_iload hx hb dX2_storeBytes_53 (lv_at hl 0 rfl) ?_
      refine lv_if_ne (tgt := 61) hx hb dX2_storeBytes_55 (by decide) (fun c8 => ?_) (fun c8 => ?_)
      · have h := g_ifn c8 h
        refine lv_iload_n hx hb dX2_storeBytes_61 rfl (lv_at hl 5 rfl) ?_
        refine lv_iconst (v := 1) hx hb dX2_storeBytes_62 (by decide) ?_
        refine lv_icmp_ne (tgt := 75) hx hb dX2_storeBytes_63 (by decide) (fun c9 => ?_) (fun c9 => ?_)
        · have h := g_ifn c9 h
          refine lv_aload_n hx hb dX2_storeBytes_75 rfl (lv_at hl 2 rfl) ?_
          refine g_getR C P xl40 rfl inlX2 0 (by decide) wd_69 rfl dX2_storeBytes_76 ?_
          refine lv_iload_n hx hb dX2_storeBytes_79 rfl (lv_at hl 3 rfl) ?_
          obtain ⟨r10, hr10, h⟩ := g_bind h
          refine g_callVi (n := 1) (As := [.int a1]) (rest := []) C P (kX5_valueOf l X hJ σ a1 _ hr10) wd_339 wd_340 wd_341 wd_14 wd_342 rfl rfl kdX5_valueOf ⟨Nat.le_of_ble_eq_true rfl, Nat.le_of_ble_eq_true rfl⟩ xl1 rfl rfl rfl hl.1 (Nat.le_of_ble_eq_true rfl) dX2_storeBytes_80 (fun H locs P => ?_)
          refine lv_istore (lv' := [(6, .int r10), (5, .int r7), (4, .int r5), (0, .ref (gad X 40)), (1, .int a1), (2, .int a2), (3, .int a3)]) hx hb dX2_storeBytes_83 hl (by decide) rfl (fun ls hl => ?_)
          refine lv_aload_n hx hb dX2_storeBytes_85 rfl (lv_at hl 3 rfl) ?_
          refine g_getR C P xl40 rfl inlX2 0 (by decide) wd_69 rfl dX2_storeBytes_86 ?_
          refine lv_iload_n hx hb dX2_storeBytes_89 rfl (lv_at hl 4 rfl) ?_
          obtain ⟨r11, hr11, h⟩ := g_bind h
          refine g_callVi (n := 1) (As := [.int a1]) (rest := []) C P (kX5_offsetOf l X hJ σ a1 _ hr11) wd_347 wd_348 wd_349 wd_14 wd_350 rfl rfl kdX5_offsetOf ⟨Nat.le_of_ble_eq_true rfl, Nat.le_of_ble_eq_true rfl⟩ xl1 rfl rfl rfl hl.1 (Nat.le_of_ble_eq_true rfl) dX2_storeBytes_90 (fun H locs P => ?_)
          refine lv_istore (lv' := [(7, .int r11), (6, .int r10), (5, .int r7), (4, .int r5), (0, .ref (gad X 40)), (1, .int a1), (2, .int a2), (3, .int a3)]) hx hb dX2_storeBytes_93 hl (by decide) rfl (fun ls hl => ?_)
          refine lv_aload_n hx hb dX2_storeBytes_95 rfl (lv_at hl 4 rfl) ?_
          refine lv_iload hx hb dX2_storeBytes_96 (lv_at hl 1 rfl) ?_
          refine lv_iload hx hb dX2_storeBytes_98 (lv_at hl 0 rfl) ?_
          refine lv_iload_n hx hb dX2_storeBytes_100 rfl (lv_at hl 7 rfl) ?_
          obtain ⟨r12, hr12, h⟩ := g_bind h
          refine g_callVv (n := 3) (As := [.int r10, .int r11, .int a3]) (rest := []) C P (kX2_splitPointers l X hJ σ r10 r11 a3 _ hr12) wd_434 wd_435 wd_436 wd_22 wd_437 rfl rfl kdX2_splitPointers ⟨Nat.le_of_ble_eq_true rfl, Nat.le_of_ble_eq_true rfl⟩ xl40 rfl rfl rfl hl.1 (Nat.le_of_ble_eq_true rfl) dX2_storeBytes_101 (fun H locs P => ?_)
          refine lv_aload_n hx hb dX2_storeBytes_104 rfl (lv_at hl 4 rfl) ?_
          refine lv_iload hx hb dX2_storeBytes_105 (lv_at hl 1 rfl) ?_
          refine lv_iload hx hb dX2_storeBytes_107 (lv_at hl 0 rfl) ?_
          refine lv_iload_n hx hb dX2_storeBytes_109 rfl (lv_at hl 6 rfl) ?_
          refine lv_iload_n hx hb dX2_storeBytes_110 rfl (lv_at hl 7 rfl) ?_
          obtain ⟨r13, hr13, h⟩ := g_bind h
          refine g_callVv (n := 4) (As := [.int r10, .int r11, .int a2, .int a3]) (rest := []) C P (kX2_putValue l X hJ r12 r10 r11 a2 a3 _ hr13) wd_445 wd_446 wd_447 wd_22 wd_448 rfl rfl kdX2_putValue ⟨Nat.le_of_ble_eq_true rfl, Nat.le_of_ble_eq_true rfl⟩ xl40 rfl rfl rfl hl.1 (Nat.le_of_ble_eq_true rfl) dX2_storeBytes_111 (fun H locs P => ?_)
          refine lv_iload hx hb dX2_storeBytes_114 (lv_at hl 0 rfl) ?_
          have h := Option.some.inj h
          exact g_iret C P (g_fst h) (g_snd h) dX2_storeBytes_116
        have h := g_ifp c9 h
        refine lv_iload hx hb dX2_storeBytes_66 (lv_at hl 0 rfl) ?_
        refine lv_iconst (v := 2) hx hb dX2_storeBytes_68 (by decide) ?_
        refine lv_icmp_ne (tgt := 75) hx hb dX2_storeBytes_69 (by decide) (fun c14 => ?_) (fun c14 => ?_)
        · have h := g_ifn c14 h
          refine lv_aload_n hx hb dX2_storeBytes_75 rfl (lv_at hl 2 rfl) ?_
          refine g_getR C P xl40 rfl inlX2 0 (by decide) wd_69 rfl dX2_storeBytes_76 ?_
          refine lv_iload_n hx hb dX2_storeBytes_79 rfl (lv_at hl 3 rfl) ?_
          obtain ⟨r15, hr15, h⟩ := g_bind h
          refine g_callVi (n := 1) (As := [.int a1]) (rest := []) C P (kX5_valueOf l X hJ σ a1 _ hr15) wd_339 wd_340 wd_341 wd_14 wd_342 rfl rfl kdX5_valueOf ⟨Nat.le_of_ble_eq_true rfl, Nat.le_of_ble_eq_true rfl⟩ xl1 rfl rfl rfl hl.1 (Nat.le_of_ble_eq_true rfl) dX2_storeBytes_80 (fun H locs P => ?_)
          refine lv_istore (lv' := [(6, .int r15), (5, .int r7), (4, .int r5), (0, .ref (gad X 40)), (1, .int a1), (2, .int a2), (3, .int a3)]) hx hb dX2_storeBytes_83 hl (by decide) rfl (fun ls hl => ?_)
          refine lv_aload_n hx hb dX2_storeBytes_85 rfl (lv_at hl 3 rfl) ?_
          refine g_getR C P xl40 rfl inlX2 0 (by decide) wd_69 rfl dX2_storeBytes_86 ?_
          refine lv_iload_n hx hb dX2_storeBytes_89 rfl (lv_at hl 4 rfl) ?_
          obtain ⟨r16, hr16, h⟩ := g_bind h
          refine g_callVi (n := 1) (As := [.int a1]) (rest := []) C P (kX5_offsetOf l X hJ σ a1 _ hr16) wd_347 wd_348 wd_349 wd_14 wd_350 rfl rfl kdX5_offsetOf ⟨Nat.le_of_ble_eq_true rfl, Nat.le_of_ble_eq_true rfl⟩ xl1 rfl rfl rfl hl.1 (Nat.le_of_ble_eq_true rfl) dX2_storeBytes_90 (fun H locs P => ?_)
          refine lv_istore (lv' := [(7, .int r16), (6, .int r15), (5, .int r7), (4, .int r5), (0, .ref (gad X 40)), (1, .int a1), (2, .int a2), (3, .int a3)]) hx hb dX2_storeBytes_93 hl (by decide) rfl (fun ls hl => ?_)
          refine lv_aload_n hx hb dX2_storeBytes_95 rfl (lv_at hl 4 rfl) ?_
          refine lv_iload hx hb dX2_storeBytes_96 (lv_at hl 1 rfl) ?_
          refine lv_iload hx hb dX2_storeBytes_98 (lv_at hl 0 rfl) ?_
          refine lv_iload_n hx hb dX2_storeBytes_100 rfl (lv_at hl 7 rfl) ?_
          obtain ⟨r17, hr17, h⟩ := g_bind h
          refine g_callVv (n := 3) (As := [.int r15, .int r16, .int a3]) (rest := []) C P (kX2_splitPointers l X hJ σ r15 r16 a3 _ hr17) wd_434 wd_435 wd_436 wd_22 wd_437 rfl rfl kdX2_splitPointers ⟨Nat.le_of_ble_eq_true rfl, Nat.le_of_ble_eq_true rfl⟩ xl40 rfl rfl rfl hl.1 (Nat.le_of_ble_eq_true rfl) dX2_storeBytes_101 (fun H locs P => ?_)
          refine lv_aload_n hx hb dX2_storeBytes_104 rfl (lv_at hl 4 rfl) ?_
          refine lv_iload hx hb dX2_storeBytes_105 (lv_at hl 1 rfl) ?_
          refine lv_iload hx hb dX2_storeBytes_107 (lv_at hl 0 rfl) ?_
          refine lv_iload_n hx hb dX2_storeBytes_109 rfl (lv_at hl 6 rfl) ?_
          refine lv_iload_n hx hb dX2_storeBytes_110 rfl (lv_at hl 7 rfl) ?_
          obtain ⟨r18, hr18, h⟩ := g_bind h
          refine g_callVv (n := 4) (As := [.int r15, .int r16, .int a2, .int a3]) (rest := []) C P (kX2_putValue l X hJ r17 r15 r16 a2 a3 _ hr18) wd_445 wd_446 wd_447 wd_22 wd_448 rfl rfl kdX2_putValue ⟨Nat.le_of_ble_eq_true rfl, Nat.le_of_ble_eq_true rfl⟩ xl40 rfl rfl rfl hl.1 (Nat.le_of_ble_eq_true rfl) dX2_storeBytes_111 (fun H locs P => ?_)
          refine lv_iload hx hb dX2_storeBytes_114 (lv_at hl 0 rfl) ?_
          have h := Option.some.inj h
          exact g_iret C P (g_fst h) (g_snd h) dX2_storeBytes_116
        have h := g_ifp c14 h
        refine lv_bipush (v := -17) hx hb dX2_storeBytes_72 (by decide) ?_
        have h := Option.some.inj h
        exact g_iret C P (g_fst h) (g_snd h) dX2_storeBytes_74
      have h := g_ifp c8 h
      refine lv_bipush (v := -11) hx hb dX2_storeBytes_58 (by decide) ?_
      have h := Option.some.inj h
      exact g_iret C P (g_fst h) (g_snd h) dX2_storeBytes_60
    have h := g_ifn c6 h
    refine lv_iload hx hb dX2_storeBytes_40 (lv_at hl 0 rfl) ?_
    have h := Option.some.inj h
    exact g_iret C P (g_fst h) (g_snd h) dX2_storeBytes_42
  have h := g_ifn c4 h
  refine lv_bipush (v := -2) hx hb dX2_storeBytes_24 (by decide) ?_
  have h := Option.some.inj h
  exact g_iret C P (g_fst h) (g_snd h) dX2_storeBytes_26
abbrev rmX2_faultForReading : Room := { frames := 2, cells := 0, slots := 0, locals := 43 }
theorem kdX2_faultForReading : yX2_faultForReading.cls = RX2 ∧ yX2_faultForReading.cls ≠ "java/lang/invoke/MethodHandle" ∧ yX2_faultForReading.cls ≠ "java/lang/invoke/VarHandle" ∧ (parseMethodDescriptor yX2_faultForReading.desc).map (fun d => d.parameters.length) = some 2 := by decide +kernel
set_option maxHeartbeats 4000000 in
set_option maxRecDepth 100000 in
theorem kX2_faultForReading (l : Launch) (X : gXt) (hJ : gJ X xL) (σ : gS) (a1 : Int32) (a2 : Int32) (q : Int32) (h : qO_faultForReading σ a1 a2 = some q) : gMi l yX2_faultForReading (gws yX2_faultForReading cX2_faultForReading 4 (some .int)) rmX2_faultForReading X xL [.ref (gad X 40), .int a1, .int a2] σ q σ := by
  refine g_enter (cc := cX2_faultForReading) (nL := 4) (ret := (some .int)) hJ (plainFor_of_name (by decide)) (Nat.le_of_ble_eq_true rfl) ?_
  intro p e s m below meth c ls C P hl
  have C : gC p s m _ meth c RX2 cX2_faultForReading 4 (some .int) X xL := C
  have hx := C.1
  have hb := C.2.1
  have hK := C.2.2.2.2.2.2.2.1
  have hts := C.2.2.2.2.1
  have hl : lv_has ls 4 [(0, .ref (gad X 40)), (1, .int a1), (2, .int a2)] := hl
  unfold qO_faultForReading at h
  refine lv_aload_n hx hb dX2_faultForReading_0 rfl (lv_at hl 0 rfl) ?_
  refine lv_iload_n hx hb dX2_faultForReading_1 rfl (lv_at hl 1 rfl) ?_
  obtain ⟨r1, hr1, h⟩ := g_bind h
  refine g_callVi (n := 1) (As := [.int a1]) (rest := []) C P (kX2_fault l X hJ σ a1 _ hr1) wd_331 wd_332 wd_333 wd_22 wd_334 rfl rfl kdX2_fault ⟨Nat.le_of_ble_eq_true rfl, Nat.le_of_ble_eq_true rfl⟩ xl40 rfl rfl rfl hl.1 (Nat.le_of_ble_eq_true rfl) dX2_faultForReading_2 (fun H locs P => ?_)
  refine lv_istore_n (lv' := [(3, .int r1), (0, .ref (gad X 40)), (1, .int a1), (2, .int a2)]) hx hb dX2_faultForReading_5 rfl hl (by decide) rfl (fun ls hl => ?_)
  refine lv_iload_n hx hb dX2_faultForReading_6 rfl (lv_at hl 0 rfl) ?_
  refine lv_if_eq (tgt := 12) hx hb dX2_faultForReading_7 (by decide) (fun c2 => ?_) (fun c2 => ?_)
  · have h := g_ifp c2 h
    refine lv_aload_n hx hb dX2_faultForReading_12 rfl (lv_at hl 1 rfl) ?_
    refine lv_iload_n hx hb dX2_faultForReading_13 rfl (lv_at hl 2 rfl) ?_
    refine lv_iload_n hx hb dX2_faultForReading_14 rfl (lv_at hl 3 rfl) ?_
    obtain ⟨r3, hr3, h⟩ := g_bind h
    refine g_callVi (n := 2) (As := [.int a1, .int a2]) (rest := []) C P (kX2_hasBytes l X hJ σ a1 a2 _ hr3) wd_430 wd_431 wd_432 wd_22 wd_433 rfl rfl kdX2_hasBytes ⟨Nat.le_of_ble_eq_true rfl, Nat.le_of_ble_eq_true rfl⟩ xl40 rfl rfl rfl hl.1 (Nat.le_of_ble_eq_true rfl) dX2_faultForReading_15 (fun H locs P => ?_)
    refine lv_if_eq (tgt := 25) hx hb dX2_faultForReading_18 (by decide) (fun c4 => ?_) (fun c4 => ?_)
    · have h := g_ifp c4 h
      refine lv_bipush (v := -15) hx hb dX2_faultForReading_25 (by decide) ?_
      have h := Option.some.inj h
      exact g_iret C P h rfl dX2_faultForReading_27
    have h := g_ifn c4 h
    refine lv_iconst (v := 0) hx hb dX2_faultForReading_21 (by decide) ?_
    refine lv_goto (tgt := 27) hx hb dX2_faultForReading_22 (by decide) ?_
    have h := Option.some.inj h
    exact g_iret C P h rfl dX2_faultForReading_27
  have h := g_ifn c2 h
  refine lv_iload_n hx hb dX2_faultForReading_10 rfl (lv_at hl 0 rfl) ?_
  have h := Option.some.inj h
  exact g_iret C P h rfl dX2_faultForReading_11
