/-! WALKS, by program (wip/whole/gen.py): each method does what its mirror says -/
abbrev rmX0_imageAt : Room := { frames := 0, cells := 0, slots := 0, locals := 0 }
theorem kdX0_imageAt : yX0_imageAt.cls = RX0 ∧ yX0_imageAt.cls ≠ "java/lang/invoke/MethodHandle" ∧ yX0_imageAt.cls ≠ "java/lang/invoke/VarHandle" ∧ (parseMethodDescriptor yX0_imageAt.desc).map (fun d => d.parameters.length) = some 1 := by decide +kernel
set_option maxHeartbeats 4000000 in
set_option maxRecDepth 100000 in
theorem kX0_imageAt (l : Launch) (X : gXt) (hJ : gJ X xL) (σ : gS) (a1 : Int32) (q : Nat) (h : qA_imageAt a1 = some q) : gMr l yX0_imageAt (gws yX0_imageAt cX0_imageAt 2 (some (.object "FrozenImages$Image"))) rmX0_imageAt X xL [.ref (gad X 9), .int a1] σ q σ := by
  refine g_enter (cc := cX0_imageAt) (nL := 2) (ret := (some (.object "FrozenImages$Image"))) hJ (plainFor_of_name (by decide)) (Nat.le_of_ble_eq_true rfl) ?_
  intro p e s m below meth c ls C P hl
  have C : gC p s m _ meth c RX0 cX0_imageAt 2 (some (.object "FrozenImages$Image")) X xL := C
  have hx := C.1
  have hb := C.2.1
  have hK := C.2.2.2.2.2.2.2.1
  have hts := C.2.2.2.2.1
  have hl : lv_has ls 2 [(0, .ref (gad X 9)), (1, .int a1)] := hl
  unfold qA_imageAt at h
  refine lv_aload_n hx hb dX0_imageAt_0 rfl (lv_at hl 0 rfl) ?_
  refine g_getR C P xl9 rfl inlX0 0 (by decide) wd_54 rfl dX0_imageAt_1 ?_
  refine lv_iload_n hx hb dX0_imageAt_4 rfl (lv_at hl 1 rfl) ?_
  refine lv_if_lt (tgt := 18) hx hb dX0_imageAt_5 (by decide) (fun c1 => ?_) (fun c1 => ?_)
  · have h := g_ifp c1 h
    refine lv_bipush (v := 8) hx hb dX0_imageAt_18 (by decide) ?_
    obtain ⟨r3, b2, eb2, h⟩ := g_or h
    refine g_aald (t := 1) C P xl10 rfl b2 eb2 dX0_imageAt_20 ?_
    have h := Option.some.inj h
    exact g_aret C P h rfl dX0_imageAt_21
  have h := g_ifn c1 h
  refine lv_iload_n hx hb dX0_imageAt_8 rfl (lv_at hl 1 rfl) ?_
  refine lv_bipush (v := 8) hx hb dX0_imageAt_9 (by decide) ?_
  refine lv_icmp_gt (tgt := 18) hx hb dX0_imageAt_11 (by decide) (fun c4 => ?_) (fun c4 => ?_)
  · have h := g_ifp c4 h
    refine lv_bipush (v := 8) hx hb dX0_imageAt_18 (by decide) ?_
    obtain ⟨r6, b5, eb5, h⟩ := g_or h
    refine g_aald (t := 1) C P xl10 rfl b5 eb5 dX0_imageAt_20 ?_
    have h := Option.some.inj h
    exact g_aret C P h rfl dX0_imageAt_21
  have h := g_ifn c4 h
  refine lv_iload_n hx hb dX0_imageAt_14 rfl (lv_at hl 1 rfl) ?_
  refine lv_goto (tgt := 20) hx hb dX0_imageAt_15 (by decide) ?_
  obtain ⟨r8, b7, eb7, h⟩ := g_or h
  refine g_aald (t := 1) C P xl10 rfl b7 eb7 dX0_imageAt_20 ?_
  have h := Option.some.inj h
  exact g_aret C P h rfl dX0_imageAt_21
abbrev rmX0_addReached : Room := { frames := 0, cells := 0, slots := 0, locals := 0 }
theorem kdX0_addReached : yX0_addReached.cls = RX0 ∧ yX0_addReached.cls ≠ "java/lang/invoke/MethodHandle" ∧ yX0_addReached.cls ≠ "java/lang/invoke/VarHandle" ∧ (parseMethodDescriptor yX0_addReached.desc).map (fun d => d.parameters.length) = some 1 := by decide +kernel
set_option maxHeartbeats 4000000 in
set_option maxRecDepth 100000 in
theorem kX0_addReached (l : Launch) (X : gXt) (hJ : gJ X xL) (σ : gS) (a1 : Int32) (q : gS) (h : qA_addReached σ a1 = some q) : gMv l yX0_addReached (gws yX0_addReached cX0_addReached 3 none) rmX0_addReached X xL [.ref (gad X 9), .int a1] σ q := by
  refine g_enter (cc := cX0_addReached) (nL := 3) (ret := none) hJ (plainFor_of_name (by decide)) (Nat.le_of_ble_eq_true rfl) ?_
  intro p e s m below meth c ls C P hl
  have C : gC p s m _ meth c RX0 cX0_addReached 3 none X xL := C
  have hx := C.1
  have hb := C.2.1
  have hK := C.2.2.2.2.2.2.2.1
  have hts := C.2.2.2.2.1
  have hl : lv_has ls 3 [(0, .ref (gad X 9)), (1, .int a1)] := hl
  unfold qA_addReached at h
  refine lv_iload_n hx hb dX0_addReached_0 rfl (lv_at hl 1 rfl) ?_
  refine lv_if_lt (tgt := 20) hx hb dX0_addReached_1 (by decide) (fun c1 => ?_) (fun c1 => ?_)
  · have h := g_ifp c1 h
    refine lv_iconst (v := 1) hx hb dX0_addReached_20 (by decide) ?_
    refine lv_goto (tgt := 25) hx hb dX0_addReached_21 (by decide) ?_
    refine lv_istore_n (lv' := [(2, .int (1 : Int32)), (0, .ref (gad X 9)), (1, .int a1)]) hx hb dX0_addReached_25 rfl hl (by decide) rfl (fun ls hl => ?_)
    refine lv_iload_n hx hb dX0_addReached_26 rfl (lv_at hl 0 rfl) ?_
    refine lv_if_ne (tgt := 76) hx hb dX0_addReached_27 (by decide) (fun c2 => ?_) (fun c2 => ?_)
    rotate_left
    · exact absurd c2 (by decide)
    have h := Option.some.inj h
    exact g_vret C P h dX0_addReached_76
  have h := g_ifn c1 h
  refine lv_iload_n hx hb dX0_addReached_4 rfl (lv_at hl 1 rfl) ?_
  refine lv_bipush (v := 10) hx hb dX0_addReached_5 (by decide) ?_
  refine lv_icmp_ge (tgt := 20) hx hb dX0_addReached_7 (by decide) (fun c3 => ?_) (fun c3 => ?_)
  · have h := g_ifp c3 h
    refine lv_iconst (v := 1) hx hb dX0_addReached_20 (by decide) ?_
    refine lv_goto (tgt := 25) hx hb dX0_addReached_21 (by decide) ?_
    refine lv_istore_n (lv' := [(2, .int (1 : Int32)), (0, .ref (gad X 9)), (1, .int a1)]) hx hb dX0_addReached_25 rfl hl (by decide) rfl (fun ls hl => ?_)
    refine lv_iload_n hx hb dX0_addReached_26 rfl (lv_at hl 0 rfl) ?_
    refine lv_if_ne (tgt := 76) hx hb dX0_addReached_27 (by decide) (fun c4 => ?_) (fun c4 => ?_)
    rotate_left
    · exact absurd c4 (by decide)
    have h := Option.some.inj h
    exact g_vret C P h dX0_addReached_76
  have h := g_ifn c3 h
  refine lv_aload_n hx hb dX0_addReached_10 rfl (lv_at hl 0 rfl) ?_
  refine g_getR C P xl9 rfl inlX0 2 (by decide) wd_58 rfl dX0_addReached_11 ?_
  refine lv_iload_n hx hb dX0_addReached_14 rfl (lv_at hl 1 rfl) ?_
  obtain ⟨b5, h⟩ := g_ob h
  refine g_iald (j := a1.toNatClampNeg) C P xl39 b5 rfl dX0_addReached_15 ?_
  refine lv_iconst (v := -1) hx hb dX0_addReached_16 (by decide) ?_
  refine lv_icmp_eq (tgt := 24) hx hb dX0_addReached_17 (by decide) (fun c6 => ?_) (fun c6 => ?_)
  · have h := g_ifp c6 h
    refine lv_iconst (v := 0) hx hb dX0_addReached_24 (by decide) ?_
    refine lv_istore_n (lv' := [(2, .int (0 : Int32)), (0, .ref (gad X 9)), (1, .int a1)]) hx hb dX0_addReached_25 rfl hl (by decide) rfl (fun ls hl => ?_)
    refine lv_iload_n hx hb dX0_addReached_26 rfl (lv_at hl 0 rfl) ?_
    refine lv_if_ne (tgt := 76) hx hb dX0_addReached_27 (by decide) (fun c7 => ?_) (fun c7 => ?_)
    · exact absurd (by decide) c7
    refine lv_aload_n hx hb dX0_addReached_30 rfl (lv_at hl 1 rfl) ?_
    refine g_getI C P xl9 rfl inlX0 3 (by decide) wd_527 rfl dX0_addReached_31 ?_
    refine lv_if_lt (tgt := 76) hx hb dX0_addReached_34 (by decide) (fun c8 => ?_) (fun c8 => ?_)
    · have h := g_ifp c8 h
      have h := Option.some.inj h
      exact g_vret C P h dX0_addReached_76
    have h := g_ifn c8 h
    refine lv_aload_n hx hb dX0_addReached_37 rfl (lv_at hl 1 rfl) ?_
    refine g_getI C P xl9 rfl inlX0 3 (by decide) wd_527 rfl dX0_addReached_38 ?_
    refine lv_bipush (v := 10) hx hb dX0_addReached_41 (by decide) ?_
    refine lv_icmp_ge (tgt := 76) hx hb dX0_addReached_43 (by decide) (fun c9 => ?_) (fun c9 => ?_)
    · have h := g_ifp c9 h
      have h := Option.some.inj h
      exact g_vret C P h dX0_addReached_76
    have h := g_ifn c9 h
    refine lv_aload_n hx hb dX0_addReached_46 rfl (lv_at hl 1 rfl) ?_
    refine g_getR C P xl9 rfl inlX0 2 (by decide) wd_58 rfl dX0_addReached_47 ?_
    refine lv_iload_n hx hb dX0_addReached_50 rfl (lv_at hl 2 rfl) ?_
    refine lv_aload_n hx hb dX0_addReached_51 rfl (lv_at hl 1 rfl) ?_
    refine g_getI C P xl9 rfl inlX0 3 (by decide) wd_527 rfl dX0_addReached_52 ?_
    refine g_iast (j := a1.toNatClampNeg) C P xl39 b5 rfl dX0_addReached_55 (fun H locs P => ?_)
    refine lv_aload_n hx hb dX0_addReached_56 rfl (lv_at hl 1 rfl) ?_
    refine g_getR C P xl9 rfl inlX0 1 (by decide) wd_57 rfl dX0_addReached_57 ?_
    refine lv_aload_n hx hb dX0_addReached_60 rfl (lv_at hl 1 rfl) ?_
    refine g_getI C P xl9 rfl inlX0 3 (by decide) wd_527 rfl dX0_addReached_61 ?_
    refine lv_iload_n hx hb dX0_addReached_64 rfl (lv_at hl 2 rfl) ?_
    obtain ⟨b10, h⟩ := g_ob h
    refine g_iast (j := (gI (sM σ 39 a1.toNatClampNeg (gI σ 9 3)) 9 3).toNatClampNeg) C P xl38 b10 rfl dX0_addReached_65 (fun H locs P => ?_)
    refine lv_aload_n hx hb dX0_addReached_66 rfl (lv_at hl 1 rfl) ?_
    refine lv_aload_n hx hb dX0_addReached_67 rfl (lv_at hl 1 rfl) ?_
    refine g_getI C P xl9 rfl inlX0 3 (by decide) wd_527 rfl dX0_addReached_68 ?_
    refine lv_iconst (v := 1) hx hb dX0_addReached_71 (by decide) ?_
    refine lv_iadd hx hb dX0_addReached_72 ?_
    refine g_putI C P xl9 rfl inlX0 tyX0 tyX0_ok nmX0 3 (by decide) wd_527 rfl rfl rfl rfl dX0_addReached_73 (fun H locs P => ?_)
    have h := Option.some.inj h
    exact g_vret C P h dX0_addReached_76
  have h := g_ifn c6 h
  refine lv_iconst (v := 1) hx hb dX0_addReached_20 (by decide) ?_
  refine lv_goto (tgt := 25) hx hb dX0_addReached_21 (by decide) ?_
  refine lv_istore_n (lv' := [(2, .int (1 : Int32)), (0, .ref (gad X 9)), (1, .int a1)]) hx hb dX0_addReached_25 rfl hl (by decide) rfl (fun ls hl => ?_)
  refine lv_iload_n hx hb dX0_addReached_26 rfl (lv_at hl 0 rfl) ?_
  refine lv_if_ne (tgt := 76) hx hb dX0_addReached_27 (by decide) (fun c11 => ?_) (fun c11 => ?_)
  rotate_left
  · exact absurd c11 (by decide)
  have h := Option.some.inj h
  exact g_vret C P h dX0_addReached_76
abbrev rmX5_sizeOf : Room := { frames := 0, cells := 0, slots := 0, locals := 0 }
theorem kdX5_sizeOf : yX5_sizeOf.cls = RX5 ∧ yX5_sizeOf.cls ≠ "java/lang/invoke/MethodHandle" ∧ yX5_sizeOf.cls ≠ "java/lang/invoke/VarHandle" ∧ (parseMethodDescriptor yX5_sizeOf.desc).map (fun d => d.parameters.length) = some 1 := by decide +kernel
set_option maxHeartbeats 4000000 in
set_option maxRecDepth 100000 in
theorem kX5_sizeOf (l : Launch) (X : gXt) (hJ : gJ X xL) (σ : gS) (a1 : Int32) (q : Int32) (h : qS_sizeOf σ a1 = some q) : gMi l yX5_sizeOf (gws yX5_sizeOf cX5_sizeOf 2 (some .int)) rmX5_sizeOf X xL [.ref (gad X 1), .int a1] σ q σ := by
  refine g_enter (cc := cX5_sizeOf) (nL := 2) (ret := (some .int)) hJ (plainFor_of_name (by decide)) (Nat.le_of_ble_eq_true rfl) ?_
  intro p e s m below meth c ls C P hl
  have C : gC p s m _ meth c RX5 cX5_sizeOf 2 (some .int) X xL := C
  have hx := C.1
  have hb := C.2.1
  have hK := C.2.2.2.2.2.2.2.1
  have hts := C.2.2.2.2.1
  have hl : lv_has ls 2 [(0, .ref (gad X 1)), (1, .int a1)] := hl
  unfold qS_sizeOf at h
  refine lv_iload_n hx hb dX5_sizeOf_0 rfl (lv_at hl 1 rfl) ?_
  refine lv_if_lt (tgt := 19) hx hb dX5_sizeOf_1 (by decide) (fun c1 => ?_) (fun c1 => ?_)
  · have h := g_ifp c1 h
    refine lv_iconst (v := 0) hx hb dX5_sizeOf_19 (by decide) ?_
    have h := Option.some.inj h
    exact g_iret C P h rfl dX5_sizeOf_20
  have h := g_ifn c1 h
  refine lv_iload_n hx hb dX5_sizeOf_4 rfl (lv_at hl 1 rfl) ?_
  refine lv_bipush (v := 10) hx hb dX5_sizeOf_5 (by decide) ?_
  refine lv_icmp_ge (tgt := 19) hx hb dX5_sizeOf_7 (by decide) (fun c2 => ?_) (fun c2 => ?_)
  · have h := g_ifp c2 h
    refine lv_iconst (v := 0) hx hb dX5_sizeOf_19 (by decide) ?_
    have h := Option.some.inj h
    exact g_iret C P h rfl dX5_sizeOf_20
  have h := g_ifn c2 h
  refine lv_aload_n hx hb dX5_sizeOf_10 rfl (lv_at hl 0 rfl) ?_
  refine g_getR C P xl1 rfl inlX5 3 (by decide) wd_44 rfl dX5_sizeOf_11 ?_
  refine lv_iload_n hx hb dX5_sizeOf_14 rfl (lv_at hl 1 rfl) ?_
  obtain ⟨b3, h⟩ := g_ob h
  refine g_iald (j := a1.toNatClampNeg) C P xl5 b3 rfl dX5_sizeOf_15 ?_
  refine lv_goto (tgt := 20) hx hb dX5_sizeOf_16 (by decide) ?_
  have h := Option.some.inj h
  exact g_iret C P h rfl dX5_sizeOf_20
abbrev rmX5_cellAt : Room := { frames := 0, cells := 0, slots := 0, locals := 0 }
theorem kdX5_cellAt : yX5_cellAt.cls = RX5 ∧ yX5_cellAt.cls ≠ "java/lang/invoke/MethodHandle" ∧ yX5_cellAt.cls ≠ "java/lang/invoke/VarHandle" ∧ (parseMethodDescriptor yX5_cellAt.desc).map (fun d => d.parameters.length) = some 2 := by decide +kernel
set_option maxHeartbeats 4000000 in
set_option maxRecDepth 100000 in
theorem kX5_cellAt (l : Launch) (X : gXt) (hJ : gJ X xL) (σ : gS) (a1 : Int32) (a2 : Int32) (q : Int32) (h : qS_cellAt σ a1 a2 = some q) : gMi l yX5_cellAt (gws yX5_cellAt cX5_cellAt 3 (some .int)) rmX5_cellAt X xL [.ref (gad X 1), .int a1, .int a2] σ q σ := by
  refine g_enter (cc := cX5_cellAt) (nL := 3) (ret := (some .int)) hJ (plainFor_of_name (by decide)) (Nat.le_of_ble_eq_true rfl) ?_
  intro p e s m below meth c ls C P hl
  have C : gC p s m _ meth c RX5 cX5_cellAt 3 (some .int) X xL := C
  have hx := C.1
  have hb := C.2.1
  have hK := C.2.2.2.2.2.2.2.1
  have hts := C.2.2.2.2.1
  have hl : lv_has ls 3 [(0, .ref (gad X 1)), (1, .int a1), (2, .int a2)] := hl
  unfold qS_cellAt at h
  refine lv_iload_n hx hb dX5_cellAt_0 rfl (lv_at hl 1 rfl) ?_
  refine lv_if_lt (tgt := 34) hx hb dX5_cellAt_1 (by decide) (fun c1 => ?_) (fun c1 => ?_)
  · have h := g_ifp c1 h
    refine lv_iconst (v := -1) hx hb dX5_cellAt_34 (by decide) ?_
    have h := Option.some.inj h
    exact g_iret C P h rfl dX5_cellAt_35
  have h := g_ifn c1 h
  refine lv_iload_n hx hb dX5_cellAt_4 rfl (lv_at hl 1 rfl) ?_
  refine lv_bipush (v := 10) hx hb dX5_cellAt_5 (by decide) ?_
  refine lv_icmp_ge (tgt := 34) hx hb dX5_cellAt_7 (by decide) (fun c2 => ?_) (fun c2 => ?_)
  · have h := g_ifp c2 h
    refine lv_iconst (v := -1) hx hb dX5_cellAt_34 (by decide) ?_
    have h := Option.some.inj h
    exact g_iret C P h rfl dX5_cellAt_35
  have h := g_ifn c2 h
  refine lv_iload_n hx hb dX5_cellAt_10 rfl (lv_at hl 2 rfl) ?_
  refine lv_if_lt (tgt := 34) hx hb dX5_cellAt_11 (by decide) (fun c3 => ?_) (fun c3 => ?_)
  · have h := g_ifp c3 h
    refine lv_iconst (v := -1) hx hb dX5_cellAt_34 (by decide) ?_
    have h := Option.some.inj h
    exact g_iret C P h rfl dX5_cellAt_35
  have h := g_ifn c3 h
  refine lv_iload_n hx hb dX5_cellAt_14 rfl (lv_at hl 2 rfl) ?_
  refine lv_bipush (v := 12) hx hb dX5_cellAt_15 (by decide) ?_
  refine lv_icmp_ge (tgt := 34) hx hb dX5_cellAt_17 (by decide) (fun c4 => ?_) (fun c4 => ?_)
  · have h := g_ifp c4 h
    refine lv_iconst (v := -1) hx hb dX5_cellAt_34 (by decide) ?_
    have h := Option.some.inj h
    exact g_iret C P h rfl dX5_cellAt_35
  have h := g_ifn c4 h
  refine lv_aload_n hx hb dX5_cellAt_20 rfl (lv_at hl 0 rfl) ?_
  refine g_getR C P xl1 rfl inlX5 6 (by decide) wd_47 rfl dX5_cellAt_21 ?_
  refine lv_iload_n hx hb dX5_cellAt_24 rfl (lv_at hl 1 rfl) ?_
  refine lv_bipush (v := 12) hx hb dX5_cellAt_25 (by decide) ?_
  refine lv_imul hx hb dX5_cellAt_27 ?_
  refine lv_iload_n hx hb dX5_cellAt_28 rfl (lv_at hl 2 rfl) ?_
  refine lv_iadd hx hb dX5_cellAt_29 ?_
  obtain ⟨b5, h⟩ := g_ob h
  refine g_iald (j := ((a1 * (12 : Int32)) + a2).toNatClampNeg) C P xl8 b5 rfl dX5_cellAt_30 ?_
  refine lv_goto (tgt := 35) hx hb dX5_cellAt_31 (by decide) ?_
  have h := Option.some.inj h
  exact g_iret C P h rfl dX5_cellAt_35
abbrev rmX7_isPointerCode : Room := { frames := 0, cells := 0, slots := 0, locals := 0 }
theorem kdX7_isPointerCode : yX7_isPointerCode.cls = RX7 ∧ yX7_isPointerCode.cls ≠ "java/lang/invoke/MethodHandle" ∧ yX7_isPointerCode.cls ≠ "java/lang/invoke/VarHandle" ∧ (parseMethodDescriptor yX7_isPointerCode.desc).map (fun d => d.parameters.length) = some 1 := by decide +kernel
set_option maxHeartbeats 4000000 in
set_option maxRecDepth 100000 in
theorem kX7_isPointerCode (l : Launch) (X : gXt) (hJ : gJ X xL) (σ : gS) (a1 : Int32) (q : Int32) (h : qF_isPointerCode a1 = q) : gMi l yX7_isPointerCode (gws yX7_isPointerCode cX7_isPointerCode 1 (some .boolean)) rmX7_isPointerCode X xL [.int a1] σ q σ := by
  refine g_enter (cc := cX7_isPointerCode) (nL := 1) (ret := (some .boolean)) hJ (plainFor_of_name (by decide)) (Nat.le_of_ble_eq_true rfl) ?_
  intro p e s m below meth c ls C P hl
  have C : gC p s m _ meth c RX7 cX7_isPointerCode 1 (some .boolean) X xL := C
  have hx := C.1
  have hb := C.2.1
  have hK := C.2.2.2.2.2.2.2.1
  have hts := C.2.2.2.2.1
  have hl : lv_has ls 1 [(0, .int a1)] := hl
  unfold qF_isPointerCode at h
  refine lv_iload_n hx hb dX7_isPointerCode_0 rfl (lv_at hl 0 rfl) ?_
  refine lv_sipush (v := 1000) hx hb dX7_isPointerCode_1 (by decide) ?_
  refine lv_icmp_lt (tgt := 11) hx hb dX7_isPointerCode_4 (by decide) (fun c1 => ?_) (fun c1 => ?_)
  · have h := g_ifp c1 h
    refine lv_iconst (v := 0) hx hb dX7_isPointerCode_11 (by decide) ?_
    exact g_zret C P rfl h rfl dX7_isPointerCode_12
  have h := g_ifn c1 h
  refine lv_iconst (v := 1) hx hb dX7_isPointerCode_7 (by decide) ?_
  refine lv_goto (tgt := 12) hx hb dX7_isPointerCode_8 (by decide) ?_
  exact g_zret C P rfl h rfl dX7_isPointerCode_12
abbrev rmX7_blockOfCode : Room := { frames := 0, cells := 0, slots := 0, locals := 0 }
theorem kdX7_blockOfCode : yX7_blockOfCode.cls = RX7 ∧ yX7_blockOfCode.cls ≠ "java/lang/invoke/MethodHandle" ∧ yX7_blockOfCode.cls ≠ "java/lang/invoke/VarHandle" ∧ (parseMethodDescriptor yX7_blockOfCode.desc).map (fun d => d.parameters.length) = some 1 := by decide +kernel
set_option maxHeartbeats 4000000 in
set_option maxRecDepth 100000 in
theorem kX7_blockOfCode (l : Launch) (X : gXt) (hJ : gJ X xL) (σ : gS) (a1 : Int32) (q : Int32) (h : qF_blockOfCode a1 = q) : gMi l yX7_blockOfCode (gws yX7_blockOfCode cX7_blockOfCode 1 (some .int)) rmX7_blockOfCode X xL [.int a1] σ q σ := by
  refine g_enter (cc := cX7_blockOfCode) (nL := 1) (ret := (some .int)) hJ (plainFor_of_name (by decide)) (Nat.le_of_ble_eq_true rfl) ?_
  intro p e s m below meth c ls C P hl
  have C : gC p s m _ meth c RX7 cX7_blockOfCode 1 (some .int) X xL := C
  have hx := C.1
  have hb := C.2.1
  have hK := C.2.2.2.2.2.2.2.1
  have hts := C.2.2.2.2.1
  have hl : lv_has ls 1 [(0, .int a1)] := hl
  unfold qF_blockOfCode at h
  refine lv_iload_n hx hb dX7_blockOfCode_0 rfl (lv_at hl 0 rfl) ?_
  refine lv_sipush (v := 1000) hx hb dX7_blockOfCode_1 (by decide) ?_
  refine lv_isub hx hb dX7_blockOfCode_4 ?_
  refine lv_bipush (v := 100) hx hb dX7_blockOfCode_5 (by decide) ?_
  refine lv_idiv hx hb dX7_blockOfCode_7 (by decide) ?_
  exact g_iret C P h rfl dX7_blockOfCode_8
abbrev rmX0_addTargets : Room := { frames := 1, cells := 0, slots := 0, locals := 22 }
theorem kdX0_addTargets : yX0_addTargets.cls = RX0 ∧ yX0_addTargets.cls ≠ "java/lang/invoke/MethodHandle" ∧ yX0_addTargets.cls ≠ "java/lang/invoke/VarHandle" ∧ (parseMethodDescriptor yX0_addTargets.desc).map (fun d => d.parameters.length) = some 2 := by decide +kernel
set_option maxHeartbeats 4000000 in
set_option maxRecDepth 100000 in
theorem kX0_addTargets_2 {p : Program} {l : Launch} {e : Env} {s : State} {m : MethodId} {args : Array Value} {below : List Frame} {meth : Method} {c : Code} {X : gXt} (hJ : gJ X xL) (C : gC p s m args meth c RX0 cX0_addTargets 5 none X xL) (f2_2 : Int32) (k : gS → Option gS) (q : gS) (hk : ∀ (σ' : gS) (H : Heap) (locs : List Loc) (ls : Array Slot), k σ' = some q → gH X xL σ' s H locs → lv_has ls 5 [] → W p l e rmX0_addTargets s m args below meth c H locs 0 0 (MQ below (gQv X xL q) args s 0 0 (gA X xL)) (F0 m 42 ls [])) : ∀ (n : Nat) (σ : gS) (v3 : Int32), qA_addTargets_2 f2_2 k n σ v3 = some q → ∀ (H : Heap) (locs : List Loc) (ls : Array Slot), gH X xL σ s H locs → lv_has ls 5 [(0, .ref (gad X 9)), (1, .ref (gad X 1)), (2, .int f2_2), (3, .int v3)] → W p l e rmX0_addTargets s m args below meth c H locs 0 0 (MQ below (gQv X xL q) args s 0 0 (gA X xL)) (F0 m 2 ls []) := by
  have hx := C.1
  have hb := C.2.1
  have hK := C.2.2.2.2.2.2.2.1
  have hts := C.2.2.2.2.1
  intro n
  induction n with
  | zero => intro σ v3 h; cases h
  | succ n ih =>
    intro σ v3 h H locs ls P hl
    have h : (qS_sizeOf σ f2_2).bind (fun r1 => (if r1 ≤ v3 then k σ else (qS_cellAt σ f2_2 v3).bind (fun r3 => (if (qF_isPointerCode r3) = 0 then qA_addTargets_2 f2_2 k n σ (v3 + 1) else (qA_addReached σ (qF_blockOfCode r3)).bind (fun r5 => qA_addTargets_2 f2_2 k n r5 (v3 + 1)))))) = some q := h
    refine lv_iload_n hx hb dX0_addTargets_2 rfl (lv_at hl 3 rfl) ?_
    refine lv_aload_n hx hb dX0_addTargets_3 rfl (lv_at hl 1 rfl) ?_
    refine lv_iload_n hx hb dX0_addTargets_4 rfl (lv_at hl 2 rfl) ?_
    obtain ⟨r1, hr1, h⟩ := g_bind h
    refine g_callVi (n := 1) (As := [.int f2_2]) (rest := [.int v3]) C P (kX5_sizeOf l X hJ σ f2_2 _ hr1) wd_536 wd_411 wd_412 wd_14 wd_413 rfl rfl kdX5_sizeOf ⟨Nat.le_of_ble_eq_true rfl, Nat.le_of_ble_eq_true rfl⟩ xl1 rfl rfl rfl hl.1 (Nat.le_of_ble_eq_true rfl) dX0_addTargets_5 (fun H locs P => ?_)
    refine lv_icmp_ge (tgt := 42) hx hb dX0_addTargets_8 (by decide) (fun c2 => ?_) (fun c2 => ?_)
    · have h := g_ifp c2 h
      exact hk σ _ _ _ h P (lv_sub hl [] rfl)
    have h := g_ifn c2 h
    refine lv_aload_n hx hb dX0_addTargets_11 rfl (lv_at hl 1 rfl) ?_
    refine lv_iload_n hx hb dX0_addTargets_12 rfl (lv_at hl 2 rfl) ?_
    refine lv_iload_n hx hb dX0_addTargets_13 rfl (lv_at hl 3 rfl) ?_
    obtain ⟨r3, hr3, h⟩ := g_bind h
    refine g_callVi (n := 2) (As := [.int f2_2, .int v3]) (rest := []) C P (kX5_cellAt l X hJ σ f2_2 v3 _ hr3) wd_537 wd_439 wd_440 wd_14 wd_441 rfl rfl kdX5_cellAt ⟨Nat.le_of_ble_eq_true rfl, Nat.le_of_ble_eq_true rfl⟩ xl1 rfl rfl rfl hl.1 (Nat.le_of_ble_eq_true rfl) dX0_addTargets_14 (fun H locs P => ?_)
    refine lv_istore (lv' := [(4, .int r3), (0, .ref (gad X 9)), (1, .ref (gad X 1)), (2, .int f2_2), (3, .int v3)]) hx hb dX0_addTargets_17 hl (by decide) rfl (fun ls hl => ?_)
    refine lv_iload hx hb dX0_addTargets_19 (lv_at hl 0 rfl) ?_
    refine g_callNi (n := 1) (As := [.int r3]) (rest := []) C P (kX7_isPointerCode l X hJ σ r3 _ rfl) wd_444 rfl rfl kdX7_isPointerCode.2 ⟨Nat.le_of_ble_eq_true rfl, Nat.le_of_ble_eq_true rfl⟩ (hK.2 (RX0, 47, yX7_isPointerCode, RX7) (List.mem_of_getElem? (i := 5) rfl)) wd_2 wd_443 rfl rfl hl.1 (Nat.le_of_ble_eq_true rfl) dX0_addTargets_21 (fun H locs P => ?_)
    refine lv_if_eq (tgt := 36) hx hb dX0_addTargets_24 (by decide) (fun c4 => ?_) (fun c4 => ?_)
    · have h := g_ifp c4 h
      refine lv_iinc (v := (v3 + 1)) (lv' := [(3, .int (v3 + 1)), (4, .int r3), (0, .ref (gad X 9)), (1, .ref (gad X 1)), (2, .int f2_2)]) hx hb dX0_addTargets_36 hl (k := 4) rfl rfl (by decide) rfl (fun ls hl => ?_)
      refine lv_goto (tgt := 2) hx hb dX0_addTargets_39 (by decide) ?_
      exact ih σ (v3 + 1) h _ _ _ P (lv_sub hl [2, 3, 4, 0] rfl)
    have h := g_ifn c4 h
    refine lv_aload_n hx hb dX0_addTargets_27 rfl (lv_at hl 1 rfl) ?_
    refine lv_iload hx hb dX0_addTargets_28 (lv_at hl 0 rfl) ?_
    refine g_callNi (n := 1) (As := [.int r3]) (rest := [.ref (gad X 9)]) C P (kX7_blockOfCode l X hJ σ r3 _ rfl) wd_468 rfl rfl kdX7_blockOfCode.2 ⟨Nat.le_of_ble_eq_true rfl, Nat.le_of_ble_eq_true rfl⟩ (hK.2 (RX0, 51, yX7_blockOfCode, RX7) (List.mem_of_getElem? (i := 6) rfl)) wd_2 wd_467 rfl rfl hl.1 (Nat.le_of_ble_eq_true rfl) dX0_addTargets_30 (fun H locs P => ?_)
    obtain ⟨r5, hr5, h⟩ := g_bind h
    refine g_callVv (n := 1) (As := [.int (qF_blockOfCode r3)]) (rest := []) C P (kX0_addReached l X hJ σ (qF_blockOfCode r3) _ hr5) wd_528 wd_529 wd_530 wd_18 wd_531 rfl rfl kdX0_addReached ⟨Nat.le_of_ble_eq_true rfl, Nat.le_of_ble_eq_true rfl⟩ xl9 rfl rfl rfl hl.1 (Nat.le_of_ble_eq_true rfl) dX0_addTargets_33 (fun H locs P => ?_)
    refine lv_iinc (v := (v3 + 1)) (lv' := [(3, .int (v3 + 1)), (4, .int r3), (0, .ref (gad X 9)), (1, .ref (gad X 1)), (2, .int f2_2)]) hx hb dX0_addTargets_36 hl (k := 4) rfl rfl (by decide) rfl (fun ls hl => ?_)
    refine lv_goto (tgt := 2) hx hb dX0_addTargets_39 (by decide) ?_
    exact ih r5 (v3 + 1) h _ _ _ P (lv_sub hl [2, 3, 4, 0] rfl)
set_option maxHeartbeats 4000000 in
set_option maxRecDepth 100000 in
theorem kX0_addTargets (l : Launch) (X : gXt) (hJ : gJ X xL) (σ : gS) (a2 : Int32) (q : gS) (h : qA_addTargets σ a2 = some q) : gMv l yX0_addTargets (gws yX0_addTargets cX0_addTargets 5 none) rmX0_addTargets X xL [.ref (gad X 9), .ref (gad X 1), .int a2] σ q := by
  refine g_enter (cc := cX0_addTargets) (nL := 5) (ret := none) hJ (plainFor_of_name (by decide)) (Nat.le_of_ble_eq_true rfl) ?_
  intro p e s m below meth c ls C P hl
  have C : gC p s m _ meth c RX0 cX0_addTargets 5 none X xL := C
  have hx := C.1
  have hb := C.2.1
  have hK := C.2.2.2.2.2.2.2.1
  have hts := C.2.2.2.2.1
  have hl : lv_has ls 5 [(0, .ref (gad X 9)), (1, .ref (gad X 1)), (2, .int a2)] := hl
  unfold qA_addTargets at h
  refine lv_iconst (v := 0) hx hb dX0_addTargets_0 (by decide) ?_
  refine lv_istore_n (lv' := [(3, .int (0 : Int32)), (0, .ref (gad X 9)), (1, .ref (gad X 1)), (2, .int a2)]) hx hb dX0_addTargets_1 rfl hl (by decide) rfl (fun ls hl => ?_)
  refine kX0_addTargets_2 hJ C a2 _ _ ?_ _ _ _ h _ _ _ P (lv_sub hl [1, 2, 3, 0] rfl)
  intro σ6 H locs ls h P hl
  have h := Option.some.inj h
  exact g_vret C P h dX0_addTargets_42
abbrev rmX0_reach : Room := { frames := 2, cells := 0, slots := 0, locals := 46 }
theorem kdX0_reach : yX0_reach.cls = RX0 ∧ yX0_reach.cls ≠ "java/lang/invoke/MethodHandle" ∧ yX0_reach.cls ≠ "java/lang/invoke/VarHandle" ∧ (parseMethodDescriptor yX0_reach.desc).map (fun d => d.parameters.length) = some 2 := by decide +kernel
set_option maxHeartbeats 4000000 in
set_option maxRecDepth 100000 in
theorem kX0_reach_2 {p : Program} {l : Launch} {e : Env} {s : State} {m : MethodId} {args : Array Value} {below : List Frame} {meth : Method} {c : Code} {X : gXt} (hJ : gJ X xL) (C : gC p s m args meth c RX0 cX0_reach 4 (some .int) X xL) (f2_2 : Int32) (k : gS → Option (Int32 × gS)) (q : Int32 × gS) (hk : ∀ (σ' : gS) (H : Heap) (locs : List Loc) (ls : Array Slot), k σ' = some q → gH X xL σ' s H locs → lv_has ls 4 [(0, .ref (gad X 9)), (1, .ref (gad X 1)), (2, .int f2_2)] → W p l e rmX0_reach s m args below meth c H locs 0 0 (MQ below (gQi X xL q.1 q.2) args s 0 0 (gA X xL)) (F0 m 21 ls [])) : ∀ (n : Nat) (σ : gS) (v3 : Int32), qA_reach_2 f2_2 k n σ v3 = some q → ∀ (H : Heap) (locs : List Loc) (ls : Array Slot), gH X xL σ s H locs → lv_has ls 4 [(0, .ref (gad X 9)), (1, .ref (gad X 1)), (2, .int f2_2), (3, .int v3)] → W p l e rmX0_reach s m args below meth c H locs 0 0 (MQ below (gQi X xL q.1 q.2) args s 0 0 (gA X xL)) (F0 m 2 ls []) := by
  have hx := C.1
  have hb := C.2.1
  have hK := C.2.2.2.2.2.2.2.1
  have hts := C.2.2.2.2.1
  intro n
  induction n with
  | zero => intro σ v3 h; cases h
  | succ n ih =>
    intro σ v3 h H locs ls P hl
    have h : (if (10 : Int32) ≤ v3 then k σ else gob v3 10 (qA_reach_2 f2_2 k n (sM σ 39 v3.toNatClampNeg (-1 : Int32)) (v3 + 1))) = some q := h
    refine lv_iload_n hx hb dX0_reach_2 rfl (lv_at hl 3 rfl) ?_
    refine lv_bipush (v := 10) hx hb dX0_reach_3 (by decide) ?_
    refine lv_icmp_ge (tgt := 21) hx hb dX0_reach_5 (by decide) (fun c1 => ?_) (fun c1 => ?_)
    · have h := g_ifp c1 h
      exact hk σ _ _ _ h P (lv_sub hl [0, 1, 2] rfl)
    have h := g_ifn c1 h
    refine lv_aload_n hx hb dX0_reach_8 rfl (lv_at hl 0 rfl) ?_
    refine g_getR C P xl9 rfl inlX0 2 (by decide) wd_58 rfl dX0_reach_9 ?_
    refine lv_iload_n hx hb dX0_reach_12 rfl (lv_at hl 3 rfl) ?_
    refine lv_iconst (v := -1) hx hb dX0_reach_13 (by decide) ?_
    obtain ⟨b2, h⟩ := g_ob h
    refine g_iast (j := v3.toNatClampNeg) C P xl39 b2 rfl dX0_reach_14 (fun H locs P => ?_)
    refine lv_iinc (v := (v3 + 1)) (lv' := [(3, .int (v3 + 1)), (0, .ref (gad X 9)), (1, .ref (gad X 1)), (2, .int f2_2)]) hx hb dX0_reach_15 hl (k := 3) rfl rfl (by decide) rfl (fun ls hl => ?_)
    refine lv_goto (tgt := 2) hx hb dX0_reach_18 (by decide) ?_
    exact ih (sM σ 39 v3.toNatClampNeg (-1 : Int32)) (v3 + 1) h _ _ _ P (lv_sub hl [1, 2, 3, 0] rfl)
set_option maxHeartbeats 4000000 in
set_option maxRecDepth 100000 in
theorem kX0_reach_33 {p : Program} {l : Launch} {e : Env} {s : State} {m : MethodId} {args : Array Value} {below : List Frame} {meth : Method} {c : Code} {X : gXt} (hJ : gJ X xL) (C : gC p s m args meth c RX0 cX0_reach 4 (some .int) X xL) (k : gS → Option (Int32 × gS)) (q : Int32 × gS) (hk : ∀ (σ' : gS) (H : Heap) (locs : List Loc) (ls : Array Slot), k σ' = some q → gH X xL σ' s H locs → lv_has ls 4 [(0, .ref (gad X 9))] → W p l e rmX0_reach s m args below meth c H locs 0 0 (MQ below (gQi X xL q.1 q.2) args s 0 0 (gA X xL)) (F0 m 64 ls [])) : ∀ (n : Nat) (σ : gS) (v3 : Int32), qA_reach_33 k n σ v3 = some q → ∀ (H : Heap) (locs : List Loc) (ls : Array Slot), gH X xL σ s H locs → lv_has ls 4 [(0, .ref (gad X 9)), (1, .ref (gad X 1)), (3, .int v3)] → W p l e rmX0_reach s m args below meth c H locs 0 0 (MQ below (gQi X xL q.1 q.2) args s 0 0 (gA X xL)) (F0 m 33 ls []) := by
  have hx := C.1
  have hb := C.2.1
  have hK := C.2.2.2.2.2.2.2.1
  have hts := C.2.2.2.2.1
  intro n
  induction n with
  | zero => intro σ v3 h; cases h
  | succ n ih =>
    intro σ v3 h H locs ls P hl
    have h : (if (gI σ 9 3) ≤ v3 then k σ else (if (10 : Int32) ≤ v3 then k σ else gob v3 10 ((qA_addTargets σ (gM σ 38 v3.toNatClampNeg)).bind (fun r8 => qA_reach_33 k n r8 (v3 + 1))))) = some q := h
    refine lv_iload_n hx hb dX0_reach_33 rfl (lv_at hl 2 rfl) ?_
    refine lv_aload_n hx hb dX0_reach_34 rfl (lv_at hl 0 rfl) ?_
    refine g_getI C P xl9 rfl inlX0 3 (by decide) wd_527 rfl dX0_reach_35 ?_
    refine lv_icmp_ge (tgt := 64) hx hb dX0_reach_38 (by decide) (fun c5 => ?_) (fun c5 => ?_)
    · have h := g_ifp c5 h
      exact hk σ _ _ _ h P (lv_sub hl [0] rfl)
    have h := g_ifn c5 h
    refine lv_iload_n hx hb dX0_reach_41 rfl (lv_at hl 2 rfl) ?_
    refine lv_bipush (v := 10) hx hb dX0_reach_42 (by decide) ?_
    refine lv_icmp_ge (tgt := 64) hx hb dX0_reach_44 (by decide) (fun c6 => ?_) (fun c6 => ?_)
    · have h := g_ifp c6 h
      exact hk σ _ _ _ h P (lv_sub hl [0] rfl)
    have h := g_ifn c6 h
    refine lv_aload_n hx hb dX0_reach_47 rfl (lv_at hl 0 rfl) ?_
    refine lv_aload_n hx hb dX0_reach_48 rfl (lv_at hl 1 rfl) ?_
    refine lv_aload_n hx hb dX0_reach_49 rfl (lv_at hl 0 rfl) ?_
    refine g_getR C P xl9 rfl inlX0 1 (by decide) wd_57 rfl dX0_reach_50 ?_
    refine lv_iload_n hx hb dX0_reach_53 rfl (lv_at hl 2 rfl) ?_
    obtain ⟨b7, h⟩ := g_ob h
    refine g_iald (j := v3.toNatClampNeg) C P xl38 b7 rfl dX0_reach_54 ?_
    obtain ⟨r8, hr8, h⟩ := g_bind h
    refine g_callVv (n := 2) (As := [.ref (gad X 1), .int (gM σ 38 v3.toNatClampNeg)]) (rest := []) C P (kX0_addTargets l X hJ σ (gM σ 38 v3.toNatClampNeg) _ hr8) wd_532 wd_533 wd_534 wd_18 wd_535 rfl rfl kdX0_addTargets ⟨Nat.le_of_ble_eq_true rfl, Nat.le_of_ble_eq_true rfl⟩ xl9 rfl rfl rfl hl.1 (Nat.le_of_ble_eq_true rfl) dX0_reach_55 (fun H locs P => ?_)
    refine lv_iinc (v := (v3 + 1)) (lv' := [(3, .int (v3 + 1)), (0, .ref (gad X 9)), (1, .ref (gad X 1))]) hx hb dX0_reach_58 hl (k := 2) rfl rfl (by decide) rfl (fun ls hl => ?_)
    refine lv_goto (tgt := 33) hx hb dX0_reach_61 (by decide) ?_
    exact ih r8 (v3 + 1) h _ _ _ P (lv_sub hl [1, 2, 0] rfl)
set_option maxHeartbeats 4000000 in
set_option maxRecDepth 100000 in
theorem kX0_reach (l : Launch) (X : gXt) (hJ : gJ X xL) (σ : gS) (a2 : Int32) (q : Int32 × gS) (h : qA_reach σ a2 = some q) : gMi l yX0_reach (gws yX0_reach cX0_reach 4 (some .int)) rmX0_reach X xL [.ref (gad X 9), .ref (gad X 1), .int a2] σ q.1 q.2 := by
  refine g_enter (cc := cX0_reach) (nL := 4) (ret := (some .int)) hJ (plainFor_of_name (by decide)) (Nat.le_of_ble_eq_true rfl) ?_
  intro p e s m below meth c ls C P hl
  have C : gC p s m _ meth c RX0 cX0_reach 4 (some .int) X xL := C
  have hx := C.1
  have hb := C.2.1
  have hK := C.2.2.2.2.2.2.2.1
  have hts := C.2.2.2.2.1
  have hl : lv_has ls 4 [(0, .ref (gad X 9)), (1, .ref (gad X 1)), (2, .int a2)] := hl
  unfold qA_reach at h
  refine lv_iconst (v := 0) hx hb dX0_reach_0 (by decide) ?_
  refine lv_istore_n (lv' := [(3, .int (0 : Int32)), (0, .ref (gad X 9)), (1, .ref (gad X 1)), (2, .int a2)]) hx hb dX0_reach_1 rfl hl (by decide) rfl (fun ls hl => ?_)
  refine kX0_reach_2 hJ C a2 _ _ ?_ _ _ _ h _ _ _ P (lv_sub hl [1, 2, 3, 0] rfl)
  intro σ3 H locs ls h P hl
  refine lv_aload_n hx hb dX0_reach_21 rfl (lv_at hl 0 rfl) ?_
  refine lv_iconst (v := 0) hx hb dX0_reach_22 (by decide) ?_
  refine g_putI C P xl9 rfl inlX0 tyX0 tyX0_ok nmX0 3 (by decide) wd_527 rfl rfl rfl rfl dX0_reach_23 (fun H locs P => ?_)
  refine lv_aload_n hx hb dX0_reach_26 rfl (lv_at hl 0 rfl) ?_
  refine lv_iload_n hx hb dX0_reach_27 rfl (lv_at hl 2 rfl) ?_
  obtain ⟨r4, hr4, h⟩ := g_bind h
  refine g_callVv (n := 1) (As := [.int a2]) (rest := []) C P (kX0_addReached l X hJ (sI σ3 9 3 (0 : Int32)) a2 _ hr4) wd_528 wd_529 wd_530 wd_18 wd_531 rfl rfl kdX0_addReached ⟨Nat.le_of_ble_eq_true rfl, Nat.le_of_ble_eq_true rfl⟩ xl9 rfl rfl rfl hl.1 (Nat.le_of_ble_eq_true rfl) dX0_reach_28 (fun H locs P => ?_)
  refine lv_iconst (v := 0) hx hb dX0_reach_31 (by decide) ?_
  refine lv_istore_n (lv' := [(3, .int (0 : Int32)), (0, .ref (gad X 9)), (1, .ref (gad X 1)), (2, .int a2)]) hx hb dX0_reach_32 rfl hl (by decide) rfl (fun ls hl => ?_)
  refine kX0_reach_33 hJ C _ _ ?_ _ _ _ h _ _ _ P (lv_sub hl [1, 2, 0] rfl)
  intro σ9 H locs ls h P hl
  refine lv_aload_n hx hb dX0_reach_64 rfl (lv_at hl 0 rfl) ?_
  refine g_getI C P xl9 rfl inlX0 3 (by decide) wd_527 rfl dX0_reach_65 ?_
  have h := Option.some.inj h
  exact g_iret C P (g_fst h) (g_snd h) dX0_reach_68
abbrev rmX5_isLive : Room := { frames := 0, cells := 0, slots := 0, locals := 0 }
theorem kdX5_isLive : yX5_isLive.cls = RX5 ∧ yX5_isLive.cls ≠ "java/lang/invoke/MethodHandle" ∧ yX5_isLive.cls ≠ "java/lang/invoke/VarHandle" ∧ (parseMethodDescriptor yX5_isLive.desc).map (fun d => d.parameters.length) = some 1 := by decide +kernel
set_option maxHeartbeats 4000000 in
set_option maxRecDepth 100000 in
theorem kX5_isLive (l : Launch) (X : gXt) (hJ : gJ X xL) (σ : gS) (a1 : Int32) (q : Int32) (h : qS_isLive σ a1 = some q) : gMi l yX5_isLive (gws yX5_isLive cX5_isLive 2 (some .boolean)) rmX5_isLive X xL [.ref (gad X 1), .int a1] σ q σ := by
  refine g_enter (cc := cX5_isLive) (nL := 2) (ret := (some .boolean)) hJ (plainFor_of_name (by decide)) (Nat.le_of_ble_eq_true rfl) ?_
  intro p e s m below meth c ls C P hl
  have C : gC p s m _ meth c RX5 cX5_isLive 2 (some .boolean) X xL := C
  have hx := C.1
  have hb := C.2.1
  have hK := C.2.2.2.2.2.2.2.1
  have hts := C.2.2.2.2.1
  have hl : lv_has ls 2 [(0, .ref (gad X 1)), (1, .int a1)] := hl
  unfold qS_isLive at h
  refine lv_iload_n hx hb dX5_isLive_0 rfl (lv_at hl 1 rfl) ?_
  refine lv_if_lt (tgt := 24) hx hb dX5_isLive_1 (by decide) (fun c1 => ?_) (fun c1 => ?_)
  · have h := g_ifp c1 h
    refine lv_iconst (v := 0) hx hb dX5_isLive_24 (by decide) ?_
    have h := Option.some.inj h
    exact g_zret C P rfl h rfl dX5_isLive_25
  have h := g_ifn c1 h
  refine lv_iload_n hx hb dX5_isLive_4 rfl (lv_at hl 1 rfl) ?_
  refine lv_bipush (v := 10) hx hb dX5_isLive_5 (by decide) ?_
  refine lv_icmp_ge (tgt := 24) hx hb dX5_isLive_7 (by decide) (fun c2 => ?_) (fun c2 => ?_)
  · have h := g_ifp c2 h
    refine lv_iconst (v := 0) hx hb dX5_isLive_24 (by decide) ?_
    have h := Option.some.inj h
    exact g_zret C P rfl h rfl dX5_isLive_25
  have h := g_ifn c2 h
  refine lv_aload_n hx hb dX5_isLive_10 rfl (lv_at hl 0 rfl) ?_
  refine g_getR C P xl1 rfl inlX5 4 (by decide) wd_45 rfl dX5_isLive_11 ?_
  refine lv_iload_n hx hb dX5_isLive_14 rfl (lv_at hl 1 rfl) ?_
  obtain ⟨b3, h⟩ := g_ob h
  refine g_iald (j := a1.toNatClampNeg) C P xl6 b3 rfl dX5_isLive_15 ?_
  refine lv_iconst (v := 1) hx hb dX5_isLive_16 (by decide) ?_
  refine lv_icmp_ne (tgt := 24) hx hb dX5_isLive_17 (by decide) (fun c4 => ?_) (fun c4 => ?_)
  · have h := g_ifn c4 h
    refine lv_iconst (v := 0) hx hb dX5_isLive_24 (by decide) ?_
    have h := Option.some.inj h
    exact g_zret C P rfl h rfl dX5_isLive_25
  have h := g_ifp c4 h
  refine lv_iconst (v := 1) hx hb dX5_isLive_20 (by decide) ?_
  refine lv_goto (tgt := 25) hx hb dX5_isLive_21 (by decide) ?_
  have h := Option.some.inj h
  exact g_zret C P rfl h rfl dX5_isLive_25
abbrev rmX0_allReachedLive : Room := { frames := 1, cells := 0, slots := 0, locals := 21 }
theorem kdX0_allReachedLive : yX0_allReachedLive.cls = RX0 ∧ yX0_allReachedLive.cls ≠ "java/lang/invoke/MethodHandle" ∧ yX0_allReachedLive.cls ≠ "java/lang/invoke/VarHandle" ∧ (parseMethodDescriptor yX0_allReachedLive.desc).map (fun d => d.parameters.length) = some 1 := by decide +kernel
set_option maxHeartbeats 4000000 in
set_option maxRecDepth 100000 in
theorem kX0_allReachedLive_2 {p : Program} {l : Launch} {e : Env} {s : State} {m : MethodId} {args : Array Value} {below : List Frame} {meth : Method} {c : Code} {X : gXt} (hJ : gJ X xL) (C : gC p s m args meth c RX0 cX0_allReachedLive 3 (some .boolean) X xL) (σ : gS) (k : Unit → Option Int32) (q : Int32) (hk : ∀ (u : Unit) (H : Heap) (locs : List Loc) (ls : Array Slot), k u = some q → gH X xL σ s H locs → lv_has ls 3 [] → W p l e rmX0_allReachedLive s m args below meth c H locs 0 0 (MQ below (gQi X xL q σ) args s 0 0 (gA X xL)) (F0 m 37 ls [])) : ∀ (n : Nat) (v2 : Int32), qA_allReachedLive_2 σ k n v2 = some q → ∀ (H : Heap) (locs : List Loc) (ls : Array Slot), gH X xL σ s H locs → lv_has ls 3 [(0, .ref (gad X 9)), (1, .ref (gad X 1)), (2, .int v2)] → W p l e rmX0_allReachedLive s m args below meth c H locs 0 0 (MQ below (gQi X xL q σ) args s 0 0 (gA X xL)) (F0 m 2 ls []) := by
  have hx := C.1
  have hb := C.2.1
  have hK := C.2.2.2.2.2.2.2.1
  have hts := C.2.2.2.2.1
  intro n
  induction n with
  | zero => intro v2 h; cases h
  | succ n ih =>
    intro v2 h H locs ls P hl
    have h : (if (gI σ 9 3) ≤ v2 then k () else (if (10 : Int32) ≤ v2 then k () else gob v2 10 ((qS_isLive σ (gM σ 38 v2.toNatClampNeg)).bind (fun r4 => (if r4 = 0 then some (0 : Int32) else qA_allReachedLive_2 σ k n (v2 + 1)))))) = some q := h
    refine lv_iload_n hx hb dX0_allReachedLive_2 rfl (lv_at hl 2 rfl) ?_
    refine lv_aload_n hx hb dX0_allReachedLive_3 rfl (lv_at hl 0 rfl) ?_
    refine g_getI C P xl9 rfl inlX0 3 (by decide) wd_527 rfl dX0_allReachedLive_4 ?_
    refine lv_icmp_ge (tgt := 37) hx hb dX0_allReachedLive_7 (by decide) (fun c1 => ?_) (fun c1 => ?_)
    · have h := g_ifp c1 h
      exact hk () _ _ _ h P (lv_sub hl [] rfl)
    have h := g_ifn c1 h
    refine lv_iload_n hx hb dX0_allReachedLive_10 rfl (lv_at hl 2 rfl) ?_
    refine lv_bipush (v := 10) hx hb dX0_allReachedLive_11 (by decide) ?_
    refine lv_icmp_ge (tgt := 37) hx hb dX0_allReachedLive_13 (by decide) (fun c2 => ?_) (fun c2 => ?_)
    · have h := g_ifp c2 h
      exact hk () _ _ _ h P (lv_sub hl [] rfl)
    have h := g_ifn c2 h
    refine lv_aload_n hx hb dX0_allReachedLive_16 rfl (lv_at hl 1 rfl) ?_
    refine lv_aload_n hx hb dX0_allReachedLive_17 rfl (lv_at hl 0 rfl) ?_
    refine g_getR C P xl9 rfl inlX0 1 (by decide) wd_57 rfl dX0_allReachedLive_18 ?_
    refine lv_iload_n hx hb dX0_allReachedLive_21 rfl (lv_at hl 2 rfl) ?_
    obtain ⟨b3, h⟩ := g_ob h
    refine g_iald (j := v2.toNatClampNeg) C P xl38 b3 rfl dX0_allReachedLive_22 ?_
    obtain ⟨r4, hr4, h⟩ := g_bind h
    refine g_callVi (n := 1) (As := [.int (gM σ 38 v2.toNatClampNeg)]) (rest := []) C P (kX5_isLive l X hJ σ (gM σ 38 v2.toNatClampNeg) _ hr4) wd_542 wd_344 wd_345 wd_14 wd_346 rfl rfl kdX5_isLive ⟨Nat.le_of_ble_eq_true rfl, Nat.le_of_ble_eq_true rfl⟩ xl1 rfl rfl rfl hl.1 (Nat.le_of_ble_eq_true rfl) dX0_allReachedLive_23 (fun H locs P => ?_)
    refine lv_if_ne (tgt := 31) hx hb dX0_allReachedLive_26 (by decide) (fun c5 => ?_) (fun c5 => ?_)
    · have h := g_ifn c5 h
      refine lv_iinc (v := (v2 + 1)) (lv' := [(2, .int (v2 + 1)), (0, .ref (gad X 9)), (1, .ref (gad X 1))]) hx hb dX0_allReachedLive_31 hl (k := 2) rfl rfl (by decide) rfl (fun ls hl => ?_)
      refine lv_goto (tgt := 2) hx hb dX0_allReachedLive_34 (by decide) ?_
      exact ih (v2 + 1) h _ _ _ P (lv_sub hl [1, 2, 0] rfl)
    have h := g_ifp c5 h
    refine lv_iconst (v := 0) hx hb dX0_allReachedLive_29 (by decide) ?_
    have h := Option.some.inj h
    exact g_zret C P rfl h rfl dX0_allReachedLive_30
set_option maxHeartbeats 4000000 in
set_option maxRecDepth 100000 in
theorem kX0_allReachedLive (l : Launch) (X : gXt) (hJ : gJ X xL) (σ : gS) (q : Int32) (h : qA_allReachedLive σ = some q) : gMi l yX0_allReachedLive (gws yX0_allReachedLive cX0_allReachedLive 3 (some .boolean)) rmX0_allReachedLive X xL [.ref (gad X 9), .ref (gad X 1)] σ q σ := by
  refine g_enter (cc := cX0_allReachedLive) (nL := 3) (ret := (some .boolean)) hJ (plainFor_of_name (by decide)) (Nat.le_of_ble_eq_true rfl) ?_
  intro p e s m below meth c ls C P hl
  have C : gC p s m _ meth c RX0 cX0_allReachedLive 3 (some .boolean) X xL := C
  have hx := C.1
  have hb := C.2.1
  have hK := C.2.2.2.2.2.2.2.1
  have hts := C.2.2.2.2.1
  have hl : lv_has ls 3 [(0, .ref (gad X 9)), (1, .ref (gad X 1))] := hl
  unfold qA_allReachedLive at h
  refine lv_iconst (v := 0) hx hb dX0_allReachedLive_0 (by decide) ?_
  refine lv_istore_n (lv' := [(2, .int (0 : Int32)), (0, .ref (gad X 9)), (1, .ref (gad X 1))]) hx hb dX0_allReachedLive_1 rfl hl (by decide) rfl (fun ls hl => ?_)
  refine kX0_allReachedLive_2 hJ C σ _ _ ?_ _ _ h _ _ _ P (lv_sub hl [1, 2, 0] rfl)
  intro _ H locs ls h P hl
  refine lv_iconst (v := 1) hx hb dX0_allReachedLive_37 (by decide) ?_
  have h := Option.some.inj h
  exact g_zret C P rfl h rfl dX0_allReachedLive_38
abbrev rmX5_markConstant : Room := { frames := 0, cells := 0, slots := 0, locals := 0 }
theorem kdX5_markConstant : yX5_markConstant.cls = RX5 ∧ yX5_markConstant.cls ≠ "java/lang/invoke/MethodHandle" ∧ yX5_markConstant.cls ≠ "java/lang/invoke/VarHandle" ∧ (parseMethodDescriptor yX5_markConstant.desc).map (fun d => d.parameters.length) = some 1 := by decide +kernel
set_option maxHeartbeats 4000000 in
set_option maxRecDepth 100000 in
theorem kX5_markConstant (l : Launch) (X : gXt) (hJ : gJ X xL) (σ : gS) (a1 : Int32) (q : gS) (h : qS_markConstant σ a1 = some q) : gMv l yX5_markConstant (gws yX5_markConstant cX5_markConstant 2 none) rmX5_markConstant X xL [.ref (gad X 1), .int a1] σ q := by
  refine g_enter (cc := cX5_markConstant) (nL := 2) (ret := none) hJ (plainFor_of_name (by decide)) (Nat.le_of_ble_eq_true rfl) ?_
  intro p e s m below meth c ls C P hl
  have C : gC p s m _ meth c RX5 cX5_markConstant 2 none X xL := C
  have hx := C.1
  have hb := C.2.1
  have hK := C.2.2.2.2.2.2.2.1
  have hts := C.2.2.2.2.1
  have hl : lv_has ls 2 [(0, .ref (gad X 1)), (1, .int a1)] := hl
  unfold qS_markConstant at h
  refine lv_iload_n hx hb dX5_markConstant_0 rfl (lv_at hl 1 rfl) ?_
  refine lv_if_lt (tgt := 17) hx hb dX5_markConstant_1 (by decide) (fun c1 => ?_) (fun c1 => ?_)
  · have h := g_ifp c1 h
    have h := Option.some.inj h
    exact g_vret C P h dX5_markConstant_17
  have h := g_ifn c1 h
  refine lv_iload_n hx hb dX5_markConstant_4 rfl (lv_at hl 1 rfl) ?_
  refine lv_bipush (v := 10) hx hb dX5_markConstant_5 (by decide) ?_
  refine lv_icmp_ge (tgt := 17) hx hb dX5_markConstant_7 (by decide) (fun c2 => ?_) (fun c2 => ?_)
  · have h := g_ifp c2 h
    have h := Option.some.inj h
    exact g_vret C P h dX5_markConstant_17
  have h := g_ifn c2 h
  refine lv_aload_n hx hb dX5_markConstant_10 rfl (lv_at hl 0 rfl) ?_
  refine g_getR C P xl1 rfl inlX5 5 (by decide) wd_46 rfl dX5_markConstant_11 ?_
  refine lv_iload_n hx hb dX5_markConstant_14 rfl (lv_at hl 1 rfl) ?_
  refine lv_iconst (v := 1) hx hb dX5_markConstant_15 (by decide) ?_
  obtain ⟨b3, h⟩ := g_ob h
  refine g_iast (j := a1.toNatClampNeg) C P xl7 b3 rfl dX5_markConstant_16 (fun H locs P => ?_)
  have h := Option.some.inj h
  exact g_vret C P h dX5_markConstant_17
abbrev rmX0_markReachedConstant : Room := { frames := 1, cells := 0, slots := 0, locals := 21 }
theorem kdX0_markReachedConstant : yX0_markReachedConstant.cls = RX0 ∧ yX0_markReachedConstant.cls ≠ "java/lang/invoke/MethodHandle" ∧ yX0_markReachedConstant.cls ≠ "java/lang/invoke/VarHandle" ∧ (parseMethodDescriptor yX0_markReachedConstant.desc).map (fun d => d.parameters.length) = some 1 := by decide +kernel
set_option maxHeartbeats 4000000 in
set_option maxRecDepth 100000 in
theorem kX0_markReachedConstant_2 {p : Program} {l : Launch} {e : Env} {s : State} {m : MethodId} {args : Array Value} {below : List Frame} {meth : Method} {c : Code} {X : gXt} (hJ : gJ X xL) (C : gC p s m args meth c RX0 cX0_markReachedConstant 3 none X xL) (k : gS → Option gS) (q : gS) (hk : ∀ (σ' : gS) (H : Heap) (locs : List Loc) (ls : Array Slot), k σ' = some q → gH X xL σ' s H locs → lv_has ls 3 [] → W p l e rmX0_markReachedConstant s m args below meth c H locs 0 0 (MQ below (gQv X xL q) args s 0 0 (gA X xL)) (F0 m 32 ls [])) : ∀ (n : Nat) (σ : gS) (v2 : Int32), qA_markReachedConstant_2 k n σ v2 = some q → ∀ (H : Heap) (locs : List Loc) (ls : Array Slot), gH X xL σ s H locs → lv_has ls 3 [(0, .ref (gad X 9)), (1, .ref (gad X 1)), (2, .int v2)] → W p l e rmX0_markReachedConstant s m args below meth c H locs 0 0 (MQ below (gQv X xL q) args s 0 0 (gA X xL)) (F0 m 2 ls []) := by
  have hx := C.1
  have hb := C.2.1
  have hK := C.2.2.2.2.2.2.2.1
  have hts := C.2.2.2.2.1
  intro n
  induction n with
  | zero => intro σ v2 h; cases h
  | succ n ih =>
    intro σ v2 h H locs ls P hl
    have h : (if (gI σ 9 3) ≤ v2 then k σ else (if (10 : Int32) ≤ v2 then k σ else gob v2 10 ((qS_markConstant σ (gM σ 38 v2.toNatClampNeg)).bind (fun r4 => qA_markReachedConstant_2 k n r4 (v2 + 1))))) = some q := h
    refine lv_iload_n hx hb dX0_markReachedConstant_2 rfl (lv_at hl 2 rfl) ?_
    refine lv_aload_n hx hb dX0_markReachedConstant_3 rfl (lv_at hl 0 rfl) ?_
    refine g_getI C P xl9 rfl inlX0 3 (by decide) wd_527 rfl dX0_markReachedConstant_4 ?_
    refine lv_icmp_ge (tgt := 32) hx hb dX0_markReachedConstant_7 (by decide) (fun c1 => ?_) (fun c1 => ?_)
    · have h := g_ifp c1 h
      exact hk σ _ _ _ h P (lv_sub hl [] rfl)
    have h := g_ifn c1 h
    refine lv_iload_n hx hb dX0_markReachedConstant_10 rfl (lv_at hl 2 rfl) ?_
    refine lv_bipush (v := 10) hx hb dX0_markReachedConstant_11 (by decide) ?_
    refine lv_icmp_ge (tgt := 32) hx hb dX0_markReachedConstant_13 (by decide) (fun c2 => ?_) (fun c2 => ?_)
    · have h := g_ifp c2 h
      exact hk σ _ _ _ h P (lv_sub hl [] rfl)
    have h := g_ifn c2 h
    refine lv_aload_n hx hb dX0_markReachedConstant_16 rfl (lv_at hl 1 rfl) ?_
    refine lv_aload_n hx hb dX0_markReachedConstant_17 rfl (lv_at hl 0 rfl) ?_
    refine g_getR C P xl9 rfl inlX0 1 (by decide) wd_57 rfl dX0_markReachedConstant_18 ?_
    refine lv_iload_n hx hb dX0_markReachedConstant_21 rfl (lv_at hl 2 rfl) ?_
    obtain ⟨b3, h⟩ := g_ob h
    refine g_iald (j := v2.toNatClampNeg) C P xl38 b3 rfl dX0_markReachedConstant_22 ?_
    obtain ⟨r4, hr4, h⟩ := g_bind h
    refine g_callVv (n := 1) (As := [.int (gM σ 38 v2.toNatClampNeg)]) (rest := []) C P (kX5_markConstant l X hJ σ (gM σ 38 v2.toNatClampNeg) _ hr4) wd_581 wd_582 wd_583 wd_14 wd_584 rfl rfl kdX5_markConstant ⟨Nat.le_of_ble_eq_true rfl, Nat.le_of_ble_eq_true rfl⟩ xl1 rfl rfl rfl hl.1 (Nat.le_of_ble_eq_true rfl) dX0_markReachedConstant_23 (fun H locs P => ?_)
    refine lv_iinc (v := (v2 + 1)) (lv' := [(2, .int (v2 + 1)), (0, .ref (gad X 9)), (1, .ref (gad X 1))]) hx hb dX0_markReachedConstant_26 hl (k := 2) rfl rfl (by decide) rfl (fun ls hl => ?_)
    refine lv_goto (tgt := 2) hx hb dX0_markReachedConstant_29 (by decide) ?_
    exact ih r4 (v2 + 1) h _ _ _ P (lv_sub hl [1, 2, 0] rfl)
set_option maxHeartbeats 4000000 in
set_option maxRecDepth 100000 in
theorem kX0_markReachedConstant (l : Launch) (X : gXt) (hJ : gJ X xL) (σ : gS) (q : gS) (h : qA_markReachedConstant σ = some q) : gMv l yX0_markReachedConstant (gws yX0_markReachedConstant cX0_markReachedConstant 3 none) rmX0_markReachedConstant X xL [.ref (gad X 9), .ref (gad X 1)] σ q := by
  refine g_enter (cc := cX0_markReachedConstant) (nL := 3) (ret := none) hJ (plainFor_of_name (by decide)) (Nat.le_of_ble_eq_true rfl) ?_
  intro p e s m below meth c ls C P hl
  have C : gC p s m _ meth c RX0 cX0_markReachedConstant 3 none X xL := C
  have hx := C.1
  have hb := C.2.1
  have hK := C.2.2.2.2.2.2.2.1
  have hts := C.2.2.2.2.1
  have hl : lv_has ls 3 [(0, .ref (gad X 9)), (1, .ref (gad X 1))] := hl
  unfold qA_markReachedConstant at h
  refine lv_iconst (v := 0) hx hb dX0_markReachedConstant_0 (by decide) ?_
  refine lv_istore_n (lv' := [(2, .int (0 : Int32)), (0, .ref (gad X 9)), (1, .ref (gad X 1))]) hx hb dX0_markReachedConstant_1 rfl hl (by decide) rfl (fun ls hl => ?_)
  refine kX0_markReachedConstant_2 hJ C _ _ ?_ _ _ _ h _ _ _ P (lv_sub hl [1, 2, 0] rfl)
  intro σ5 H locs ls h P hl
  have h := Option.some.inj h
  exact g_vret C P h dX0_markReachedConstant_32
abbrev rmX1_begin : Room := { frames := 0, cells := 0, slots := 0, locals := 0 }
theorem kdX1_begin : yX1_begin.cls = RX1 ∧ yX1_begin.cls ≠ "java/lang/invoke/MethodHandle" ∧ yX1_begin.cls ≠ "java/lang/invoke/VarHandle" ∧ (parseMethodDescriptor yX1_begin.desc).map (fun d => d.parameters.length) = some 0 := by decide +kernel
set_option maxHeartbeats 4000000 in
set_option maxRecDepth 100000 in
theorem kX1_begin (l : Launch) (X : gXt) (hJ : gJ X xL) (σ : gS) (k : Nat) (hk_k : gIm k) (q : gS) (h : qI_begin σ k = some q) : gMv l yX1_begin (gws yX1_begin cX1_begin 1 none) rmX1_begin X xL [.ref (gad X k)] σ q := by
  refine g_enter (cc := cX1_begin) (nL := 1) (ret := none) hJ (plainFor_of_name (by decide)) (Nat.le_of_ble_eq_true rfl) ?_
  intro p e s m below meth c ls C P hl
  have C : gC p s m _ meth c RX1 cX1_begin 1 none X xL := C
  have hx := C.1
  have hb := C.2.1
  have hK := C.2.2.2.2.2.2.2.1
  have hts := C.2.2.2.2.1
  have hl : lv_has ls 1 [(0, .ref (gad X k))] := hl
  unfold qI_begin at h
  refine lv_aload_n hx hb dX1_begin_0 rfl (lv_at hl 0 rfl) ?_
  refine lv_iconst (v := 0) hx hb dX1_begin_1 (by decide) ?_
  refine g_putI C P hk_k.1 rfl inlX1 tyX1 tyX1_ok nmX1 2 (by decide) wd_556 rfl rfl rfl rfl dX1_begin_2 (fun H locs P => ?_)
  have h := Option.some.inj h
  exact g_vret C P h dX1_begin_5
abbrev rmX1_addNode : Room := { frames := 0, cells := 0, slots := 0, locals := 0 }
theorem kdX1_addNode : yX1_addNode.cls = RX1 ∧ yX1_addNode.cls ≠ "java/lang/invoke/MethodHandle" ∧ yX1_addNode.cls ≠ "java/lang/invoke/VarHandle" ∧ (parseMethodDescriptor yX1_addNode.desc).map (fun d => d.parameters.length) = some 1 := by decide +kernel
set_option maxHeartbeats 4000000 in
set_option maxRecDepth 100000 in
theorem kX1_addNode (l : Launch) (X : gXt) (hJ : gJ X xL) (σ : gS) (k : Nat) (a1 : Int32) (hk_k : gIm k) (q : gS) (h : qI_addNode σ k a1 = some q) : gMv l yX1_addNode (gws yX1_addNode cX1_addNode 2 none) rmX1_addNode X xL [.ref (gad X k), .int a1] σ q := by
  refine g_enter (cc := cX1_addNode) (nL := 2) (ret := none) hJ (plainFor_of_name (by decide)) (Nat.le_of_ble_eq_true rfl) ?_
  intro p e s m below meth c ls C P hl
  have C : gC p s m _ meth c RX1 cX1_addNode 2 none X xL := C
  have hx := C.1
  have hb := C.2.1
  have hK := C.2.2.2.2.2.2.2.1
  have hts := C.2.2.2.2.1
  have hl : lv_has ls 2 [(0, .ref (gad X k)), (1, .int a1)] := hl
  unfold qI_addNode at h
  refine lv_aload_n hx hb dX1_addNode_0 rfl (lv_at hl 0 rfl) ?_
  refine g_getI C P hk_k.1 rfl inlX1 2 (by decide) wd_556 rfl dX1_addNode_1 ?_
  refine lv_if_lt (tgt := 36) hx hb dX1_addNode_4 (by decide) (fun c1 => ?_) (fun c1 => ?_)
  · have h := g_ifp c1 h
    have h := Option.some.inj h
    exact g_vret C P h dX1_addNode_36
  have h := g_ifn c1 h
  refine lv_aload_n hx hb dX1_addNode_7 rfl (lv_at hl 0 rfl) ?_
  refine g_getI C P hk_k.1 rfl inlX1 2 (by decide) wd_556 rfl dX1_addNode_8 ?_
  refine lv_bipush (v := 10) hx hb dX1_addNode_11 (by decide) ?_
  refine lv_icmp_ge (tgt := 36) hx hb dX1_addNode_13 (by decide) (fun c2 => ?_) (fun c2 => ?_)
  · have h := g_ifp c2 h
    have h := Option.some.inj h
    exact g_vret C P h dX1_addNode_36
  have h := g_ifn c2 h
  refine lv_aload_n hx hb dX1_addNode_16 rfl (lv_at hl 0 rfl) ?_
  refine g_getR C P hk_k.1 rfl inlX1 0 (by decide) wd_63 rfl dX1_addNode_17 ?_
  refine lv_aload_n hx hb dX1_addNode_20 rfl (lv_at hl 0 rfl) ?_
  refine g_getI C P hk_k.1 rfl inlX1 2 (by decide) wd_556 rfl dX1_addNode_21 ?_
  refine lv_iload_n hx hb dX1_addNode_24 rfl (lv_at hl 1 rfl) ?_
  obtain ⟨b3, h⟩ := g_ob h
  refine g_iast (j := (gI σ k 2).toNatClampNeg) C P hk_k.2.1 b3 rfl dX1_addNode_25 (fun H locs P => ?_)
  refine lv_aload_n hx hb dX1_addNode_26 rfl (lv_at hl 0 rfl) ?_
  refine lv_aload_n hx hb dX1_addNode_27 rfl (lv_at hl 0 rfl) ?_
  refine g_getI C P hk_k.1 rfl inlX1 2 (by decide) wd_556 rfl dX1_addNode_28 ?_
  refine lv_iconst (v := 1) hx hb dX1_addNode_31 (by decide) ?_
  refine lv_iadd hx hb dX1_addNode_32 ?_
  refine g_putI C P hk_k.1 rfl inlX1 tyX1 tyX1_ok nmX1 2 (by decide) wd_556 rfl rfl rfl rfl dX1_addNode_33 (fun H locs P => ?_)
  have h := Option.some.inj h
  exact g_vret C P h dX1_addNode_36
abbrev rmX7_offsetOfCode : Room := { frames := 0, cells := 0, slots := 0, locals := 0 }
theorem kdX7_offsetOfCode : yX7_offsetOfCode.cls = RX7 ∧ yX7_offsetOfCode.cls ≠ "java/lang/invoke/MethodHandle" ∧ yX7_offsetOfCode.cls ≠ "java/lang/invoke/VarHandle" ∧ (parseMethodDescriptor yX7_offsetOfCode.desc).map (fun d => d.parameters.length) = some 1 := by decide +kernel
set_option maxHeartbeats 4000000 in
set_option maxRecDepth 100000 in
theorem kX7_offsetOfCode (l : Launch) (X : gXt) (hJ : gJ X xL) (σ : gS) (a1 : Int32) (q : Int32) (h : qF_offsetOfCode a1 = q) : gMi l yX7_offsetOfCode (gws yX7_offsetOfCode cX7_offsetOfCode 1 (some .int)) rmX7_offsetOfCode X xL [.int a1] σ q σ := by
  refine g_enter (cc := cX7_offsetOfCode) (nL := 1) (ret := (some .int)) hJ (plainFor_of_name (by decide)) (Nat.le_of_ble_eq_true rfl) ?_
  intro p e s m below meth c ls C P hl
  have C : gC p s m _ meth c RX7 cX7_offsetOfCode 1 (some .int) X xL := C
  have hx := C.1
  have hb := C.2.1
  have hK := C.2.2.2.2.2.2.2.1
  have hts := C.2.2.2.2.1
  have hl : lv_has ls 1 [(0, .int a1)] := hl
  unfold qF_offsetOfCode at h
  refine lv_iload_n hx hb dX7_offsetOfCode_0 rfl (lv_at hl 0 rfl) ?_
  refine lv_sipush (v := 1000) hx hb dX7_offsetOfCode_1 (by decide) ?_
  refine lv_isub hx hb dX7_offsetOfCode_4 ?_
  refine lv_bipush (v := 100) hx hb dX7_offsetOfCode_5 (by decide) ?_
  refine lv_irem hx hb dX7_offsetOfCode_7 (by decide) ?_
  exact g_iret C P h rfl dX7_offsetOfCode_8
abbrev rmX7_pointerCode : Room := { frames := 0, cells := 0, slots := 0, locals := 0 }
theorem kdX7_pointerCode : yX7_pointerCode.cls = RX7 ∧ yX7_pointerCode.cls ≠ "java/lang/invoke/MethodHandle" ∧ yX7_pointerCode.cls ≠ "java/lang/invoke/VarHandle" ∧ (parseMethodDescriptor yX7_pointerCode.desc).map (fun d => d.parameters.length) = some 2 := by decide +kernel
set_option maxHeartbeats 4000000 in
set_option maxRecDepth 100000 in
theorem kX7_pointerCode (l : Launch) (X : gXt) (hJ : gJ X xL) (σ : gS) (a1 : Int32) (a2 : Int32) (q : Int32) (h : qF_pointerCode a1 a2 = q) : gMi l yX7_pointerCode (gws yX7_pointerCode cX7_pointerCode 2 (some .int)) rmX7_pointerCode X xL [.int a1, .int a2] σ q σ := by
  refine g_enter (cc := cX7_pointerCode) (nL := 2) (ret := (some .int)) hJ (plainFor_of_name (by decide)) (Nat.le_of_ble_eq_true rfl) ?_
  intro p e s m below meth c ls C P hl
  have C : gC p s m _ meth c RX7 cX7_pointerCode 2 (some .int) X xL := C
  have hx := C.1
  have hb := C.2.1
  have hK := C.2.2.2.2.2.2.2.1
  have hts := C.2.2.2.2.1
  have hl : lv_has ls 2 [(0, .int a1), (1, .int a2)] := hl
  unfold qF_pointerCode at h
  refine lv_sipush (v := 1000) hx hb dX7_pointerCode_0 (by decide) ?_
  refine lv_bipush (v := 100) hx hb dX7_pointerCode_3 (by decide) ?_
  refine lv_iload_n hx hb dX7_pointerCode_5 rfl (lv_at hl 0 rfl) ?_
  refine lv_imul hx hb dX7_pointerCode_6 ?_
  refine lv_iadd hx hb dX7_pointerCode_7 ?_
  refine lv_iload_n hx hb dX7_pointerCode_8 rfl (lv_at hl 1 rfl) ?_
  refine lv_iadd hx hb dX7_pointerCode_9 ?_
  exact g_iret C P h rfl dX7_pointerCode_10
abbrev rmX0_codeInImage : Room := { frames := 1, cells := 0, slots := 0, locals := 21 }
theorem kdX0_codeInImage : yX0_codeInImage.cls = RX0 ∧ yX0_codeInImage.cls ≠ "java/lang/invoke/MethodHandle" ∧ yX0_codeInImage.cls ≠ "java/lang/invoke/VarHandle" ∧ (parseMethodDescriptor yX0_codeInImage.desc).map (fun d => d.parameters.length) = some 1 := by decide +kernel
set_option maxHeartbeats 4000000 in
set_option maxRecDepth 100000 in
theorem kX0_codeInImage (l : Launch) (X : gXt) (hJ : gJ X xL) (σ : gS) (a1 : Int32) (q : Int32) (h : qA_codeInImage σ a1 = some q) : gMi l yX0_codeInImage (gws yX0_codeInImage cX0_codeInImage 4 (some .int)) rmX0_codeInImage X xL [.ref (gad X 9), .int a1] σ q σ := by
  refine g_enter (cc := cX0_codeInImage) (nL := 4) (ret := (some .int)) hJ (plainFor_of_name (by decide)) (Nat.le_of_ble_eq_true rfl) ?_
  intro p e s m below meth c ls C P hl
  have C : gC p s m _ meth c RX0 cX0_codeInImage 4 (some .int) X xL := C
  have hx := C.1
  have hb := C.2.1
  have hK := C.2.2.2.2.2.2.2.1
  have hts := C.2.2.2.2.1
  have hl : lv_has ls 4 [(0, .ref (gad X 9)), (1, .int a1)] := hl
  unfold qA_codeInImage at h
  refine lv_iload_n hx hb dX0_codeInImage_0 rfl (lv_at hl 1 rfl) ?_
  refine g_callNi (n := 1) (As := [.int a1]) (rest := []) C P (kX7_isPointerCode l X hJ σ a1 _ rfl) wd_444 rfl rfl kdX7_isPointerCode.2 ⟨Nat.le_of_ble_eq_true rfl, Nat.le_of_ble_eq_true rfl⟩ (hK.2 (RX0, 47, yX7_isPointerCode, RX7) (List.mem_of_getElem? (i := 5) rfl)) wd_2 wd_443 rfl rfl hl.1 (Nat.le_of_ble_eq_true rfl) dX0_codeInImage_1 (fun H locs P => ?_)
  refine lv_if_ne (tgt := 9) hx hb dX0_codeInImage_4 (by decide) (fun c1 => ?_) (fun c1 => ?_)
  · have h := g_ifn c1 h
    refine lv_iload_n hx hb dX0_codeInImage_9 rfl (lv_at hl 1 rfl) ?_
    refine g_callNi (n := 1) (As := [.int a1]) (rest := []) C P (kX7_blockOfCode l X hJ σ a1 _ rfl) wd_468 rfl rfl kdX7_blockOfCode.2 ⟨Nat.le_of_ble_eq_true rfl, Nat.le_of_ble_eq_true rfl⟩ (hK.2 (RX0, 51, yX7_blockOfCode, RX7) (List.mem_of_getElem? (i := 6) rfl)) wd_2 wd_467 rfl rfl hl.1 (Nat.le_of_ble_eq_true rfl) dX0_codeInImage_10 (fun H locs P => ?_)
    refine lv_istore_n (lv' := [(2, .int (qF_blockOfCode a1)), (0, .ref (gad X 9)), (1, .int a1)]) hx hb dX0_codeInImage_13 rfl hl (by decide) rfl (fun ls hl => ?_)
    refine lv_iload_n hx hb dX0_codeInImage_14 rfl (lv_at hl 0 rfl) ?_
    refine lv_if_lt (tgt := 33) hx hb dX0_codeInImage_15 (by decide) (fun c2 => ?_) (fun c2 => ?_)
    · have h := g_ifp c2 h
      refine lv_iconst (v := -1) hx hb dX0_codeInImage_33 (by decide) ?_
      refine lv_istore_n (lv' := [(3, .int (-1 : Int32)), (2, .int (qF_blockOfCode a1)), (0, .ref (gad X 9)), (1, .int a1)]) hx hb dX0_codeInImage_34 rfl hl (by decide) rfl (fun ls hl => ?_)
      refine lv_iload_n hx hb dX0_codeInImage_35 rfl (lv_at hl 0 rfl) ?_
      refine lv_iload_n hx hb dX0_codeInImage_36 rfl (lv_at hl 3 rfl) ?_
      refine g_callNi (n := 1) (As := [.int a1]) (rest := [.int (-1 : Int32)]) C P (kX7_offsetOfCode l X hJ σ a1 _ rfl) wd_470 rfl rfl kdX7_offsetOfCode.2 ⟨Nat.le_of_ble_eq_true rfl, Nat.le_of_ble_eq_true rfl⟩ (hK.2 (RX0, 83, yX7_offsetOfCode, RX7) (List.mem_of_getElem? (i := 7) rfl)) wd_2 wd_469 rfl rfl hl.1 (Nat.le_of_ble_eq_true rfl) dX0_codeInImage_37 (fun H locs P => ?_)
      refine g_callNi (n := 2) (As := [.int (-1 : Int32), .int (qF_offsetOfCode a1)]) (rest := []) C P (kX7_pointerCode l X hJ σ (-1 : Int32) (qF_offsetOfCode a1) _ rfl) wd_450 rfl rfl kdX7_pointerCode.2 ⟨Nat.le_of_ble_eq_true rfl, Nat.le_of_ble_eq_true rfl⟩ (hK.2 (RX0, 86, yX7_pointerCode, RX7) (List.mem_of_getElem? (i := 8) rfl)) wd_2 wd_449 rfl rfl hl.1 (Nat.le_of_ble_eq_true rfl) dX0_codeInImage_40 (fun H locs P => ?_)
      have h := Option.some.inj h
      exact g_iret C P h rfl dX0_codeInImage_43
    have h := g_ifn c2 h
    refine lv_iload_n hx hb dX0_codeInImage_18 rfl (lv_at hl 0 rfl) ?_
    refine lv_bipush (v := 10) hx hb dX0_codeInImage_19 (by decide) ?_
    refine lv_icmp_ge (tgt := 33) hx hb dX0_codeInImage_21 (by decide) (fun c3 => ?_) (fun c3 => ?_)
    · have h := g_ifp c3 h
      refine lv_iconst (v := -1) hx hb dX0_codeInImage_33 (by decide) ?_
      refine lv_istore_n (lv' := [(3, .int (-1 : Int32)), (2, .int (qF_blockOfCode a1)), (0, .ref (gad X 9)), (1, .int a1)]) hx hb dX0_codeInImage_34 rfl hl (by decide) rfl (fun ls hl => ?_)
      refine lv_iload_n hx hb dX0_codeInImage_35 rfl (lv_at hl 0 rfl) ?_
      refine lv_iload_n hx hb dX0_codeInImage_36 rfl (lv_at hl 3 rfl) ?_
      refine g_callNi (n := 1) (As := [.int a1]) (rest := [.int (-1 : Int32)]) C P (kX7_offsetOfCode l X hJ σ a1 _ rfl) wd_470 rfl rfl kdX7_offsetOfCode.2 ⟨Nat.le_of_ble_eq_true rfl, Nat.le_of_ble_eq_true rfl⟩ (hK.2 (RX0, 83, yX7_offsetOfCode, RX7) (List.mem_of_getElem? (i := 7) rfl)) wd_2 wd_469 rfl rfl hl.1 (Nat.le_of_ble_eq_true rfl) dX0_codeInImage_37 (fun H locs P => ?_)
      refine g_callNi (n := 2) (As := [.int (-1 : Int32), .int (qF_offsetOfCode a1)]) (rest := []) C P (kX7_pointerCode l X hJ σ (-1 : Int32) (qF_offsetOfCode a1) _ rfl) wd_450 rfl rfl kdX7_pointerCode.2 ⟨Nat.le_of_ble_eq_true rfl, Nat.le_of_ble_eq_true rfl⟩ (hK.2 (RX0, 86, yX7_pointerCode, RX7) (List.mem_of_getElem? (i := 8) rfl)) wd_2 wd_449 rfl rfl hl.1 (Nat.le_of_ble_eq_true rfl) dX0_codeInImage_40 (fun H locs P => ?_)
      have h := Option.some.inj h
      exact g_iret C P h rfl dX0_codeInImage_43
    have h := g_ifn c3 h
    refine lv_aload_n hx hb dX0_codeInImage_24 rfl (lv_at hl 1 rfl) ?_
    refine g_getR C P xl9 rfl inlX0 2 (by decide) wd_58 rfl dX0_codeInImage_25 ?_
    refine lv_iload_n hx hb dX0_codeInImage_28 rfl (lv_at hl 0 rfl) ?_
    obtain ⟨b4, h⟩ := g_ob h
    refine g_iald (j := (qF_blockOfCode a1).toNatClampNeg) C P xl39 b4 rfl dX0_codeInImage_29 ?_
    refine lv_goto (tgt := 34) hx hb dX0_codeInImage_30 (by decide) ?_
    refine lv_istore_n (lv' := [(3, .int (gM σ 39 (qF_blockOfCode a1).toNatClampNeg)), (2, .int (qF_blockOfCode a1)), (0, .ref (gad X 9)), (1, .int a1)]) hx hb dX0_codeInImage_34 rfl hl (by decide) rfl (fun ls hl => ?_)
    refine lv_iload_n hx hb dX0_codeInImage_35 rfl (lv_at hl 0 rfl) ?_
    refine lv_iload_n hx hb dX0_codeInImage_36 rfl (lv_at hl 3 rfl) ?_
    refine g_callNi (n := 1) (As := [.int a1]) (rest := [.int (gM σ 39 (qF_blockOfCode a1).toNatClampNeg)]) C P (kX7_offsetOfCode l X hJ σ a1 _ rfl) wd_470 rfl rfl kdX7_offsetOfCode.2 ⟨Nat.le_of_ble_eq_true rfl, Nat.le_of_ble_eq_true rfl⟩ (hK.2 (RX0, 83, yX7_offsetOfCode, RX7) (List.mem_of_getElem? (i := 7) rfl)) wd_2 wd_469 rfl rfl hl.1 (Nat.le_of_ble_eq_true rfl) dX0_codeInImage_37 (fun H locs P => ?_)
    refine g_callNi (n := 2) (As := [.int (gM σ 39 (qF_blockOfCode a1).toNatClampNeg), .int (qF_offsetOfCode a1)]) (rest := []) C P (kX7_pointerCode l X hJ σ (gM σ 39 (qF_blockOfCode a1).toNatClampNeg) (qF_offsetOfCode a1) _ rfl) wd_450 rfl rfl kdX7_pointerCode.2 ⟨Nat.le_of_ble_eq_true rfl, Nat.le_of_ble_eq_true rfl⟩ (hK.2 (RX0, 86, yX7_pointerCode, RX7) (List.mem_of_getElem? (i := 8) rfl)) wd_2 wd_449 rfl rfl hl.1 (Nat.le_of_ble_eq_true rfl) dX0_codeInImage_40 (fun H locs P => ?_)
    have h := Option.some.inj h
    exact g_iret C P h rfl dX0_codeInImage_43
  have h := g_ifp c1 h
  refine lv_iload_n hx hb dX0_codeInImage_7 rfl (lv_at hl 1 rfl) ?_
  have h := Option.some.inj h
  exact g_iret C P h rfl dX0_codeInImage_8
abbrev rmX1_putCell : Room := { frames := 0, cells := 0, slots := 0, locals := 0 }
theorem kdX1_putCell : yX1_putCell.cls = RX1 ∧ yX1_putCell.cls ≠ "java/lang/invoke/MethodHandle" ∧ yX1_putCell.cls ≠ "java/lang/invoke/VarHandle" ∧ (parseMethodDescriptor yX1_putCell.desc).map (fun d => d.parameters.length) = some 3 := by decide +kernel
set_option maxHeartbeats 4000000 in
set_option maxRecDepth 100000 in
theorem kX1_putCell (l : Launch) (X : gXt) (hJ : gJ X xL) (σ : gS) (k : Nat) (a1 : Int32) (a2 : Int32) (a3 : Int32) (hk_k : gIm k) (q : gS) (h : qI_putCell σ k a1 a2 a3 = some q) : gMv l yX1_putCell (gws yX1_putCell cX1_putCell 4 none) rmX1_putCell X xL [.ref (gad X k), .int a1, .int a2, .int a3] σ q := by
  refine g_enter (cc := cX1_putCell) (nL := 4) (ret := none) hJ (plainFor_of_name (by decide)) (Nat.le_of_ble_eq_true rfl) ?_
  intro p e s m below meth c ls C P hl
  have C : gC p s m _ meth c RX1 cX1_putCell 4 none X xL := C
  have hx := C.1
  have hb := C.2.1
  have hK := C.2.2.2.2.2.2.2.1
  have hts := C.2.2.2.2.1
  have hl : lv_has ls 4 [(0, .ref (gad X k)), (1, .int a1), (2, .int a2), (3, .int a3)] := hl
  unfold qI_putCell at h
  refine lv_iload_n hx hb dX1_putCell_0 rfl (lv_at hl 1 rfl) ?_
  refine lv_if_lt (tgt := 32) hx hb dX1_putCell_1 (by decide) (fun c1 => ?_) (fun c1 => ?_)
  · have h := g_ifp c1 h
    have h := Option.some.inj h
    exact g_vret C P h dX1_putCell_32
  have h := g_ifn c1 h
  refine lv_iload_n hx hb dX1_putCell_4 rfl (lv_at hl 1 rfl) ?_
  refine lv_bipush (v := 10) hx hb dX1_putCell_5 (by decide) ?_
  refine lv_icmp_ge (tgt := 32) hx hb dX1_putCell_7 (by decide) (fun c2 => ?_) (fun c2 => ?_)
  · have h := g_ifp c2 h
    have h := Option.some.inj h
    exact g_vret C P h dX1_putCell_32
  have h := g_ifn c2 h
  refine lv_iload_n hx hb dX1_putCell_10 rfl (lv_at hl 2 rfl) ?_
  refine lv_if_lt (tgt := 32) hx hb dX1_putCell_11 (by decide) (fun c3 => ?_) (fun c3 => ?_)
  · have h := g_ifp c3 h
    have h := Option.some.inj h
    exact g_vret C P h dX1_putCell_32
  have h := g_ifn c3 h
  refine lv_iload_n hx hb dX1_putCell_14 rfl (lv_at hl 2 rfl) ?_
  refine lv_bipush (v := 12) hx hb dX1_putCell_15 (by decide) ?_
  refine lv_icmp_ge (tgt := 32) hx hb dX1_putCell_17 (by decide) (fun c4 => ?_) (fun c4 => ?_)
  · have h := g_ifp c4 h
    have h := Option.some.inj h
    exact g_vret C P h dX1_putCell_32
  have h := g_ifn c4 h
  refine lv_aload_n hx hb dX1_putCell_20 rfl (lv_at hl 0 rfl) ?_
  refine g_getR C P hk_k.1 rfl inlX1 1 (by decide) wd_64 rfl dX1_putCell_21 ?_
  refine lv_iload_n hx hb dX1_putCell_24 rfl (lv_at hl 1 rfl) ?_
  refine lv_bipush (v := 12) hx hb dX1_putCell_25 (by decide) ?_
  refine lv_imul hx hb dX1_putCell_27 ?_
  refine lv_iload_n hx hb dX1_putCell_28 rfl (lv_at hl 2 rfl) ?_
  refine lv_iadd hx hb dX1_putCell_29 ?_
  refine lv_iload_n hx hb dX1_putCell_30 rfl (lv_at hl 3 rfl) ?_
  obtain ⟨b5, h⟩ := g_ob h
  refine g_iast (j := ((a1 * (12 : Int32)) + a2).toNatClampNeg) C P hk_k.2.2 b5 rfl dX1_putCell_31 (fun H locs P => ?_)
  have h := Option.some.inj h
  exact g_vret C P h dX1_putCell_32
abbrev rmX0_draw : Room := { frames := 2, cells := 0, slots := 0, locals := 44 }
theorem kdX0_draw : yX0_draw.cls = RX0 ∧ yX0_draw.cls ≠ "java/lang/invoke/MethodHandle" ∧ yX0_draw.cls ≠ "java/lang/invoke/VarHandle" ∧ (parseMethodDescriptor yX0_draw.desc).map (fun d => d.parameters.length) = some 1 := by decide +kernel
set_option maxHeartbeats 4000000 in
set_option maxRecDepth 100000 in
theorem kX0_draw_50 {p : Program} {l : Launch} {e : Env} {s : State} {m : MethodId} {args : Array Value} {below : List Frame} {meth : Method} {c : Code} {X : gXt} (hJ : gJ X xL) (C : gC p s m args meth c RX0 cX0_draw 6 none X xL) (k50_2 : Nat) (f50_3 : Int32) (f50_4 : Int32) (hk_k50_2 : gIm k50_2) (k : gS → Option gS) (q : gS) (hk : ∀ (σ' : gS) (H : Heap) (locs : List Loc) (ls : Array Slot), k σ' = some q → gH X xL σ' s H locs → lv_has ls 6 [(0, .ref (gad X 9)), (1, .ref (gad X 1)), (2, .ref (gad X k50_2)), (3, .int f50_3)] → W p l e rmX0_draw s m args below meth c H locs 0 0 (MQ below (gQv X xL q) args s 0 0 (gA X xL)) (F0 m 82 ls [])) : ∀ (n : Nat) (σ : gS) (v5 : Int32), qA_draw_50 k50_2 f50_3 f50_4 k n σ v5 = some q → ∀ (H : Heap) (locs : List Loc) (ls : Array Slot), gH X xL σ s H locs → lv_has ls 6 [(0, .ref (gad X 9)), (1, .ref (gad X 1)), (2, .ref (gad X k50_2)), (3, .int f50_3), (4, .int f50_4), (5, .int v5)] → W p l e rmX0_draw s m args below meth c H locs 0 0 (MQ below (gQv X xL q) args s 0 0 (gA X xL)) (F0 m 50 ls []) := by
  have hx := C.1
  have hb := C.2.1
  have hK := C.2.2.2.2.2.2.2.1
  have hts := C.2.2.2.2.1
  intro n
  induction n with
  | zero => intro σ v5 h; cases h
  | succ n ih =>
    intro σ v5 h H locs ls P hl
    have h : (if (12 : Int32) ≤ v5 then k σ else (qS_cellAt σ f50_4 v5).bind (fun r9 => (qA_codeInImage σ r9).bind (fun r10 => (qI_putCell σ k50_2 f50_3 v5 r10).bind (fun r11 => qA_draw_50 k50_2 f50_3 f50_4 k n r11 (v5 + 1))))) = some q := h
    refine lv_iload hx hb dX0_draw_50 (lv_at hl 5 rfl) ?_
    refine lv_bipush (v := 12) hx hb dX0_draw_52 (by decide) ?_
    refine lv_icmp_ge (tgt := 82) hx hb dX0_draw_54 (by decide) (fun c8 => ?_) (fun c8 => ?_)
    · have h := g_ifp c8 h
      exact hk σ _ _ _ h P (lv_sub hl [0, 1, 2, 3] rfl)
    have h := g_ifn c8 h
    refine lv_aload_n hx hb dX0_draw_57 rfl (lv_at hl 2 rfl) ?_
    refine lv_iload_n hx hb dX0_draw_58 rfl (lv_at hl 3 rfl) ?_
    refine lv_iload hx hb dX0_draw_59 (lv_at hl 5 rfl) ?_
    refine lv_aload_n hx hb dX0_draw_61 rfl (lv_at hl 0 rfl) ?_
    refine lv_aload_n hx hb dX0_draw_62 rfl (lv_at hl 1 rfl) ?_
    refine lv_iload hx hb dX0_draw_63 (lv_at hl 4 rfl) ?_
    refine lv_iload hx hb dX0_draw_65 (lv_at hl 5 rfl) ?_
    obtain ⟨r9, hr9, h⟩ := g_bind h
    refine g_callVi (n := 2) (As := [.int f50_4, .int v5]) (rest := [.ref (gad X 9), .int v5, .int f50_3, .ref (gad X k50_2)]) C P (kX5_cellAt l X hJ σ f50_4 v5 _ hr9) wd_537 wd_439 wd_440 wd_14 wd_441 rfl rfl kdX5_cellAt ⟨Nat.le_of_ble_eq_true rfl, Nat.le_of_ble_eq_true rfl⟩ xl1 rfl rfl rfl hl.1 (Nat.le_of_ble_eq_true rfl) dX0_draw_67 (fun H locs P => ?_)
    obtain ⟨r10, hr10, h⟩ := g_bind h
    refine g_callVi (n := 1) (As := [.int r9]) (rest := [.int v5, .int f50_3, .ref (gad X k50_2)]) C P (kX0_codeInImage l X hJ σ r9 _ hr10) wd_561 wd_562 wd_563 wd_18 wd_564 rfl rfl kdX0_codeInImage ⟨Nat.le_of_ble_eq_true rfl, Nat.le_of_ble_eq_true rfl⟩ xl9 rfl rfl rfl hl.1 (Nat.le_of_ble_eq_true rfl) dX0_draw_70 (fun H locs P => ?_)
    obtain ⟨r11, hr11, h⟩ := g_bind h
    refine g_callVv (n := 3) (As := [.int f50_3, .int v5, .int r10]) (rest := []) C P (kX1_putCell l X hJ σ k50_2 f50_3 v5 r10 hk_k50_2 _ hr11) wd_565 wd_566 wd_567 wd_56 wd_568 rfl rfl kdX1_putCell ⟨Nat.le_of_ble_eq_true rfl, Nat.le_of_ble_eq_true rfl⟩ hk_k50_2.1 rfl rfl rfl hl.1 (Nat.le_of_ble_eq_true rfl) dX0_draw_73 (fun H locs P => ?_)
    refine lv_iinc (v := (v5 + 1)) (lv' := [(5, .int (v5 + 1)), (0, .ref (gad X 9)), (1, .ref (gad X 1)), (2, .ref (gad X k50_2)), (3, .int f50_3), (4, .int f50_4)]) hx hb dX0_draw_76 hl (k := 5) rfl rfl (by decide) rfl (fun ls hl => ?_)
    refine lv_goto (tgt := 50) hx hb dX0_draw_79 (by decide) ?_
    exact ih r11 (v5 + 1) h _ _ _ P (lv_sub hl [1, 2, 3, 4, 5, 0] rfl)
set_option maxHeartbeats 4000000 in
set_option maxRecDepth 100000 in
theorem kX0_draw_15 {p : Program} {l : Launch} {e : Env} {s : State} {m : MethodId} {args : Array Value} {below : List Frame} {meth : Method} {c : Code} {X : gXt} (hJ : gJ X xL) (C : gC p s m args meth c RX0 cX0_draw 6 none X xL) (k15_2 : Nat) (hk_k15_2 : gIm k15_2) (k : gS → Option gS) (q : gS) (hk : ∀ (σ' : gS) (H : Heap) (locs : List Loc) (ls : Array Slot), k σ' = some q → gH X xL σ' s H locs → lv_has ls 6 [] → W p l e rmX0_draw s m args below meth c H locs 0 0 (MQ below (gQv X xL q) args s 0 0 (gA X xL)) (F0 m 88 ls [])) : ∀ (n : Nat) (σ : gS) (v3 : Int32), qA_draw_15 k15_2 k n σ v3 = some q → ∀ (H : Heap) (locs : List Loc) (ls : Array Slot), gH X xL σ s H locs → lv_has ls 6 [(0, .ref (gad X 9)), (1, .ref (gad X 1)), (2, .ref (gad X k15_2)), (3, .int v3)] → W p l e rmX0_draw s m args below meth c H locs 0 0 (MQ below (gQv X xL q) args s 0 0 (gA X xL)) (F0 m 15 ls []) := by
  have hx := C.1
  have hb := C.2.1
  have hK := C.2.2.2.2.2.2.2.1
  have hts := C.2.2.2.2.1
  intro n
  induction n with
  | zero => intro σ v3 h; cases h
  | succ n ih =>
    intro σ v3 h H locs ls P hl
    have h : (if (gI σ 9 3) ≤ v3 then k σ else (if (10 : Int32) ≤ v3 then k σ else gob v3 10 ((qS_sizeOf σ (gM σ 38 v3.toNatClampNeg)).bind (fun r6 => (qI_addNode σ k15_2 r6).bind (fun r7 => qA_draw_50 k15_2 v3 (gM σ 38 v3.toNatClampNeg) (fun σ12 => qA_draw_15 k15_2 k n σ12 (v3 + 1)) 8192 r7 (0 : Int32)))))) = some q := h
    refine lv_iload_n hx hb dX0_draw_15 rfl (lv_at hl 3 rfl) ?_
    refine lv_aload_n hx hb dX0_draw_16 rfl (lv_at hl 0 rfl) ?_
    refine g_getI C P xl9 rfl inlX0 3 (by decide) wd_527 rfl dX0_draw_17 ?_
    refine lv_icmp_ge (tgt := 88) hx hb dX0_draw_20 (by decide) (fun c3 => ?_) (fun c3 => ?_)
    · have h := g_ifp c3 h
      exact hk σ _ _ _ h P (lv_sub hl [] rfl)
    have h := g_ifn c3 h
    refine lv_iload_n hx hb dX0_draw_23 rfl (lv_at hl 3 rfl) ?_
    refine lv_bipush (v := 10) hx hb dX0_draw_24 (by decide) ?_
    refine lv_icmp_ge (tgt := 88) hx hb dX0_draw_26 (by decide) (fun c4 => ?_) (fun c4 => ?_)
    · have h := g_ifp c4 h
      exact hk σ _ _ _ h P (lv_sub hl [] rfl)
    have h := g_ifn c4 h
    refine lv_aload_n hx hb dX0_draw_29 rfl (lv_at hl 0 rfl) ?_
    refine g_getR C P xl9 rfl inlX0 1 (by decide) wd_57 rfl dX0_draw_30 ?_
    refine lv_iload_n hx hb dX0_draw_33 rfl (lv_at hl 3 rfl) ?_
    obtain ⟨b5, h⟩ := g_ob h
    refine g_iald (j := v3.toNatClampNeg) C P xl38 b5 rfl dX0_draw_34 ?_
    refine lv_istore (lv' := [(4, .int (gM σ 38 v3.toNatClampNeg)), (0, .ref (gad X 9)), (1, .ref (gad X 1)), (2, .ref (gad X k15_2)), (3, .int v3)]) hx hb dX0_draw_35 hl (by decide) rfl (fun ls hl => ?_)
    refine lv_aload_n hx hb dX0_draw_37 rfl (lv_at hl 3 rfl) ?_
    refine lv_aload_n hx hb dX0_draw_38 rfl (lv_at hl 2 rfl) ?_
    refine lv_iload hx hb dX0_draw_39 (lv_at hl 0 rfl) ?_
    obtain ⟨r6, hr6, h⟩ := g_bind h
    refine g_callVi (n := 1) (As := [.int (gM σ 38 v3.toNatClampNeg)]) (rest := [.ref (gad X k15_2)]) C P (kX5_sizeOf l X hJ σ (gM σ 38 v3.toNatClampNeg) _ hr6) wd_536 wd_411 wd_412 wd_14 wd_413 rfl rfl kdX5_sizeOf ⟨Nat.le_of_ble_eq_true rfl, Nat.le_of_ble_eq_true rfl⟩ xl1 rfl rfl rfl hl.1 (Nat.le_of_ble_eq_true rfl) dX0_draw_41 (fun H locs P => ?_)
    obtain ⟨r7, hr7, h⟩ := g_bind h
    refine g_callVv (n := 1) (As := [.int r6]) (rest := []) C P (kX1_addNode l X hJ σ k15_2 r6 hk_k15_2 _ hr7) wd_557 wd_558 wd_559 wd_56 wd_560 rfl rfl kdX1_addNode ⟨Nat.le_of_ble_eq_true rfl, Nat.le_of_ble_eq_true rfl⟩ hk_k15_2.1 rfl rfl rfl hl.1 (Nat.le_of_ble_eq_true rfl) dX0_draw_44 (fun H locs P => ?_)
    refine lv_iconst (v := 0) hx hb dX0_draw_47 (by decide) ?_
    refine lv_istore (lv' := [(5, .int (0 : Int32)), (4, .int (gM σ 38 v3.toNatClampNeg)), (0, .ref (gad X 9)), (1, .ref (gad X 1)), (2, .ref (gad X k15_2)), (3, .int v3)]) hx hb dX0_draw_48 hl (by decide) rfl (fun ls hl => ?_)
    refine kX0_draw_50 hJ C k15_2 v3 (gM σ 38 v3.toNatClampNeg) hk_k15_2 _ _ ?_ _ _ _ h _ _ _ P (lv_sub hl [2, 3, 4, 5, 1, 0] rfl)
    intro σ12 H locs ls h P hl
    refine lv_iinc (v := (v3 + 1)) (lv' := [(3, .int (v3 + 1)), (0, .ref (gad X 9)), (1, .ref (gad X 1)), (2, .ref (gad X k15_2))]) hx hb dX0_draw_82 hl (k := 3) rfl rfl (by decide) rfl (fun ls hl => ?_)
    refine lv_goto (tgt := 15) hx hb dX0_draw_85 (by decide) ?_
    exact ih σ12 (v3 + 1) h _ _ _ P (lv_sub hl [1, 2, 3, 0] rfl)
set_option maxHeartbeats 4000000 in
set_option maxRecDepth 100000 in
theorem kX0_draw (l : Launch) (X : gXt) (hJ : gJ X xL) (σ : gS) (q : gS) (h : qA_draw σ = some q) : gMv l yX0_draw (gws yX0_draw cX0_draw 6 none) rmX0_draw X xL [.ref (gad X 9), .ref (gad X 1)] σ q := by
  refine g_enter (cc := cX0_draw) (nL := 6) (ret := none) hJ (plainFor_of_name (by decide)) (Nat.le_of_ble_eq_true rfl) ?_
  intro p e s m below meth c ls C P hl
  have C : gC p s m _ meth c RX0 cX0_draw 6 none X xL := C
  have hx := C.1
  have hb := C.2.1
  have hK := C.2.2.2.2.2.2.2.1
  have hts := C.2.2.2.2.1
  have hl : lv_has ls 6 [(0, .ref (gad X 9)), (1, .ref (gad X 1))] := hl
  unfold qA_draw at h
  refine lv_aload_n hx hb dX0_draw_0 rfl (lv_at hl 0 rfl) ?_
  refine lv_aload_n hx hb dX0_draw_1 rfl (lv_at hl 1 rfl) ?_
  refine g_getI C P xl1 rfl inlX5 8 (by decide) wd_547 rfl dX0_draw_2 ?_
  obtain ⟨r1, hr1, h⟩ := g_bind h
  refine g_callVr (n := 1) (As := [.int (gI σ 1 8)]) (rest := []) C P (kX0_imageAt l X hJ σ (gI σ 1 8) _ hr1) wd_548 wd_549 wd_550 wd_18 wd_551 rfl rfl kdX0_imageAt ⟨Nat.le_of_ble_eq_true rfl, Nat.le_of_ble_eq_true rfl⟩ xl9 rfl rfl rfl hl.1 (Nat.le_of_ble_eq_true rfl) dX0_draw_5 (fun H locs P => ?_)
  obtain ⟨hk_r1, h⟩ := g_im h
  refine lv_astore_n (lv' := [(2, .ref (gad X r1)), (0, .ref (gad X 9)), (1, .ref (gad X 1))]) hx hb dX0_draw_8 rfl hl (by decide) rfl (fun ls hl => ?_)
  refine lv_aload_n hx hb dX0_draw_9 rfl (lv_at hl 0 rfl) ?_
  obtain ⟨r2, hr2, h⟩ := g_bind h
  refine g_callVv (n := 0) (As := []) (rest := []) C P (kX1_begin l X hJ σ r1 hk_r1 _ hr2) wd_552 wd_553 wd_554 wd_56 wd_555 rfl rfl kdX1_begin ⟨Nat.le_of_ble_eq_true rfl, Nat.le_of_ble_eq_true rfl⟩ hk_r1.1 rfl rfl rfl hl.1 (Nat.le_of_ble_eq_true rfl) dX0_draw_10 (fun H locs P => ?_)
  refine lv_iconst (v := 0) hx hb dX0_draw_13 (by decide) ?_
  refine lv_istore_n (lv' := [(3, .int (0 : Int32)), (2, .ref (gad X r1)), (0, .ref (gad X 9)), (1, .ref (gad X 1))]) hx hb dX0_draw_14 rfl hl (by decide) rfl (fun ls hl => ?_)
  refine kX0_draw_15 hJ C r1 hk_r1 _ _ ?_ _ _ _ h _ _ _ P (lv_sub hl [2, 3, 1, 0] rfl)
  intro σ13 H locs ls h P hl
  have h := Option.some.inj h
  exact g_vret C P h dX0_draw_88
abbrev rmX1_isSameAs : Room := { frames := 0, cells := 0, slots := 0, locals := 0 }
theorem kdX1_isSameAs : yX1_isSameAs.cls = RX1 ∧ yX1_isSameAs.cls ≠ "java/lang/invoke/MethodHandle" ∧ yX1_isSameAs.cls ≠ "java/lang/invoke/VarHandle" ∧ (parseMethodDescriptor yX1_isSameAs.desc).map (fun d => d.parameters.length) = some 1 := by decide +kernel
set_option maxHeartbeats 4000000 in
set_option maxRecDepth 100000 in
theorem kX1_isSameAs_15 {p : Program} {l : Launch} {e : Env} {s : State} {m : MethodId} {args : Array Value} {below : List Frame} {meth : Method} {c : Code} {X : gXt} (hJ : gJ X xL) (C : gC p s m args meth c RX1 cX1_isSameAs 3 (some .boolean) X xL) (σ : gS) (k15_0 : Nat) (k15_1 : Nat) (hk_k15_0 : gIm k15_0) (hk_k15_1 : gIm k15_1) (k : Unit → Option Int32) (q : Int32) (hk : ∀ (u : Unit) (H : Heap) (locs : List Loc) (ls : Array Slot), k u = some q → gH X xL σ s H locs → lv_has ls 3 [(0, .ref (gad X k15_0)), (1, .ref (gad X k15_1))] → W p l e rmX1_isSameAs s m args below meth c H locs 0 0 (MQ below (gQi X xL q σ) args s 0 0 (gA X xL)) (F0 m 52 ls [])) : ∀ (n : Nat) (v2 : Int32), qI_isSameAs_15 σ k15_0 k15_1 k n v2 = some q → ∀ (H : Heap) (locs : List Loc) (ls : Array Slot), gH X xL σ s H locs → lv_has ls 3 [(0, .ref (gad X k15_0)), (1, .ref (gad X k15_1)), (2, .int v2)] → W p l e rmX1_isSameAs s m args below meth c H locs 0 0 (MQ below (gQi X xL q σ) args s 0 0 (gA X xL)) (F0 m 15 ls []) := by
  have hx := C.1
  have hb := C.2.1
  have hK := C.2.2.2.2.2.2.2.1
  have hts := C.2.2.2.2.1
  intro n
  induction n with
  | zero => intro v2 h; cases h
  | succ n ih =>
    intro v2 h H locs ls P hl
    have h : (if (gI σ k15_0 2) ≤ v2 then k () else (if (10 : Int32) ≤ v2 then k () else gob v2 10 ((if (gM σ (k15_0 + 1) v2.toNatClampNeg) = (gM σ (k15_1 + 1) v2.toNatClampNeg) then qI_isSameAs_15 σ k15_0 k15_1 k n (v2 + 1) else some (0 : Int32))))) = some q := h
    refine lv_iload_n hx hb dX1_isSameAs_15 rfl (lv_at hl 2 rfl) ?_
    refine lv_aload_n hx hb dX1_isSameAs_16 rfl (lv_at hl 0 rfl) ?_
    refine g_getI C P hk_k15_0.1 rfl inlX1 2 (by decide) wd_556 rfl dX1_isSameAs_17 ?_
    refine lv_icmp_ge (tgt := 52) hx hb dX1_isSameAs_20 (by decide) (fun c2 => ?_) (fun c2 => ?_)
    · have h := g_ifp c2 h
      exact hk () _ _ _ h P (lv_sub hl [0, 1] rfl)
    have h := g_ifn c2 h
    refine lv_iload_n hx hb dX1_isSameAs_23 rfl (lv_at hl 2 rfl) ?_
    refine lv_bipush (v := 10) hx hb dX1_isSameAs_24 (by decide) ?_
    refine lv_icmp_ge (tgt := 52) hx hb dX1_isSameAs_26 (by decide) (fun c3 => ?_) (fun c3 => ?_)
    · have h := g_ifp c3 h
      exact hk () _ _ _ h P (lv_sub hl [0, 1] rfl)
    have h := g_ifn c3 h
    refine lv_aload_n hx hb dX1_isSameAs_29 rfl (lv_at hl 0 rfl) ?_
    refine g_getR C P hk_k15_0.1 rfl inlX1 0 (by decide) wd_63 rfl dX1_isSameAs_30 ?_
    refine lv_iload_n hx hb dX1_isSameAs_33 rfl (lv_at hl 2 rfl) ?_
    obtain ⟨b4, h⟩ := g_ob h
    refine g_iald (j := v2.toNatClampNeg) C P hk_k15_0.2.1 b4 rfl dX1_isSameAs_34 ?_
    refine lv_aload_n hx hb dX1_isSameAs_35 rfl (lv_at hl 1 rfl) ?_
    refine g_getR C P hk_k15_1.1 rfl inlX1 0 (by decide) wd_63 rfl dX1_isSameAs_36 ?_
    refine lv_iload_n hx hb dX1_isSameAs_39 rfl (lv_at hl 2 rfl) ?_
    refine g_iald (j := v2.toNatClampNeg) C P hk_k15_1.2.1 b4 rfl dX1_isSameAs_40 ?_
    refine lv_icmp_eq (tgt := 46) hx hb dX1_isSameAs_41 (by decide) (fun c5 => ?_) (fun c5 => ?_)
    · have h := g_ifp c5 h
      refine lv_iinc (v := (v2 + 1)) (lv' := [(2, .int (v2 + 1)), (0, .ref (gad X k15_0)), (1, .ref (gad X k15_1))]) hx hb dX1_isSameAs_46 hl (k := 2) rfl rfl (by decide) rfl (fun ls hl => ?_)
      refine lv_goto (tgt := 15) hx hb dX1_isSameAs_49 (by decide) ?_
      exact ih (v2 + 1) h _ _ _ P (lv_sub hl [1, 2, 0] rfl)
    have h := g_ifn c5 h
    refine lv_iconst (v := 0) hx hb dX1_isSameAs_44 (by decide) ?_
    have h := Option.some.inj h
    exact g_zret C P rfl h rfl dX1_isSameAs_45
set_option maxHeartbeats 4000000 in
set_option maxRecDepth 100000 in
theorem kX1_isSameAs_54 {p : Program} {l : Launch} {e : Env} {s : State} {m : MethodId} {args : Array Value} {below : List Frame} {meth : Method} {c : Code} {X : gXt} (hJ : gJ X xL) (C : gC p s m args meth c RX1 cX1_isSameAs 3 (some .boolean) X xL) (σ : gS) (k54_0 : Nat) (k54_1 : Nat) (hk_k54_0 : gIm k54_0) (hk_k54_1 : gIm k54_1) (k : Unit → Option Int32) (q : Int32) (hk : ∀ (u : Unit) (H : Heap) (locs : List Loc) (ls : Array Slot), k u = some q → gH X xL σ s H locs → lv_has ls 3 [] → W p l e rmX1_isSameAs s m args below meth c H locs 0 0 (MQ below (gQi X xL q σ) args s 0 0 (gA X xL)) (F0 m 94 ls [])) : ∀ (n : Nat) (v2 : Int32), qI_isSameAs_54 σ k54_0 k54_1 k n v2 = some q → ∀ (H : Heap) (locs : List Loc) (ls : Array Slot), gH X xL σ s H locs → lv_has ls 3 [(0, .ref (gad X k54_0)), (1, .ref (gad X k54_1)), (2, .int v2)] → W p l e rmX1_isSameAs s m args below meth c H locs 0 0 (MQ below (gQi X xL q σ) args s 0 0 (gA X xL)) (F0 m 54 ls []) := by
  have hx := C.1
  have hb := C.2.1
  have hK := C.2.2.2.2.2.2.2.1
  have hts := C.2.2.2.2.1
  intro n
  induction n with
  | zero => intro v2 h; cases h
  | succ n ih =>
    intro v2 h H locs ls P hl
    have h : (if ((gI σ k54_0 2) * (12 : Int32)) ≤ v2 then k () else (if (120 : Int32) ≤ v2 then k () else gob v2 120 ((if (gM σ (k54_0 + 2) v2.toNatClampNeg) = (gM σ (k54_1 + 2) v2.toNatClampNeg) then qI_isSameAs_54 σ k54_0 k54_1 k n (v2 + 1) else some (0 : Int32))))) = some q := h
    refine lv_iload_n hx hb dX1_isSameAs_54 rfl (lv_at hl 2 rfl) ?_
    refine lv_aload_n hx hb dX1_isSameAs_55 rfl (lv_at hl 0 rfl) ?_
    refine g_getI C P hk_k54_0.1 rfl inlX1 2 (by decide) wd_556 rfl dX1_isSameAs_56 ?_
    refine lv_bipush (v := 12) hx hb dX1_isSameAs_59 (by decide) ?_
    refine lv_imul hx hb dX1_isSameAs_61 ?_
    refine lv_icmp_ge (tgt := 94) hx hb dX1_isSameAs_62 (by decide) (fun c6 => ?_) (fun c6 => ?_)
    · have h := g_ifp c6 h
      exact hk () _ _ _ h P (lv_sub hl [] rfl)
    have h := g_ifn c6 h
    refine lv_iload_n hx hb dX1_isSameAs_65 rfl (lv_at hl 2 rfl) ?_
    refine lv_bipush (v := 120) hx hb dX1_isSameAs_66 (by decide) ?_
    refine lv_icmp_ge (tgt := 94) hx hb dX1_isSameAs_68 (by decide) (fun c7 => ?_) (fun c7 => ?_)
    · have h := g_ifp c7 h
      exact hk () _ _ _ h P (lv_sub hl [] rfl)
    have h := g_ifn c7 h
    refine lv_aload_n hx hb dX1_isSameAs_71 rfl (lv_at hl 0 rfl) ?_
    refine g_getR C P hk_k54_0.1 rfl inlX1 1 (by decide) wd_64 rfl dX1_isSameAs_72 ?_
    refine lv_iload_n hx hb dX1_isSameAs_75 rfl (lv_at hl 2 rfl) ?_
    obtain ⟨b8, h⟩ := g_ob h
    refine g_iald (j := v2.toNatClampNeg) C P hk_k54_0.2.2 b8 rfl dX1_isSameAs_76 ?_
    refine lv_aload_n hx hb dX1_isSameAs_77 rfl (lv_at hl 1 rfl) ?_
    refine g_getR C P hk_k54_1.1 rfl inlX1 1 (by decide) wd_64 rfl dX1_isSameAs_78 ?_
    refine lv_iload_n hx hb dX1_isSameAs_81 rfl (lv_at hl 2 rfl) ?_
    refine g_iald (j := v2.toNatClampNeg) C P hk_k54_1.2.2 b8 rfl dX1_isSameAs_82 ?_
    refine lv_icmp_eq (tgt := 88) hx hb dX1_isSameAs_83 (by decide) (fun c9 => ?_) (fun c9 => ?_)
    · have h := g_ifp c9 h
      refine lv_iinc (v := (v2 + 1)) (lv' := [(2, .int (v2 + 1)), (0, .ref (gad X k54_0)), (1, .ref (gad X k54_1))]) hx hb dX1_isSameAs_88 hl (k := 2) rfl rfl (by decide) rfl (fun ls hl => ?_)
      refine lv_goto (tgt := 54) hx hb dX1_isSameAs_91 (by decide) ?_
      exact ih (v2 + 1) h _ _ _ P (lv_sub hl [1, 2, 0] rfl)
    have h := g_ifn c9 h
    refine lv_iconst (v := 0) hx hb dX1_isSameAs_86 (by decide) ?_
    have h := Option.some.inj h
    exact g_zret C P rfl h rfl dX1_isSameAs_87
set_option maxHeartbeats 4000000 in
set_option maxRecDepth 100000 in
theorem kX1_isSameAs (l : Launch) (X : gXt) (hJ : gJ X xL) (σ : gS) (k : Nat) (k2 : Nat) (hk_k : gIm k) (hk_k2 : gIm k2) (q : Int32) (h : qI_isSameAs σ k k2 = some q) : gMi l yX1_isSameAs (gws yX1_isSameAs cX1_isSameAs 3 (some .boolean)) rmX1_isSameAs X xL [.ref (gad X k), .ref (gad X k2)] σ q σ := by
  refine g_enter (cc := cX1_isSameAs) (nL := 3) (ret := (some .boolean)) hJ (plainFor_of_name (by decide)) (Nat.le_of_ble_eq_true rfl) ?_
  intro p e s m below meth c ls C P hl
  have C : gC p s m _ meth c RX1 cX1_isSameAs 3 (some .boolean) X xL := C
  have hx := C.1
  have hb := C.2.1
  have hK := C.2.2.2.2.2.2.2.1
  have hts := C.2.2.2.2.1
  have hl : lv_has ls 3 [(0, .ref (gad X k)), (1, .ref (gad X k2))] := hl
  unfold qI_isSameAs at h
  refine lv_aload_n hx hb dX1_isSameAs_0 rfl (lv_at hl 0 rfl) ?_
  refine g_getI C P hk_k.1 rfl inlX1 2 (by decide) wd_556 rfl dX1_isSameAs_1 ?_
  refine lv_aload_n hx hb dX1_isSameAs_4 rfl (lv_at hl 1 rfl) ?_
  refine g_getI C P hk_k2.1 rfl inlX1 2 (by decide) wd_556 rfl dX1_isSameAs_5 ?_
  refine lv_icmp_eq (tgt := 13) hx hb dX1_isSameAs_8 (by decide) (fun c1 => ?_) (fun c1 => ?_)
  · have h := g_ifp c1 h
    refine lv_iconst (v := 0) hx hb dX1_isSameAs_13 (by decide) ?_
    refine lv_istore_n (lv' := [(2, .int (0 : Int32)), (0, .ref (gad X k)), (1, .ref (gad X k2))]) hx hb dX1_isSameAs_14 rfl hl (by decide) rfl (fun ls hl => ?_)
    refine kX1_isSameAs_15 hJ C σ k k2 hk_k hk_k2 _ _ ?_ _ _ h _ _ _ P (lv_sub hl [1, 2, 0] rfl)
    intro _ H locs ls h P hl
    refine lv_iconst (v := 0) hx hb dX1_isSameAs_52 (by decide) ?_
    refine lv_istore_n (lv' := [(2, .int (0 : Int32)), (0, .ref (gad X k)), (1, .ref (gad X k2))]) hx hb dX1_isSameAs_53 rfl hl (by decide) rfl (fun ls hl => ?_)
    refine kX1_isSameAs_54 hJ C σ k k2 hk_k hk_k2 _ _ ?_ _ _ h _ _ _ P (lv_sub hl [1, 2, 0] rfl)
    intro _ H locs ls h P hl
    refine lv_iconst (v := 1) hx hb dX1_isSameAs_94 (by decide) ?_
    have h := Option.some.inj h
    exact g_zret C P rfl h rfl dX1_isSameAs_95
  have h := g_ifn c1 h
  refine lv_iconst (v := 0) hx hb dX1_isSameAs_11 (by decide) ?_
  have h := Option.some.inj h
  exact g_zret C P rfl h rfl dX1_isSameAs_12
abbrev rmX0_indexOfDrawn : Room := { frames := 1, cells := 0, slots := 0, locals := 22 }
theorem kdX0_indexOfDrawn : yX0_indexOfDrawn.cls = RX0 ∧ yX0_indexOfDrawn.cls ≠ "java/lang/invoke/MethodHandle" ∧ yX0_indexOfDrawn.cls ≠ "java/lang/invoke/VarHandle" ∧ (parseMethodDescriptor yX0_indexOfDrawn.desc).map (fun d => d.parameters.length) = some 1 := by decide +kernel
set_option maxHeartbeats 4000000 in
set_option maxRecDepth 100000 in
theorem kX0_indexOfDrawn_11 {p : Program} {l : Launch} {e : Env} {s : State} {m : MethodId} {args : Array Value} {below : List Frame} {meth : Method} {c : Code} {X : gXt} (hJ : gJ X xL) (C : gC p s m args meth c RX0 cX0_indexOfDrawn 4 (some .int) X xL) (σ : gS) (k11_2 : Nat) (hk_k11_2 : gIm k11_2) (k : Unit → Option Int32) (q : Int32) (hk : ∀ (u : Unit) (H : Heap) (locs : List Loc) (ls : Array Slot), k u = some q → gH X xL σ s H locs → lv_has ls 4 [(1, .ref (gad X 1))] → W p l e rmX0_indexOfDrawn s m args below meth c H locs 0 0 (MQ below (gQi X xL q σ) args s 0 0 (gA X xL)) (F0 m 39 ls [])) : ∀ (n : Nat) (v3 : Int32), qA_indexOfDrawn_11 σ k11_2 k n v3 = some q → ∀ (H : Heap) (locs : List Loc) (ls : Array Slot), gH X xL σ s H locs → lv_has ls 4 [(0, .ref (gad X 9)), (1, .ref (gad X 1)), (2, .ref (gad X k11_2)), (3, .int v3)] → W p l e rmX0_indexOfDrawn s m args below meth c H locs 0 0 (MQ below (gQi X xL q σ) args s 0 0 (gA X xL)) (F0 m 11 ls []) := by
  have hx := C.1
  have hb := C.2.1
  have hK := C.2.2.2.2.2.2.2.1
  have hts := C.2.2.2.2.1
  intro n
  induction n with
  | zero => intro v3 h; cases h
  | succ n ih =>
    intro v3 h H locs ls P hl
    have h : (if (gI σ 1 8) ≤ v3 then k () else (qA_imageAt v3).bind (fun r3 => gim r3 ((qI_isSameAs σ r3 k11_2).bind (fun r4 => (if r4 = 0 then qA_indexOfDrawn_11 σ k11_2 k n (v3 + 1) else some v3))))) = some q := h
    refine lv_iload_n hx hb dX0_indexOfDrawn_11 rfl (lv_at hl 3 rfl) ?_
    refine lv_aload_n hx hb dX0_indexOfDrawn_12 rfl (lv_at hl 1 rfl) ?_
    refine g_getI C P xl1 rfl inlX5 8 (by decide) wd_547 rfl dX0_indexOfDrawn_13 ?_
    refine lv_icmp_ge (tgt := 39) hx hb dX0_indexOfDrawn_16 (by decide) (fun c2 => ?_) (fun c2 => ?_)
    · have h := g_ifp c2 h
      exact hk () _ _ _ h P (lv_sub hl [1] rfl)
    have h := g_ifn c2 h
    refine lv_aload_n hx hb dX0_indexOfDrawn_19 rfl (lv_at hl 0 rfl) ?_
    refine lv_iload_n hx hb dX0_indexOfDrawn_20 rfl (lv_at hl 3 rfl) ?_
    obtain ⟨r3, hr3, h⟩ := g_bind h
    refine g_callVr (n := 1) (As := [.int v3]) (rest := []) C P (kX0_imageAt l X hJ σ v3 _ hr3) wd_548 wd_549 wd_550 wd_18 wd_551 rfl rfl kdX0_imageAt ⟨Nat.le_of_ble_eq_true rfl, Nat.le_of_ble_eq_true rfl⟩ xl9 rfl rfl rfl hl.1 (Nat.le_of_ble_eq_true rfl) dX0_indexOfDrawn_21 (fun H locs P => ?_)
    obtain ⟨hk_r3, h⟩ := g_im h
    refine lv_aload_n hx hb dX0_indexOfDrawn_24 rfl (lv_at hl 2 rfl) ?_
    obtain ⟨r4, hr4, h⟩ := g_bind h
    refine g_callVi (n := 1) (As := [.ref (gad X k11_2)]) (rest := []) C P (kX1_isSameAs l X hJ σ r3 k11_2 hk_r3 hk_k11_2 _ hr4) wd_573 wd_574 wd_575 wd_56 wd_576 rfl rfl kdX1_isSameAs ⟨Nat.le_of_ble_eq_true rfl, Nat.le_of_ble_eq_true rfl⟩ hk_r3.1 rfl rfl rfl hl.1 (Nat.le_of_ble_eq_true rfl) dX0_indexOfDrawn_25 (fun H locs P => ?_)
    refine lv_if_eq (tgt := 33) hx hb dX0_indexOfDrawn_28 (by decide) (fun c5 => ?_) (fun c5 => ?_)
    · have h := g_ifp c5 h
      refine lv_iinc (v := (v3 + 1)) (lv' := [(3, .int (v3 + 1)), (0, .ref (gad X 9)), (1, .ref (gad X 1)), (2, .ref (gad X k11_2))]) hx hb dX0_indexOfDrawn_33 hl (k := 3) rfl rfl (by decide) rfl (fun ls hl => ?_)
      refine lv_goto (tgt := 11) hx hb dX0_indexOfDrawn_36 (by decide) ?_
      exact ih (v3 + 1) h _ _ _ P (lv_sub hl [1, 2, 3, 0] rfl)
    have h := g_ifn c5 h
    refine lv_iload_n hx hb dX0_indexOfDrawn_31 rfl (lv_at hl 3 rfl) ?_
    have h := Option.some.inj h
    exact g_iret C P h rfl dX0_indexOfDrawn_32
set_option maxHeartbeats 4000000 in
set_option maxRecDepth 100000 in
theorem kX0_indexOfDrawn (l : Launch) (X : gXt) (hJ : gJ X xL) (σ : gS) (q : Int32) (h : qA_indexOfDrawn σ = some q) : gMi l yX0_indexOfDrawn (gws yX0_indexOfDrawn cX0_indexOfDrawn 4 (some .int)) rmX0_indexOfDrawn X xL [.ref (gad X 9), .ref (gad X 1)] σ q σ := by
  refine g_enter (cc := cX0_indexOfDrawn) (nL := 4) (ret := (some .int)) hJ (plainFor_of_name (by decide)) (Nat.le_of_ble_eq_true rfl) ?_
  intro p e s m below meth c ls C P hl
  have C : gC p s m _ meth c RX0 cX0_indexOfDrawn 4 (some .int) X xL := C
  have hx := C.1
  have hb := C.2.1
  have hK := C.2.2.2.2.2.2.2.1
  have hts := C.2.2.2.2.1
  have hl : lv_has ls 4 [(0, .ref (gad X 9)), (1, .ref (gad X 1))] := hl
  unfold qA_indexOfDrawn at h
  refine lv_aload_n hx hb dX0_indexOfDrawn_0 rfl (lv_at hl 0 rfl) ?_
  refine lv_aload_n hx hb dX0_indexOfDrawn_1 rfl (lv_at hl 1 rfl) ?_
  refine g_getI C P xl1 rfl inlX5 8 (by decide) wd_547 rfl dX0_indexOfDrawn_2 ?_
  obtain ⟨r1, hr1, h⟩ := g_bind h
  refine g_callVr (n := 1) (As := [.int (gI σ 1 8)]) (rest := []) C P (kX0_imageAt l X hJ σ (gI σ 1 8) _ hr1) wd_548 wd_549 wd_550 wd_18 wd_551 rfl rfl kdX0_imageAt ⟨Nat.le_of_ble_eq_true rfl, Nat.le_of_ble_eq_true rfl⟩ xl9 rfl rfl rfl hl.1 (Nat.le_of_ble_eq_true rfl) dX0_indexOfDrawn_5 (fun H locs P => ?_)
  obtain ⟨hk_r1, h⟩ := g_im h
  refine lv_astore_n (lv' := [(2, .ref (gad X r1)), (0, .ref (gad X 9)), (1, .ref (gad X 1))]) hx hb dX0_indexOfDrawn_8 rfl hl (by decide) rfl (fun ls hl => ?_)
  refine lv_iconst (v := 0) hx hb dX0_indexOfDrawn_9 (by decide) ?_
  refine lv_istore_n (lv' := [(3, .int (0 : Int32)), (2, .ref (gad X r1)), (0, .ref (gad X 9)), (1, .ref (gad X 1))]) hx hb dX0_indexOfDrawn_10 rfl hl (by decide) rfl (fun ls hl => ?_)
  refine kX0_indexOfDrawn_11 hJ C σ r1 hk_r1 _ _ ?_ _ _ h _ _ _ P (lv_sub hl [2, 3, 1, 0] rfl)
  intro _ H locs ls h P hl
  refine lv_aload_n hx hb dX0_indexOfDrawn_39 rfl (lv_at hl 0 rfl) ?_
  refine g_getI C P xl1 rfl inlX5 8 (by decide) wd_547 rfl dX0_indexOfDrawn_40 ?_
  have h := Option.some.inj h
  exact g_iret C P h rfl dX0_indexOfDrawn_43
abbrev rmX1_isNode : Room := { frames := 0, cells := 0, slots := 0, locals := 0 }
theorem kdX1_isNode : yX1_isNode.cls = RX1 ∧ yX1_isNode.cls ≠ "java/lang/invoke/MethodHandle" ∧ yX1_isNode.cls ≠ "java/lang/invoke/VarHandle" ∧ (parseMethodDescriptor yX1_isNode.desc).map (fun d => d.parameters.length) = some 1 := by decide +kernel
set_option maxHeartbeats 4000000 in
set_option maxRecDepth 100000 in
theorem kX1_isNode (l : Launch) (X : gXt) (hJ : gJ X xL) (σ : gS) (k : Nat) (a1 : Int32) (hk_k : gIm k) (q : Int32) (h : qI_isNode σ k a1 = q) : gMi l yX1_isNode (gws yX1_isNode cX1_isNode 2 (some .boolean)) rmX1_isNode X xL [.ref (gad X k), .int a1] σ q σ := by
  refine g_enter (cc := cX1_isNode) (nL := 2) (ret := (some .boolean)) hJ (plainFor_of_name (by decide)) (Nat.le_of_ble_eq_true rfl) ?_
  intro p e s m below meth c ls C P hl
  have C : gC p s m _ meth c RX1 cX1_isNode 2 (some .boolean) X xL := C
  have hx := C.1
  have hb := C.2.1
  have hK := C.2.2.2.2.2.2.2.1
  have hts := C.2.2.2.2.1
  have hl : lv_has ls 2 [(0, .ref (gad X k)), (1, .int a1)] := hl
  unfold qI_isNode at h
  refine lv_iload_n hx hb dX1_isNode_0 rfl (lv_at hl 1 rfl) ?_
  refine lv_if_lt (tgt := 22) hx hb dX1_isNode_1 (by decide) (fun c1 => ?_) (fun c1 => ?_)
  · have h := g_ifp c1 h
    refine lv_iconst (v := 0) hx hb dX1_isNode_22 (by decide) ?_
    exact g_zret C P rfl h rfl dX1_isNode_23
  have h := g_ifn c1 h
  refine lv_iload_n hx hb dX1_isNode_4 rfl (lv_at hl 1 rfl) ?_
  refine lv_aload_n hx hb dX1_isNode_5 rfl (lv_at hl 0 rfl) ?_
  refine g_getI C P hk_k.1 rfl inlX1 2 (by decide) wd_556 rfl dX1_isNode_6 ?_
  refine lv_icmp_ge (tgt := 22) hx hb dX1_isNode_9 (by decide) (fun c2 => ?_) (fun c2 => ?_)
  · have h := g_ifp c2 h
    refine lv_iconst (v := 0) hx hb dX1_isNode_22 (by decide) ?_
    exact g_zret C P rfl h rfl dX1_isNode_23
  have h := g_ifn c2 h
  refine lv_iload_n hx hb dX1_isNode_12 rfl (lv_at hl 1 rfl) ?_
  refine lv_bipush (v := 10) hx hb dX1_isNode_13 (by decide) ?_
  refine lv_icmp_ge (tgt := 22) hx hb dX1_isNode_15 (by decide) (fun c3 => ?_) (fun c3 => ?_)
  · have h := g_ifp c3 h
    refine lv_iconst (v := 0) hx hb dX1_isNode_22 (by decide) ?_
    exact g_zret C P rfl h rfl dX1_isNode_23
  have h := g_ifn c3 h
  refine lv_iconst (v := 1) hx hb dX1_isNode_18 (by decide) ?_
  refine lv_goto (tgt := 23) hx hb dX1_isNode_19 (by decide) ?_
  exact g_zret C P rfl h rfl dX1_isNode_23
abbrev rmX1_sizeOf : Room := { frames := 0, cells := 0, slots := 0, locals := 0 }
theorem kdX1_sizeOf : yX1_sizeOf.cls = RX1 ∧ yX1_sizeOf.cls ≠ "java/lang/invoke/MethodHandle" ∧ yX1_sizeOf.cls ≠ "java/lang/invoke/VarHandle" ∧ (parseMethodDescriptor yX1_sizeOf.desc).map (fun d => d.parameters.length) = some 1 := by decide +kernel
set_option maxHeartbeats 4000000 in
set_option maxRecDepth 100000 in
theorem kX1_sizeOf (l : Launch) (X : gXt) (hJ : gJ X xL) (σ : gS) (k : Nat) (a1 : Int32) (hk_k : gIm k) (q : Int32) (h : qI_sizeOf σ k a1 = some q) : gMi l yX1_sizeOf (gws yX1_sizeOf cX1_sizeOf 2 (some .int)) rmX1_sizeOf X xL [.ref (gad X k), .int a1] σ q σ := by
  refine g_enter (cc := cX1_sizeOf) (nL := 2) (ret := (some .int)) hJ (plainFor_of_name (by decide)) (Nat.le_of_ble_eq_true rfl) ?_
  intro p e s m below meth c ls C P hl
  have C : gC p s m _ meth c RX1 cX1_sizeOf 2 (some .int) X xL := C
  have hx := C.1
  have hb := C.2.1
  have hK := C.2.2.2.2.2.2.2.1
  have hts := C.2.2.2.2.1
  have hl : lv_has ls 2 [(0, .ref (gad X k)), (1, .int a1)] := hl
  unfold qI_sizeOf at h
  refine lv_iload_n hx hb dX1_sizeOf_0 rfl (lv_at hl 1 rfl) ?_
  refine lv_if_lt (tgt := 19) hx hb dX1_sizeOf_1 (by decide) (fun c1 => ?_) (fun c1 => ?_)
  · have h := g_ifp c1 h
    refine lv_iconst (v := 0) hx hb dX1_sizeOf_19 (by decide) ?_
    have h := Option.some.inj h
    exact g_iret C P h rfl dX1_sizeOf_20
  have h := g_ifn c1 h
  refine lv_iload_n hx hb dX1_sizeOf_4 rfl (lv_at hl 1 rfl) ?_
  refine lv_bipush (v := 10) hx hb dX1_sizeOf_5 (by decide) ?_
  refine lv_icmp_ge (tgt := 19) hx hb dX1_sizeOf_7 (by decide) (fun c2 => ?_) (fun c2 => ?_)
  · have h := g_ifp c2 h
    refine lv_iconst (v := 0) hx hb dX1_sizeOf_19 (by decide) ?_
    have h := Option.some.inj h
    exact g_iret C P h rfl dX1_sizeOf_20
  have h := g_ifn c2 h
  refine lv_aload_n hx hb dX1_sizeOf_10 rfl (lv_at hl 0 rfl) ?_
  refine g_getR C P hk_k.1 rfl inlX1 0 (by decide) wd_63 rfl dX1_sizeOf_11 ?_
  refine lv_iload_n hx hb dX1_sizeOf_14 rfl (lv_at hl 1 rfl) ?_
  obtain ⟨b3, h⟩ := g_ob h
  refine g_iald (j := a1.toNatClampNeg) C P hk_k.2.1 b3 rfl dX1_sizeOf_15 ?_
  refine lv_goto (tgt := 20) hx hb dX1_sizeOf_16 (by decide) ?_
  have h := Option.some.inj h
  exact g_iret C P h rfl dX1_sizeOf_20
abbrev rmX1_cellAt : Room := { frames := 0, cells := 0, slots := 0, locals := 0 }
theorem kdX1_cellAt : yX1_cellAt.cls = RX1 ∧ yX1_cellAt.cls ≠ "java/lang/invoke/MethodHandle" ∧ yX1_cellAt.cls ≠ "java/lang/invoke/VarHandle" ∧ (parseMethodDescriptor yX1_cellAt.desc).map (fun d => d.parameters.length) = some 2 := by decide +kernel
set_option maxHeartbeats 4000000 in
set_option maxRecDepth 100000 in
theorem kX1_cellAt (l : Launch) (X : gXt) (hJ : gJ X xL) (σ : gS) (k : Nat) (a1 : Int32) (a2 : Int32) (hk_k : gIm k) (q : Int32) (h : qI_cellAt σ k a1 a2 = some q) : gMi l yX1_cellAt (gws yX1_cellAt cX1_cellAt 3 (some .int)) rmX1_cellAt X xL [.ref (gad X k), .int a1, .int a2] σ q σ := by
  refine g_enter (cc := cX1_cellAt) (nL := 3) (ret := (some .int)) hJ (plainFor_of_name (by decide)) (Nat.le_of_ble_eq_true rfl) ?_
  intro p e s m below meth c ls C P hl
  have C : gC p s m _ meth c RX1 cX1_cellAt 3 (some .int) X xL := C
  have hx := C.1
  have hb := C.2.1
  have hK := C.2.2.2.2.2.2.2.1
  have hts := C.2.2.2.2.1
  have hl : lv_has ls 3 [(0, .ref (gad X k)), (1, .int a1), (2, .int a2)] := hl
  unfold qI_cellAt at h
  refine lv_iload_n hx hb dX1_cellAt_0 rfl (lv_at hl 1 rfl) ?_
  refine lv_if_lt (tgt := 34) hx hb dX1_cellAt_1 (by decide) (fun c1 => ?_) (fun c1 => ?_)
  · have h := g_ifp c1 h
    refine lv_iconst (v := -1) hx hb dX1_cellAt_34 (by decide) ?_
    have h := Option.some.inj h
    exact g_iret C P h rfl dX1_cellAt_35
  have h := g_ifn c1 h
  refine lv_iload_n hx hb dX1_cellAt_4 rfl (lv_at hl 1 rfl) ?_
  refine lv_bipush (v := 10) hx hb dX1_cellAt_5 (by decide) ?_
  refine lv_icmp_ge (tgt := 34) hx hb dX1_cellAt_7 (by decide) (fun c2 => ?_) (fun c2 => ?_)
  · have h := g_ifp c2 h
    refine lv_iconst (v := -1) hx hb dX1_cellAt_34 (by decide) ?_
    have h := Option.some.inj h
    exact g_iret C P h rfl dX1_cellAt_35
  have h := g_ifn c2 h
  refine lv_iload_n hx hb dX1_cellAt_10 rfl (lv_at hl 2 rfl) ?_
  refine lv_if_lt (tgt := 34) hx hb dX1_cellAt_11 (by decide) (fun c3 => ?_) (fun c3 => ?_)
  · have h := g_ifp c3 h
    refine lv_iconst (v := -1) hx hb dX1_cellAt_34 (by decide) ?_
    have h := Option.some.inj h
    exact g_iret C P h rfl dX1_cellAt_35
  have h := g_ifn c3 h
  refine lv_iload_n hx hb dX1_cellAt_14 rfl (lv_at hl 2 rfl) ?_
  refine lv_bipush (v := 12) hx hb dX1_cellAt_15 (by decide) ?_
  refine lv_icmp_ge (tgt := 34) hx hb dX1_cellAt_17 (by decide) (fun c4 => ?_) (fun c4 => ?_)
  · have h := g_ifp c4 h
    refine lv_iconst (v := -1) hx hb dX1_cellAt_34 (by decide) ?_
    have h := Option.some.inj h
    exact g_iret C P h rfl dX1_cellAt_35
  have h := g_ifn c4 h
  refine lv_aload_n hx hb dX1_cellAt_20 rfl (lv_at hl 0 rfl) ?_
  refine g_getR C P hk_k.1 rfl inlX1 1 (by decide) wd_64 rfl dX1_cellAt_21 ?_
  refine lv_iload_n hx hb dX1_cellAt_24 rfl (lv_at hl 1 rfl) ?_
  refine lv_bipush (v := 12) hx hb dX1_cellAt_25 (by decide) ?_
  refine lv_imul hx hb dX1_cellAt_27 ?_
  refine lv_iload_n hx hb dX1_cellAt_28 rfl (lv_at hl 2 rfl) ?_
  refine lv_iadd hx hb dX1_cellAt_29 ?_
  obtain ⟨b5, h⟩ := g_ob h
  refine g_iald (j := ((a1 * (12 : Int32)) + a2).toNatClampNeg) C P hk_k.2.2 b5 rfl dX1_cellAt_30 ?_
  refine lv_goto (tgt := 35) hx hb dX1_cellAt_31 (by decide) ?_
  have h := Option.some.inj h
  exact g_iret C P h rfl dX1_cellAt_35
abbrev rmX1_property : Room := { frames := 1, cells := 0, slots := 0, locals := 22 }
theorem kdX1_property : yX1_property.cls = RX1 ∧ yX1_property.cls ≠ "java/lang/invoke/MethodHandle" ∧ yX1_property.cls ≠ "java/lang/invoke/VarHandle" ∧ (parseMethodDescriptor yX1_property.desc).map (fun d => d.parameters.length) = some 1 := by decide +kernel
set_option maxHeartbeats 4000000 in
set_option maxRecDepth 100000 in
theorem kX1_property_28 {p : Program} {l : Launch} {e : Env} {s : State} {m : MethodId} {args : Array Value} {below : List Frame} {meth : Method} {c : Code} {X : gXt} (hJ : gJ X xL) (C : gC p s m args meth c RX1 cX1_property 6 (some .int) X xL) (σ : gS) (k28_0 : Nat) (f28_1 : Int32) (f28_2 : Int32) (f28_4 : Int32) (hk_k28_0 : gIm k28_0) (k : Int32 → Option Int32) (q : Int32) (hk : ∀ (x3 : Int32) (H : Heap) (locs : List Loc) (ls : Array Slot), k x3 = some q → gH X xL σ s H locs → lv_has ls 6 [(0, .ref (gad X k28_0)), (1, .int f28_1), (2, .int f28_2), (3, .int x3), (4, .int f28_4)] → W p l e rmX1_property s m args below meth c H locs 0 0 (MQ below (gQi X xL q σ) args s 0 0 (gA X xL)) (F0 m 62 ls [])) : ∀ (n : Nat) (v3 : Int32) (v5 : Int32), qI_property_28 σ k28_0 f28_1 f28_2 f28_4 k n v3 v5 = some q → ∀ (H : Heap) (locs : List Loc) (ls : Array Slot), gH X xL σ s H locs → lv_has ls 6 [(0, .ref (gad X k28_0)), (1, .int f28_1), (2, .int f28_2), (3, .int v3), (4, .int f28_4), (5, .int v5)] → W p l e rmX1_property s m args below meth c H locs 0 0 (MQ below (gQi X xL q σ) args s 0 0 (gA X xL)) (F0 m 28 ls []) := by
  have hx := C.1
  have hb := C.2.1
  have hK := C.2.2.2.2.2.2.2.1
  have hts := C.2.2.2.2.1
  intro n
  induction n with
  | zero => intro v3 v5 h; cases h
  | succ n ih =>
    intro v3 v5 h H locs ls P hl
    have h : (qI_sizeOf σ k28_0 f28_4).bind (fun r3 => (if r3 ≤ v5 then k v3 else (qI_cellAt σ k28_0 f28_4 v5).bind (fun r5 => (if (qF_isPointerCode r5) = 0 then qI_property_28 σ k28_0 f28_1 f28_2 f28_4 k n v3 (v5 + 1) else qI_property_28 σ k28_0 f28_1 f28_2 f28_4 k n (v3 + 1) (v5 + 1))))) = some q := h
    refine lv_iload hx hb dX1_property_28 (lv_at hl 5 rfl) ?_
    refine lv_aload_n hx hb dX1_property_30 rfl (lv_at hl 0 rfl) ?_
    refine lv_iload hx hb dX1_property_31 (lv_at hl 4 rfl) ?_
    obtain ⟨r3, hr3, h⟩ := g_bind h
    refine g_callVi (n := 1) (As := [.int f28_4]) (rest := [.int v5]) C P (kX1_sizeOf l X hJ σ k28_0 f28_4 hk_k28_0 _ hr3) wd_701 wd_702 wd_703 wd_56 wd_704 rfl rfl kdX1_sizeOf ⟨Nat.le_of_ble_eq_true rfl, Nat.le_of_ble_eq_true rfl⟩ hk_k28_0.1 rfl rfl rfl hl.1 (Nat.le_of_ble_eq_true rfl) dX1_property_33 (fun H locs P => ?_)
    refine lv_icmp_ge (tgt := 62) hx hb dX1_property_36 (by decide) (fun c4 => ?_) (fun c4 => ?_)
    · have h := g_ifp c4 h
      exact hk v3 _ _ _ h P (lv_sub hl [0, 1, 2, 3, 4] rfl)
    have h := g_ifn c4 h
    refine lv_aload_n hx hb dX1_property_39 rfl (lv_at hl 0 rfl) ?_
    refine lv_iload hx hb dX1_property_40 (lv_at hl 4 rfl) ?_
    refine lv_iload hx hb dX1_property_42 (lv_at hl 5 rfl) ?_
    obtain ⟨r5, hr5, h⟩ := g_bind h
    refine g_callVi (n := 2) (As := [.int f28_4, .int v5]) (rest := []) C P (kX1_cellAt l X hJ σ k28_0 f28_4 v5 hk_k28_0 _ hr5) wd_705 wd_706 wd_707 wd_56 wd_708 rfl rfl kdX1_cellAt ⟨Nat.le_of_ble_eq_true rfl, Nat.le_of_ble_eq_true rfl⟩ hk_k28_0.1 rfl rfl rfl hl.1 (Nat.le_of_ble_eq_true rfl) dX1_property_44 (fun H locs P => ?_)
    refine g_callNi (n := 1) (As := [.int r5]) (rest := []) C P (kX7_isPointerCode l X hJ σ r5 _ rfl) wd_444 rfl rfl kdX7_isPointerCode.2 ⟨Nat.le_of_ble_eq_true rfl, Nat.le_of_ble_eq_true rfl⟩ (hK.2 (RX1, 30, yX7_isPointerCode, RX7) (List.mem_of_getElem? (i := 11) rfl)) wd_2 wd_443 rfl rfl hl.1 (Nat.le_of_ble_eq_true rfl) dX1_property_47 (fun H locs P => ?_)
    refine lv_if_eq (tgt := 56) hx hb dX1_property_50 (by decide) (fun c6 => ?_) (fun c6 => ?_)
    · have h := g_ifp c6 h
      refine lv_iinc (v := (v5 + 1)) (lv' := [(5, .int (v5 + 1)), (0, .ref (gad X k28_0)), (1, .int f28_1), (2, .int f28_2), (3, .int v3), (4, .int f28_4)]) hx hb dX1_property_56 hl (k := 5) rfl rfl (by decide) rfl (fun ls hl => ?_)
      refine lv_goto (tgt := 28) hx hb dX1_property_59 (by decide) ?_
      exact ih v3 (v5 + 1) h _ _ _ P (lv_sub hl [1, 2, 3, 4, 5, 0] rfl)
    have h := g_ifn c6 h
    refine lv_iinc (v := (v3 + 1)) (lv' := [(3, .int (v3 + 1)), (0, .ref (gad X k28_0)), (1, .int f28_1), (2, .int f28_2), (4, .int f28_4), (5, .int v5)]) hx hb dX1_property_53 hl (k := 3) rfl rfl (by decide) rfl (fun ls hl => ?_)
    refine lv_iinc (v := (v5 + 1)) (lv' := [(5, .int (v5 + 1)), (3, .int (v3 + 1)), (0, .ref (gad X k28_0)), (1, .int f28_1), (2, .int f28_2), (4, .int f28_4)]) hx hb dX1_property_56 hl (k := 5) rfl rfl (by decide) rfl (fun ls hl => ?_)
    refine lv_goto (tgt := 28) hx hb dX1_property_59 (by decide) ?_
    exact ih (v3 + 1) (v5 + 1) h _ _ _ P (lv_sub hl [2, 3, 4, 1, 5, 0] rfl)
set_option maxHeartbeats 4000000 in
set_option maxRecDepth 100000 in
theorem kX1_property_7 {p : Program} {l : Launch} {e : Env} {s : State} {m : MethodId} {args : Array Value} {below : List Frame} {meth : Method} {c : Code} {X : gXt} (hJ : gJ X xL) (C : gC p s m args meth c RX1 cX1_property 6 (some .int) X xL) (σ : gS) (k7_0 : Nat) (f7_1 : Int32) (hk_k7_0 : gIm k7_0) (k : Int32 → Int32 → Option Int32) (q : Int32) (hk : ∀ (x2 : Int32) (x3 : Int32) (H : Heap) (locs : List Loc) (ls : Array Slot), k x2 x3 = some q → gH X xL σ s H locs → lv_has ls 6 [(0, .ref (gad X k7_0)), (1, .int f7_1), (2, .int x2), (3, .int x3)] → W p l e rmX1_property s m args below meth c H locs 0 0 (MQ below (gQi X xL q σ) args s 0 0 (gA X xL)) (F0 m 68 ls [])) : ∀ (n : Nat) (v2 : Int32) (v3 : Int32) (v4 : Int32), qI_property_7 σ k7_0 f7_1 k n v2 v3 v4 = some q → ∀ (H : Heap) (locs : List Loc) (ls : Array Slot), gH X xL σ s H locs → lv_has ls 6 [(0, .ref (gad X k7_0)), (1, .int f7_1), (2, .int v2), (3, .int v3), (4, .int v4)] → W p l e rmX1_property s m args below meth c H locs 0 0 (MQ below (gQi X xL q σ) args s 0 0 (gA X xL)) (F0 m 7 ls []) := by
  have hx := C.1
  have hb := C.2.1
  have hK := C.2.2.2.2.2.2.2.1
  have hts := C.2.2.2.2.1
  intro n
  induction n with
  | zero => intro v2 v3 v4 h; cases h
  | succ n ih =>
    intro v2 v3 v4 h H locs ls P hl
    have h : (if (gI σ k7_0 2) ≤ v4 then k v2 v3 else (qI_sizeOf σ k7_0 v4).bind (fun r2 => qI_property_28 σ k7_0 f7_1 (v2 + r2) v4 (fun x7 => qI_property_7 σ k7_0 f7_1 k n (v2 + r2) x7 (v4 + 1)) 8192 v3 (0 : Int32))) = some q := h
    refine lv_iload hx hb dX1_property_7 (lv_at hl 4 rfl) ?_
    refine lv_aload_n hx hb dX1_property_9 rfl (lv_at hl 0 rfl) ?_
    refine g_getI C P hk_k7_0.1 rfl inlX1 2 (by decide) wd_556 rfl dX1_property_10 ?_
    refine lv_icmp_ge (tgt := 68) hx hb dX1_property_13 (by decide) (fun c1 => ?_) (fun c1 => ?_)
    · have h := g_ifp c1 h
      exact hk v2 v3 _ _ _ h P (lv_sub hl [0, 1, 2, 3] rfl)
    have h := g_ifn c1 h
    refine lv_iload_n hx hb dX1_property_16 rfl (lv_at hl 2 rfl) ?_
    refine lv_aload_n hx hb dX1_property_17 rfl (lv_at hl 0 rfl) ?_
    refine lv_iload hx hb dX1_property_18 (lv_at hl 4 rfl) ?_
    obtain ⟨r2, hr2, h⟩ := g_bind h
    refine g_callVi (n := 1) (As := [.int v4]) (rest := [.int v2]) C P (kX1_sizeOf l X hJ σ k7_0 v4 hk_k7_0 _ hr2) wd_701 wd_702 wd_703 wd_56 wd_704 rfl rfl kdX1_sizeOf ⟨Nat.le_of_ble_eq_true rfl, Nat.le_of_ble_eq_true rfl⟩ hk_k7_0.1 rfl rfl rfl hl.1 (Nat.le_of_ble_eq_true rfl) dX1_property_20 (fun H locs P => ?_)
    refine lv_iadd hx hb dX1_property_23 ?_
    refine lv_istore_n (lv' := [(2, .int (v2 + r2)), (0, .ref (gad X k7_0)), (1, .int f7_1), (3, .int v3), (4, .int v4)]) hx hb dX1_property_24 rfl hl (by decide) rfl (fun ls hl => ?_)
    refine lv_iconst (v := 0) hx hb dX1_property_25 (by decide) ?_
    refine lv_istore (lv' := [(5, .int (0 : Int32)), (2, .int (v2 + r2)), (0, .ref (gad X k7_0)), (1, .int f7_1), (3, .int v3), (4, .int v4)]) hx hb dX1_property_26 hl (by decide) rfl (fun ls hl => ?_)
    refine kX1_property_28 hJ C σ k7_0 f7_1 (v2 + r2) v4 hk_k7_0 _ _ ?_ _ _ _ h _ _ _ P (lv_sub hl [2, 3, 1, 4, 5, 0] rfl)
    intro x7 H locs ls h P hl
    refine lv_iinc (v := (v4 + 1)) (lv' := [(4, .int (v4 + 1)), (0, .ref (gad X k7_0)), (1, .int f7_1), (2, .int (v2 + r2)), (3, .int x7)]) hx hb dX1_property_62 hl (k := 4) rfl rfl (by decide) rfl (fun ls hl => ?_)
    refine lv_goto (tgt := 7) hx hb dX1_property_65 (by decide) ?_
    exact ih (v2 + r2) x7 (v4 + 1) h _ _ _ P (lv_sub hl [1, 2, 3, 4, 0] rfl)
set_option maxHeartbeats 4000000 in
set_option maxRecDepth 100000 in
theorem kX1_property (l : Launch) (X : gXt) (hJ : gJ X xL) (σ : gS) (k : Nat) (a1 : Int32) (hk_k : gIm k) (q : Int32) (h : qI_property σ k a1 = some q) : gMi l yX1_property (gws yX1_property cX1_property 6 (some .int)) rmX1_property X xL [.ref (gad X k), .int a1] σ q σ := by
  refine g_enter (cc := cX1_property) (nL := 6) (ret := (some .int)) hJ (plainFor_of_name (by decide)) (Nat.le_of_ble_eq_true rfl) ?_
  intro p e s m below meth c ls C P hl
  have C : gC p s m _ meth c RX1 cX1_property 6 (some .int) X xL := C
  have hx := C.1
  have hb := C.2.1
  have hK := C.2.2.2.2.2.2.2.1
  have hts := C.2.2.2.2.1
  have hl : lv_has ls 6 [(0, .ref (gad X k)), (1, .int a1)] := hl
  unfold qI_property at h
  refine lv_iconst (v := 0) hx hb dX1_property_0 (by decide) ?_
  refine lv_istore_n (lv' := [(2, .int (0 : Int32)), (0, .ref (gad X k)), (1, .int a1)]) hx hb dX1_property_1 rfl hl (by decide) rfl (fun ls hl => ?_)
  refine lv_iconst (v := 0) hx hb dX1_property_2 (by decide) ?_
  refine lv_istore_n (lv' := [(3, .int (0 : Int32)), (2, .int (0 : Int32)), (0, .ref (gad X k)), (1, .int a1)]) hx hb dX1_property_3 rfl hl (by decide) rfl (fun ls hl => ?_)
  refine lv_iconst (v := 0) hx hb dX1_property_4 (by decide) ?_
  refine lv_istore (lv' := [(4, .int (0 : Int32)), (3, .int (0 : Int32)), (2, .int (0 : Int32)), (0, .ref (gad X k)), (1, .int a1)]) hx hb dX1_property_5 hl (by decide) rfl (fun ls hl => ?_)
  refine kX1_property_7 hJ C σ k a1 hk_k _ _ ?_ _ _ _ _ h _ _ _ P (lv_sub hl [3, 4, 2, 1, 0] rfl)
  intro x8 x9 H locs ls h P hl
  refine lv_iload_n hx hb dX1_property_68 rfl (lv_at hl 1 rfl) ?_
  by_cases cs0 : a1 = (0 : Int32)
  · have h := g_ifp cs0 h
    refine lv_tableIn (off := 27) (tgt := 96) hx hb dX1_property_69 (by rw [cs0]; decide) (by rw [cs0]; decide) (by rw [cs0]; rfl) (by decide) ?_
    refine lv_aload_n hx hb dX1_property_96 rfl (lv_at hl 0 rfl) ?_
    refine g_getI C P hk_k.1 rfl inlX1 2 (by decide) wd_556 rfl dX1_property_97 ?_
    have h := Option.some.inj h
    exact g_iret C P h rfl dX1_property_100
  have h := g_ifn cs0 h
  by_cases cs1 : a1 = (1 : Int32)
  · have h := g_ifp cs1 h
    refine lv_tableIn (off := 32) (tgt := 101) hx hb dX1_property_69 (by rw [cs1]; decide) (by rw [cs1]; decide) (by rw [cs1]; rfl) (by decide) ?_
    refine lv_iload_n hx hb dX1_property_101 rfl (lv_at hl 2 rfl) ?_
    have h := Option.some.inj h
    exact g_iret C P h rfl dX1_property_102
  have h := g_ifn cs1 h
  by_cases cs2 : a1 = (2 : Int32)
  · have h := g_ifp cs2 h
    refine lv_tableIn (off := 34) (tgt := 103) hx hb dX1_property_69 (by rw [cs2]; decide) (by rw [cs2]; decide) (by rw [cs2]; rfl) (by decide) ?_
    refine lv_iload_n hx hb dX1_property_103 rfl (lv_at hl 3 rfl) ?_
    have h := Option.some.inj h
    exact g_iret C P h rfl dX1_property_104
  have h := g_ifn cs2 h
  refine lv_tableOut (tgt := 105) hx hb dX1_property_69 (by have e0 := lv_neT cs0 (a := 0) rfl; have e1 := lv_neT cs1 (a := 1) rfl; have e2 := lv_neT cs2 (a := 2) rfl; omega) (by decide) ?_
  refine lv_bipush (v := -2) hx hb dX1_property_105 (by decide) ?_
  have h := Option.some.inj h
  exact g_iret C P h rfl dX1_property_107
abbrev rmX7_isRegister : Room := { frames := 0, cells := 0, slots := 0, locals := 0 }
theorem kdX7_isRegister : yX7_isRegister.cls = RX7 ∧ yX7_isRegister.cls ≠ "java/lang/invoke/MethodHandle" ∧ yX7_isRegister.cls ≠ "java/lang/invoke/VarHandle" ∧ (parseMethodDescriptor yX7_isRegister.desc).map (fun d => d.parameters.length) = some 1 := by decide +kernel
set_option maxHeartbeats 4000000 in
set_option maxRecDepth 100000 in
theorem kX7_isRegister (l : Launch) (X : gXt) (hJ : gJ X xL) (σ : gS) (a1 : Int32) (q : Int32) (h : qF_isRegister a1 = q) : gMi l yX7_isRegister (gws yX7_isRegister cX7_isRegister 1 (some .boolean)) rmX7_isRegister X xL [.int a1] σ q σ := by
  refine g_enter (cc := cX7_isRegister) (nL := 1) (ret := (some .boolean)) hJ (plainFor_of_name (by decide)) (Nat.le_of_ble_eq_true rfl) ?_
  intro p e s m below meth c ls C P hl
  have C : gC p s m _ meth c RX7 cX7_isRegister 1 (some .boolean) X xL := C
  have hx := C.1
  have hb := C.2.1
  have hK := C.2.2.2.2.2.2.2.1
  have hts := C.2.2.2.2.1
  have hl : lv_has ls 1 [(0, .int a1)] := hl
  unfold qF_isRegister at h
  refine lv_iload_n hx hb dX7_isRegister_0 rfl (lv_at hl 0 rfl) ?_
  refine lv_if_lt (tgt := 14) hx hb dX7_isRegister_1 (by decide) (fun c1 => ?_) (fun c1 => ?_)
  · have h := g_ifp c1 h
    refine lv_iconst (v := 0) hx hb dX7_isRegister_14 (by decide) ?_
    exact g_zret C P rfl h rfl dX7_isRegister_15
  have h := g_ifn c1 h
  refine lv_iload_n hx hb dX7_isRegister_4 rfl (lv_at hl 0 rfl) ?_
  refine lv_bipush (v := 6) hx hb dX7_isRegister_5 (by decide) ?_
  refine lv_icmp_ge (tgt := 14) hx hb dX7_isRegister_7 (by decide) (fun c2 => ?_) (fun c2 => ?_)
  · have h := g_ifp c2 h
    refine lv_iconst (v := 0) hx hb dX7_isRegister_14 (by decide) ?_
    exact g_zret C P rfl h rfl dX7_isRegister_15
  have h := g_ifn c2 h
  refine lv_iconst (v := 1) hx hb dX7_isRegister_10 (by decide) ?_
  refine lv_goto (tgt := 15) hx hb dX7_isRegister_11 (by decide) ?_
  exact g_zret C P rfl h rfl dX7_isRegister_15
abbrev rmX5_putCell : Room := { frames := 0, cells := 0, slots := 0, locals := 0 }
theorem kdX5_putCell : yX5_putCell.cls = RX5 ∧ yX5_putCell.cls ≠ "java/lang/invoke/MethodHandle" ∧ yX5_putCell.cls ≠ "java/lang/invoke/VarHandle" ∧ (parseMethodDescriptor yX5_putCell.desc).map (fun d => d.parameters.length) = some 3 := by decide +kernel
set_option maxHeartbeats 4000000 in
set_option maxRecDepth 100000 in
theorem kX5_putCell (l : Launch) (X : gXt) (hJ : gJ X xL) (σ : gS) (a1 : Int32) (a2 : Int32) (a3 : Int32) (q : gS) (h : qS_putCell σ a1 a2 a3 = some q) : gMv l yX5_putCell (gws yX5_putCell cX5_putCell 4 none) rmX5_putCell X xL [.ref (gad X 1), .int a1, .int a2, .int a3] σ q := by
  refine g_enter (cc := cX5_putCell) (nL := 4) (ret := none) hJ (plainFor_of_name (by decide)) (Nat.le_of_ble_eq_true rfl) ?_
  intro p e s m below meth c ls C P hl
  have C : gC p s m _ meth c RX5 cX5_putCell 4 none X xL := C
  have hx := C.1
  have hb := C.2.1
  have hK := C.2.2.2.2.2.2.2.1
  have hts := C.2.2.2.2.1
  have hl : lv_has ls 4 [(0, .ref (gad X 1)), (1, .int a1), (2, .int a2), (3, .int a3)] := hl
  unfold qS_putCell at h
  refine lv_iload_n hx hb dX5_putCell_0 rfl (lv_at hl 1 rfl) ?_
  refine lv_if_lt (tgt := 32) hx hb dX5_putCell_1 (by decide) (fun c1 => ?_) (fun c1 => ?_)
  · have h := g_ifp c1 h
    have h := Option.some.inj h
    exact g_vret C P h dX5_putCell_32
  have h := g_ifn c1 h
  refine lv_iload_n hx hb dX5_putCell_4 rfl (lv_at hl 1 rfl) ?_
  refine lv_bipush (v := 10) hx hb dX5_putCell_5 (by decide) ?_
  refine lv_icmp_ge (tgt := 32) hx hb dX5_putCell_7 (by decide) (fun c2 => ?_) (fun c2 => ?_)
  · have h := g_ifp c2 h
    have h := Option.some.inj h
    exact g_vret C P h dX5_putCell_32
  have h := g_ifn c2 h
  refine lv_iload_n hx hb dX5_putCell_10 rfl (lv_at hl 2 rfl) ?_
  refine lv_if_lt (tgt := 32) hx hb dX5_putCell_11 (by decide) (fun c3 => ?_) (fun c3 => ?_)
  · have h := g_ifp c3 h
    have h := Option.some.inj h
    exact g_vret C P h dX5_putCell_32
  have h := g_ifn c3 h
  refine lv_iload_n hx hb dX5_putCell_14 rfl (lv_at hl 2 rfl) ?_
  refine lv_bipush (v := 12) hx hb dX5_putCell_15 (by decide) ?_
  refine lv_icmp_ge (tgt := 32) hx hb dX5_putCell_17 (by decide) (fun c4 => ?_) (fun c4 => ?_)
  · have h := g_ifp c4 h
    have h := Option.some.inj h
    exact g_vret C P h dX5_putCell_32
  have h := g_ifn c4 h
  refine lv_aload_n hx hb dX5_putCell_20 rfl (lv_at hl 0 rfl) ?_
  refine g_getR C P xl1 rfl inlX5 6 (by decide) wd_47 rfl dX5_putCell_21 ?_
  refine lv_iload_n hx hb dX5_putCell_24 rfl (lv_at hl 1 rfl) ?_
  refine lv_bipush (v := 12) hx hb dX5_putCell_25 (by decide) ?_
  refine lv_imul hx hb dX5_putCell_27 ?_
  refine lv_iload_n hx hb dX5_putCell_28 rfl (lv_at hl 2 rfl) ?_
  refine lv_iadd hx hb dX5_putCell_29 ?_
  refine lv_iload_n hx hb dX5_putCell_30 rfl (lv_at hl 3 rfl) ?_
  obtain ⟨b5, h⟩ := g_ob h
  refine g_iast (j := ((a1 * (12 : Int32)) + a2).toNatClampNeg) C P xl8 b5 rfl dX5_putCell_31 (fun H locs P => ?_)
  have h := Option.some.inj h
  exact g_vret C P h dX5_putCell_32
abbrev rmX5_addBlock : Room := { frames := 1, cells := 0, slots := 0, locals := 23 }
theorem kdX5_addBlock : yX5_addBlock.cls = RX5 ∧ yX5_addBlock.cls ≠ "java/lang/invoke/MethodHandle" ∧ yX5_addBlock.cls ≠ "java/lang/invoke/VarHandle" ∧ (parseMethodDescriptor yX5_addBlock.desc).map (fun d => d.parameters.length) = some 1 := by decide +kernel
set_option maxHeartbeats 4000000 in
set_option maxRecDepth 100000 in
theorem kX5_addBlock_45 {p : Program} {l : Launch} {e : Env} {s : State} {m : MethodId} {args : Array Value} {below : List Frame} {meth : Method} {c : Code} {X : gXt} (hJ : gJ X xL) (C : gC p s m args meth c RX5 cX5_addBlock 4 none X xL) (f45_2 : Int32) (k : gS → Option gS) (q : gS) (hk : ∀ (σ' : gS) (H : Heap) (locs : List Loc) (ls : Array Slot), k σ' = some q → gH X xL σ' s H locs → lv_has ls 4 [] → W p l e rmX5_addBlock s m args below meth c H locs 0 0 (MQ below (gQv X xL q) args s 0 0 (gA X xL)) (F0 m 64 ls [])) : ∀ (n : Nat) (σ : gS) (v3 : Int32), qS_addBlock_45 f45_2 k n σ v3 = some q → ∀ (H : Heap) (locs : List Loc) (ls : Array Slot), gH X xL σ s H locs → lv_has ls 4 [(0, .ref (gad X 1)), (2, .int f45_2), (3, .int v3)] → W p l e rmX5_addBlock s m args below meth c H locs 0 0 (MQ below (gQv X xL q) args s 0 0 (gA X xL)) (F0 m 45 ls []) := by
  have hx := C.1
  have hb := C.2.1
  have hK := C.2.2.2.2.2.2.2.1
  have hts := C.2.2.2.2.1
  intro n
  induction n with
  | zero => intro σ v3 h; cases h
  | succ n ih =>
    intro σ v3 h H locs ls P hl
    have h : (if (12 : Int32) ≤ v3 then k σ else (qS_putCell σ f45_2 v3 (-1 : Int32)).bind (fun r5 => qS_addBlock_45 f45_2 k n r5 (v3 + 1))) = some q := h
    refine lv_iload_n hx hb dX5_addBlock_45 rfl (lv_at hl 2 rfl) ?_
    refine lv_bipush (v := 12) hx hb dX5_addBlock_46 (by decide) ?_
    refine lv_icmp_ge (tgt := 64) hx hb dX5_addBlock_48 (by decide) (fun c4 => ?_) (fun c4 => ?_)
    · have h := g_ifp c4 h
      exact hk σ _ _ _ h P (lv_sub hl [] rfl)
    have h := g_ifn c4 h
    refine lv_aload_n hx hb dX5_addBlock_51 rfl (lv_at hl 0 rfl) ?_
    refine lv_iload_n hx hb dX5_addBlock_52 rfl (lv_at hl 1 rfl) ?_
    refine lv_iload_n hx hb dX5_addBlock_53 rfl (lv_at hl 2 rfl) ?_
    refine lv_iconst (v := -1) hx hb dX5_addBlock_54 (by decide) ?_
    obtain ⟨r5, hr5, h⟩ := g_bind h
    refine g_callVv (n := 3) (As := [.int f45_2, .int v3, .int (-1 : Int32)]) (rest := []) C P (kX5_putCell l X hJ σ f45_2 v3 (-1 : Int32) _ hr5) wd_144 wd_145 wd_146 wd_14 wd_147 rfl rfl kdX5_putCell ⟨Nat.le_of_ble_eq_true rfl, Nat.le_of_ble_eq_true rfl⟩ xl1 rfl rfl rfl hl.1 (Nat.le_of_ble_eq_true rfl) dX5_addBlock_55 (fun H locs P => ?_)
    refine lv_iinc (v := (v3 + 1)) (lv' := [(3, .int (v3 + 1)), (0, .ref (gad X 1)), (2, .int f45_2)]) hx hb dX5_addBlock_58 hl (k := 2) rfl rfl (by decide) rfl (fun ls hl => ?_)
    refine lv_goto (tgt := 45) hx hb dX5_addBlock_61 (by decide) ?_
    exact ih r5 (v3 + 1) h _ _ _ P (lv_sub hl [1, 2, 0] rfl)
set_option maxHeartbeats 4000000 in
set_option maxRecDepth 100000 in
theorem kX5_addBlock (l : Launch) (X : gXt) (hJ : gJ X xL) (σ : gS) (a1 : Int32) (q : gS) (h : qS_addBlock σ a1 = some q) : gMv l yX5_addBlock (gws yX5_addBlock cX5_addBlock 4 none) rmX5_addBlock X xL [.ref (gad X 1), .int a1] σ q := by
  refine g_enter (cc := cX5_addBlock) (nL := 4) (ret := none) hJ (plainFor_of_name (by decide)) (Nat.le_of_ble_eq_true rfl) ?_
  intro p e s m below meth c ls C P hl
  have C : gC p s m _ meth c RX5 cX5_addBlock 4 none X xL := C
  have hx := C.1
  have hb := C.2.1
  have hK := C.2.2.2.2.2.2.2.1
  have hts := C.2.2.2.2.1
  have hl : lv_has ls 4 [(0, .ref (gad X 1)), (1, .int a1)] := hl
  unfold qS_addBlock at h
  refine lv_aload_n hx hb dX5_addBlock_0 rfl (lv_at hl 0 rfl) ?_
  refine g_getI C P xl1 rfl inlX5 7 (by decide) wd_131 rfl dX5_addBlock_1 ?_
  refine lv_istore_n (lv' := [(2, .int (gI σ 1 7)), (0, .ref (gad X 1)), (1, .int a1)]) hx hb dX5_addBlock_4 rfl hl (by decide) rfl (fun ls hl => ?_)
  refine lv_iload_n hx hb dX5_addBlock_5 rfl (lv_at hl 0 rfl) ?_
  refine lv_if_lt (tgt := 64) hx hb dX5_addBlock_6 (by decide) (fun c1 => ?_) (fun c1 => ?_)
  · have h := g_ifp c1 h
    have h := Option.some.inj h
    exact g_vret C P h dX5_addBlock_64
  have h := g_ifn c1 h
  refine lv_iload_n hx hb dX5_addBlock_9 rfl (lv_at hl 0 rfl) ?_
  refine lv_bipush (v := 10) hx hb dX5_addBlock_10 (by decide) ?_
  refine lv_icmp_ge (tgt := 64) hx hb dX5_addBlock_12 (by decide) (fun c2 => ?_) (fun c2 => ?_)
  · have h := g_ifp c2 h
    have h := Option.some.inj h
    exact g_vret C P h dX5_addBlock_64
  have h := g_ifn c2 h
  refine lv_aload_n hx hb dX5_addBlock_15 rfl (lv_at hl 1 rfl) ?_
  refine g_getR C P xl1 rfl inlX5 3 (by decide) wd_44 rfl dX5_addBlock_16 ?_
  refine lv_iload_n hx hb dX5_addBlock_19 rfl (lv_at hl 0 rfl) ?_
  refine lv_iload_n hx hb dX5_addBlock_20 rfl (lv_at hl 2 rfl) ?_
  obtain ⟨b3, h⟩ := g_ob h
  refine g_iast (j := (gI σ 1 7).toNatClampNeg) C P xl5 b3 rfl dX5_addBlock_21 (fun H locs P => ?_)
  refine lv_aload_n hx hb dX5_addBlock_22 rfl (lv_at hl 1 rfl) ?_
  refine g_getR C P xl1 rfl inlX5 4 (by decide) wd_45 rfl dX5_addBlock_23 ?_
  refine lv_iload_n hx hb dX5_addBlock_26 rfl (lv_at hl 0 rfl) ?_
  refine lv_iconst (v := 1) hx hb dX5_addBlock_27 (by decide) ?_
  refine g_iast (j := (gI σ 1 7).toNatClampNeg) C P xl6 b3 rfl dX5_addBlock_28 (fun H locs P => ?_)
  refine lv_aload_n hx hb dX5_addBlock_29 rfl (lv_at hl 1 rfl) ?_
  refine g_getR C P xl1 rfl inlX5 5 (by decide) wd_46 rfl dX5_addBlock_30 ?_
  refine lv_iload_n hx hb dX5_addBlock_33 rfl (lv_at hl 0 rfl) ?_
  refine lv_iconst (v := 0) hx hb dX5_addBlock_34 (by decide) ?_
  refine g_iast (j := (gI σ 1 7).toNatClampNeg) C P xl7 b3 rfl dX5_addBlock_35 (fun H locs P => ?_)
  refine lv_aload_n hx hb dX5_addBlock_36 rfl (lv_at hl 1 rfl) ?_
  refine lv_iload_n hx hb dX5_addBlock_37 rfl (lv_at hl 0 rfl) ?_
  refine lv_iconst (v := 1) hx hb dX5_addBlock_38 (by decide) ?_
  refine lv_iadd hx hb dX5_addBlock_39 ?_
  refine g_putI C P xl1 rfl inlX5 tyX5 tyX5_ok nmX5 7 (by decide) wd_131 rfl rfl rfl rfl dX5_addBlock_40 (fun H locs P => ?_)
  refine lv_iconst (v := 0) hx hb dX5_addBlock_43 (by decide) ?_
  refine lv_istore_n (lv' := [(3, .int (0 : Int32)), (2, .int (gI σ 1 7)), (0, .ref (gad X 1)), (1, .int a1)]) hx hb dX5_addBlock_44 rfl hl (by decide) rfl (fun ls hl => ?_)
  refine kX5_addBlock_45 hJ C (gI σ 1 7) _ _ ?_ _ _ _ h _ _ _ P (lv_sub hl [2, 1, 0] rfl)
  intro σ6 H locs ls h P hl
  have h := Option.some.inj h
  exact g_vret C P h dX5_addBlock_64
abbrev rmX5_fillRegister : Room := { frames := 0, cells := 0, slots := 0, locals := 0 }
theorem kdX5_fillRegister : yX5_fillRegister.cls = RX5 ∧ yX5_fillRegister.cls ≠ "java/lang/invoke/MethodHandle" ∧ yX5_fillRegister.cls ≠ "java/lang/invoke/VarHandle" ∧ (parseMethodDescriptor yX5_fillRegister.desc).map (fun d => d.parameters.length) = some 4 := by decide +kernel
set_option maxHeartbeats 4000000 in
set_option maxRecDepth 100000 in
theorem kX5_fillRegister (l : Launch) (X : gXt) (hJ : gJ X xL) (σ : gS) (a1 : Int32) (a2 : Int32) (a3 : Int32) (a4 : Int32) (q : gS) (h : qS_fillRegister σ a1 a2 a3 a4 = some q) : gMv l yX5_fillRegister (gws yX5_fillRegister cX5_fillRegister 5 none) rmX5_fillRegister X xL [.ref (gad X 1), .int a1, .int a2, .int a3, .int a4] σ q := by
  refine g_enter (cc := cX5_fillRegister) (nL := 5) (ret := none) hJ (plainFor_of_name (by decide)) (Nat.le_of_ble_eq_true rfl) ?_
  intro p e s m below meth c ls C P hl
  have C : gC p s m _ meth c RX5 cX5_fillRegister 5 none X xL := C
  have hx := C.1
  have hb := C.2.1
  have hK := C.2.2.2.2.2.2.2.1
  have hts := C.2.2.2.2.1
  have hl : lv_has ls 5 [(0, .ref (gad X 1)), (1, .int a1), (2, .int a2), (3, .int a3), (4, .int a4)] := hl
  unfold qS_fillRegister at h
  refine lv_iload_n hx hb dX5_fillRegister_0 rfl (lv_at hl 1 rfl) ?_
  refine lv_if_lt (tgt := 32) hx hb dX5_fillRegister_1 (by decide) (fun c1 => ?_) (fun c1 => ?_)
  · have h := g_ifp c1 h
    have h := Option.some.inj h
    exact g_vret C P h dX5_fillRegister_32
  have h := g_ifn c1 h
  refine lv_iload_n hx hb dX5_fillRegister_4 rfl (lv_at hl 1 rfl) ?_
  refine lv_bipush (v := 6) hx hb dX5_fillRegister_5 (by decide) ?_
  refine lv_icmp_ge (tgt := 32) hx hb dX5_fillRegister_7 (by decide) (fun c2 => ?_) (fun c2 => ?_)
  · have h := g_ifp c2 h
    have h := Option.some.inj h
    exact g_vret C P h dX5_fillRegister_32
  have h := g_ifn c2 h
  refine lv_aload_n hx hb dX5_fillRegister_10 rfl (lv_at hl 0 rfl) ?_
  refine g_getR C P xl1 rfl inlX5 0 (by decide) wd_41 rfl dX5_fillRegister_11 ?_
  refine lv_iload_n hx hb dX5_fillRegister_14 rfl (lv_at hl 1 rfl) ?_
  refine lv_iload_n hx hb dX5_fillRegister_15 rfl (lv_at hl 2 rfl) ?_
  obtain ⟨b3, h⟩ := g_ob h
  refine g_iast (j := a1.toNatClampNeg) C P xl2 b3 rfl dX5_fillRegister_16 (fun H locs P => ?_)
  refine lv_aload_n hx hb dX5_fillRegister_17 rfl (lv_at hl 0 rfl) ?_
  refine g_getR C P xl1 rfl inlX5 1 (by decide) wd_42 rfl dX5_fillRegister_18 ?_
  refine lv_iload_n hx hb dX5_fillRegister_21 rfl (lv_at hl 1 rfl) ?_
  refine lv_iload_n hx hb dX5_fillRegister_22 rfl (lv_at hl 3 rfl) ?_
  refine g_iast (j := a1.toNatClampNeg) C P xl3 b3 rfl dX5_fillRegister_23 (fun H locs P => ?_)
  refine lv_aload_n hx hb dX5_fillRegister_24 rfl (lv_at hl 0 rfl) ?_
  refine g_getR C P xl1 rfl inlX5 2 (by decide) wd_43 rfl dX5_fillRegister_25 ?_
  refine lv_iload_n hx hb dX5_fillRegister_28 rfl (lv_at hl 1 rfl) ?_
  refine lv_iload hx hb dX5_fillRegister_29 (lv_at hl 4 rfl) ?_
  refine g_iast (j := a1.toNatClampNeg) C P xl4 b3 rfl dX5_fillRegister_31 (fun H locs P => ?_)
  have h := Option.some.inj h
  exact g_vret C P h dX5_fillRegister_32
abbrev rmX5_fillWithPointer : Room := { frames := 1, cells := 0, slots := 0, locals := 24 }
theorem kdX5_fillWithPointer : yX5_fillWithPointer.cls = RX5 ∧ yX5_fillWithPointer.cls ≠ "java/lang/invoke/MethodHandle" ∧ yX5_fillWithPointer.cls ≠ "java/lang/invoke/VarHandle" ∧ (parseMethodDescriptor yX5_fillWithPointer.desc).map (fun d => d.parameters.length) = some 3 := by decide +kernel
set_option maxHeartbeats 4000000 in
set_option maxRecDepth 100000 in
theorem kX5_fillWithPointer (l : Launch) (X : gXt) (hJ : gJ X xL) (σ : gS) (a1 : Int32) (a2 : Int32) (a3 : Int32) (q : gS) (h : qS_fillWithPointer σ a1 a2 a3 = some q) : gMv l yX5_fillWithPointer (gws yX5_fillWithPointer cX5_fillWithPointer 4 none) rmX5_fillWithPointer X xL [.ref (gad X 1), .int a1, .int a2, .int a3] σ q := by
  refine g_enter (cc := cX5_fillWithPointer) (nL := 4) (ret := none) hJ (plainFor_of_name (by decide)) (Nat.le_of_ble_eq_true rfl) ?_
  intro p e s m below meth c ls C P hl
  have C : gC p s m _ meth c RX5 cX5_fillWithPointer 4 none X xL := C
  have hx := C.1
  have hb := C.2.1
  have hK := C.2.2.2.2.2.2.2.1
  have hts := C.2.2.2.2.1
  have hl : lv_has ls 4 [(0, .ref (gad X 1)), (1, .int a1), (2, .int a2), (3, .int a3)] := hl
  unfold qS_fillWithPointer at h
  refine lv_aload_n hx hb dX5_fillWithPointer_0 rfl (lv_at hl 0 rfl) ?_
  refine lv_iload_n hx hb dX5_fillWithPointer_1 rfl (lv_at hl 1 rfl) ?_
  refine lv_iconst (v := 2) hx hb dX5_fillWithPointer_2 (by decide) ?_
  refine lv_iload_n hx hb dX5_fillWithPointer_3 rfl (lv_at hl 2 rfl) ?_
  refine lv_iload_n hx hb dX5_fillWithPointer_4 rfl (lv_at hl 3 rfl) ?_
  obtain ⟨r1, hr1, h⟩ := g_bind h
  refine g_callVv (n := 4) (As := [.int a1, .int (2 : Int32), .int a2, .int a3]) (rest := []) C P (kX5_fillRegister l X hJ σ a1 (2 : Int32) a2 a3 _ hr1) wd_152 wd_153 wd_154 wd_14 wd_155 rfl rfl kdX5_fillRegister ⟨Nat.le_of_ble_eq_true rfl, Nat.le_of_ble_eq_true rfl⟩ xl1 rfl rfl rfl hl.1 (Nat.le_of_ble_eq_true rfl) dX5_fillWithPointer_5 (fun H locs P => ?_)
  have h := Option.some.inj h
  exact g_vret C P h dX5_fillWithPointer_8
