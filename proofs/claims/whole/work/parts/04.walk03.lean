/-! WALKS, by program (wip/whole/gen.py): each method does what its mirror says -/
abbrev rmX4_putOperand : Room := { frames := 0, cells := 0, slots := 0, locals := 0 }
theorem kdX4_putOperand : yX4_putOperand.cls = RX4 ∧ yX4_putOperand.cls ≠ "java/lang/invoke/MethodHandle" ∧ yX4_putOperand.cls ≠ "java/lang/invoke/VarHandle" ∧ (parseMethodDescriptor yX4_putOperand.desc).map (fun d => d.parameters.length) = some 1 := by decide +kernel
set_option maxHeartbeats 4000000 in
set_option maxRecDepth 100000 in
theorem kX4_putOperand (l : Launch) (X : gXt) (hJ : gJ X xL) (σ : gS) (a1 : Int32) (q : gS) (h : qP_putOperand σ a1 = some q) : gMv l yX4_putOperand (gws yX4_putOperand cX4_putOperand 3 none) rmX4_putOperand X xL [.ref (gad X 42), .int a1] σ q := by
  refine g_enter (cc := cX4_putOperand) (nL := 3) (ret := none) hJ (plainFor_of_name (by decide)) (Nat.le_of_ble_eq_true rfl) ?_
  intro p e s m below meth c ls C P hl
  have C : gC p s m _ meth c RX4 cX4_putOperand 3 none X xL := C
  have hx := C.1
  have hb := C.2.1
  have hK := C.2.2.2.2.2.2.2.1
  have hts := C.2.2.2.2.1
  have hl : lv_has ls 3 [(0, .ref (gad X 42)), (1, .int a1)] := hl
  unfold qP_putOperand at h
  refine lv_aload_n hx hb dX4_putOperand_0 rfl (lv_at hl 0 rfl) ?_
  refine g_getI C P xl42 rfl inlX4 4 (by decide) wd_829 rfl dX4_putOperand_1 ?_
  refine lv_iconst (v := 3) hx hb dX4_putOperand_4 (by decide) ?_
  refine lv_imul hx hb dX4_putOperand_5 ?_
  refine lv_aload_n hx hb dX4_putOperand_6 rfl (lv_at hl 0 rfl) ?_
  refine g_getI C P xl42 rfl inlX4 6 (by decide) wd_841 rfl dX4_putOperand_7 ?_
  refine lv_iadd hx hb dX4_putOperand_10 ?_
  refine lv_iconst (v := 1) hx hb dX4_putOperand_11 (by decide) ?_
  refine lv_isub hx hb dX4_putOperand_12 ?_
  refine lv_istore_n (lv' := [(2, .int ((((gI σ 42 4) * (3 : Int32)) + (gI σ 42 6)) - (1 : Int32))), (0, .ref (gad X 42)), (1, .int a1)]) hx hb dX4_putOperand_13 rfl hl (by decide) rfl (fun ls hl => ?_)
  refine lv_iload_n hx hb dX4_putOperand_14 rfl (lv_at hl 0 rfl) ?_
  refine lv_if_lt (tgt := 31) hx hb dX4_putOperand_15 (by decide) (fun c1 => ?_) (fun c1 => ?_)
  · have h := g_ifp c1 h
    have h := Option.some.inj h
    exact g_vret C P h dX4_putOperand_31
  have h := g_ifn c1 h
  refine lv_iload_n hx hb dX4_putOperand_18 rfl (lv_at hl 0 rfl) ?_
  refine lv_bipush (v := 120) hx hb dX4_putOperand_19 (by decide) ?_
  refine lv_icmp_ge (tgt := 31) hx hb dX4_putOperand_21 (by decide) (fun c2 => ?_) (fun c2 => ?_)
  · have h := g_ifp c2 h
    have h := Option.some.inj h
    exact g_vret C P h dX4_putOperand_31
  have h := g_ifn c2 h
  refine lv_aload_n hx hb dX4_putOperand_24 rfl (lv_at hl 1 rfl) ?_
  refine g_getR C P xl42 rfl inlX4 2 (by decide) wd_78 rfl dX4_putOperand_25 ?_
  refine lv_iload_n hx hb dX4_putOperand_28 rfl (lv_at hl 0 rfl) ?_
  refine lv_iload_n hx hb dX4_putOperand_29 rfl (lv_at hl 2 rfl) ?_
  obtain ⟨b3, h⟩ := g_ob h
  refine g_iast (j := ((((gI σ 42 4) * (3 : Int32)) + (gI σ 42 6)) - (1 : Int32)).toNatClampNeg) C P xl45 b3 rfl dX4_putOperand_30 (fun H locs P => ?_)
  have h := Option.some.inj h
  exact g_vret C P h dX4_putOperand_31
abbrev rmX4_operand : Room := { frames := 0, cells := 0, slots := 0, locals := 0 }
theorem kdX4_operand : yX4_operand.cls = RX4 ∧ yX4_operand.cls ≠ "java/lang/invoke/MethodHandle" ∧ yX4_operand.cls ≠ "java/lang/invoke/VarHandle" ∧ (parseMethodDescriptor yX4_operand.desc).map (fun d => d.parameters.length) = some 2 := by decide +kernel
set_option maxHeartbeats 4000000 in
set_option maxRecDepth 100000 in
theorem kX4_operand (l : Launch) (X : gXt) (hJ : gJ X xL) (σ : gS) (a1 : Int32) (a2 : Int32) (q : Int32) (h : qP_operand σ a1 a2 = some q) : gMi l yX4_operand (gws yX4_operand cX4_operand 4 (some .int)) rmX4_operand X xL [.ref (gad X 42), .int a1, .int a2] σ q σ := by
  refine g_enter (cc := cX4_operand) (nL := 4) (ret := (some .int)) hJ (plainFor_of_name (by decide)) (Nat.le_of_ble_eq_true rfl) ?_
  intro p e s m below meth c ls C P hl
  have C : gC p s m _ meth c RX4 cX4_operand 4 (some .int) X xL := C
  have hx := C.1
  have hb := C.2.1
  have hK := C.2.2.2.2.2.2.2.1
  have hts := C.2.2.2.2.1
  have hl : lv_has ls 4 [(0, .ref (gad X 42)), (1, .int a1), (2, .int a2)] := hl
  unfold qP_operand at h
  refine lv_iload_n hx hb dX4_operand_0 rfl (lv_at hl 1 rfl) ?_
  refine lv_iconst (v := 3) hx hb dX4_operand_1 (by decide) ?_
  refine lv_imul hx hb dX4_operand_2 ?_
  refine lv_iload_n hx hb dX4_operand_3 rfl (lv_at hl 2 rfl) ?_
  refine lv_iadd hx hb dX4_operand_4 ?_
  refine lv_istore_n (lv' := [(3, .int ((a1 * (3 : Int32)) + a2)), (0, .ref (gad X 42)), (1, .int a1), (2, .int a2)]) hx hb dX4_operand_5 rfl hl (by decide) rfl (fun ls hl => ?_)
  refine lv_iload_n hx hb dX4_operand_6 rfl (lv_at hl 0 rfl) ?_
  refine lv_if_lt (tgt := 25) hx hb dX4_operand_7 (by decide) (fun c1 => ?_) (fun c1 => ?_)
  · have h := g_ifp c1 h
    refine lv_iconst (v := 0) hx hb dX4_operand_25 (by decide) ?_
    have h := Option.some.inj h
    exact g_iret C P h rfl dX4_operand_26
  have h := g_ifn c1 h
  refine lv_iload_n hx hb dX4_operand_10 rfl (lv_at hl 0 rfl) ?_
  refine lv_bipush (v := 120) hx hb dX4_operand_11 (by decide) ?_
  refine lv_icmp_ge (tgt := 25) hx hb dX4_operand_13 (by decide) (fun c2 => ?_) (fun c2 => ?_)
  · have h := g_ifp c2 h
    refine lv_iconst (v := 0) hx hb dX4_operand_25 (by decide) ?_
    have h := Option.some.inj h
    exact g_iret C P h rfl dX4_operand_26
  have h := g_ifn c2 h
  refine lv_aload_n hx hb dX4_operand_16 rfl (lv_at hl 1 rfl) ?_
  refine g_getR C P xl42 rfl inlX4 2 (by decide) wd_78 rfl dX4_operand_17 ?_
  refine lv_iload_n hx hb dX4_operand_20 rfl (lv_at hl 0 rfl) ?_
  obtain ⟨b3, h⟩ := g_ob h
  refine g_iald (j := ((a1 * (3 : Int32)) + a2).toNatClampNeg) C P xl45 b3 rfl dX4_operand_21 ?_
  refine lv_goto (tgt := 26) hx hb dX4_operand_22 (by decide) ?_
  have h := Option.some.inj h
  exact g_iret C P h rfl dX4_operand_26
abbrev rmX4_acceptsDigit : Room := { frames := 1, cells := 0, slots := 0, locals := 23 }
theorem kdX4_acceptsDigit : yX4_acceptsDigit.cls = RX4 ∧ yX4_acceptsDigit.cls ≠ "java/lang/invoke/MethodHandle" ∧ yX4_acceptsDigit.cls ≠ "java/lang/invoke/VarHandle" ∧ (parseMethodDescriptor yX4_acceptsDigit.desc).map (fun d => d.parameters.length) = some 1 := by decide +kernel
set_option maxHeartbeats 4000000 in
set_option maxRecDepth 100000 in
theorem kX4_acceptsDigit (l : Launch) (X : gXt) (hJ : gJ X xL) (σ : gS) (a1 : Int32) (q : Int32 × gS) (h : qP_acceptsDigit σ a1 = some q) : gMi l yX4_acceptsDigit (gws yX4_acceptsDigit cX4_acceptsDigit 2 (some .boolean)) rmX4_acceptsDigit X xL [.ref (gad X 42), .int a1] σ q.1 q.2 := by
  refine g_enter (cc := cX4_acceptsDigit) (nL := 2) (ret := (some .boolean)) hJ (plainFor_of_name (by decide)) (Nat.le_of_ble_eq_true rfl) ?_
  intro p e s m below meth c ls C P hl
  have C : gC p s m _ meth c RX4 cX4_acceptsDigit 2 (some .boolean) X xL := C
  have hx := C.1
  have hb := C.2.1
  have hK := C.2.2.2.2.2.2.2.1
  have hts := C.2.2.2.2.1
  have hl : lv_has ls 2 [(0, .ref (gad X 42)), (1, .int a1)] := hl
  unfold qP_acceptsDigit at h
  refine lv_aload_n hx hb dX4_acceptsDigit_0 rfl (lv_at hl 0 rfl) ?_
  refine g_getI C P xl42 rfl inlX4 7 (by decide) wd_836 rfl dX4_acceptsDigit_1 ?_
  refine lv_if_ne (tgt := 59) hx hb dX4_acceptsDigit_4 (by decide) (fun c1 => ?_) (fun c1 => ?_)
  · have h := g_ifn c1 h
    refine lv_aload_n hx hb dX4_acceptsDigit_59 rfl (lv_at hl 0 rfl) ?_
    refine g_getI C P xl42 rfl inlX4 7 (by decide) wd_836 rfl dX4_acceptsDigit_60 ?_
    refine lv_iconst (v := 5) hx hb dX4_acceptsDigit_63 (by decide) ?_
    refine lv_icmp_ne (tgt := 69) hx hb dX4_acceptsDigit_64 (by decide) (fun c2 => ?_) (fun c2 => ?_)
    · have h := g_ifn c2 h
      refine lv_aload_n hx hb dX4_acceptsDigit_69 rfl (lv_at hl 0 rfl) ?_
      refine lv_aload_n hx hb dX4_acceptsDigit_70 rfl (lv_at hl 0 rfl) ?_
      refine g_getI C P xl42 rfl inlX4 7 (by decide) wd_836 rfl dX4_acceptsDigit_71 ?_
      refine lv_iconst (v := 1) hx hb dX4_acceptsDigit_74 (by decide) ?_
      refine lv_iadd hx hb dX4_acceptsDigit_75 ?_
      refine g_putI C P xl42 rfl inlX4 tyX4 tyX4_ok nmX4 7 (by decide) wd_836 rfl rfl rfl rfl dX4_acceptsDigit_76 (fun H locs P => ?_)
      refine lv_aload_n hx hb dX4_acceptsDigit_79 rfl (lv_at hl 0 rfl) ?_
      refine lv_aload_n hx hb dX4_acceptsDigit_80 rfl (lv_at hl 0 rfl) ?_
      refine lv_aload_n hx hb dX4_acceptsDigit_81 rfl (lv_at hl 0 rfl) ?_
      refine g_getI C P xl42 rfl inlX4 4 (by decide) wd_829 rfl dX4_acceptsDigit_82 ?_
      refine lv_aload_n hx hb dX4_acceptsDigit_85 rfl (lv_at hl 0 rfl) ?_
      refine g_getI C P xl42 rfl inlX4 6 (by decide) wd_841 rfl dX4_acceptsDigit_86 ?_
      refine lv_iconst (v := 1) hx hb dX4_acceptsDigit_89 (by decide) ?_
      refine lv_isub hx hb dX4_acceptsDigit_90 ?_
      obtain ⟨r3, hr3, h⟩ := g_bind h
      refine g_callVi (n := 2) (As := [.int (gI (sI σ 42 7 ((gI σ 42 7) + (1 : Int32))) 42 4), .int ((gI (sI σ 42 7 ((gI σ 42 7) + (1 : Int32))) 42 6) - (1 : Int32))]) (rest := [.ref (gad X 42)]) C P (kX4_operand l X hJ (sI σ 42 7 ((gI σ 42 7) + (1 : Int32))) (gI (sI σ 42 7 ((gI σ 42 7) + (1 : Int32))) 42 4) ((gI (sI σ 42 7 ((gI σ 42 7) + (1 : Int32))) 42 6) - (1 : Int32)) _ hr3) wd_854 wd_855 wd_856 wd_26 wd_857 rfl rfl kdX4_operand ⟨Nat.le_of_ble_eq_true rfl, Nat.le_of_ble_eq_true rfl⟩ xl42 rfl rfl rfl hl.1 (Nat.le_of_ble_eq_true rfl) dX4_acceptsDigit_91 (fun H locs P => ?_)
      refine lv_bipush (v := 10) hx hb dX4_acceptsDigit_94 (by decide) ?_
      refine lv_imul hx hb dX4_acceptsDigit_96 ?_
      refine lv_aload_n hx hb dX4_acceptsDigit_97 rfl (lv_at hl 0 rfl) ?_
      refine g_getI C P xl42 rfl inlX4 9 (by decide) wd_849 rfl dX4_acceptsDigit_98 ?_
      refine lv_iload_n hx hb dX4_acceptsDigit_101 rfl (lv_at hl 1 rfl) ?_
      refine lv_imul hx hb dX4_acceptsDigit_102 ?_
      refine lv_iadd hx hb dX4_acceptsDigit_103 ?_
      obtain ⟨r4, hr4, h⟩ := g_bind h
      refine g_callVv (n := 1) (As := [.int ((r3 * (10 : Int32)) + ((gI (sI σ 42 7 ((gI σ 42 7) + (1 : Int32))) 42 9) * a1))]) (rest := []) C P (kX4_putOperand l X hJ (sI σ 42 7 ((gI σ 42 7) + (1 : Int32))) ((r3 * (10 : Int32)) + ((gI (sI σ 42 7 ((gI σ 42 7) + (1 : Int32))) 42 9) * a1)) _ hr4) wd_850 wd_851 wd_852 wd_26 wd_853 rfl rfl kdX4_putOperand ⟨Nat.le_of_ble_eq_true rfl, Nat.le_of_ble_eq_true rfl⟩ xl42 rfl rfl rfl hl.1 (Nat.le_of_ble_eq_true rfl) dX4_acceptsDigit_104 (fun H locs P => ?_)
      refine lv_iconst (v := 1) hx hb dX4_acceptsDigit_107 (by decide) ?_
      have h := Option.some.inj h
      exact g_zret C P rfl (g_fst h) (g_snd h) dX4_acceptsDigit_108
    have h := g_ifp c2 h
    refine lv_iconst (v := 0) hx hb dX4_acceptsDigit_67 (by decide) ?_
    have h := Option.some.inj h
    exact g_zret C P rfl (g_fst h) (g_snd h) dX4_acceptsDigit_68
  have h := g_ifp c1 h
  refine lv_aload_n hx hb dX4_acceptsDigit_7 rfl (lv_at hl 0 rfl) ?_
  refine g_getI C P xl42 rfl inlX4 6 (by decide) wd_841 rfl dX4_acceptsDigit_8 ?_
  refine lv_aload_n hx hb dX4_acceptsDigit_11 rfl (lv_at hl 0 rfl) ?_
  refine g_getI C P xl42 rfl inlX4 5 (by decide) wd_830 rfl dX4_acceptsDigit_12 ?_
  refine g_callSi (n := 1) (As := [.int (gI σ 42 5)]) (rest := [.int (gI σ 42 6)]) C P (kX4_operandsOf l X hJ σ (gI σ 42 5) _ rfl) wd_842 wd_843 wd_26 wd_844 rfl rfl kdX4_operandsOf.2 ⟨Nat.le_of_ble_eq_true rfl, Nat.le_of_ble_eq_true rfl⟩ rfl rfl hl.1 (Nat.le_of_ble_eq_true rfl) dX4_acceptsDigit_15 (fun H locs P => ?_)
  refine lv_icmp_ne (tgt := 23) hx hb dX4_acceptsDigit_18 (by decide) (fun c5 => ?_) (fun c5 => ?_)
  · have h := g_ifn c5 h
    refine lv_aload_n hx hb dX4_acceptsDigit_23 rfl (lv_at hl 0 rfl) ?_
    refine lv_aload_n hx hb dX4_acceptsDigit_24 rfl (lv_at hl 0 rfl) ?_
    refine g_getI C P xl42 rfl inlX4 8 (by decide) wd_835 rfl dX4_acceptsDigit_25 ?_
    refine lv_if_eq (tgt := 35) hx hb dX4_acceptsDigit_28 (by decide) (fun c6 => ?_) (fun c6 => ?_)
    · have h := g_ifp c6 h
      refine lv_iconst (v := 1) hx hb dX4_acceptsDigit_35 (by decide) ?_
      refine g_putI C P xl42 rfl inlX4 tyX4 tyX4_ok nmX4 9 (by decide) wd_849 rfl rfl rfl rfl dX4_acceptsDigit_36 (fun H locs P => ?_)
      refine lv_aload_n hx hb dX4_acceptsDigit_39 rfl (lv_at hl 0 rfl) ?_
      refine lv_iconst (v := 0) hx hb dX4_acceptsDigit_40 (by decide) ?_
      refine g_putI C P xl42 rfl inlX4 tyX4 tyX4_ok nmX4 8 (by decide) wd_835 rfl rfl rfl rfl dX4_acceptsDigit_41 (fun H locs P => ?_)
      refine lv_aload_n hx hb dX4_acceptsDigit_44 rfl (lv_at hl 0 rfl) ?_
      refine lv_aload_n hx hb dX4_acceptsDigit_45 rfl (lv_at hl 0 rfl) ?_
      refine g_getI C P xl42 rfl inlX4 6 (by decide) wd_841 rfl dX4_acceptsDigit_46 ?_
      refine lv_iconst (v := 1) hx hb dX4_acceptsDigit_49 (by decide) ?_
      refine lv_iadd hx hb dX4_acceptsDigit_50 ?_
      refine g_putI C P xl42 rfl inlX4 tyX4 tyX4_ok nmX4 6 (by decide) wd_841 rfl rfl rfl rfl dX4_acceptsDigit_51 (fun H locs P => ?_)
      refine lv_aload_n hx hb dX4_acceptsDigit_54 rfl (lv_at hl 0 rfl) ?_
      refine lv_iconst (v := 0) hx hb dX4_acceptsDigit_55 (by decide) ?_
      obtain ⟨r7, hr7, h⟩ := g_bind h
      refine g_callVv (n := 1) (As := [.int (0 : Int32)]) (rest := []) C P (kX4_putOperand l X hJ (sI (sI (sI σ 42 9 (1 : Int32)) 42 8 (0 : Int32)) 42 6 ((gI (sI (sI σ 42 9 (1 : Int32)) 42 8 (0 : Int32)) 42 6) + (1 : Int32))) (0 : Int32) _ hr7) wd_850 wd_851 wd_852 wd_26 wd_853 rfl rfl kdX4_putOperand ⟨Nat.le_of_ble_eq_true rfl, Nat.le_of_ble_eq_true rfl⟩ xl42 rfl rfl rfl hl.1 (Nat.le_of_ble_eq_true rfl) dX4_acceptsDigit_56 (fun H locs P => ?_)
      refine lv_aload_n hx hb dX4_acceptsDigit_59 rfl (lv_at hl 0 rfl) ?_
      refine g_getI C P xl42 rfl inlX4 7 (by decide) wd_836 rfl dX4_acceptsDigit_60 ?_
      refine lv_iconst (v := 5) hx hb dX4_acceptsDigit_63 (by decide) ?_
      refine lv_icmp_ne (tgt := 69) hx hb dX4_acceptsDigit_64 (by decide) (fun c8 => ?_) (fun c8 => ?_)
      · have h := g_ifn c8 h
        refine lv_aload_n hx hb dX4_acceptsDigit_69 rfl (lv_at hl 0 rfl) ?_
        refine lv_aload_n hx hb dX4_acceptsDigit_70 rfl (lv_at hl 0 rfl) ?_
        refine g_getI C P xl42 rfl inlX4 7 (by decide) wd_836 rfl dX4_acceptsDigit_71 ?_
        refine lv_iconst (v := 1) hx hb dX4_acceptsDigit_74 (by decide) ?_
        refine lv_iadd hx hb dX4_acceptsDigit_75 ?_
        refine g_putI C P xl42 rfl inlX4 tyX4 tyX4_ok nmX4 7 (by decide) wd_836 rfl rfl rfl rfl dX4_acceptsDigit_76 (fun H locs P => ?_)
        refine lv_aload_n hx hb dX4_acceptsDigit_79 rfl (lv_at hl 0 rfl) ?_
        refine lv_aload_n hx hb dX4_acceptsDigit_80 rfl (lv_at hl 0 rfl) ?_
        refine lv_aload_n hx hb dX4_acceptsDigit_81 rfl (lv_at hl 0 rfl) ?_
        refine g_getI C P xl42 rfl inlX4 4 (by decide) wd_829 rfl dX4_acceptsDigit_82 ?_
        refine lv_aload_n hx hb dX4_acceptsDigit_85 rfl (lv_at hl 0 rfl) ?_
        refine g_getI C P xl42 rfl inlX4 6 (by decide) wd_841 rfl dX4_acceptsDigit_86 ?_
        refine lv_iconst (v := 1) hx hb dX4_acceptsDigit_89 (by decide) ?_
        refine lv_isub hx hb dX4_acceptsDigit_90 ?_
        obtain ⟨r9, hr9, h⟩ := g_bind h
        refine g_callVi (n := 2) (As := [.int (gI (sI r7 42 7 ((gI r7 42 7) + (1 : Int32))) 42 4), .int ((gI (sI r7 42 7 ((gI r7 42 7) + (1 : Int32))) 42 6) - (1 : Int32))]) (rest := [.ref (gad X 42)]) C P (kX4_operand l X hJ (sI r7 42 7 ((gI r7 42 7) + (1 : Int32))) (gI (sI r7 42 7 ((gI r7 42 7) + (1 : Int32))) 42 4) ((gI (sI r7 42 7 ((gI r7 42 7) + (1 : Int32))) 42 6) - (1 : Int32)) _ hr9) wd_854 wd_855 wd_856 wd_26 wd_857 rfl rfl kdX4_operand ⟨Nat.le_of_ble_eq_true rfl, Nat.le_of_ble_eq_true rfl⟩ xl42 rfl rfl rfl hl.1 (Nat.le_of_ble_eq_true rfl) dX4_acceptsDigit_91 (fun H locs P => ?_)
        refine lv_bipush (v := 10) hx hb dX4_acceptsDigit_94 (by decide) ?_
        refine lv_imul hx hb dX4_acceptsDigit_96 ?_
        refine lv_aload_n hx hb dX4_acceptsDigit_97 rfl (lv_at hl 0 rfl) ?_
        refine g_getI C P xl42 rfl inlX4 9 (by decide) wd_849 rfl dX4_acceptsDigit_98 ?_
        refine lv_iload_n hx hb dX4_acceptsDigit_101 rfl (lv_at hl 1 rfl) ?_
        refine lv_imul hx hb dX4_acceptsDigit_102 ?_
        refine lv_iadd hx hb dX4_acceptsDigit_103 ?_
        obtain ⟨r10, hr10, h⟩ := g_bind h
        refine g_callVv (n := 1) (As := [.int ((r9 * (10 : Int32)) + ((gI (sI r7 42 7 ((gI r7 42 7) + (1 : Int32))) 42 9) * a1))]) (rest := []) C P (kX4_putOperand l X hJ (sI r7 42 7 ((gI r7 42 7) + (1 : Int32))) ((r9 * (10 : Int32)) + ((gI (sI r7 42 7 ((gI r7 42 7) + (1 : Int32))) 42 9) * a1)) _ hr10) wd_850 wd_851 wd_852 wd_26 wd_853 rfl rfl kdX4_putOperand ⟨Nat.le_of_ble_eq_true rfl, Nat.le_of_ble_eq_true rfl⟩ xl42 rfl rfl rfl hl.1 (Nat.le_of_ble_eq_true rfl) dX4_acceptsDigit_104 (fun H locs P => ?_)
        refine lv_iconst (v := 1) hx hb dX4_acceptsDigit_107 (by decide) ?_
        have h := Option.some.inj h
        exact g_zret C P rfl (g_fst h) (g_snd h) dX4_acceptsDigit_108
      have h := g_ifp c8 h
      refine lv_iconst (v := 0) hx hb dX4_acceptsDigit_67 (by decide) ?_
      have h := Option.some.inj h
      exact g_zret C P rfl (g_fst h) (g_snd h) dX4_acceptsDigit_68
    have h := g_ifn c6 h
    refine lv_iconst (v := -1) hx hb dX4_acceptsDigit_31 (by decide) ?_
    refine lv_goto (tgt := 36) hx hb dX4_acceptsDigit_32 (by decide) ?_
    refine g_putI C P xl42 rfl inlX4 tyX4 tyX4_ok nmX4 9 (by decide) wd_849 rfl rfl rfl rfl dX4_acceptsDigit_36 (fun H locs P => ?_)
    refine lv_aload_n hx hb dX4_acceptsDigit_39 rfl (lv_at hl 0 rfl) ?_
    refine lv_iconst (v := 0) hx hb dX4_acceptsDigit_40 (by decide) ?_
    refine g_putI C P xl42 rfl inlX4 tyX4 tyX4_ok nmX4 8 (by decide) wd_835 rfl rfl rfl rfl dX4_acceptsDigit_41 (fun H locs P => ?_)
    refine lv_aload_n hx hb dX4_acceptsDigit_44 rfl (lv_at hl 0 rfl) ?_
    refine lv_aload_n hx hb dX4_acceptsDigit_45 rfl (lv_at hl 0 rfl) ?_
    refine g_getI C P xl42 rfl inlX4 6 (by decide) wd_841 rfl dX4_acceptsDigit_46 ?_
    refine lv_iconst (v := 1) hx hb dX4_acceptsDigit_49 (by decide) ?_
    refine lv_iadd hx hb dX4_acceptsDigit_50 ?_
    refine g_putI C P xl42 rfl inlX4 tyX4 tyX4_ok nmX4 6 (by decide) wd_841 rfl rfl rfl rfl dX4_acceptsDigit_51 (fun H locs P => ?_)
    refine lv_aload_n hx hb dX4_acceptsDigit_54 rfl (lv_at hl 0 rfl) ?_
    refine lv_iconst (v := 0) hx hb dX4_acceptsDigit_55 (by decide) ?_
    obtain ⟨r11, hr11, h⟩ := g_bind h
    refine g_callVv (n := 1) (As := [.int (0 : Int32)]) (rest := []) C P (kX4_putOperand l X hJ (sI (sI (sI σ 42 9 (-1 : Int32)) 42 8 (0 : Int32)) 42 6 ((gI (sI (sI σ 42 9 (-1 : Int32)) 42 8 (0 : Int32)) 42 6) + (1 : Int32))) (0 : Int32) _ hr11) wd_850 wd_851 wd_852 wd_26 wd_853 rfl rfl kdX4_putOperand ⟨Nat.le_of_ble_eq_true rfl, Nat.le_of_ble_eq_true rfl⟩ xl42 rfl rfl rfl hl.1 (Nat.le_of_ble_eq_true rfl) dX4_acceptsDigit_56 (fun H locs P => ?_)
    refine lv_aload_n hx hb dX4_acceptsDigit_59 rfl (lv_at hl 0 rfl) ?_
    refine g_getI C P xl42 rfl inlX4 7 (by decide) wd_836 rfl dX4_acceptsDigit_60 ?_
    refine lv_iconst (v := 5) hx hb dX4_acceptsDigit_63 (by decide) ?_
    refine lv_icmp_ne (tgt := 69) hx hb dX4_acceptsDigit_64 (by decide) (fun c12 => ?_) (fun c12 => ?_)
    · have h := g_ifn c12 h
      refine lv_aload_n hx hb dX4_acceptsDigit_69 rfl (lv_at hl 0 rfl) ?_
      refine lv_aload_n hx hb dX4_acceptsDigit_70 rfl (lv_at hl 0 rfl) ?_
      refine g_getI C P xl42 rfl inlX4 7 (by decide) wd_836 rfl dX4_acceptsDigit_71 ?_
      refine lv_iconst (v := 1) hx hb dX4_acceptsDigit_74 (by decide) ?_
      refine lv_iadd hx hb dX4_acceptsDigit_75 ?_
      refine g_putI C P xl42 rfl inlX4 tyX4 tyX4_ok nmX4 7 (by decide) wd_836 rfl rfl rfl rfl dX4_acceptsDigit_76 (fun H locs P => ?_)
      refine lv_aload_n hx hb dX4_acceptsDigit_79 rfl (lv_at hl 0 rfl) ?_
      refine lv_aload_n hx hb dX4_acceptsDigit_80 rfl (lv_at hl 0 rfl) ?_
      refine lv_aload_n hx hb dX4_acceptsDigit_81 rfl (lv_at hl 0 rfl) ?_
      refine g_getI C P xl42 rfl inlX4 4 (by decide) wd_829 rfl dX4_acceptsDigit_82 ?_
      refine lv_aload_n hx hb dX4_acceptsDigit_85 rfl (lv_at hl 0 rfl) ?_
      refine g_getI C P xl42 rfl inlX4 6 (by decide) wd_841 rfl dX4_acceptsDigit_86 ?_
      refine lv_iconst (v := 1) hx hb dX4_acceptsDigit_89 (by decide) ?_
      refine lv_isub hx hb dX4_acceptsDigit_90 ?_
      obtain ⟨r13, hr13, h⟩ := g_bind h
      refine g_callVi (n := 2) (As := [.int (gI (sI r11 42 7 ((gI r11 42 7) + (1 : Int32))) 42 4), .int ((gI (sI r11 42 7 ((gI r11 42 7) + (1 : Int32))) 42 6) - (1 : Int32))]) (rest := [.ref (gad X 42)]) C P (kX4_operand l X hJ (sI r11 42 7 ((gI r11 42 7) + (1 : Int32))) (gI (sI r11 42 7 ((gI r11 42 7) + (1 : Int32))) 42 4) ((gI (sI r11 42 7 ((gI r11 42 7) + (1 : Int32))) 42 6) - (1 : Int32)) _ hr13) wd_854 wd_855 wd_856 wd_26 wd_857 rfl rfl kdX4_operand ⟨Nat.le_of_ble_eq_true rfl, Nat.le_of_ble_eq_true rfl⟩ xl42 rfl rfl rfl hl.1 (Nat.le_of_ble_eq_true rfl) dX4_acceptsDigit_91 (fun H locs P => ?_)
      refine lv_bipush (v := 10) hx hb dX4_acceptsDigit_94 (by decide) ?_
      refine lv_imul hx hb dX4_acceptsDigit_96 ?_
      refine lv_aload_n hx hb dX4_acceptsDigit_97 rfl (lv_at hl 0 rfl) ?_
      refine g_getI C P xl42 rfl inlX4 9 (by decide) wd_849 rfl dX4_acceptsDigit_98 ?_
      refine lv_iload_n hx hb dX4_acceptsDigit_101 rfl (lv_at hl 1 rfl) ?_
      refine lv_imul hx hb dX4_acceptsDigit_102 ?_
      refine lv_iadd hx hb dX4_acceptsDigit_103 ?_
      obtain ⟨r14, hr14, h⟩ := g_bind h
      refine g_callVv (n := 1) (As := [.int ((r13 * (10 : Int32)) + ((gI (sI r11 42 7 ((gI r11 42 7) + (1 : Int32))) 42 9) * a1))]) (rest := []) C P (kX4_putOperand l X hJ (sI r11 42 7 ((gI r11 42 7) + (1 : Int32))) ((r13 * (10 : Int32)) + ((gI (sI r11 42 7 ((gI r11 42 7) + (1 : Int32))) 42 9) * a1)) _ hr14) wd_850 wd_851 wd_852 wd_26 wd_853 rfl rfl kdX4_putOperand ⟨Nat.le_of_ble_eq_true rfl, Nat.le_of_ble_eq_true rfl⟩ xl42 rfl rfl rfl hl.1 (Nat.le_of_ble_eq_true rfl) dX4_acceptsDigit_104 (fun H locs P => ?_)
      refine lv_iconst (v := 1) hx hb dX4_acceptsDigit_107 (by decide) ?_
      have h := Option.some.inj h
      exact g_zret C P rfl (g_fst h) (g_snd h) dX4_acceptsDigit_108
    have h := g_ifp c12 h
    refine lv_iconst (v := 0) hx hb dX4_acceptsDigit_67 (by decide) ?_
    have h := Option.some.inj h
    exact g_zret C P rfl (g_fst h) (g_snd h) dX4_acceptsDigit_68
  have h := g_ifp c5 h
  refine lv_iconst (v := 0) hx hb dX4_acceptsDigit_21 (by decide) ?_
  have h := Option.some.inj h
  exact g_zret C P rfl (g_fst h) (g_snd h) dX4_acceptsDigit_22
abbrev rmX4_acceptsMinus : Room := { frames := 0, cells := 0, slots := 0, locals := 0 }
theorem kdX4_acceptsMinus : yX4_acceptsMinus.cls = RX4 ∧ yX4_acceptsMinus.cls ≠ "java/lang/invoke/MethodHandle" ∧ yX4_acceptsMinus.cls ≠ "java/lang/invoke/VarHandle" ∧ (parseMethodDescriptor yX4_acceptsMinus.desc).map (fun d => d.parameters.length) = some 0 := by decide +kernel
set_option maxHeartbeats 4000000 in
set_option maxRecDepth 100000 in
theorem kX4_acceptsMinus (l : Launch) (X : gXt) (hJ : gJ X xL) (σ : gS) (q : Int32 × gS) (h : qP_acceptsMinus σ = some q) : gMi l yX4_acceptsMinus (gws yX4_acceptsMinus cX4_acceptsMinus 1 (some .boolean)) rmX4_acceptsMinus X xL [.ref (gad X 42)] σ q.1 q.2 := by
  refine g_enter (cc := cX4_acceptsMinus) (nL := 1) (ret := (some .boolean)) hJ (plainFor_of_name (by decide)) (Nat.le_of_ble_eq_true rfl) ?_
  intro p e s m below meth c ls C P hl
  have C : gC p s m _ meth c RX4 cX4_acceptsMinus 1 (some .boolean) X xL := C
  have hx := C.1
  have hb := C.2.1
  have hK := C.2.2.2.2.2.2.2.1
  have hts := C.2.2.2.2.1
  have hl : lv_has ls 1 [(0, .ref (gad X 42))] := hl
  unfold qP_acceptsMinus at h
  refine lv_aload_n hx hb dX4_acceptsMinus_0 rfl (lv_at hl 0 rfl) ?_
  refine g_getI C P xl42 rfl inlX4 5 (by decide) wd_830 rfl dX4_acceptsMinus_1 ?_
  refine lv_bipush (v := 118) hx hb dX4_acceptsMinus_4 (by decide) ?_
  refine lv_icmp_ne (tgt := 17) hx hb dX4_acceptsMinus_6 (by decide) (fun c1 => ?_) (fun c1 => ?_)
  · have h := g_ifn c1 h
    refine lv_iconst (v := 0) hx hb dX4_acceptsMinus_17 (by decide) ?_
    have h := Option.some.inj h
    exact g_zret C P rfl (g_fst h) (g_snd h) dX4_acceptsMinus_18
  have h := g_ifp c1 h
  refine lv_aload_n hx hb dX4_acceptsMinus_9 rfl (lv_at hl 0 rfl) ?_
  refine g_getI C P xl42 rfl inlX4 6 (by decide) wd_841 rfl dX4_acceptsMinus_10 ?_
  refine lv_iconst (v := 1) hx hb dX4_acceptsMinus_13 (by decide) ?_
  refine lv_icmp_eq (tgt := 19) hx hb dX4_acceptsMinus_14 (by decide) (fun c2 => ?_) (fun c2 => ?_)
  · have h := g_ifp c2 h
    refine lv_aload_n hx hb dX4_acceptsMinus_19 rfl (lv_at hl 0 rfl) ?_
    refine lv_iconst (v := 0) hx hb dX4_acceptsMinus_20 (by decide) ?_
    refine g_putI C P xl42 rfl inlX4 tyX4 tyX4_ok nmX4 7 (by decide) wd_836 rfl rfl rfl rfl dX4_acceptsMinus_21 (fun H locs P => ?_)
    refine lv_aload_n hx hb dX4_acceptsMinus_24 rfl (lv_at hl 0 rfl) ?_
    refine lv_iconst (v := 1) hx hb dX4_acceptsMinus_25 (by decide) ?_
    refine g_putI C P xl42 rfl inlX4 tyX4 tyX4_ok nmX4 8 (by decide) wd_835 rfl rfl rfl rfl dX4_acceptsMinus_26 (fun H locs P => ?_)
    refine lv_iconst (v := 1) hx hb dX4_acceptsMinus_29 (by decide) ?_
    have h := Option.some.inj h
    exact g_zret C P rfl (g_fst h) (g_snd h) dX4_acceptsMinus_30
  have h := g_ifn c2 h
  refine lv_iconst (v := 0) hx hb dX4_acceptsMinus_17 (by decide) ?_
  have h := Option.some.inj h
  exact g_zret C P rfl (g_fst h) (g_snd h) dX4_acceptsMinus_18
abbrev rmX4_acceptsSemicolon : Room := { frames := 1, cells := 0, slots := 0, locals := 20 }
theorem kdX4_acceptsSemicolon : yX4_acceptsSemicolon.cls = RX4 ∧ yX4_acceptsSemicolon.cls ≠ "java/lang/invoke/MethodHandle" ∧ yX4_acceptsSemicolon.cls ≠ "java/lang/invoke/VarHandle" ∧ (parseMethodDescriptor yX4_acceptsSemicolon.desc).map (fun d => d.parameters.length) = some 0 := by decide +kernel
set_option maxHeartbeats 4000000 in
set_option maxRecDepth 100000 in
theorem kX4_acceptsSemicolon (l : Launch) (X : gXt) (hJ : gJ X xL) (σ : gS) (q : Int32 × gS) (h : qP_acceptsSemicolon σ = some q) : gMi l yX4_acceptsSemicolon (gws yX4_acceptsSemicolon cX4_acceptsSemicolon 1 (some .boolean)) rmX4_acceptsSemicolon X xL [.ref (gad X 42)] σ q.1 q.2 := by
  refine g_enter (cc := cX4_acceptsSemicolon) (nL := 1) (ret := (some .boolean)) hJ (plainFor_of_name (by decide)) (Nat.le_of_ble_eq_true rfl) ?_
  intro p e s m below meth c ls C P hl
  have C : gC p s m _ meth c RX4 cX4_acceptsSemicolon 1 (some .boolean) X xL := C
  have hx := C.1
  have hb := C.2.1
  have hK := C.2.2.2.2.2.2.2.1
  have hts := C.2.2.2.2.1
  have hl : lv_has ls 1 [(0, .ref (gad X 42))] := hl
  unfold qP_acceptsSemicolon at h
  refine lv_aload_n hx hb dX4_acceptsSemicolon_0 rfl (lv_at hl 0 rfl) ?_
  refine g_getI C P xl42 rfl inlX4 6 (by decide) wd_841 rfl dX4_acceptsSemicolon_1 ?_
  refine lv_aload_n hx hb dX4_acceptsSemicolon_4 rfl (lv_at hl 0 rfl) ?_
  refine g_getI C P xl42 rfl inlX4 5 (by decide) wd_830 rfl dX4_acceptsSemicolon_5 ?_
  refine g_callSi (n := 1) (As := [.int (gI σ 42 5)]) (rest := [.int (gI σ 42 6)]) C P (kX4_operandsOf l X hJ σ (gI σ 42 5) _ rfl) wd_842 wd_843 wd_26 wd_844 rfl rfl kdX4_operandsOf.2 ⟨Nat.le_of_ble_eq_true rfl, Nat.le_of_ble_eq_true rfl⟩ rfl rfl hl.1 (Nat.le_of_ble_eq_true rfl) dX4_acceptsSemicolon_8 (fun H locs P => ?_)
  refine lv_icmp_eq (tgt := 16) hx hb dX4_acceptsSemicolon_11 (by decide) (fun c1 => ?_) (fun c1 => ?_)
  · have h := g_ifp c1 h
    refine lv_aload_n hx hb dX4_acceptsSemicolon_16 rfl (lv_at hl 0 rfl) ?_
    refine lv_aload_n hx hb dX4_acceptsSemicolon_17 rfl (lv_at hl 0 rfl) ?_
    refine g_getI C P xl42 rfl inlX4 4 (by decide) wd_829 rfl dX4_acceptsSemicolon_18 ?_
    refine lv_iconst (v := 1) hx hb dX4_acceptsSemicolon_21 (by decide) ?_
    refine lv_iadd hx hb dX4_acceptsSemicolon_22 ?_
    refine g_putI C P xl42 rfl inlX4 tyX4 tyX4_ok nmX4 4 (by decide) wd_829 rfl rfl rfl rfl dX4_acceptsSemicolon_23 (fun H locs P => ?_)
    refine lv_aload_n hx hb dX4_acceptsSemicolon_26 rfl (lv_at hl 0 rfl) ?_
    refine lv_iconst (v := -1) hx hb dX4_acceptsSemicolon_27 (by decide) ?_
    refine g_putI C P xl42 rfl inlX4 tyX4 tyX4_ok nmX4 5 (by decide) wd_830 rfl rfl rfl rfl dX4_acceptsSemicolon_28 (fun H locs P => ?_)
    refine lv_iconst (v := 1) hx hb dX4_acceptsSemicolon_31 (by decide) ?_
    have h := Option.some.inj h
    exact g_zret C P rfl (g_fst h) (g_snd h) dX4_acceptsSemicolon_32
  have h := g_ifn c1 h
  refine lv_iconst (v := 0) hx hb dX4_acceptsSemicolon_14 (by decide) ?_
  have h := Option.some.inj h
  exact g_zret C P rfl (g_fst h) (g_snd h) dX4_acceptsSemicolon_15
abbrev rmX4_accepts : Room := { frames := 2, cells := 0, slots := 0, locals := 44 }
theorem kdX4_accepts : yX4_accepts.cls = RX4 ∧ yX4_accepts.cls ≠ "java/lang/invoke/MethodHandle" ∧ yX4_accepts.cls ≠ "java/lang/invoke/VarHandle" ∧ (parseMethodDescriptor yX4_accepts.desc).map (fun d => d.parameters.length) = some 1 := by decide +kernel
set_option maxHeartbeats 4000000 in
set_option maxRecDepth 100000 in
theorem kX4_accepts (l : Launch) (X : gXt) (hJ : gJ X xL) (σ : gS) (a1 : Int32) (q : Int32 × gS) (h : qP_accepts σ a1 = some q) : gMi l yX4_accepts (gws yX4_accepts cX4_accepts 2 (some .boolean)) rmX4_accepts X xL [.ref (gad X 42), .int a1] σ q.1 q.2 := by
  refine g_enter (cc := cX4_accepts) (nL := 2) (ret := (some .boolean)) hJ (plainFor_of_name (by decide)) (Nat.le_of_ble_eq_true rfl) ?_
  intro p e s m below meth c ls C P hl
  have C : gC p s m _ meth c RX4 cX4_accepts 2 (some .boolean) X xL := C
  have hx := C.1
  have hb := C.2.1
  have hK := C.2.2.2.2.2.2.2.1
  have hts := C.2.2.2.2.1
  have hl : lv_has ls 2 [(0, .ref (gad X 42)), (1, .int a1)] := hl
  unfold qP_accepts at h
  refine lv_aload_n hx hb dX4_accepts_0 rfl (lv_at hl 0 rfl) ?_
  refine g_getI C P xl42 rfl inlX4 5 (by decide) wd_830 rfl dX4_accepts_1 ?_
  refine lv_iconst (v := -1) hx hb dX4_accepts_4 (by decide) ?_
  refine lv_icmp_ne (tgt := 28) hx hb dX4_accepts_5 (by decide) (fun c1 => ?_) (fun c1 => ?_)
  · have h := g_ifn c1 h
    refine lv_iload_n hx hb dX4_accepts_28 rfl (lv_at hl 1 rfl) ?_
    refine lv_bipush (v := 48) hx hb dX4_accepts_29 (by decide) ?_
    refine lv_icmp_lt (tgt := 49) hx hb dX4_accepts_31 (by decide) (fun c2 => ?_) (fun c2 => ?_)
    · have h := g_ifp c2 h
      refine lv_aload_n hx hb dX4_accepts_49 rfl (lv_at hl 0 rfl) ?_
      refine g_getI C P xl42 rfl inlX4 8 (by decide) wd_835 rfl dX4_accepts_50 ?_
      refine lv_if_eq (tgt := 58) hx hb dX4_accepts_53 (by decide) (fun c3 => ?_) (fun c3 => ?_)
      · have h := g_ifp c3 h
        refine lv_iload_n hx hb dX4_accepts_58 rfl (lv_at hl 1 rfl) ?_
        by_cases cs32 : a1 = (32 : Int32)
        · have h := g_ifp cs32 h
          refine lv_lookup (off := 33) (tgt := 92) hx hb dX4_accepts_59 (by decide) (by rw [cs32]; decide) (by decide) ?_
          refine lv_aload_n hx hb dX4_accepts_92 rfl (lv_at hl 0 rfl) ?_
          refine lv_iconst (v := 0) hx hb dX4_accepts_93 (by decide) ?_
          refine g_putI C P xl42 rfl inlX4 tyX4 tyX4_ok nmX4 7 (by decide) wd_836 rfl rfl rfl rfl dX4_accepts_94 (fun H locs P => ?_)
          refine lv_iconst (v := 1) hx hb dX4_accepts_97 (by decide) ?_
          have h := Option.some.inj h
          exact g_zret C P rfl (g_fst h) (g_snd h) dX4_accepts_98
        have h := g_ifn cs32 h
        by_cases cs45 : a1 = (45 : Int32)
        · have h := g_ifp cs45 h
          refine lv_lookup (off := 40) (tgt := 99) hx hb dX4_accepts_59 (by decide) (by rw [cs45]; decide) (by decide) ?_
          refine lv_aload_n hx hb dX4_accepts_99 rfl (lv_at hl 0 rfl) ?_
          obtain ⟨r4, hr4, h⟩ := g_bind h
          refine g_callVi (n := 0) (As := []) (rest := []) C P (kX4_acceptsMinus l X hJ σ _ hr4) wd_858 wd_859 wd_860 wd_26 wd_861 rfl rfl kdX4_acceptsMinus ⟨Nat.le_of_ble_eq_true rfl, Nat.le_of_ble_eq_true rfl⟩ xl42 rfl rfl rfl hl.1 (Nat.le_of_ble_eq_true rfl) dX4_accepts_100 (fun H locs P => ?_)
          obtain ⟨b5, h⟩ := g_bo h
          have h := Option.some.inj h
          exact g_zret C P (g_bon b5) (g_fst h) (g_snd h) dX4_accepts_103
        have h := g_ifn cs45 h
        by_cases cs59 : a1 = (59 : Int32)
        · have h := g_ifp cs59 h
          refine lv_lookup (off := 45) (tgt := 104) hx hb dX4_accepts_59 (by decide) (by rw [cs59]; decide) (by decide) ?_
          refine lv_aload_n hx hb dX4_accepts_104 rfl (lv_at hl 0 rfl) ?_
          obtain ⟨r6, hr6, h⟩ := g_bind h
          refine g_callVi (n := 0) (As := []) (rest := []) C P (kX4_acceptsSemicolon l X hJ σ _ hr6) wd_862 wd_863 wd_864 wd_26 wd_865 rfl rfl kdX4_acceptsSemicolon ⟨Nat.le_of_ble_eq_true rfl, Nat.le_of_ble_eq_true rfl⟩ xl42 rfl rfl rfl hl.1 (Nat.le_of_ble_eq_true rfl) dX4_accepts_105 (fun H locs P => ?_)
          obtain ⟨b7, h⟩ := g_bo h
          have h := Option.some.inj h
          exact g_zret C P (g_bon b7) (g_fst h) (g_snd h) dX4_accepts_108
        have h := g_ifn cs59 h
        refine lv_lookup (off := 50) (tgt := 109) hx hb dX4_accepts_59 (by decide) (by show Op.lookupswitch.offset [(32, 33), (45, 40), (59, 45)] _ _ = _; rw [lv_osw (a := 32) cs32 (by decide), lv_osw (a := 45) cs45 (by decide), lv_osw (a := 59) cs59 (by decide)]; rfl) (by decide) ?_
        refine lv_iconst (v := 0) hx hb dX4_accepts_109 (by decide) ?_
        have h := Option.some.inj h
        exact g_zret C P rfl (g_fst h) (g_snd h) dX4_accepts_110
      have h := g_ifn c3 h
      refine lv_iconst (v := 0) hx hb dX4_accepts_56 (by decide) ?_
      have h := Option.some.inj h
      exact g_zret C P rfl (g_fst h) (g_snd h) dX4_accepts_57
    have h := g_ifn c2 h
    refine lv_iload_n hx hb dX4_accepts_34 rfl (lv_at hl 1 rfl) ?_
    refine lv_bipush (v := 57) hx hb dX4_accepts_35 (by decide) ?_
    refine lv_icmp_gt (tgt := 49) hx hb dX4_accepts_37 (by decide) (fun c8 => ?_) (fun c8 => ?_)
    · have h := g_ifp c8 h
      refine lv_aload_n hx hb dX4_accepts_49 rfl (lv_at hl 0 rfl) ?_
      refine g_getI C P xl42 rfl inlX4 8 (by decide) wd_835 rfl dX4_accepts_50 ?_
      refine lv_if_eq (tgt := 58) hx hb dX4_accepts_53 (by decide) (fun c9 => ?_) (fun c9 => ?_)
      · have h := g_ifp c9 h
        refine lv_iload_n hx hb dX4_accepts_58 rfl (lv_at hl 1 rfl) ?_
        by_cases cs32 : a1 = (32 : Int32)
        · have h := g_ifp cs32 h
          refine lv_lookup (off := 33) (tgt := 92) hx hb dX4_accepts_59 (by decide) (by rw [cs32]; decide) (by decide) ?_
          refine lv_aload_n hx hb dX4_accepts_92 rfl (lv_at hl 0 rfl) ?_
          refine lv_iconst (v := 0) hx hb dX4_accepts_93 (by decide) ?_
          refine g_putI C P xl42 rfl inlX4 tyX4 tyX4_ok nmX4 7 (by decide) wd_836 rfl rfl rfl rfl dX4_accepts_94 (fun H locs P => ?_)
          refine lv_iconst (v := 1) hx hb dX4_accepts_97 (by decide) ?_
          have h := Option.some.inj h
          exact g_zret C P rfl (g_fst h) (g_snd h) dX4_accepts_98
        have h := g_ifn cs32 h
        by_cases cs45 : a1 = (45 : Int32)
        · have h := g_ifp cs45 h
          refine lv_lookup (off := 40) (tgt := 99) hx hb dX4_accepts_59 (by decide) (by rw [cs45]; decide) (by decide) ?_
          refine lv_aload_n hx hb dX4_accepts_99 rfl (lv_at hl 0 rfl) ?_
          obtain ⟨r10, hr10, h⟩ := g_bind h
          refine g_callVi (n := 0) (As := []) (rest := []) C P (kX4_acceptsMinus l X hJ σ _ hr10) wd_858 wd_859 wd_860 wd_26 wd_861 rfl rfl kdX4_acceptsMinus ⟨Nat.le_of_ble_eq_true rfl, Nat.le_of_ble_eq_true rfl⟩ xl42 rfl rfl rfl hl.1 (Nat.le_of_ble_eq_true rfl) dX4_accepts_100 (fun H locs P => ?_)
          obtain ⟨b11, h⟩ := g_bo h
          have h := Option.some.inj h
          exact g_zret C P (g_bon b11) (g_fst h) (g_snd h) dX4_accepts_103
        have h := g_ifn cs45 h
        by_cases cs59 : a1 = (59 : Int32)
        · have h := g_ifp cs59 h
          refine lv_lookup (off := 45) (tgt := 104) hx hb dX4_accepts_59 (by decide) (by rw [cs59]; decide) (by decide) ?_
          refine lv_aload_n hx hb dX4_accepts_104 rfl (lv_at hl 0 rfl) ?_
          obtain ⟨r12, hr12, h⟩ := g_bind h
          refine g_callVi (n := 0) (As := []) (rest := []) C P (kX4_acceptsSemicolon l X hJ σ _ hr12) wd_862 wd_863 wd_864 wd_26 wd_865 rfl rfl kdX4_acceptsSemicolon ⟨Nat.le_of_ble_eq_true rfl, Nat.le_of_ble_eq_true rfl⟩ xl42 rfl rfl rfl hl.1 (Nat.le_of_ble_eq_true rfl) dX4_accepts_105 (fun H locs P => ?_)
          obtain ⟨b13, h⟩ := g_bo h
          have h := Option.some.inj h
          exact g_zret C P (g_bon b13) (g_fst h) (g_snd h) dX4_accepts_108
        have h := g_ifn cs59 h
        refine lv_lookup (off := 50) (tgt := 109) hx hb dX4_accepts_59 (by decide) (by show Op.lookupswitch.offset [(32, 33), (45, 40), (59, 45)] _ _ = _; rw [lv_osw (a := 32) cs32 (by decide), lv_osw (a := 45) cs45 (by decide), lv_osw (a := 59) cs59 (by decide)]; rfl) (by decide) ?_
        refine lv_iconst (v := 0) hx hb dX4_accepts_109 (by decide) ?_
        have h := Option.some.inj h
        exact g_zret C P rfl (g_fst h) (g_snd h) dX4_accepts_110
      have h := g_ifn c9 h
      refine lv_iconst (v := 0) hx hb dX4_accepts_56 (by decide) ?_
      have h := Option.some.inj h
      exact g_zret C P rfl (g_fst h) (g_snd h) dX4_accepts_57
    have h := g_ifn c8 h
    refine lv_aload_n hx hb dX4_accepts_40 rfl (lv_at hl 0 rfl) ?_
    refine lv_iload_n hx hb dX4_accepts_41 rfl (lv_at hl 1 rfl) ?_
    refine lv_bipush (v := 48) hx hb dX4_accepts_42 (by decide) ?_
    refine lv_isub hx hb dX4_accepts_44 ?_
    obtain ⟨r14, hr14, h⟩ := g_bind h
    refine g_callVi (n := 1) (As := [.int (a1 - (48 : Int32))]) (rest := []) C P (kX4_acceptsDigit l X hJ σ (a1 - (48 : Int32)) _ hr14) wd_845 wd_846 wd_847 wd_26 wd_848 rfl rfl kdX4_acceptsDigit ⟨Nat.le_of_ble_eq_true rfl, Nat.le_of_ble_eq_true rfl⟩ xl42 rfl rfl rfl hl.1 (Nat.le_of_ble_eq_true rfl) dX4_accepts_45 (fun H locs P => ?_)
    obtain ⟨b15, h⟩ := g_bo h
    have h := Option.some.inj h
    exact g_zret C P (g_bon b15) (g_fst h) (g_snd h) dX4_accepts_48
  have h := g_ifp c1 h
  refine lv_iload_n hx hb dX4_accepts_8 rfl (lv_at hl 1 rfl) ?_
  refine lv_bipush (v := 32) hx hb dX4_accepts_9 (by decide) ?_
  refine lv_icmp_eq (tgt := 22) hx hb dX4_accepts_11 (by decide) (fun c16 => ?_) (fun c16 => ?_)
  · have h := g_ifp c16 h
    refine lv_iconst (v := 1) hx hb dX4_accepts_22 (by decide) ?_
    refine lv_goto (tgt := 27) hx hb dX4_accepts_23 (by decide) ?_
    have h := Option.some.inj h
    exact g_zret C P rfl (g_fst h) (g_snd h) dX4_accepts_27
  have h := g_ifn c16 h
  refine lv_aload_n hx hb dX4_accepts_14 rfl (lv_at hl 0 rfl) ?_
  refine lv_iload_n hx hb dX4_accepts_15 rfl (lv_at hl 1 rfl) ?_
  obtain ⟨r17, hr17, h⟩ := g_bind h
  refine g_callVi (n := 1) (As := [.int a1]) (rest := []) C P (kX4_acceptsLetter l X hJ σ a1 _ hr17) wd_837 wd_838 wd_839 wd_26 wd_840 rfl rfl kdX4_acceptsLetter ⟨Nat.le_of_ble_eq_true rfl, Nat.le_of_ble_eq_true rfl⟩ xl42 rfl rfl rfl hl.1 (Nat.le_of_ble_eq_true rfl) dX4_accepts_16 (fun H locs P => ?_)
  refine lv_if_eq (tgt := 26) hx hb dX4_accepts_19 (by decide) (fun c18 => ?_) (fun c18 => ?_)
  · have h := g_ifp c18 h
    refine lv_iconst (v := 0) hx hb dX4_accepts_26 (by decide) ?_
    have h := Option.some.inj h
    exact g_zret C P rfl (g_fst h) (g_snd h) dX4_accepts_27
  have h := g_ifn c18 h
  refine lv_iconst (v := 1) hx hb dX4_accepts_22 (by decide) ?_
  refine lv_goto (tgt := 27) hx hb dX4_accepts_23 (by decide) ?_
  have h := Option.some.inj h
  exact g_zret C P rfl (g_fst h) (g_snd h) dX4_accepts_27
abbrev rmX4_parse : Room := { frames := 3, cells := 0, slots := 0, locals := 65 }
theorem kdX4_parse : yX4_parse.cls = RX4 ∧ yX4_parse.cls ≠ "java/lang/invoke/MethodHandle" ∧ yX4_parse.cls ≠ "java/lang/invoke/VarHandle" ∧ (parseMethodDescriptor yX4_parse.desc).map (fun d => d.parameters.length) = some 0 := by decide +kernel
set_option maxHeartbeats 4000000 in
set_option maxRecDepth 100000 in
theorem kX4_parse_12 {p : Program} {l : Launch} {e : Env} {s : State} {m : MethodId} {args : Array Value} {below : List Frame} {meth : Method} {c : Code} {X : gXt} (hJ : gJ X xL) (C : gC p s m args meth c RX4 cX4_parse 2 (some .int) X xL) (k : gS → Option (Int32 × gS)) (q : Int32 × gS) (hk : ∀ (σ' : gS) (H : Heap) (locs : List Loc) (ls : Array Slot), k σ' = some q → gH X xL σ' s H locs → lv_has ls 2 [(0, .ref (gad X 42))] → W p l e rmX4_parse s m args below meth c H locs 0 0 (MQ below (gQi X xL q.1 q.2) args s 0 0 (gA X xL)) (F0 m 47 ls [])) : ∀ (n : Nat) (σ : gS) (v1 : Int32), qP_parse_12 k n σ v1 = some q → ∀ (H : Heap) (locs : List Loc) (ls : Array Slot), gH X xL σ s H locs → lv_has ls 2 [(0, .ref (gad X 42)), (1, .int v1)] → W p l e rmX4_parse s m args below meth c H locs 0 0 (MQ below (gQi X xL q.1 q.2) args s 0 0 (gA X xL)) (F0 m 12 ls []) := by
  have hx := C.1
  have hb := C.2.1
  have hK := C.2.2.2.2.2.2.2.1
  have hts := C.2.2.2.2.1
  intro n
  induction n with
  | zero => intro σ v1 h; cases h
  | succ n ih =>
    intro σ v1 h H locs ls P hl
    have h : (if (gI σ 42 3) ≤ v1 then k σ else (if (120 : Int32) ≤ v1 then k σ else gob v1 120 ((qP_accepts σ (gM σ 43 v1.toNatClampNeg)).bind (fun r4 => (if r4.1 = 0 then some (v1, r4.2) else qP_parse_12 k n r4.2 (v1 + 1)))))) = some q := h
    refine lv_iload_n hx hb dX4_parse_12 rfl (lv_at hl 1 rfl) ?_
    refine lv_aload_n hx hb dX4_parse_13 rfl (lv_at hl 0 rfl) ?_
    refine g_getI C P xl42 rfl inlX4 3 (by decide) wd_804 rfl dX4_parse_14 ?_
    refine lv_icmp_ge (tgt := 47) hx hb dX4_parse_17 (by decide) (fun c1 => ?_) (fun c1 => ?_)
    · have h := g_ifp c1 h
      exact hk σ _ _ _ h P (lv_sub hl [0] rfl)
    have h := g_ifn c1 h
    refine lv_iload_n hx hb dX4_parse_20 rfl (lv_at hl 1 rfl) ?_
    refine lv_bipush (v := 120) hx hb dX4_parse_21 (by decide) ?_
    refine lv_icmp_ge (tgt := 47) hx hb dX4_parse_23 (by decide) (fun c2 => ?_) (fun c2 => ?_)
    · have h := g_ifp c2 h
      exact hk σ _ _ _ h P (lv_sub hl [0] rfl)
    have h := g_ifn c2 h
    refine lv_aload_n hx hb dX4_parse_26 rfl (lv_at hl 0 rfl) ?_
    refine lv_aload_n hx hb dX4_parse_27 rfl (lv_at hl 0 rfl) ?_
    refine g_getR C P xl42 rfl inlX4 0 (by decide) wd_76 rfl dX4_parse_28 ?_
    refine lv_iload_n hx hb dX4_parse_31 rfl (lv_at hl 1 rfl) ?_
    obtain ⟨b3, h⟩ := g_ob h
    refine g_iald (j := v1.toNatClampNeg) C P xl43 b3 rfl dX4_parse_32 ?_
    obtain ⟨r4, hr4, h⟩ := g_bind h
    refine g_callVi (n := 1) (As := [.int (gM σ 43 v1.toNatClampNeg)]) (rest := []) C P (kX4_accepts l X hJ σ (gM σ 43 v1.toNatClampNeg) _ hr4) wd_831 wd_832 wd_833 wd_26 wd_834 rfl rfl kdX4_accepts ⟨Nat.le_of_ble_eq_true rfl, Nat.le_of_ble_eq_true rfl⟩ xl42 rfl rfl rfl hl.1 (Nat.le_of_ble_eq_true rfl) dX4_parse_33 (fun H locs P => ?_)
    refine lv_if_ne (tgt := 41) hx hb dX4_parse_36 (by decide) (fun c5 => ?_) (fun c5 => ?_)
    · have h := g_ifn c5 h
      refine lv_iinc (v := (v1 + 1)) (lv' := [(1, .int (v1 + 1)), (0, .ref (gad X 42))]) hx hb dX4_parse_41 hl (k := 1) rfl rfl (by decide) rfl (fun ls hl => ?_)
      refine lv_goto (tgt := 12) hx hb dX4_parse_44 (by decide) ?_
      exact ih r4.2 (v1 + 1) h _ _ _ P (lv_sub hl [1, 0] rfl)
    have h := g_ifp c5 h
    refine lv_iload_n hx hb dX4_parse_39 rfl (lv_at hl 1 rfl) ?_
    have h := Option.some.inj h
    exact g_iret C P (g_fst h) (g_snd h) dX4_parse_40
set_option maxHeartbeats 4000000 in
set_option maxRecDepth 100000 in
theorem kX4_parse (l : Launch) (X : gXt) (hJ : gJ X xL) (σ : gS) (q : Int32 × gS) (h : qP_parse σ = some q) : gMi l yX4_parse (gws yX4_parse cX4_parse 2 (some .int)) rmX4_parse X xL [.ref (gad X 42)] σ q.1 q.2 := by
  refine g_enter (cc := cX4_parse) (nL := 2) (ret := (some .int)) hJ (plainFor_of_name (by decide)) (Nat.le_of_ble_eq_true rfl) ?_
  intro p e s m below meth c ls C P hl
  have C : gC p s m _ meth c RX4 cX4_parse 2 (some .int) X xL := C
  have hx := C.1
  have hb := C.2.1
  have hK := C.2.2.2.2.2.2.2.1
  have hts := C.2.2.2.2.1
  have hl : lv_has ls 2 [(0, .ref (gad X 42))] := hl
  unfold qP_parse at h
  refine lv_aload_n hx hb dX4_parse_0 rfl (lv_at hl 0 rfl) ?_
  refine lv_iconst (v := 0) hx hb dX4_parse_1 (by decide) ?_
  refine g_putI C P xl42 rfl inlX4 tyX4 tyX4_ok nmX4 4 (by decide) wd_829 rfl rfl rfl rfl dX4_parse_2 (fun H locs P => ?_)
  refine lv_aload_n hx hb dX4_parse_5 rfl (lv_at hl 0 rfl) ?_
  refine lv_iconst (v := -1) hx hb dX4_parse_6 (by decide) ?_
  refine g_putI C P xl42 rfl inlX4 tyX4 tyX4_ok nmX4 5 (by decide) wd_830 rfl rfl rfl rfl dX4_parse_7 (fun H locs P => ?_)
  refine lv_iconst (v := 0) hx hb dX4_parse_10 (by decide) ?_
  refine lv_istore_n (lv' := [(1, .int (0 : Int32)), (0, .ref (gad X 42))]) hx hb dX4_parse_11 rfl hl (by decide) rfl (fun ls hl => ?_)
  refine kX4_parse_12 hJ C _ _ ?_ _ _ _ h _ _ _ P (lv_sub hl [1, 0] rfl)
  intro σ6 H locs ls h P hl
  refine lv_aload_n hx hb dX4_parse_47 rfl (lv_at hl 0 rfl) ?_
  refine g_getI C P xl42 rfl inlX4 5 (by decide) wd_830 rfl dX4_parse_48 ?_
  refine lv_iconst (v := -1) hx hb dX4_parse_51 (by decide) ?_
  refine lv_icmp_ne (tgt := 66) hx hb dX4_parse_52 (by decide) (fun c7 => ?_) (fun c7 => ?_)
  · have h := g_ifn c7 h
    refine lv_aload_n hx hb dX4_parse_66 rfl (lv_at hl 0 rfl) ?_
    refine g_getI C P xl42 rfl inlX4 3 (by decide) wd_804 rfl dX4_parse_67 ?_
    have h := Option.some.inj h
    exact g_iret C P (g_fst h) (g_snd h) dX4_parse_70
  have h := g_ifp c7 h
  refine lv_aload_n hx hb dX4_parse_55 rfl (lv_at hl 0 rfl) ?_
  refine g_getI C P xl42 rfl inlX4 4 (by decide) wd_829 rfl dX4_parse_56 ?_
  refine lv_if_le (tgt := 66) hx hb dX4_parse_59 (by decide) (fun c8 => ?_) (fun c8 => ?_)
  · have h := g_ifp c8 h
    refine lv_aload_n hx hb dX4_parse_66 rfl (lv_at hl 0 rfl) ?_
    refine g_getI C P xl42 rfl inlX4 3 (by decide) wd_804 rfl dX4_parse_67 ?_
    have h := Option.some.inj h
    exact g_iret C P (g_fst h) (g_snd h) dX4_parse_70
  have h := g_ifn c8 h
  refine lv_iconst (v := -1) hx hb dX4_parse_62 (by decide) ?_
  refine lv_goto (tgt := 70) hx hb dX4_parse_63 (by decide) ?_
  have h := Option.some.inj h
  exact g_iret C P (g_fst h) (g_snd h) dX4_parse_70
abbrev rmX4_letterOf : Room := { frames := 0, cells := 0, slots := 0, locals := 0 }
theorem kdX4_letterOf : yX4_letterOf.cls = RX4 ∧ yX4_letterOf.cls ≠ "java/lang/invoke/MethodHandle" ∧ yX4_letterOf.cls ≠ "java/lang/invoke/VarHandle" ∧ (parseMethodDescriptor yX4_letterOf.desc).map (fun d => d.parameters.length) = some 1 := by decide +kernel
set_option maxHeartbeats 4000000 in
set_option maxRecDepth 100000 in
theorem kX4_letterOf (l : Launch) (X : gXt) (hJ : gJ X xL) (σ : gS) (a1 : Int32) (q : Int32) (h : qP_letterOf σ a1 = some q) : gMi l yX4_letterOf (gws yX4_letterOf cX4_letterOf 2 (some .int)) rmX4_letterOf X xL [.ref (gad X 42), .int a1] σ q σ := by
  refine g_enter (cc := cX4_letterOf) (nL := 2) (ret := (some .int)) hJ (plainFor_of_name (by decide)) (Nat.le_of_ble_eq_true rfl) ?_
  intro p e s m below meth c ls C P hl
  have C : gC p s m _ meth c RX4 cX4_letterOf 2 (some .int) X xL := C
  have hx := C.1
  have hb := C.2.1
  have hK := C.2.2.2.2.2.2.2.1
  have hts := C.2.2.2.2.1
  have hl : lv_has ls 2 [(0, .ref (gad X 42)), (1, .int a1)] := hl
  unfold qP_letterOf at h
  refine lv_iload_n hx hb dX4_letterOf_0 rfl (lv_at hl 1 rfl) ?_
  refine lv_if_lt (tgt := 19) hx hb dX4_letterOf_1 (by decide) (fun c1 => ?_) (fun c1 => ?_)
  · have h := g_ifp c1 h
    refine lv_iconst (v := -1) hx hb dX4_letterOf_19 (by decide) ?_
    have h := Option.some.inj h
    exact g_iret C P h rfl dX4_letterOf_20
  have h := g_ifn c1 h
  refine lv_iload_n hx hb dX4_letterOf_4 rfl (lv_at hl 1 rfl) ?_
  refine lv_bipush (v := 40) hx hb dX4_letterOf_5 (by decide) ?_
  refine lv_icmp_ge (tgt := 19) hx hb dX4_letterOf_7 (by decide) (fun c2 => ?_) (fun c2 => ?_)
  · have h := g_ifp c2 h
    refine lv_iconst (v := -1) hx hb dX4_letterOf_19 (by decide) ?_
    have h := Option.some.inj h
    exact g_iret C P h rfl dX4_letterOf_20
  have h := g_ifn c2 h
  refine lv_aload_n hx hb dX4_letterOf_10 rfl (lv_at hl 0 rfl) ?_
  refine g_getR C P xl42 rfl inlX4 1 (by decide) wd_77 rfl dX4_letterOf_11 ?_
  refine lv_iload_n hx hb dX4_letterOf_14 rfl (lv_at hl 1 rfl) ?_
  obtain ⟨b3, h⟩ := g_ob h
  refine g_iald (j := a1.toNatClampNeg) C P xl44 b3 rfl dX4_letterOf_15 ?_
  refine lv_goto (tgt := 20) hx hb dX4_letterOf_16 (by decide) ?_
  have h := Option.some.inj h
  exact g_iret C P h rfl dX4_letterOf_20
abbrev rmX4_carryOut : Room := { frames := 4, cells := 0, slots := 0, locals := 96 }
theorem kdX4_carryOut : yX4_carryOut.cls = RX4 ∧ yX4_carryOut.cls ≠ "java/lang/invoke/MethodHandle" ∧ yX4_carryOut.cls ≠ "java/lang/invoke/VarHandle" ∧ (parseMethodDescriptor yX4_carryOut.desc).map (fun d => d.parameters.length) = some 2 := by decide +kernel
set_option maxHeartbeats 4000000 in
set_option maxRecDepth 100000 in
theorem kX4_carryOut (l : Launch) (X : gXt) (hJ : gJ X xL) (σ : gS) (a2 : Int32) (q : Int32 × gS) (h : qP_carryOut σ a2 = some q) : gMi l yX4_carryOut (gws yX4_carryOut cX4_carryOut 6 (some .int)) rmX4_carryOut X xL [.ref (gad X 42), .ref (gad X 40), .int a2] σ q.1 q.2 := by
  refine g_enter (cc := cX4_carryOut) (nL := 6) (ret := (some .int)) hJ (plainFor_of_name (by decide)) (Nat.le_of_ble_eq_true rfl) ?_
  intro p e s m below meth c ls C P hl
  have C : gC p s m _ meth c RX4 cX4_carryOut 6 (some .int) X xL := C
  have hx := C.1
  have hb := C.2.1
  have hK := C.2.2.2.2.2.2.2.1
  have hts := C.2.2.2.2.1
  have hl : lv_has ls 6 [(0, .ref (gad X 42)), (1, .ref (gad X 40)), (2, .int a2)] := hl
  unfold qP_carryOut at h
  refine lv_aload_n hx hb dX4_carryOut_0 rfl (lv_at hl 0 rfl) ?_
  refine lv_iload_n hx hb dX4_carryOut_1 rfl (lv_at hl 2 rfl) ?_
  refine lv_iconst (v := 0) hx hb dX4_carryOut_2 (by decide) ?_
  obtain ⟨r1, hr1, h⟩ := g_bind h
  refine g_callVi (n := 2) (As := [.int a2, .int (0 : Int32)]) (rest := []) C P (kX4_operand l X hJ σ a2 (0 : Int32) _ hr1) wd_854 wd_855 wd_856 wd_26 wd_857 rfl rfl kdX4_operand ⟨Nat.le_of_ble_eq_true rfl, Nat.le_of_ble_eq_true rfl⟩ xl42 rfl rfl rfl hl.1 (Nat.le_of_ble_eq_true rfl) dX4_carryOut_3 (fun H locs P => ?_)
  refine lv_istore_n (lv' := [(3, .int r1), (0, .ref (gad X 42)), (1, .ref (gad X 40)), (2, .int a2)]) hx hb dX4_carryOut_6 rfl hl (by decide) rfl (fun ls hl => ?_)
  refine lv_aload_n hx hb dX4_carryOut_7 rfl (lv_at hl 1 rfl) ?_
  refine lv_iload_n hx hb dX4_carryOut_8 rfl (lv_at hl 3 rfl) ?_
  refine lv_iconst (v := 1) hx hb dX4_carryOut_9 (by decide) ?_
  obtain ⟨r2, hr2, h⟩ := g_bind h
  refine g_callVi (n := 2) (As := [.int a2, .int (1 : Int32)]) (rest := []) C P (kX4_operand l X hJ σ a2 (1 : Int32) _ hr2) wd_854 wd_855 wd_856 wd_26 wd_857 rfl rfl kdX4_operand ⟨Nat.le_of_ble_eq_true rfl, Nat.le_of_ble_eq_true rfl⟩ xl42 rfl rfl rfl hl.1 (Nat.le_of_ble_eq_true rfl) dX4_carryOut_10 (fun H locs P => ?_)
  refine lv_istore (lv' := [(4, .int r2), (3, .int r1), (0, .ref (gad X 42)), (1, .ref (gad X 40)), (2, .int a2)]) hx hb dX4_carryOut_13 hl (by decide) rfl (fun ls hl => ?_)
  refine lv_aload_n hx hb dX4_carryOut_15 rfl (lv_at hl 2 rfl) ?_
  refine lv_iload_n hx hb dX4_carryOut_16 rfl (lv_at hl 4 rfl) ?_
  refine lv_iconst (v := 2) hx hb dX4_carryOut_17 (by decide) ?_
  obtain ⟨r3, hr3, h⟩ := g_bind h
  refine g_callVi (n := 2) (As := [.int a2, .int (2 : Int32)]) (rest := []) C P (kX4_operand l X hJ σ a2 (2 : Int32) _ hr3) wd_854 wd_855 wd_856 wd_26 wd_857 rfl rfl kdX4_operand ⟨Nat.le_of_ble_eq_true rfl, Nat.le_of_ble_eq_true rfl⟩ xl42 rfl rfl rfl hl.1 (Nat.le_of_ble_eq_true rfl) dX4_carryOut_18 (fun H locs P => ?_)
  refine lv_istore (lv' := [(5, .int r3), (4, .int r2), (3, .int r1), (0, .ref (gad X 42)), (1, .ref (gad X 40)), (2, .int a2)]) hx hb dX4_carryOut_21 hl (by decide) rfl (fun ls hl => ?_)
  refine lv_aload_n hx hb dX4_carryOut_23 rfl (lv_at hl 3 rfl) ?_
  refine lv_iload_n hx hb dX4_carryOut_24 rfl (lv_at hl 5 rfl) ?_
  obtain ⟨r4, hr4, h⟩ := g_bind h
  refine g_callVi (n := 1) (As := [.int a2]) (rest := []) C P (kX4_letterOf l X hJ σ a2 _ hr4) wd_874 wd_875 wd_876 wd_26 wd_877 rfl rfl kdX4_letterOf ⟨Nat.le_of_ble_eq_true rfl, Nat.le_of_ble_eq_true rfl⟩ xl42 rfl rfl rfl hl.1 (Nat.le_of_ble_eq_true rfl) dX4_carryOut_25 (fun H locs P => ?_)
  by_cases cs98 : r4 = (98 : Int32)
  · have h := g_ifp cs98 h
    refine lv_tableIn (off := 184) (tgt := 212) hx hb dX4_carryOut_28 (by rw [cs98]; decide) (by rw [cs98]; decide) (by rw [cs98]; rfl) (by decide) ?_
    refine lv_aload_n hx hb dX4_carryOut_212 rfl (lv_at hl 4 rfl) ?_
    refine lv_iload_n hx hb dX4_carryOut_213 rfl (lv_at hl 2 rfl) ?_
    refine lv_iload hx hb dX4_carryOut_214 (lv_at hl 1 rfl) ?_
    refine lv_iload hx hb dX4_carryOut_216 (lv_at hl 0 rfl) ?_
    obtain ⟨r5, hr5, h⟩ := g_bind h
    refine g_callVi (n := 3) (As := [.int r1, .int r2, .int r3]) (rest := []) C P (kX2_blitBytes l X hJ σ r1 r2 r3 _ hr5) wd_890 wd_499 wd_500 wd_22 wd_501 rfl rfl kdX2_blitBytes ⟨Nat.le_of_ble_eq_true rfl, Nat.le_of_ble_eq_true rfl⟩ xl40 rfl rfl rfl hl.1 (Nat.le_of_ble_eq_true rfl) dX4_carryOut_218 (fun H locs P => ?_)
    have h := Option.some.inj h
    exact g_iret C P (g_fst h) (g_snd h) dX4_carryOut_221
  have h := g_ifn cs98 h
  by_cases cs99 : r4 = (99 : Int32)
  · have h := g_ifp cs99 h
    refine lv_tableIn (off := 138) (tgt := 166) hx hb dX4_carryOut_28 (by rw [cs99]; decide) (by rw [cs99]; decide) (by rw [cs99]; rfl) (by decide) ?_
    refine lv_aload_n hx hb dX4_carryOut_166 rfl (lv_at hl 4 rfl) ?_
    refine lv_iload_n hx hb dX4_carryOut_167 rfl (lv_at hl 2 rfl) ?_
    refine lv_iload hx hb dX4_carryOut_168 (lv_at hl 1 rfl) ?_
    obtain ⟨r6, hr6, h⟩ := g_bind h
    refine g_callVi (n := 2) (As := [.int r1, .int r2]) (rest := []) C P (kX2_copyRegister l X hJ σ r1 r2 _ hr6) wd_881 wd_385 wd_386 wd_22 wd_387 rfl rfl kdX2_copyRegister ⟨Nat.le_of_ble_eq_true rfl, Nat.le_of_ble_eq_true rfl⟩ xl40 rfl rfl rfl hl.1 (Nat.le_of_ble_eq_true rfl) dX4_carryOut_170 (fun H locs P => ?_)
    have h := Option.some.inj h
    exact g_iret C P (g_fst h) (g_snd h) dX4_carryOut_173
  have h := g_ifn cs99 h
  by_cases cs100 : r4 = (100 : Int32)
  · have h := g_ifp cs100 h
    refine lv_tableIn (off := 174) (tgt := 202) hx hb dX4_carryOut_28 (by rw [cs100]; decide) (by rw [cs100]; decide) (by rw [cs100]; rfl) (by decide) ?_
    refine lv_aload_n hx hb dX4_carryOut_202 rfl (lv_at hl 4 rfl) ?_
    refine lv_iload_n hx hb dX4_carryOut_203 rfl (lv_at hl 2 rfl) ?_
    refine lv_iload hx hb dX4_carryOut_204 (lv_at hl 1 rfl) ?_
    refine lv_iload hx hb dX4_carryOut_206 (lv_at hl 0 rfl) ?_
    obtain ⟨r7, hr7, h⟩ := g_bind h
    refine g_callVi (n := 3) (As := [.int r1, .int r2, .int r3]) (rest := []) C P (kX2_compareInto l X hJ σ r1 r2 r3 _ hr7) wd_885 wd_886 wd_887 wd_22 wd_888 rfl rfl kdX2_compareInto ⟨Nat.le_of_ble_eq_true rfl, Nat.le_of_ble_eq_true rfl⟩ xl40 rfl rfl rfl hl.1 (Nat.le_of_ble_eq_true rfl) dX4_carryOut_208 (fun H locs P => ?_)
    have h := Option.some.inj h
    exact g_iret C P (g_fst h) (g_snd h) dX4_carryOut_211
  have h := g_ifn cs100 h
  by_cases cs101 : r4 = (101 : Int32)
  · have h := g_ifp cs101 h
    refine lv_tableIn (off := 124) (tgt := 152) hx hb dX4_carryOut_28 (by rw [cs101]; decide) (by rw [cs101]; decide) (by rw [cs101]; rfl) (by decide) ?_
    refine lv_aload_n hx hb dX4_carryOut_152 rfl (lv_at hl 4 rfl) ?_
    refine lv_iload_n hx hb dX4_carryOut_153 rfl (lv_at hl 2 rfl) ?_
    obtain ⟨r8, hr8, h⟩ := g_bind h
    refine g_callVi (n := 1) (As := [.int r1]) (rest := []) C P (kX2_endBlock l X hJ σ r1 _ hr8) wd_879 wd_324 wd_325 wd_22 wd_326 rfl rfl kdX2_endBlock ⟨Nat.le_of_ble_eq_true rfl, Nat.le_of_ble_eq_true rfl⟩ xl40 rfl rfl rfl hl.1 (Nat.le_of_ble_eq_true rfl) dX4_carryOut_154 (fun H locs P => ?_)
    have h := Option.some.inj h
    exact g_iret C P (g_fst h) (g_snd h) dX4_carryOut_157
  have h := g_ifn cs101 h
  by_cases cs106 : r4 = (106 : Int32)
  · have h := g_ifp cs106 h
    refine lv_tableIn (off := 200) (tgt := 228) hx hb dX4_carryOut_28 (by rw [cs106]; decide) (by rw [cs106]; decide) (by rw [cs106]; rfl) (by decide) ?_
    refine lv_aload_n hx hb dX4_carryOut_228 rfl (lv_at hl 4 rfl) ?_
    refine lv_iload_n hx hb dX4_carryOut_229 rfl (lv_at hl 2 rfl) ?_
    obtain ⟨r9, hr9, h⟩ := g_bind h
    refine g_callVi (n := 1) (As := [.int r1]) (rest := []) C P (kX2_jumps l X hJ σ r1 _ hr9) wd_892 wd_893 wd_894 wd_22 wd_895 rfl rfl kdX2_jumps ⟨Nat.le_of_ble_eq_true rfl, Nat.le_of_ble_eq_true rfl⟩ xl40 rfl rfl rfl hl.1 (Nat.le_of_ble_eq_true rfl) dX4_carryOut_230 (fun H locs P => ?_)
    have h := Option.some.inj h
    exact g_iret C P (g_fst h) (g_snd h) dX4_carryOut_233
  have h := g_ifn cs106 h
  by_cases cs108 : r4 = (108 : Int32)
  · have h := g_ifp cs108 h
    refine lv_tableIn (off := 164) (tgt := 192) hx hb dX4_carryOut_28 (by rw [cs108]; decide) (by rw [cs108]; decide) (by rw [cs108]; rfl) (by decide) ?_
    refine lv_aload_n hx hb dX4_carryOut_192 rfl (lv_at hl 4 rfl) ?_
    refine lv_iload_n hx hb dX4_carryOut_193 rfl (lv_at hl 2 rfl) ?_
    refine lv_iload hx hb dX4_carryOut_194 (lv_at hl 1 rfl) ?_
    refine lv_iload hx hb dX4_carryOut_196 (lv_at hl 0 rfl) ?_
    obtain ⟨r10, hr10, h⟩ := g_bind h
    refine g_callVi (n := 3) (As := [.int r1, .int r2, .int r3]) (rest := []) C P (kX2_loadBytes l X hJ σ r1 r2 r3 _ hr10) wd_884 wd_460 wd_461 wd_22 wd_462 rfl rfl kdX2_loadBytes ⟨Nat.le_of_ble_eq_true rfl, Nat.le_of_ble_eq_true rfl⟩ xl40 rfl rfl rfl hl.1 (Nat.le_of_ble_eq_true rfl) dX4_carryOut_198 (fun H locs P => ?_)
    have h := Option.some.inj h
    exact g_iret C P (g_fst h) (g_snd h) dX4_carryOut_201
  have h := g_ifn cs108 h
  by_cases cs109 : r4 = (109 : Int32)
  · have h := g_ifp cs109 h
    refine lv_tableIn (off := 116) (tgt := 144) hx hb dX4_carryOut_28 (by rw [cs109]; decide) (by rw [cs109]; decide) (by rw [cs109]; rfl) (by decide) ?_
    refine lv_aload_n hx hb dX4_carryOut_144 rfl (lv_at hl 4 rfl) ?_
    refine lv_iload_n hx hb dX4_carryOut_145 rfl (lv_at hl 2 rfl) ?_
    refine lv_iload hx hb dX4_carryOut_146 (lv_at hl 1 rfl) ?_
    obtain ⟨r11, hr11, h⟩ := g_bind h
    refine g_callVi (n := 2) (As := [.int r1, .int r2]) (rest := []) C P (kX2_makeBlock l X hJ σ r1 r2 _ hr11) wd_878 wd_134 wd_135 wd_22 wd_136 rfl rfl kdX2_makeBlock ⟨Nat.le_of_ble_eq_true rfl, Nat.le_of_ble_eq_true rfl⟩ xl40 rfl rfl rfl hl.1 (Nat.le_of_ble_eq_true rfl) dX4_carryOut_148 (fun H locs P => ?_)
    have h := Option.some.inj h
    exact g_iret C P (g_fst h) (g_snd h) dX4_carryOut_151
  have h := g_ifn cs109 h
  by_cases cs115 : r4 = (115 : Int32)
  · have h := g_ifp cs115 h
    refine lv_tableIn (off := 130) (tgt := 158) hx hb dX4_carryOut_28 (by rw [cs115]; decide) (by rw [cs115]; decide) (by rw [cs115]; rfl) (by decide) ?_
    refine lv_aload_n hx hb dX4_carryOut_158 rfl (lv_at hl 4 rfl) ?_
    refine lv_iload_n hx hb dX4_carryOut_159 rfl (lv_at hl 2 rfl) ?_
    refine lv_iload hx hb dX4_carryOut_160 (lv_at hl 1 rfl) ?_
    obtain ⟨r12, hr12, h⟩ := g_bind h
    refine g_callVi (n := 2) (As := [.int r1, .int r2]) (rest := []) C P (kX2_setNumber l X hJ σ r1 r2 _ hr12) wd_880 wd_368 wd_369 wd_22 wd_370 rfl rfl kdX2_setNumber ⟨Nat.le_of_ble_eq_true rfl, Nat.le_of_ble_eq_true rfl⟩ xl40 rfl rfl rfl hl.1 (Nat.le_of_ble_eq_true rfl) dX4_carryOut_162 (fun H locs P => ?_)
    have h := Option.some.inj h
    exact g_iret C P (g_fst h) (g_snd h) dX4_carryOut_165
  have h := g_ifn cs115 h
  by_cases cs118 : r4 = (118 : Int32)
  · have h := g_ifp cs118 h
    refine lv_tableIn (off := 146) (tgt := 174) hx hb dX4_carryOut_28 (by rw [cs118]; decide) (by rw [cs118]; decide) (by rw [cs118]; rfl) (by decide) ?_
    refine lv_aload_n hx hb dX4_carryOut_174 rfl (lv_at hl 4 rfl) ?_
    refine lv_iload_n hx hb dX4_carryOut_175 rfl (lv_at hl 2 rfl) ?_
    refine lv_iload hx hb dX4_carryOut_176 (lv_at hl 1 rfl) ?_
    obtain ⟨r13, hr13, h⟩ := g_bind h
    refine g_callVi (n := 2) (As := [.int r1, .int r2]) (rest := []) C P (kX2_moveRegister l X hJ σ r1 r2 _ hr13) wd_882 wd_398 wd_399 wd_22 wd_400 rfl rfl kdX2_moveRegister ⟨Nat.le_of_ble_eq_true rfl, Nat.le_of_ble_eq_true rfl⟩ xl40 rfl rfl rfl hl.1 (Nat.le_of_ble_eq_true rfl) dX4_carryOut_178 (fun H locs P => ?_)
    have h := Option.some.inj h
    exact g_iret C P (g_fst h) (g_snd h) dX4_carryOut_181
  have h := g_ifn cs118 h
  by_cases cs119 : r4 = (119 : Int32)
  · have h := g_ifp cs119 h
    refine lv_tableIn (off := 154) (tgt := 182) hx hb dX4_carryOut_28 (by rw [cs119]; decide) (by rw [cs119]; decide) (by rw [cs119]; rfl) (by decide) ?_
    refine lv_aload_n hx hb dX4_carryOut_182 rfl (lv_at hl 4 rfl) ?_
    refine lv_iload_n hx hb dX4_carryOut_183 rfl (lv_at hl 2 rfl) ?_
    refine lv_iload hx hb dX4_carryOut_184 (lv_at hl 1 rfl) ?_
    refine lv_iload hx hb dX4_carryOut_186 (lv_at hl 0 rfl) ?_
    obtain ⟨r14, hr14, h⟩ := g_bind h
    refine g_callVi (n := 3) (As := [.int r1, .int r2, .int r3]) (rest := []) C P (kX2_storeBytes l X hJ σ r1 r2 r3 _ hr14) wd_883 wd_423 wd_424 wd_22 wd_425 rfl rfl kdX2_storeBytes ⟨Nat.le_of_ble_eq_true rfl, Nat.le_of_ble_eq_true rfl⟩ xl40 rfl rfl rfl hl.1 (Nat.le_of_ble_eq_true rfl) dX4_carryOut_188 (fun H locs P => ?_)
    have h := Option.some.inj h
    exact g_iret C P (g_fst h) (g_snd h) dX4_carryOut_191
  have h := g_ifn cs119 h
  by_cases cs122 : r4 = (122 : Int32)
  · have h := g_ifp cs122 h
    refine lv_tableIn (off := 194) (tgt := 222) hx hb dX4_carryOut_28 (by rw [cs122]; decide) (by rw [cs122]; decide) (by rw [cs122]; rfl) (by decide) ?_
    refine lv_aload_n hx hb dX4_carryOut_222 rfl (lv_at hl 4 rfl) ?_
    refine lv_iload_n hx hb dX4_carryOut_223 rfl (lv_at hl 2 rfl) ?_
    obtain ⟨r15, hr15, h⟩ := g_bind h
    refine g_callVi (n := 1) (As := [.int r1]) (rest := []) C P (kX2_freezeBlocks l X hJ σ r1 _ hr15) wd_891 wd_519 wd_520 wd_22 wd_521 rfl rfl kdX2_freezeBlocks ⟨Nat.le_of_ble_eq_true rfl, Nat.le_of_ble_eq_true rfl⟩ xl40 rfl rfl rfl hl.1 (Nat.le_of_ble_eq_true rfl) dX4_carryOut_224 (fun H locs P => ?_)
    have h := Option.some.inj h
    exact g_iret C P (g_fst h) (g_snd h) dX4_carryOut_227
  have h := g_ifn cs122 h
  by_cases cs102 : r4 = (102 : Int32)
  · refine lv_tableIn (off := 206) (tgt := 234) hx hb dX4_carryOut_28 (by rw [cs102]; decide) (by rw [cs102]; decide) (by rw [cs102]; rfl) (by decide) ?_
    refine lv_bipush (v := -2) hx hb dX4_carryOut_234 (by decide) ?_
    have h := Option.some.inj h
    exact g_iret C P (g_fst h) (g_snd h) dX4_carryOut_236
  by_cases cs103 : r4 = (103 : Int32)
  · refine lv_tableIn (off := 206) (tgt := 234) hx hb dX4_carryOut_28 (by rw [cs103]; decide) (by rw [cs103]; decide) (by rw [cs103]; rfl) (by decide) ?_
    refine lv_bipush (v := -2) hx hb dX4_carryOut_234 (by decide) ?_
    have h := Option.some.inj h
    exact g_iret C P (g_fst h) (g_snd h) dX4_carryOut_236
  by_cases cs104 : r4 = (104 : Int32)
  · refine lv_tableIn (off := 206) (tgt := 234) hx hb dX4_carryOut_28 (by rw [cs104]; decide) (by rw [cs104]; decide) (by rw [cs104]; rfl) (by decide) ?_
    refine lv_bipush (v := -2) hx hb dX4_carryOut_234 (by decide) ?_
    have h := Option.some.inj h
    exact g_iret C P (g_fst h) (g_snd h) dX4_carryOut_236
  by_cases cs105 : r4 = (105 : Int32)
  · refine lv_tableIn (off := 206) (tgt := 234) hx hb dX4_carryOut_28 (by rw [cs105]; decide) (by rw [cs105]; decide) (by rw [cs105]; rfl) (by decide) ?_
    refine lv_bipush (v := -2) hx hb dX4_carryOut_234 (by decide) ?_
    have h := Option.some.inj h
    exact g_iret C P (g_fst h) (g_snd h) dX4_carryOut_236
  by_cases cs107 : r4 = (107 : Int32)
  · refine lv_tableIn (off := 206) (tgt := 234) hx hb dX4_carryOut_28 (by rw [cs107]; decide) (by rw [cs107]; decide) (by rw [cs107]; rfl) (by decide) ?_
    refine lv_bipush (v := -2) hx hb dX4_carryOut_234 (by decide) ?_
    have h := Option.some.inj h
    exact g_iret C P (g_fst h) (g_snd h) dX4_carryOut_236
  by_cases cs110 : r4 = (110 : Int32)
  · refine lv_tableIn (off := 206) (tgt := 234) hx hb dX4_carryOut_28 (by rw [cs110]; decide) (by rw [cs110]; decide) (by rw [cs110]; rfl) (by decide) ?_
    refine lv_bipush (v := -2) hx hb dX4_carryOut_234 (by decide) ?_
    have h := Option.some.inj h
    exact g_iret C P (g_fst h) (g_snd h) dX4_carryOut_236
  by_cases cs111 : r4 = (111 : Int32)
  · refine lv_tableIn (off := 206) (tgt := 234) hx hb dX4_carryOut_28 (by rw [cs111]; decide) (by rw [cs111]; decide) (by rw [cs111]; rfl) (by decide) ?_
    refine lv_bipush (v := -2) hx hb dX4_carryOut_234 (by decide) ?_
    have h := Option.some.inj h
    exact g_iret C P (g_fst h) (g_snd h) dX4_carryOut_236
  by_cases cs112 : r4 = (112 : Int32)
  · refine lv_tableIn (off := 206) (tgt := 234) hx hb dX4_carryOut_28 (by rw [cs112]; decide) (by rw [cs112]; decide) (by rw [cs112]; rfl) (by decide) ?_
    refine lv_bipush (v := -2) hx hb dX4_carryOut_234 (by decide) ?_
    have h := Option.some.inj h
    exact g_iret C P (g_fst h) (g_snd h) dX4_carryOut_236
  by_cases cs113 : r4 = (113 : Int32)
  · refine lv_tableIn (off := 206) (tgt := 234) hx hb dX4_carryOut_28 (by rw [cs113]; decide) (by rw [cs113]; decide) (by rw [cs113]; rfl) (by decide) ?_
    refine lv_bipush (v := -2) hx hb dX4_carryOut_234 (by decide) ?_
    have h := Option.some.inj h
    exact g_iret C P (g_fst h) (g_snd h) dX4_carryOut_236
  by_cases cs114 : r4 = (114 : Int32)
  · refine lv_tableIn (off := 206) (tgt := 234) hx hb dX4_carryOut_28 (by rw [cs114]; decide) (by rw [cs114]; decide) (by rw [cs114]; rfl) (by decide) ?_
    refine lv_bipush (v := -2) hx hb dX4_carryOut_234 (by decide) ?_
    have h := Option.some.inj h
    exact g_iret C P (g_fst h) (g_snd h) dX4_carryOut_236
  by_cases cs116 : r4 = (116 : Int32)
  · refine lv_tableIn (off := 206) (tgt := 234) hx hb dX4_carryOut_28 (by rw [cs116]; decide) (by rw [cs116]; decide) (by rw [cs116]; rfl) (by decide) ?_
    refine lv_bipush (v := -2) hx hb dX4_carryOut_234 (by decide) ?_
    have h := Option.some.inj h
    exact g_iret C P (g_fst h) (g_snd h) dX4_carryOut_236
  by_cases cs117 : r4 = (117 : Int32)
  · refine lv_tableIn (off := 206) (tgt := 234) hx hb dX4_carryOut_28 (by rw [cs117]; decide) (by rw [cs117]; decide) (by rw [cs117]; rfl) (by decide) ?_
    refine lv_bipush (v := -2) hx hb dX4_carryOut_234 (by decide) ?_
    have h := Option.some.inj h
    exact g_iret C P (g_fst h) (g_snd h) dX4_carryOut_236
  by_cases cs120 : r4 = (120 : Int32)
  · refine lv_tableIn (off := 206) (tgt := 234) hx hb dX4_carryOut_28 (by rw [cs120]; decide) (by rw [cs120]; decide) (by rw [cs120]; rfl) (by decide) ?_
    refine lv_bipush (v := -2) hx hb dX4_carryOut_234 (by decide) ?_
    have h := Option.some.inj h
    exact g_iret C P (g_fst h) (g_snd h) dX4_carryOut_236
  by_cases cs121 : r4 = (121 : Int32)
  · refine lv_tableIn (off := 206) (tgt := 234) hx hb dX4_carryOut_28 (by rw [cs121]; decide) (by rw [cs121]; decide) (by rw [cs121]; rfl) (by decide) ?_
    refine lv_bipush (v := -2) hx hb dX4_carryOut_234 (by decide) ?_
    have h := Option.some.inj h
    exact g_iret C P (g_fst h) (g_snd h) dX4_carryOut_236
  refine lv_tableOut (tgt := 234) hx hb dX4_carryOut_28 (by have e0 := lv_neT cs98 (a := 98) rfl; have e1 := lv_neT cs99 (a := 99) rfl; have e2 := lv_neT cs100 (a := 100) rfl; have e3 := lv_neT cs101 (a := 101) rfl; have e4 := lv_neT cs106 (a := 106) rfl; have e5 := lv_neT cs108 (a := 108) rfl; have e6 := lv_neT cs109 (a := 109) rfl; have e7 := lv_neT cs115 (a := 115) rfl; have e8 := lv_neT cs118 (a := 118) rfl; have e9 := lv_neT cs119 (a := 119) rfl; have e10 := lv_neT cs122 (a := 122) rfl; have e11 := lv_neT cs102 (a := 102) rfl; have e12 := lv_neT cs103 (a := 103) rfl; have e13 := lv_neT cs104 (a := 104) rfl; have e14 := lv_neT cs105 (a := 105) rfl; have e15 := lv_neT cs107 (a := 107) rfl; have e16 := lv_neT cs110 (a := 110) rfl; have e17 := lv_neT cs111 (a := 111) rfl; have e18 := lv_neT cs112 (a := 112) rfl; have e19 := lv_neT cs113 (a := 113) rfl; have e20 := lv_neT cs114 (a := 114) rfl; have e21 := lv_neT cs116 (a := 116) rfl; have e22 := lv_neT cs117 (a := 117) rfl; have e23 := lv_neT cs120 (a := 120) rfl; have e24 := lv_neT cs121 (a := 121) rfl; omega) (by decide) ?_
  refine lv_bipush (v := -2) hx hb dX4_carryOut_234 (by decide) ?_
  have h := Option.some.inj h
  exact g_iret C P (g_fst h) (g_snd h) dX4_carryOut_236
abbrev rmX4_failure : Room := { frames := 0, cells := 0, slots := 0, locals := 0 }
theorem kdX4_failure : yX4_failure.cls = RX4 ∧ yX4_failure.cls ≠ "java/lang/invoke/MethodHandle" ∧ yX4_failure.cls ≠ "java/lang/invoke/VarHandle" ∧ (parseMethodDescriptor yX4_failure.desc).map (fun d => d.parameters.length) = some 2 := by decide +kernel
set_option maxHeartbeats 4000000 in
set_option maxRecDepth 100000 in
theorem kX4_failure (l : Launch) (X : gXt) (hJ : gJ X xL) (σ : gS) (a1 : Int32) (a2 : Int32) (q : Int32) (h : qP_failure a1 a2 = q) : gMi l yX4_failure (gws yX4_failure cX4_failure 3 (some .int)) rmX4_failure X xL [.int a1, .int a2] σ q σ := by
  refine g_enter (cc := cX4_failure) (nL := 3) (ret := (some .int)) hJ (plainFor_of_name (by decide)) (Nat.le_of_ble_eq_true rfl) ?_
  intro p e s m below meth c ls C P hl
  have C : gC p s m _ meth c RX4 cX4_failure 3 (some .int) X xL := C
  have hx := C.1
  have hb := C.2.1
  have hK := C.2.2.2.2.2.2.2.1
  have hts := C.2.2.2.2.1
  have hl : lv_has ls 3 [(0, .int a1), (1, .int a2)] := hl
  unfold qP_failure at h
  refine lv_iload_n hx hb dX4_failure_0 rfl (lv_at hl 0 rfl) ?_
  refine lv_bipush (v := -2) hx hb dX4_failure_1 (by decide) ?_
  refine lv_icmp_ne (tgt := 12) hx hb dX4_failure_3 (by decide) (fun c1 => ?_) (fun c1 => ?_)
  · have h := g_ifn c1 h
    refine lv_iload_n hx hb dX4_failure_12 rfl (lv_at hl 0 rfl) ?_
    refine lv_bipush (v := -4) hx hb dX4_failure_13 (by decide) ?_
    refine lv_icmp_ne (tgt := 24) hx hb dX4_failure_15 (by decide) (fun c2 => ?_) (fun c2 => ?_)
    · have h := g_ifn c2 h
      refine lv_bipush (v := -10) hx hb dX4_failure_24 (by decide) ?_
      refine lv_iload_n hx hb dX4_failure_26 rfl (lv_at hl 0 rfl) ?_
      refine lv_isub hx hb dX4_failure_27 ?_
      refine lv_istore_n (lv' := [(2, .int ((-10 : Int32) - a1)), (0, .int a1), (1, .int a2)]) hx hb dX4_failure_28 rfl hl (by decide) rfl (fun ls hl => ?_)
      refine lv_sipush (v := -4000) hx hb dX4_failure_29 (by decide) ?_
      refine lv_sipush (v := 1000) hx hb dX4_failure_32 (by decide) ?_
      refine lv_iload_n hx hb dX4_failure_35 rfl (lv_at hl 0 rfl) ?_
      refine lv_imul hx hb dX4_failure_36 ?_
      refine lv_isub hx hb dX4_failure_37 ?_
      refine lv_iload_n hx hb dX4_failure_38 rfl (lv_at hl 2 rfl) ?_
      refine lv_isub hx hb dX4_failure_39 ?_
      exact g_iret C P h rfl dX4_failure_40
    have h := g_ifp c2 h
    refine lv_sipush (v := -3000) hx hb dX4_failure_18 (by decide) ?_
    refine lv_iload_n hx hb dX4_failure_21 rfl (lv_at hl 1 rfl) ?_
    refine lv_isub hx hb dX4_failure_22 ?_
    exact g_iret C P h rfl dX4_failure_23
  have h := g_ifp c1 h
  refine lv_sipush (v := -2000) hx hb dX4_failure_6 (by decide) ?_
  refine lv_iload_n hx hb dX4_failure_9 rfl (lv_at hl 1 rfl) ?_
  refine lv_isub hx hb dX4_failure_10 ?_
  exact g_iret C P h rfl dX4_failure_11
abbrev rmX4_run : Room := { frames := 5, cells := 0, slots := 0, locals := 121 }
theorem kdX4_run : yX4_run.cls = RX4 ∧ yX4_run.cls ≠ "java/lang/invoke/MethodHandle" ∧ yX4_run.cls ≠ "java/lang/invoke/VarHandle" ∧ (parseMethodDescriptor yX4_run.desc).map (fun d => d.parameters.length) = some 2 := by decide +kernel
set_option maxHeartbeats 4000000 in
set_option maxRecDepth 100000 in
theorem kX4_run_5 {p : Program} {l : Launch} {e : Env} {s : State} {m : MethodId} {args : Array Value} {below : List Frame} {meth : Method} {c : Code} {X : gXt} (hJ : gJ X xL) (C : gC p s m args meth c RX4 cX4_run 6 (some .int) X xL) (f5_2 : Int32) (k : gS → Option (Int32 × gS)) (q : Int32 × gS) (hk : ∀ (σ' : gS) (H : Heap) (locs : List Loc) (ls : Array Slot), k σ' = some q → gH X xL σ' s H locs → lv_has ls 6 [] → W p l e rmX4_run s m args below meth c H locs 0 0 (MQ below (gQi X xL q.1 q.2) args s 0 0 (gA X xL)) (F0 m 83 ls [])) : ∀ (n : Nat) (σ : gS) (v3 : Int32) (v4 : Int32), qP_run_5 f5_2 k n σ v3 v4 = some q → ∀ (H : Heap) (locs : List Loc) (ls : Array Slot), gH X xL σ s H locs → lv_has ls 6 [(0, .ref (gad X 42)), (1, .ref (gad X 40)), (2, .int f5_2), (3, .int v3), (4, .int v4)] → W p l e rmX4_run s m args below meth c H locs 0 0 (MQ below (gQi X xL q.1 q.2) args s 0 0 (gA X xL)) (F0 m 5 ls []) := by
  have hx := C.1
  have hb := C.2.1
  have hK := C.2.2.2.2.2.2.2.1
  have hts := C.2.2.2.2.1
  intro n
  induction n with
  | zero => intro σ v3 v4 h; cases h
  | succ n ih =>
    intro σ v3 v4 h H locs ls P hl
    have h : (if f5_2 < v4 then k σ else (if v3 < (gI σ 42 4) then (if f5_2 ≤ v4 then qP_run_5 f5_2 k n σ v3 (v4 + 1) else (qP_carryOut σ v3).bind (fun r4 => (if 0 ≤ r4.1 then (qP_letterOf r4.2 v3).bind (fun r6 => (if r6 = (106 : Int32) then (if r4.1 = (1 : Int32) then (qP_operand r4.2 v3 (1 : Int32)).bind (fun r9 => qP_run_5 f5_2 k n r4.2 r9 (v4 + 1)) else qP_run_5 f5_2 k n r4.2 (v3 + (1 : Int32)) (v4 + 1)) else qP_run_5 f5_2 k n r4.2 (v3 + (1 : Int32)) (v4 + 1))) else some ((qP_failure r4.1 v3), r4.2)))) else some (v4, σ))) = some q := h
    refine lv_iload hx hb dX4_run_5 (lv_at hl 4 rfl) ?_
    refine lv_iload_n hx hb dX4_run_7 rfl (lv_at hl 2 rfl) ?_
    refine lv_icmp_gt (tgt := 83) hx hb dX4_run_8 (by decide) (fun c1 => ?_) (fun c1 => ?_)
    · have h := g_ifp c1 h
      exact hk σ _ _ _ h P (lv_sub hl [] rfl)
    have h := g_ifn c1 h
    refine lv_iload_n hx hb dX4_run_11 rfl (lv_at hl 3 rfl) ?_
    refine lv_aload_n hx hb dX4_run_12 rfl (lv_at hl 0 rfl) ?_
    refine g_getI C P xl42 rfl inlX4 4 (by decide) wd_829 rfl dX4_run_13 ?_
    refine lv_icmp_lt (tgt := 22) hx hb dX4_run_16 (by decide) (fun c2 => ?_) (fun c2 => ?_)
    · have h := g_ifp c2 h
      refine lv_iload hx hb dX4_run_22 (lv_at hl 4 rfl) ?_
      refine lv_iload_n hx hb dX4_run_24 rfl (lv_at hl 2 rfl) ?_
      refine lv_icmp_ge (tgt := 77) hx hb dX4_run_25 (by decide) (fun c3 => ?_) (fun c3 => ?_)
      · have h := g_ifp c3 h
        refine lv_iinc (v := (v4 + 1)) (lv' := [(4, .int (v4 + 1)), (0, .ref (gad X 42)), (1, .ref (gad X 40)), (2, .int f5_2), (3, .int v3)]) hx hb dX4_run_77 hl (k := 4) rfl rfl (by decide) rfl (fun ls hl => ?_)
        refine lv_goto (tgt := 5) hx hb dX4_run_80 (by decide) ?_
        exact ih σ v3 (v4 + 1) h _ _ _ P (lv_sub hl [1, 2, 3, 4, 0] rfl)
      have h := g_ifn c3 h
      refine lv_aload_n hx hb dX4_run_28 rfl (lv_at hl 0 rfl) ?_
      refine lv_aload_n hx hb dX4_run_29 rfl (lv_at hl 1 rfl) ?_
      refine lv_iload_n hx hb dX4_run_30 rfl (lv_at hl 3 rfl) ?_
      obtain ⟨r4, hr4, h⟩ := g_bind h
      refine g_callVi (n := 2) (As := [.ref (gad X 40), .int v3]) (rest := []) C P (kX4_carryOut l X hJ σ v3 _ hr4) wd_870 wd_871 wd_872 wd_26 wd_873 rfl rfl kdX4_carryOut ⟨Nat.le_of_ble_eq_true rfl, Nat.le_of_ble_eq_true rfl⟩ xl42 rfl rfl rfl hl.1 (Nat.le_of_ble_eq_true rfl) dX4_run_31 (fun H locs P => ?_)
      refine lv_istore (lv' := [(5, .int r4.1), (0, .ref (gad X 42)), (1, .ref (gad X 40)), (2, .int f5_2), (3, .int v3), (4, .int v4)]) hx hb dX4_run_34 hl (by decide) rfl (fun ls hl => ?_)
      refine lv_iload hx hb dX4_run_36 (lv_at hl 0 rfl) ?_
      refine lv_if_ge (tgt := 48) hx hb dX4_run_38 (by decide) (fun c5 => ?_) (fun c5 => ?_)
      · have h := g_ifp c5 h
        refine lv_aload_n hx hb dX4_run_48 rfl (lv_at hl 1 rfl) ?_
        refine lv_iload_n hx hb dX4_run_49 rfl (lv_at hl 4 rfl) ?_
        obtain ⟨r6, hr6, h⟩ := g_bind h
        refine g_callVi (n := 1) (As := [.int v3]) (rest := []) C P (kX4_letterOf l X hJ r4.2 v3 _ hr6) wd_874 wd_875 wd_876 wd_26 wd_877 rfl rfl kdX4_letterOf ⟨Nat.le_of_ble_eq_true rfl, Nat.le_of_ble_eq_true rfl⟩ xl42 rfl rfl rfl hl.1 (Nat.le_of_ble_eq_true rfl) dX4_run_50 (fun H locs P => ?_)
        refine lv_bipush (v := 106) hx hb dX4_run_53 (by decide) ?_
        refine lv_icmp_ne (tgt := 73) hx hb dX4_run_55 (by decide) (fun c7 => ?_) (fun c7 => ?_)
        · have h := g_ifn c7 h
          refine lv_iload_n hx hb dX4_run_73 rfl (lv_at hl 4 rfl) ?_
          refine lv_iconst (v := 1) hx hb dX4_run_74 (by decide) ?_
          refine lv_iadd hx hb dX4_run_75 ?_
          refine lv_istore_n (lv' := [(3, .int (v3 + (1 : Int32))), (5, .int r4.1), (0, .ref (gad X 42)), (1, .ref (gad X 40)), (2, .int f5_2), (4, .int v4)]) hx hb dX4_run_76 rfl hl (by decide) rfl (fun ls hl => ?_)
          refine lv_iinc (v := (v4 + 1)) (lv' := [(4, .int (v4 + 1)), (3, .int (v3 + (1 : Int32))), (5, .int r4.1), (0, .ref (gad X 42)), (1, .ref (gad X 40)), (2, .int f5_2)]) hx hb dX4_run_77 hl (k := 5) rfl rfl (by decide) rfl (fun ls hl => ?_)
          refine lv_goto (tgt := 5) hx hb dX4_run_80 (by decide) ?_
          exact ih r4.2 (v3 + (1 : Int32)) (v4 + 1) h _ _ _ P (lv_sub hl [3, 4, 5, 1, 0] rfl)
        have h := g_ifp c7 h
        refine lv_iload hx hb dX4_run_58 (lv_at hl 0 rfl) ?_
        refine lv_iconst (v := 1) hx hb dX4_run_60 (by decide) ?_
        refine lv_icmp_ne (tgt := 73) hx hb dX4_run_61 (by decide) (fun c8 => ?_) (fun c8 => ?_)
        · have h := g_ifn c8 h
          refine lv_iload_n hx hb dX4_run_73 rfl (lv_at hl 4 rfl) ?_
          refine lv_iconst (v := 1) hx hb dX4_run_74 (by decide) ?_
          refine lv_iadd hx hb dX4_run_75 ?_
          refine lv_istore_n (lv' := [(3, .int (v3 + (1 : Int32))), (5, .int r4.1), (0, .ref (gad X 42)), (1, .ref (gad X 40)), (2, .int f5_2), (4, .int v4)]) hx hb dX4_run_76 rfl hl (by decide) rfl (fun ls hl => ?_)
          refine lv_iinc (v := (v4 + 1)) (lv' := [(4, .int (v4 + 1)), (3, .int (v3 + (1 : Int32))), (5, .int r4.1), (0, .ref (gad X 42)), (1, .ref (gad X 40)), (2, .int f5_2)]) hx hb dX4_run_77 hl (k := 5) rfl rfl (by decide) rfl (fun ls hl => ?_)
          refine lv_goto (tgt := 5) hx hb dX4_run_80 (by decide) ?_
          exact ih r4.2 (v3 + (1 : Int32)) (v4 + 1) h _ _ _ P (lv_sub hl [3, 4, 5, 1, 0] rfl)
        have h := g_ifp c8 h
        refine lv_aload_n hx hb dX4_run_64 rfl (lv_at hl 1 rfl) ?_
        refine lv_iload_n hx hb dX4_run_65 rfl (lv_at hl 4 rfl) ?_
        refine lv_iconst (v := 1) hx hb dX4_run_66 (by decide) ?_
        obtain ⟨r9, hr9, h⟩ := g_bind h
        refine g_callVi (n := 2) (As := [.int v3, .int (1 : Int32)]) (rest := []) C P (kX4_operand l X hJ r4.2 v3 (1 : Int32) _ hr9) wd_854 wd_855 wd_856 wd_26 wd_857 rfl rfl kdX4_operand ⟨Nat.le_of_ble_eq_true rfl, Nat.le_of_ble_eq_true rfl⟩ xl42 rfl rfl rfl hl.1 (Nat.le_of_ble_eq_true rfl) dX4_run_67 (fun H locs P => ?_)
        refine lv_goto (tgt := 76) hx hb dX4_run_70 (by decide) ?_
        refine lv_istore_n (lv' := [(3, .int r9), (5, .int r4.1), (0, .ref (gad X 42)), (1, .ref (gad X 40)), (2, .int f5_2), (4, .int v4)]) hx hb dX4_run_76 rfl hl (by decide) rfl (fun ls hl => ?_)
        refine lv_iinc (v := (v4 + 1)) (lv' := [(4, .int (v4 + 1)), (3, .int r9), (5, .int r4.1), (0, .ref (gad X 42)), (1, .ref (gad X 40)), (2, .int f5_2)]) hx hb dX4_run_77 hl (k := 5) rfl rfl (by decide) rfl (fun ls hl => ?_)
        refine lv_goto (tgt := 5) hx hb dX4_run_80 (by decide) ?_
        exact ih r4.2 r9 (v4 + 1) h _ _ _ P (lv_sub hl [3, 4, 5, 1, 0] rfl)
      have h := g_ifn c5 h
      refine lv_iload hx hb dX4_run_41 (lv_at hl 0 rfl) ?_
      refine lv_iload_n hx hb dX4_run_43 rfl (lv_at hl 4 rfl) ?_
      refine g_callSi (n := 2) (As := [.int r4.1, .int v3]) (rest := []) C P (kX4_failure l X hJ r4.2 r4.1 v3 _ rfl) wd_896 wd_897 wd_26 wd_898 rfl rfl kdX4_failure.2 ⟨Nat.le_of_ble_eq_true rfl, Nat.le_of_ble_eq_true rfl⟩ rfl rfl hl.1 (Nat.le_of_ble_eq_true rfl) dX4_run_44 (fun H locs P => ?_)
      have h := Option.some.inj h
      exact g_iret C P (g_fst h) (g_snd h) dX4_run_47
    have h := g_ifn c2 h
    refine lv_iload hx hb dX4_run_19 (lv_at hl 4 rfl) ?_
    have h := Option.some.inj h
    exact g_iret C P (g_fst h) (g_snd h) dX4_run_21
set_option maxHeartbeats 4000000 in
set_option maxRecDepth 100000 in
theorem kX4_run (l : Launch) (X : gXt) (hJ : gJ X xL) (σ : gS) (a2 : Int32) (q : Int32 × gS) (h : qP_run σ a2 = some q) : gMi l yX4_run (gws yX4_run cX4_run 6 (some .int)) rmX4_run X xL [.ref (gad X 42), .ref (gad X 40), .int a2] σ q.1 q.2 := by
  refine g_enter (cc := cX4_run) (nL := 6) (ret := (some .int)) hJ (plainFor_of_name (by decide)) (Nat.le_of_ble_eq_true rfl) ?_
  intro p e s m below meth c ls C P hl
  have C : gC p s m _ meth c RX4 cX4_run 6 (some .int) X xL := C
  have hx := C.1
  have hb := C.2.1
  have hK := C.2.2.2.2.2.2.2.1
  have hts := C.2.2.2.2.1
  have hl : lv_has ls 6 [(0, .ref (gad X 42)), (1, .ref (gad X 40)), (2, .int a2)] := hl
  unfold qP_run at h
  refine lv_iconst (v := 0) hx hb dX4_run_0 (by decide) ?_
  refine lv_istore_n (lv' := [(3, .int (0 : Int32)), (0, .ref (gad X 42)), (1, .ref (gad X 40)), (2, .int a2)]) hx hb dX4_run_1 rfl hl (by decide) rfl (fun ls hl => ?_)
  refine lv_iconst (v := 0) hx hb dX4_run_2 (by decide) ?_
  refine lv_istore (lv' := [(4, .int (0 : Int32)), (3, .int (0 : Int32)), (0, .ref (gad X 42)), (1, .ref (gad X 40)), (2, .int a2)]) hx hb dX4_run_3 hl (by decide) rfl (fun ls hl => ?_)
  refine kX4_run_5 hJ C a2 _ _ ?_ _ _ _ _ h _ _ _ P (lv_sub hl [2, 3, 4, 1, 0] rfl)
  intro σ10 H locs ls h P hl
  refine lv_sipush (v := -500) hx hb dX4_run_83 (by decide) ?_
  have h := Option.some.inj h
  exact g_iret C P (g_fst h) (g_snd h) dX4_run_86
abbrev rmX5_isBlock : Room := { frames := 0, cells := 0, slots := 0, locals := 0 }
theorem kdX5_isBlock : yX5_isBlock.cls = RX5 ∧ yX5_isBlock.cls ≠ "java/lang/invoke/MethodHandle" ∧ yX5_isBlock.cls ≠ "java/lang/invoke/VarHandle" ∧ (parseMethodDescriptor yX5_isBlock.desc).map (fun d => d.parameters.length) = some 1 := by decide +kernel
set_option maxHeartbeats 4000000 in
set_option maxRecDepth 100000 in
theorem kX5_isBlock (l : Launch) (X : gXt) (hJ : gJ X xL) (σ : gS) (a1 : Int32) (q : Int32) (h : qS_isBlock σ a1 = q) : gMi l yX5_isBlock (gws yX5_isBlock cX5_isBlock 2 (some .boolean)) rmX5_isBlock X xL [.ref (gad X 1), .int a1] σ q σ := by
  refine g_enter (cc := cX5_isBlock) (nL := 2) (ret := (some .boolean)) hJ (plainFor_of_name (by decide)) (Nat.le_of_ble_eq_true rfl) ?_
  intro p e s m below meth c ls C P hl
  have C : gC p s m _ meth c RX5 cX5_isBlock 2 (some .boolean) X xL := C
  have hx := C.1
  have hb := C.2.1
  have hK := C.2.2.2.2.2.2.2.1
  have hts := C.2.2.2.2.1
  have hl : lv_has ls 2 [(0, .ref (gad X 1)), (1, .int a1)] := hl
  unfold qS_isBlock at h
  refine lv_iload_n hx hb dX5_isBlock_0 rfl (lv_at hl 1 rfl) ?_
  refine lv_if_lt (tgt := 22) hx hb dX5_isBlock_1 (by decide) (fun c1 => ?_) (fun c1 => ?_)
  · have h := g_ifp c1 h
    refine lv_iconst (v := 0) hx hb dX5_isBlock_22 (by decide) ?_
    exact g_zret C P rfl h rfl dX5_isBlock_23
  have h := g_ifn c1 h
  refine lv_iload_n hx hb dX5_isBlock_4 rfl (lv_at hl 1 rfl) ?_
  refine lv_aload_n hx hb dX5_isBlock_5 rfl (lv_at hl 0 rfl) ?_
  refine g_getI C P xl1 rfl inlX5 7 (by decide) wd_131 rfl dX5_isBlock_6 ?_
  refine lv_icmp_ge (tgt := 22) hx hb dX5_isBlock_9 (by decide) (fun c2 => ?_) (fun c2 => ?_)
  · have h := g_ifp c2 h
    refine lv_iconst (v := 0) hx hb dX5_isBlock_22 (by decide) ?_
    exact g_zret C P rfl h rfl dX5_isBlock_23
  have h := g_ifn c2 h
  refine lv_iload_n hx hb dX5_isBlock_12 rfl (lv_at hl 1 rfl) ?_
  refine lv_bipush (v := 10) hx hb dX5_isBlock_13 (by decide) ?_
  refine lv_icmp_ge (tgt := 22) hx hb dX5_isBlock_15 (by decide) (fun c3 => ?_) (fun c3 => ?_)
  · have h := g_ifp c3 h
    refine lv_iconst (v := 0) hx hb dX5_isBlock_22 (by decide) ?_
    exact g_zret C P rfl h rfl dX5_isBlock_23
  have h := g_ifn c3 h
  refine lv_iconst (v := 1) hx hb dX5_isBlock_18 (by decide) ?_
  refine lv_goto (tgt := 23) hx hb dX5_isBlock_19 (by decide) ?_
  exact g_zret C P rfl h rfl dX5_isBlock_23
abbrev rmX5_isImage : Room := { frames := 0, cells := 0, slots := 0, locals := 0 }
theorem kdX5_isImage : yX5_isImage.cls = RX5 ∧ yX5_isImage.cls ≠ "java/lang/invoke/MethodHandle" ∧ yX5_isImage.cls ≠ "java/lang/invoke/VarHandle" ∧ (parseMethodDescriptor yX5_isImage.desc).map (fun d => d.parameters.length) = some 1 := by decide +kernel
set_option maxHeartbeats 4000000 in
set_option maxRecDepth 100000 in
theorem kX5_isImage (l : Launch) (X : gXt) (hJ : gJ X xL) (σ : gS) (a1 : Int32) (q : Int32) (h : qS_isImage σ a1 = q) : gMi l yX5_isImage (gws yX5_isImage cX5_isImage 2 (some .boolean)) rmX5_isImage X xL [.ref (gad X 1), .int a1] σ q σ := by
  refine g_enter (cc := cX5_isImage) (nL := 2) (ret := (some .boolean)) hJ (plainFor_of_name (by decide)) (Nat.le_of_ble_eq_true rfl) ?_
  intro p e s m below meth c ls C P hl
  have C : gC p s m _ meth c RX5 cX5_isImage 2 (some .boolean) X xL := C
  have hx := C.1
  have hb := C.2.1
  have hK := C.2.2.2.2.2.2.2.1
  have hts := C.2.2.2.2.1
  have hl : lv_has ls 2 [(0, .ref (gad X 1)), (1, .int a1)] := hl
  unfold qS_isImage at h
  refine lv_iload_n hx hb dX5_isImage_0 rfl (lv_at hl 1 rfl) ?_
  refine lv_if_lt (tgt := 16) hx hb dX5_isImage_1 (by decide) (fun c1 => ?_) (fun c1 => ?_)
  · have h := g_ifp c1 h
    refine lv_iconst (v := 0) hx hb dX5_isImage_16 (by decide) ?_
    exact g_zret C P rfl h rfl dX5_isImage_17
  have h := g_ifn c1 h
  refine lv_iload_n hx hb dX5_isImage_4 rfl (lv_at hl 1 rfl) ?_
  refine lv_aload_n hx hb dX5_isImage_5 rfl (lv_at hl 0 rfl) ?_
  refine g_getI C P xl1 rfl inlX5 8 (by decide) wd_132 rfl dX5_isImage_6 ?_
  refine lv_icmp_ge (tgt := 16) hx hb dX5_isImage_9 (by decide) (fun c2 => ?_) (fun c2 => ?_)
  · have h := g_ifp c2 h
    refine lv_iconst (v := 0) hx hb dX5_isImage_16 (by decide) ?_
    exact g_zret C P rfl h rfl dX5_isImage_17
  have h := g_ifn c2 h
  refine lv_iconst (v := 1) hx hb dX5_isImage_12 (by decide) ?_
  refine lv_goto (tgt := 17) hx hb dX5_isImage_13 (by decide) ?_
  exact g_zret C P rfl h rfl dX5_isImage_17
abbrev rmX5_registerProperty : Room := { frames := 1, cells := 0, slots := 0, locals := 20 }
theorem kdX5_registerProperty : yX5_registerProperty.cls = RX5 ∧ yX5_registerProperty.cls ≠ "java/lang/invoke/MethodHandle" ∧ yX5_registerProperty.cls ≠ "java/lang/invoke/VarHandle" ∧ (parseMethodDescriptor yX5_registerProperty.desc).map (fun d => d.parameters.length) = some 2 := by decide +kernel
set_option maxHeartbeats 4000000 in
set_option maxRecDepth 100000 in
theorem kX5_registerProperty (l : Launch) (X : gXt) (hJ : gJ X xL) (σ : gS) (a1 : Int32) (a2 : Int32) (q : Int32) (h : qS_registerProperty σ a1 a2 = some q) : gMi l yX5_registerProperty (gws yX5_registerProperty cX5_registerProperty 3 (some .int)) rmX5_registerProperty X xL [.ref (gad X 1), .int a1, .int a2] σ q σ := by
  refine g_enter (cc := cX5_registerProperty) (nL := 3) (ret := (some .int)) hJ (plainFor_of_name (by decide)) (Nat.le_of_ble_eq_true rfl) ?_
  intro p e s m below meth c ls C P hl
  have C : gC p s m _ meth c RX5 cX5_registerProperty 3 (some .int) X xL := C
  have hx := C.1
  have hb := C.2.1
  have hK := C.2.2.2.2.2.2.2.1
  have hts := C.2.2.2.2.1
  have hl : lv_has ls 3 [(0, .ref (gad X 1)), (1, .int a1), (2, .int a2)] := hl
  unfold qS_registerProperty at h
  refine lv_iload_n hx hb dX5_registerProperty_0 rfl (lv_at hl 1 rfl) ?_
  refine g_callNi (n := 1) (As := [.int a1]) (rest := []) C P (kX7_isRegister l X hJ σ a1 _ rfl) wd_139 rfl rfl kdX7_isRegister.2 ⟨Nat.le_of_ble_eq_true rfl, Nat.le_of_ble_eq_true rfl⟩ (hK.2 (RX5, 53, yX7_isRegister, RX7) (List.mem_of_getElem? (i := 9) rfl)) wd_2 wd_138 rfl rfl hl.1 (Nat.le_of_ble_eq_true rfl) dX5_registerProperty_1 (fun H locs P => ?_)
  refine lv_if_ne (tgt := 10) hx hb dX5_registerProperty_4 (by decide) (fun c1 => ?_) (fun c1 => ?_)
  · have h := g_ifn c1 h
    refine lv_iload_n hx hb dX5_registerProperty_10 rfl (lv_at hl 2 rfl) ?_
    by_cases cs0 : a2 = (0 : Int32)
    · have h := g_ifp cs0 h
      refine lv_tableIn (off := 25) (tgt := 36) hx hb dX5_registerProperty_11 (by rw [cs0]; decide) (by rw [cs0]; decide) (by rw [cs0]; rfl) (by decide) ?_
      refine lv_aload_n hx hb dX5_registerProperty_36 rfl (lv_at hl 0 rfl) ?_
      refine g_getR C P xl1 rfl inlX5 0 (by decide) wd_41 rfl dX5_registerProperty_37 ?_
      refine lv_iload_n hx hb dX5_registerProperty_40 rfl (lv_at hl 1 rfl) ?_
      obtain ⟨b2, h⟩ := g_ob h
      refine g_iald (j := a1.toNatClampNeg) C P xl2 b2 rfl dX5_registerProperty_41 ?_
      have h := Option.some.inj h
      exact g_iret C P h rfl dX5_registerProperty_42
    have h := g_ifn cs0 h
    by_cases cs1 : a2 = (1 : Int32)
    · have h := g_ifp cs1 h
      refine lv_tableIn (off := 32) (tgt := 43) hx hb dX5_registerProperty_11 (by rw [cs1]; decide) (by rw [cs1]; decide) (by rw [cs1]; rfl) (by decide) ?_
      refine lv_aload_n hx hb dX5_registerProperty_43 rfl (lv_at hl 0 rfl) ?_
      refine g_getR C P xl1 rfl inlX5 0 (by decide) wd_41 rfl dX5_registerProperty_44 ?_
      refine lv_iload_n hx hb dX5_registerProperty_47 rfl (lv_at hl 1 rfl) ?_
      obtain ⟨b3, h⟩ := g_ob h
      refine g_iald (j := a1.toNatClampNeg) C P xl2 b3 rfl dX5_registerProperty_48 ?_
      refine lv_if_ne (tgt := 56) hx hb dX5_registerProperty_49 (by decide) (fun c4 => ?_) (fun c4 => ?_)
      · have h := g_ifn c4 h
        refine lv_aload_n hx hb dX5_registerProperty_56 rfl (lv_at hl 0 rfl) ?_
        refine g_getR C P xl1 rfl inlX5 1 (by decide) wd_42 rfl dX5_registerProperty_57 ?_
        refine lv_iload_n hx hb dX5_registerProperty_60 rfl (lv_at hl 1 rfl) ?_
        refine g_iald (j := a1.toNatClampNeg) C P xl3 b3 rfl dX5_registerProperty_61 ?_
        have h := Option.some.inj h
        exact g_iret C P h rfl dX5_registerProperty_62
      have h := g_ifp c4 h
      refine lv_iconst (v := -1) hx hb dX5_registerProperty_52 (by decide) ?_
      refine lv_goto (tgt := 62) hx hb dX5_registerProperty_53 (by decide) ?_
      have h := Option.some.inj h
      exact g_iret C P h rfl dX5_registerProperty_62
    have h := g_ifn cs1 h
    by_cases cs2 : a2 = (2 : Int32)
    · have h := g_ifp cs2 h
      refine lv_tableIn (off := 52) (tgt := 63) hx hb dX5_registerProperty_11 (by rw [cs2]; decide) (by rw [cs2]; decide) (by rw [cs2]; rfl) (by decide) ?_
      refine lv_aload_n hx hb dX5_registerProperty_63 rfl (lv_at hl 0 rfl) ?_
      refine g_getR C P xl1 rfl inlX5 0 (by decide) wd_41 rfl dX5_registerProperty_64 ?_
      refine lv_iload_n hx hb dX5_registerProperty_67 rfl (lv_at hl 1 rfl) ?_
      obtain ⟨b5, h⟩ := g_ob h
      refine g_iald (j := a1.toNatClampNeg) C P xl2 b5 rfl dX5_registerProperty_68 ?_
      refine lv_iconst (v := 2) hx hb dX5_registerProperty_69 (by decide) ?_
      refine lv_icmp_ne (tgt := 82) hx hb dX5_registerProperty_70 (by decide) (fun c6 => ?_) (fun c6 => ?_)
      · have h := g_ifn c6 h
        refine lv_iconst (v := -1) hx hb dX5_registerProperty_82 (by decide) ?_
        have h := Option.some.inj h
        exact g_iret C P h rfl dX5_registerProperty_83
      have h := g_ifp c6 h
      refine lv_aload_n hx hb dX5_registerProperty_73 rfl (lv_at hl 0 rfl) ?_
      refine g_getR C P xl1 rfl inlX5 2 (by decide) wd_43 rfl dX5_registerProperty_74 ?_
      refine lv_iload_n hx hb dX5_registerProperty_77 rfl (lv_at hl 1 rfl) ?_
      refine g_iald (j := a1.toNatClampNeg) C P xl4 b5 rfl dX5_registerProperty_78 ?_
      refine lv_goto (tgt := 83) hx hb dX5_registerProperty_79 (by decide) ?_
      have h := Option.some.inj h
      exact g_iret C P h rfl dX5_registerProperty_83
    have h := g_ifn cs2 h
    refine lv_tableOut (tgt := 84) hx hb dX5_registerProperty_11 (by have e0 := lv_neT cs0 (a := 0) rfl; have e1 := lv_neT cs1 (a := 1) rfl; have e2 := lv_neT cs2 (a := 2) rfl; omega) (by decide) ?_
    refine lv_bipush (v := -2) hx hb dX5_registerProperty_84 (by decide) ?_
    have h := Option.some.inj h
    exact g_iret C P h rfl dX5_registerProperty_86
  have h := g_ifp c1 h
  refine lv_bipush (v := -2) hx hb dX5_registerProperty_7 (by decide) ?_
  have h := Option.some.inj h
  exact g_iret C P h rfl dX5_registerProperty_9
abbrev rmX5_liveBlocks : Room := { frames := 1, cells := 0, slots := 0, locals := 21 }
theorem kdX5_liveBlocks : yX5_liveBlocks.cls = RX5 ∧ yX5_liveBlocks.cls ≠ "java/lang/invoke/MethodHandle" ∧ yX5_liveBlocks.cls ≠ "java/lang/invoke/VarHandle" ∧ (parseMethodDescriptor yX5_liveBlocks.desc).map (fun d => d.parameters.length) = some 0 := by decide +kernel
set_option maxHeartbeats 4000000 in
set_option maxRecDepth 100000 in
theorem kX5_liveBlocks_4 {p : Program} {l : Launch} {e : Env} {s : State} {m : MethodId} {args : Array Value} {below : List Frame} {meth : Method} {c : Code} {X : gXt} (hJ : gJ X xL) (C : gC p s m args meth c RX5 cX5_liveBlocks 3 (some .int) X xL) (σ : gS) (k : Int32 → Option Int32) (q : Int32) (hk : ∀ (x1 : Int32) (H : Heap) (locs : List Loc) (ls : Array Slot), k x1 = some q → gH X xL σ s H locs → lv_has ls 3 [(1, .int x1)] → W p l e rmX5_liveBlocks s m args below meth c H locs 0 0 (MQ below (gQi X xL q σ) args s 0 0 (gA X xL)) (F0 m 29 ls [])) : ∀ (n : Nat) (v1 : Int32) (v2 : Int32), qS_liveBlocks_4 σ k n v1 v2 = some q → ∀ (H : Heap) (locs : List Loc) (ls : Array Slot), gH X xL σ s H locs → lv_has ls 3 [(0, .ref (gad X 1)), (1, .int v1), (2, .int v2)] → W p l e rmX5_liveBlocks s m args below meth c H locs 0 0 (MQ below (gQi X xL q σ) args s 0 0 (gA X xL)) (F0 m 4 ls []) := by
  have hx := C.1
  have hb := C.2.1
  have hK := C.2.2.2.2.2.2.2.1
  have hts := C.2.2.2.2.1
  intro n
  induction n with
  | zero => intro v1 v2 h; cases h
  | succ n ih =>
    intro v1 v2 h H locs ls P hl
    have h : (if (gI σ 1 7) ≤ v2 then k v1 else (qS_isLive σ v2).bind (fun r2 => (if r2 = 0 then qS_liveBlocks_4 σ k n v1 (v2 + 1) else qS_liveBlocks_4 σ k n (v1 + 1) (v2 + 1)))) = some q := h
    refine lv_iload_n hx hb dX5_liveBlocks_4 rfl (lv_at hl 2 rfl) ?_
    refine lv_aload_n hx hb dX5_liveBlocks_5 rfl (lv_at hl 0 rfl) ?_
    refine g_getI C P xl1 rfl inlX5 7 (by decide) wd_131 rfl dX5_liveBlocks_6 ?_
    refine lv_icmp_ge (tgt := 29) hx hb dX5_liveBlocks_9 (by decide) (fun c1 => ?_) (fun c1 => ?_)
    · have h := g_ifp c1 h
      exact hk v1 _ _ _ h P (lv_sub hl [1] rfl)
    have h := g_ifn c1 h
    refine lv_aload_n hx hb dX5_liveBlocks_12 rfl (lv_at hl 0 rfl) ?_
    refine lv_iload_n hx hb dX5_liveBlocks_13 rfl (lv_at hl 2 rfl) ?_
    obtain ⟨r2, hr2, h⟩ := g_bind h
    refine g_callVi (n := 1) (As := [.int v2]) (rest := []) C P (kX5_isLive l X hJ σ v2 _ hr2) wd_766 wd_344 wd_345 wd_14 wd_346 rfl rfl kdX5_isLive ⟨Nat.le_of_ble_eq_true rfl, Nat.le_of_ble_eq_true rfl⟩ xl1 rfl rfl rfl hl.1 (Nat.le_of_ble_eq_true rfl) dX5_liveBlocks_14 (fun H locs P => ?_)
    refine lv_if_eq (tgt := 23) hx hb dX5_liveBlocks_17 (by decide) (fun c3 => ?_) (fun c3 => ?_)
    · have h := g_ifp c3 h
      refine lv_iinc (v := (v2 + 1)) (lv' := [(2, .int (v2 + 1)), (0, .ref (gad X 1)), (1, .int v1)]) hx hb dX5_liveBlocks_23 hl (k := 2) rfl rfl (by decide) rfl (fun ls hl => ?_)
      refine lv_goto (tgt := 4) hx hb dX5_liveBlocks_26 (by decide) ?_
      exact ih v1 (v2 + 1) h _ _ _ P (lv_sub hl [1, 2, 0] rfl)
    have h := g_ifn c3 h
    refine lv_iinc (v := (v1 + 1)) (lv' := [(1, .int (v1 + 1)), (0, .ref (gad X 1)), (2, .int v2)]) hx hb dX5_liveBlocks_20 hl (k := 1) rfl rfl (by decide) rfl (fun ls hl => ?_)
    refine lv_iinc (v := (v2 + 1)) (lv' := [(2, .int (v2 + 1)), (1, .int (v1 + 1)), (0, .ref (gad X 1))]) hx hb dX5_liveBlocks_23 hl (k := 2) rfl rfl (by decide) rfl (fun ls hl => ?_)
    refine lv_goto (tgt := 4) hx hb dX5_liveBlocks_26 (by decide) ?_
    exact ih (v1 + 1) (v2 + 1) h _ _ _ P (lv_sub hl [2, 1, 0] rfl)
set_option maxHeartbeats 4000000 in
set_option maxRecDepth 100000 in
theorem kX5_liveBlocks (l : Launch) (X : gXt) (hJ : gJ X xL) (σ : gS) (q : Int32) (h : qS_liveBlocks σ = some q) : gMi l yX5_liveBlocks (gws yX5_liveBlocks cX5_liveBlocks 3 (some .int)) rmX5_liveBlocks X xL [.ref (gad X 1)] σ q σ := by
  refine g_enter (cc := cX5_liveBlocks) (nL := 3) (ret := (some .int)) hJ (plainFor_of_name (by decide)) (Nat.le_of_ble_eq_true rfl) ?_
  intro p e s m below meth c ls C P hl
  have C : gC p s m _ meth c RX5 cX5_liveBlocks 3 (some .int) X xL := C
  have hx := C.1
  have hb := C.2.1
  have hK := C.2.2.2.2.2.2.2.1
  have hts := C.2.2.2.2.1
  have hl : lv_has ls 3 [(0, .ref (gad X 1))] := hl
  unfold qS_liveBlocks at h
  refine lv_iconst (v := 0) hx hb dX5_liveBlocks_0 (by decide) ?_
  refine lv_istore_n (lv' := [(1, .int (0 : Int32)), (0, .ref (gad X 1))]) hx hb dX5_liveBlocks_1 rfl hl (by decide) rfl (fun ls hl => ?_)
  refine lv_iconst (v := 0) hx hb dX5_liveBlocks_2 (by decide) ?_
  refine lv_istore_n (lv' := [(2, .int (0 : Int32)), (1, .int (0 : Int32)), (0, .ref (gad X 1))]) hx hb dX5_liveBlocks_3 rfl hl (by decide) rfl (fun ls hl => ?_)
  refine kX5_liveBlocks_4 hJ C σ _ _ ?_ _ _ _ h _ _ _ P (lv_sub hl [2, 1, 0] rfl)
  intro x4 H locs ls h P hl
  refine lv_iload_n hx hb dX5_liveBlocks_29 rfl (lv_at hl 0 rfl) ?_
  have h := Option.some.inj h
  exact g_iret C P h rfl dX5_liveBlocks_30
abbrev rmX5_uninitializedIn : Room := { frames := 1, cells := 0, slots := 0, locals := 22 }
theorem kdX5_uninitializedIn : yX5_uninitializedIn.cls = RX5 ∧ yX5_uninitializedIn.cls ≠ "java/lang/invoke/MethodHandle" ∧ yX5_uninitializedIn.cls ≠ "java/lang/invoke/VarHandle" ∧ (parseMethodDescriptor yX5_uninitializedIn.desc).map (fun d => d.parameters.length) = some 1 := by decide +kernel
set_option maxHeartbeats 4000000 in
set_option maxRecDepth 100000 in
theorem kX5_uninitializedIn_4 {p : Program} {l : Launch} {e : Env} {s : State} {m : MethodId} {args : Array Value} {below : List Frame} {meth : Method} {c : Code} {X : gXt} (hJ : gJ X xL) (C : gC p s m args meth c RX5 cX5_uninitializedIn 4 (some .int) X xL) (σ : gS) (f4_1 : Int32) (k : Int32 → Option Int32) (q : Int32) (hk : ∀ (x2 : Int32) (H : Heap) (locs : List Loc) (ls : Array Slot), k x2 = some q → gH X xL σ s H locs → lv_has ls 4 [(2, .int x2)] → W p l e rmX5_uninitializedIn s m args below meth c H locs 0 0 (MQ below (gQi X xL q σ) args s 0 0 (gA X xL)) (F0 m 32 ls [])) : ∀ (n : Nat) (v2 : Int32) (v3 : Int32), qS_uninitializedIn_4 σ f4_1 k n v2 v3 = some q → ∀ (H : Heap) (locs : List Loc) (ls : Array Slot), gH X xL σ s H locs → lv_has ls 4 [(0, .ref (gad X 1)), (1, .int f4_1), (2, .int v2), (3, .int v3)] → W p l e rmX5_uninitializedIn s m args below meth c H locs 0 0 (MQ below (gQi X xL q σ) args s 0 0 (gA X xL)) (F0 m 4 ls []) := by
  have hx := C.1
  have hb := C.2.1
  have hK := C.2.2.2.2.2.2.2.1
  have hts := C.2.2.2.2.1
  intro n
  induction n with
  | zero => intro v2 v3 h; cases h
  | succ n ih =>
    intro v2 v3 h H locs ls P hl
    have h : (qS_sizeOf σ f4_1).bind (fun r1 => (if r1 ≤ v3 then k v2 else (qS_cellAt σ f4_1 v3).bind (fun r3 => (if r3 = (-1 : Int32) then qS_uninitializedIn_4 σ f4_1 k n (v2 + 1) (v3 + 1) else qS_uninitializedIn_4 σ f4_1 k n v2 (v3 + 1))))) = some q := h
    refine lv_iload_n hx hb dX5_uninitializedIn_4 rfl (lv_at hl 3 rfl) ?_
    refine lv_aload_n hx hb dX5_uninitializedIn_5 rfl (lv_at hl 0 rfl) ?_
    refine lv_iload_n hx hb dX5_uninitializedIn_6 rfl (lv_at hl 1 rfl) ?_
    obtain ⟨r1, hr1, h⟩ := g_bind h
    refine g_callVi (n := 1) (As := [.int f4_1]) (rest := [.int v3]) C P (kX5_sizeOf l X hJ σ f4_1 _ hr1) wd_652 wd_411 wd_412 wd_14 wd_413 rfl rfl kdX5_sizeOf ⟨Nat.le_of_ble_eq_true rfl, Nat.le_of_ble_eq_true rfl⟩ xl1 rfl rfl rfl hl.1 (Nat.le_of_ble_eq_true rfl) dX5_uninitializedIn_7 (fun H locs P => ?_)
    refine lv_icmp_ge (tgt := 32) hx hb dX5_uninitializedIn_10 (by decide) (fun c2 => ?_) (fun c2 => ?_)
    · have h := g_ifp c2 h
      exact hk v2 _ _ _ h P (lv_sub hl [2] rfl)
    have h := g_ifn c2 h
    refine lv_aload_n hx hb dX5_uninitializedIn_13 rfl (lv_at hl 0 rfl) ?_
    refine lv_iload_n hx hb dX5_uninitializedIn_14 rfl (lv_at hl 1 rfl) ?_
    refine lv_iload_n hx hb dX5_uninitializedIn_15 rfl (lv_at hl 3 rfl) ?_
    obtain ⟨r3, hr3, h⟩ := g_bind h
    refine g_callVi (n := 2) (As := [.int f4_1, .int v3]) (rest := []) C P (kX5_cellAt l X hJ σ f4_1 v3 _ hr3) wd_653 wd_439 wd_440 wd_14 wd_441 rfl rfl kdX5_cellAt ⟨Nat.le_of_ble_eq_true rfl, Nat.le_of_ble_eq_true rfl⟩ xl1 rfl rfl rfl hl.1 (Nat.le_of_ble_eq_true rfl) dX5_uninitializedIn_16 (fun H locs P => ?_)
    refine lv_iconst (v := -1) hx hb dX5_uninitializedIn_19 (by decide) ?_
    refine lv_icmp_ne (tgt := 26) hx hb dX5_uninitializedIn_20 (by decide) (fun c4 => ?_) (fun c4 => ?_)
    · have h := g_ifn c4 h
      refine lv_iinc (v := (v3 + 1)) (lv' := [(3, .int (v3 + 1)), (0, .ref (gad X 1)), (1, .int f4_1), (2, .int v2)]) hx hb dX5_uninitializedIn_26 hl (k := 3) rfl rfl (by decide) rfl (fun ls hl => ?_)
      refine lv_goto (tgt := 4) hx hb dX5_uninitializedIn_29 (by decide) ?_
      exact ih v2 (v3 + 1) h _ _ _ P (lv_sub hl [1, 2, 3, 0] rfl)
    have h := g_ifp c4 h
    refine lv_iinc (v := (v2 + 1)) (lv' := [(2, .int (v2 + 1)), (0, .ref (gad X 1)), (1, .int f4_1), (3, .int v3)]) hx hb dX5_uninitializedIn_23 hl (k := 2) rfl rfl (by decide) rfl (fun ls hl => ?_)
    refine lv_iinc (v := (v3 + 1)) (lv' := [(3, .int (v3 + 1)), (2, .int (v2 + 1)), (0, .ref (gad X 1)), (1, .int f4_1)]) hx hb dX5_uninitializedIn_26 hl (k := 3) rfl rfl (by decide) rfl (fun ls hl => ?_)
    refine lv_goto (tgt := 4) hx hb dX5_uninitializedIn_29 (by decide) ?_
    exact ih (v2 + 1) (v3 + 1) h _ _ _ P (lv_sub hl [2, 3, 1, 0] rfl)
set_option maxHeartbeats 4000000 in
set_option maxRecDepth 100000 in
theorem kX5_uninitializedIn (l : Launch) (X : gXt) (hJ : gJ X xL) (σ : gS) (a1 : Int32) (q : Int32) (h : qS_uninitializedIn σ a1 = some q) : gMi l yX5_uninitializedIn (gws yX5_uninitializedIn cX5_uninitializedIn 4 (some .int)) rmX5_uninitializedIn X xL [.ref (gad X 1), .int a1] σ q σ := by
  refine g_enter (cc := cX5_uninitializedIn) (nL := 4) (ret := (some .int)) hJ (plainFor_of_name (by decide)) (Nat.le_of_ble_eq_true rfl) ?_
  intro p e s m below meth c ls C P hl
  have C : gC p s m _ meth c RX5 cX5_uninitializedIn 4 (some .int) X xL := C
  have hx := C.1
  have hb := C.2.1
  have hK := C.2.2.2.2.2.2.2.1
  have hts := C.2.2.2.2.1
  have hl : lv_has ls 4 [(0, .ref (gad X 1)), (1, .int a1)] := hl
  unfold qS_uninitializedIn at h
  refine lv_iconst (v := 0) hx hb dX5_uninitializedIn_0 (by decide) ?_
  refine lv_istore_n (lv' := [(2, .int (0 : Int32)), (0, .ref (gad X 1)), (1, .int a1)]) hx hb dX5_uninitializedIn_1 rfl hl (by decide) rfl (fun ls hl => ?_)
  refine lv_iconst (v := 0) hx hb dX5_uninitializedIn_2 (by decide) ?_
  refine lv_istore_n (lv' := [(3, .int (0 : Int32)), (2, .int (0 : Int32)), (0, .ref (gad X 1)), (1, .int a1)]) hx hb dX5_uninitializedIn_3 rfl hl (by decide) rfl (fun ls hl => ?_)
  refine kX5_uninitializedIn_4 hJ C σ a1 _ _ ?_ _ _ _ h _ _ _ P (lv_sub hl [2, 3, 1, 0] rfl)
  intro x5 H locs ls h P hl
  refine lv_iload_n hx hb dX5_uninitializedIn_32 rfl (lv_at hl 0 rfl) ?_
  have h := Option.some.inj h
  exact g_iret C P h rfl dX5_uninitializedIn_33
abbrev rmX5_pointersIn : Room := { frames := 1, cells := 0, slots := 0, locals := 22 }
theorem kdX5_pointersIn : yX5_pointersIn.cls = RX5 ∧ yX5_pointersIn.cls ≠ "java/lang/invoke/MethodHandle" ∧ yX5_pointersIn.cls ≠ "java/lang/invoke/VarHandle" ∧ (parseMethodDescriptor yX5_pointersIn.desc).map (fun d => d.parameters.length) = some 1 := by decide +kernel
set_option maxHeartbeats 4000000 in
set_option maxRecDepth 100000 in
theorem kX5_pointersIn_4 {p : Program} {l : Launch} {e : Env} {s : State} {m : MethodId} {args : Array Value} {below : List Frame} {meth : Method} {c : Code} {X : gXt} (hJ : gJ X xL) (C : gC p s m args meth c RX5 cX5_pointersIn 4 (some .int) X xL) (σ : gS) (f4_1 : Int32) (k : Int32 → Option Int32) (q : Int32) (hk : ∀ (x2 : Int32) (H : Heap) (locs : List Loc) (ls : Array Slot), k x2 = some q → gH X xL σ s H locs → lv_has ls 4 [(2, .int x2)] → W p l e rmX5_pointersIn s m args below meth c H locs 0 0 (MQ below (gQi X xL q σ) args s 0 0 (gA X xL)) (F0 m 34 ls [])) : ∀ (n : Nat) (v2 : Int32) (v3 : Int32), qS_pointersIn_4 σ f4_1 k n v2 v3 = some q → ∀ (H : Heap) (locs : List Loc) (ls : Array Slot), gH X xL σ s H locs → lv_has ls 4 [(0, .ref (gad X 1)), (1, .int f4_1), (2, .int v2), (3, .int v3)] → W p l e rmX5_pointersIn s m args below meth c H locs 0 0 (MQ below (gQi X xL q σ) args s 0 0 (gA X xL)) (F0 m 4 ls []) := by
  have hx := C.1
  have hb := C.2.1
  have hK := C.2.2.2.2.2.2.2.1
  have hts := C.2.2.2.2.1
  intro n
  induction n with
  | zero => intro v2 v3 h; cases h
  | succ n ih =>
    intro v2 v3 h H locs ls P hl
    have h : (qS_sizeOf σ f4_1).bind (fun r1 => (if r1 ≤ v3 then k v2 else (qS_cellAt σ f4_1 v3).bind (fun r3 => (if (qF_isPointerCode r3) = 0 then qS_pointersIn_4 σ f4_1 k n v2 (v3 + 1) else qS_pointersIn_4 σ f4_1 k n (v2 + 1) (v3 + 1))))) = some q := h
    refine lv_iload_n hx hb dX5_pointersIn_4 rfl (lv_at hl 3 rfl) ?_
    refine lv_aload_n hx hb dX5_pointersIn_5 rfl (lv_at hl 0 rfl) ?_
    refine lv_iload_n hx hb dX5_pointersIn_6 rfl (lv_at hl 1 rfl) ?_
    obtain ⟨r1, hr1, h⟩ := g_bind h
    refine g_callVi (n := 1) (As := [.int f4_1]) (rest := [.int v3]) C P (kX5_sizeOf l X hJ σ f4_1 _ hr1) wd_652 wd_411 wd_412 wd_14 wd_413 rfl rfl kdX5_sizeOf ⟨Nat.le_of_ble_eq_true rfl, Nat.le_of_ble_eq_true rfl⟩ xl1 rfl rfl rfl hl.1 (Nat.le_of_ble_eq_true rfl) dX5_pointersIn_7 (fun H locs P => ?_)
    refine lv_icmp_ge (tgt := 34) hx hb dX5_pointersIn_10 (by decide) (fun c2 => ?_) (fun c2 => ?_)
    · have h := g_ifp c2 h
      exact hk v2 _ _ _ h P (lv_sub hl [2] rfl)
    have h := g_ifn c2 h
    refine lv_aload_n hx hb dX5_pointersIn_13 rfl (lv_at hl 0 rfl) ?_
    refine lv_iload_n hx hb dX5_pointersIn_14 rfl (lv_at hl 1 rfl) ?_
    refine lv_iload_n hx hb dX5_pointersIn_15 rfl (lv_at hl 3 rfl) ?_
    obtain ⟨r3, hr3, h⟩ := g_bind h
    refine g_callVi (n := 2) (As := [.int f4_1, .int v3]) (rest := []) C P (kX5_cellAt l X hJ σ f4_1 v3 _ hr3) wd_653 wd_439 wd_440 wd_14 wd_441 rfl rfl kdX5_cellAt ⟨Nat.le_of_ble_eq_true rfl, Nat.le_of_ble_eq_true rfl⟩ xl1 rfl rfl rfl hl.1 (Nat.le_of_ble_eq_true rfl) dX5_pointersIn_16 (fun H locs P => ?_)
    refine g_callNi (n := 1) (As := [.int r3]) (rest := []) C P (kX7_isPointerCode l X hJ σ r3 _ rfl) wd_444 rfl rfl kdX7_isPointerCode.2 ⟨Nat.le_of_ble_eq_true rfl, Nat.le_of_ble_eq_true rfl⟩ (hK.2 (RX5, 81, yX7_isPointerCode, RX7) (List.mem_of_getElem? (i := 10) rfl)) wd_2 wd_443 rfl rfl hl.1 (Nat.le_of_ble_eq_true rfl) dX5_pointersIn_19 (fun H locs P => ?_)
    refine lv_if_eq (tgt := 28) hx hb dX5_pointersIn_22 (by decide) (fun c4 => ?_) (fun c4 => ?_)
    · have h := g_ifp c4 h
      refine lv_iinc (v := (v3 + 1)) (lv' := [(3, .int (v3 + 1)), (0, .ref (gad X 1)), (1, .int f4_1), (2, .int v2)]) hx hb dX5_pointersIn_28 hl (k := 3) rfl rfl (by decide) rfl (fun ls hl => ?_)
      refine lv_goto (tgt := 4) hx hb dX5_pointersIn_31 (by decide) ?_
      exact ih v2 (v3 + 1) h _ _ _ P (lv_sub hl [1, 2, 3, 0] rfl)
    have h := g_ifn c4 h
    refine lv_iinc (v := (v2 + 1)) (lv' := [(2, .int (v2 + 1)), (0, .ref (gad X 1)), (1, .int f4_1), (3, .int v3)]) hx hb dX5_pointersIn_25 hl (k := 2) rfl rfl (by decide) rfl (fun ls hl => ?_)
    refine lv_iinc (v := (v3 + 1)) (lv' := [(3, .int (v3 + 1)), (2, .int (v2 + 1)), (0, .ref (gad X 1)), (1, .int f4_1)]) hx hb dX5_pointersIn_28 hl (k := 3) rfl rfl (by decide) rfl (fun ls hl => ?_)
    refine lv_goto (tgt := 4) hx hb dX5_pointersIn_31 (by decide) ?_
    exact ih (v2 + 1) (v3 + 1) h _ _ _ P (lv_sub hl [2, 3, 1, 0] rfl)
set_option maxHeartbeats 4000000 in
set_option maxRecDepth 100000 in
theorem kX5_pointersIn (l : Launch) (X : gXt) (hJ : gJ X xL) (σ : gS) (a1 : Int32) (q : Int32) (h : qS_pointersIn σ a1 = some q) : gMi l yX5_pointersIn (gws yX5_pointersIn cX5_pointersIn 4 (some .int)) rmX5_pointersIn X xL [.ref (gad X 1), .int a1] σ q σ := by
  refine g_enter (cc := cX5_pointersIn) (nL := 4) (ret := (some .int)) hJ (plainFor_of_name (by decide)) (Nat.le_of_ble_eq_true rfl) ?_
  intro p e s m below meth c ls C P hl
  have C : gC p s m _ meth c RX5 cX5_pointersIn 4 (some .int) X xL := C
  have hx := C.1
  have hb := C.2.1
  have hK := C.2.2.2.2.2.2.2.1
  have hts := C.2.2.2.2.1
  have hl : lv_has ls 4 [(0, .ref (gad X 1)), (1, .int a1)] := hl
  unfold qS_pointersIn at h
  refine lv_iconst (v := 0) hx hb dX5_pointersIn_0 (by decide) ?_
  refine lv_istore_n (lv' := [(2, .int (0 : Int32)), (0, .ref (gad X 1)), (1, .int a1)]) hx hb dX5_pointersIn_1 rfl hl (by decide) rfl (fun ls hl => ?_)
  refine lv_iconst (v := 0) hx hb dX5_pointersIn_2 (by decide) ?_
  refine lv_istore_n (lv' := [(3, .int (0 : Int32)), (2, .int (0 : Int32)), (0, .ref (gad X 1)), (1, .int a1)]) hx hb dX5_pointersIn_3 rfl hl (by decide) rfl (fun ls hl => ?_)
  refine kX5_pointersIn_4 hJ C σ a1 _ _ ?_ _ _ _ h _ _ _ P (lv_sub hl [2, 3, 1, 0] rfl)
  intro x5 H locs ls h P hl
  refine lv_iload_n hx hb dX5_pointersIn_34 rfl (lv_at hl 0 rfl) ?_
  have h := Option.some.inj h
  exact g_iret C P h rfl dX5_pointersIn_35
abbrev rmX5_blockProperty : Room := { frames := 2, cells := 0, slots := 0, locals := 45 }
theorem kdX5_blockProperty : yX5_blockProperty.cls = RX5 ∧ yX5_blockProperty.cls ≠ "java/lang/invoke/MethodHandle" ∧ yX5_blockProperty.cls ≠ "java/lang/invoke/VarHandle" ∧ (parseMethodDescriptor yX5_blockProperty.desc).map (fun d => d.parameters.length) = some 2 := by decide +kernel
set_option maxHeartbeats 4000000 in
set_option maxRecDepth 100000 in
theorem kX5_blockProperty (l : Launch) (X : gXt) (hJ : gJ X xL) (σ : gS) (a1 : Int32) (a2 : Int32) (q : Int32) (h : qS_blockProperty σ a1 a2 = some q) : gMi l yX5_blockProperty (gws yX5_blockProperty cX5_blockProperty 3 (some .int)) rmX5_blockProperty X xL [.ref (gad X 1), .int a1, .int a2] σ q σ := by
  refine g_enter (cc := cX5_blockProperty) (nL := 3) (ret := (some .int)) hJ (plainFor_of_name (by decide)) (Nat.le_of_ble_eq_true rfl) ?_
  intro p e s m below meth c ls C P hl
  have C : gC p s m _ meth c RX5 cX5_blockProperty 3 (some .int) X xL := C
  have hx := C.1
  have hb := C.2.1
  have hK := C.2.2.2.2.2.2.2.1
  have hts := C.2.2.2.2.1
  have hl : lv_has ls 3 [(0, .ref (gad X 1)), (1, .int a1), (2, .int a2)] := hl
  unfold qS_blockProperty at h
  refine lv_aload_n hx hb dX5_blockProperty_0 rfl (lv_at hl 0 rfl) ?_
  refine lv_iload_n hx hb dX5_blockProperty_1 rfl (lv_at hl 1 rfl) ?_
  refine g_callVi (n := 1) (As := [.int a1]) (rest := []) C P (kX5_isBlock l X hJ σ a1 _ rfl) wd_647 wd_639 wd_640 wd_14 wd_641 rfl rfl kdX5_isBlock ⟨Nat.le_of_ble_eq_true rfl, Nat.le_of_ble_eq_true rfl⟩ xl1 rfl rfl rfl hl.1 (Nat.le_of_ble_eq_true rfl) dX5_blockProperty_2 (fun H locs P => ?_)
  refine lv_if_ne (tgt := 11) hx hb dX5_blockProperty_5 (by decide) (fun c1 => ?_) (fun c1 => ?_)
  · have h := g_ifn c1 h
    refine lv_iload_n hx hb dX5_blockProperty_11 rfl (lv_at hl 2 rfl) ?_
    by_cases cs0 : a2 = (0 : Int32)
    · have h := g_ifp cs0 h
      refine lv_tableIn (off := 36) (tgt := 48) hx hb dX5_blockProperty_12 (by rw [cs0]; decide) (by rw [cs0]; decide) (by rw [cs0]; rfl) (by decide) ?_
      refine lv_aload_n hx hb dX5_blockProperty_48 rfl (lv_at hl 0 rfl) ?_
      refine g_getR C P xl1 rfl inlX5 3 (by decide) wd_44 rfl dX5_blockProperty_49 ?_
      refine lv_iload_n hx hb dX5_blockProperty_52 rfl (lv_at hl 1 rfl) ?_
      obtain ⟨b2, h⟩ := g_ob h
      refine g_iald (j := a1.toNatClampNeg) C P xl5 b2 rfl dX5_blockProperty_53 ?_
      have h := Option.some.inj h
      exact g_iret C P h rfl dX5_blockProperty_54
    have h := g_ifn cs0 h
    by_cases cs1 : a2 = (1 : Int32)
    · have h := g_ifp cs1 h
      refine lv_tableIn (off := 43) (tgt := 55) hx hb dX5_blockProperty_12 (by rw [cs1]; decide) (by rw [cs1]; decide) (by rw [cs1]; rfl) (by decide) ?_
      refine lv_aload_n hx hb dX5_blockProperty_55 rfl (lv_at hl 0 rfl) ?_
      refine g_getR C P xl1 rfl inlX5 4 (by decide) wd_45 rfl dX5_blockProperty_56 ?_
      refine lv_iload_n hx hb dX5_blockProperty_59 rfl (lv_at hl 1 rfl) ?_
      obtain ⟨b3, h⟩ := g_ob h
      refine g_iald (j := a1.toNatClampNeg) C P xl6 b3 rfl dX5_blockProperty_60 ?_
      have h := Option.some.inj h
      exact g_iret C P h rfl dX5_blockProperty_61
    have h := g_ifn cs1 h
    by_cases cs2 : a2 = (2 : Int32)
    · have h := g_ifp cs2 h
      refine lv_tableIn (off := 50) (tgt := 62) hx hb dX5_blockProperty_12 (by rw [cs2]; decide) (by rw [cs2]; decide) (by rw [cs2]; rfl) (by decide) ?_
      refine lv_aload_n hx hb dX5_blockProperty_62 rfl (lv_at hl 0 rfl) ?_
      refine g_getR C P xl1 rfl inlX5 5 (by decide) wd_46 rfl dX5_blockProperty_63 ?_
      refine lv_iload_n hx hb dX5_blockProperty_66 rfl (lv_at hl 1 rfl) ?_
      obtain ⟨b4, h⟩ := g_ob h
      refine g_iald (j := a1.toNatClampNeg) C P xl7 b4 rfl dX5_blockProperty_67 ?_
      have h := Option.some.inj h
      exact g_iret C P h rfl dX5_blockProperty_68
    have h := g_ifn cs2 h
    by_cases cs3 : a2 = (3 : Int32)
    · have h := g_ifp cs3 h
      refine lv_tableIn (off := 57) (tgt := 69) hx hb dX5_blockProperty_12 (by rw [cs3]; decide) (by rw [cs3]; decide) (by rw [cs3]; rfl) (by decide) ?_
      refine lv_aload_n hx hb dX5_blockProperty_69 rfl (lv_at hl 0 rfl) ?_
      refine lv_iload_n hx hb dX5_blockProperty_70 rfl (lv_at hl 1 rfl) ?_
      obtain ⟨r5, hr5, h⟩ := g_bind h
      refine g_callVi (n := 1) (As := [.int a1]) (rest := []) C P (kX5_uninitializedIn l X hJ σ a1 _ hr5) wd_648 wd_649 wd_650 wd_14 wd_651 rfl rfl kdX5_uninitializedIn ⟨Nat.le_of_ble_eq_true rfl, Nat.le_of_ble_eq_true rfl⟩ xl1 rfl rfl rfl hl.1 (Nat.le_of_ble_eq_true rfl) dX5_blockProperty_71 (fun H locs P => ?_)
      have h := Option.some.inj h
      exact g_iret C P h rfl dX5_blockProperty_74
    have h := g_ifn cs3 h
    by_cases cs4 : a2 = (4 : Int32)
    · have h := g_ifp cs4 h
      refine lv_tableIn (off := 63) (tgt := 75) hx hb dX5_blockProperty_12 (by rw [cs4]; decide) (by rw [cs4]; decide) (by rw [cs4]; rfl) (by decide) ?_
      refine lv_aload_n hx hb dX5_blockProperty_75 rfl (lv_at hl 0 rfl) ?_
      refine lv_iload_n hx hb dX5_blockProperty_76 rfl (lv_at hl 1 rfl) ?_
      obtain ⟨r6, hr6, h⟩ := g_bind h
      refine g_callVi (n := 1) (As := [.int a1]) (rest := []) C P (kX5_pointersIn l X hJ σ a1 _ hr6) wd_654 wd_655 wd_656 wd_14 wd_657 rfl rfl kdX5_pointersIn ⟨Nat.le_of_ble_eq_true rfl, Nat.le_of_ble_eq_true rfl⟩ xl1 rfl rfl rfl hl.1 (Nat.le_of_ble_eq_true rfl) dX5_blockProperty_77 (fun H locs P => ?_)
      have h := Option.some.inj h
      exact g_iret C P h rfl dX5_blockProperty_80
    have h := g_ifn cs4 h
    refine lv_tableOut (tgt := 81) hx hb dX5_blockProperty_12 (by have e0 := lv_neT cs0 (a := 0) rfl; have e1 := lv_neT cs1 (a := 1) rfl; have e2 := lv_neT cs2 (a := 2) rfl; have e3 := lv_neT cs3 (a := 3) rfl; have e4 := lv_neT cs4 (a := 4) rfl; omega) (by decide) ?_
    refine lv_bipush (v := -2) hx hb dX5_blockProperty_81 (by decide) ?_
    have h := Option.some.inj h
    exact g_iret C P h rfl dX5_blockProperty_83
  have h := g_ifp c1 h
  refine lv_bipush (v := -2) hx hb dX5_blockProperty_8 (by decide) ?_
  have h := Option.some.inj h
  exact g_iret C P h rfl dX5_blockProperty_10
abbrev rmX6_noted : Room := { frames := 0, cells := 0, slots := 0, locals := 0 }
theorem kdX6_noted : yX6_noted.cls = RX6 ∧ yX6_noted.cls ≠ "java/lang/invoke/MethodHandle" ∧ yX6_noted.cls ≠ "java/lang/invoke/VarHandle" ∧ (parseMethodDescriptor yX6_noted.desc).map (fun d => d.parameters.length) = some 1 := by decide +kernel
set_option maxHeartbeats 4000000 in
set_option maxRecDepth 100000 in
theorem kX6_noted (l : Launch) (X : gXt) (hJ : gJ X xL) (σ : gS) (a1 : Int32) (q : Int32 × gS) (h : qT_noted σ a1 = some q) : gMi l yX6_noted (gws yX6_noted cX6_noted 3 (some .int)) rmX6_noted X xL [.ref (gad X 96), .int a1] σ q.1 q.2 := by
  refine g_enter (cc := cX6_noted) (nL := 3) (ret := (some .int)) hJ (plainFor_of_name (by decide)) (Nat.le_of_ble_eq_true rfl) ?_
  intro p e s m below meth c ls C P hl
  have C : gC p s m _ meth c RX6 cX6_noted 3 (some .int) X xL := C
  have hx := C.1
  have hb := C.2.1
  have hK := C.2.2.2.2.2.2.2.1
  have hts := C.2.2.2.2.1
  have hl : lv_has ls 3 [(0, .ref (gad X 96)), (1, .int a1)] := hl
  unfold qT_noted at h
  refine lv_bipush (v := -10) hx hb dX6_noted_0 (by decide) ?_
  refine lv_iload_n hx hb dX6_noted_2 rfl (lv_at hl 1 rfl) ?_
  refine lv_isub hx hb dX6_noted_3 ?_
  refine lv_istore_n (lv' := [(2, .int ((-10 : Int32) - a1)), (0, .ref (gad X 96)), (1, .int a1)]) hx hb dX6_noted_4 rfl hl (by decide) rfl (fun ls hl => ?_)
  refine lv_iload_n hx hb dX6_noted_5 rfl (lv_at hl 2 rfl) ?_
  refine lv_bipush (v := -2) hx hb dX6_noted_6 (by decide) ?_
  refine lv_icmp_ne (tgt := 24) hx hb dX6_noted_8 (by decide) (fun c1 => ?_) (fun c1 => ?_)
  · have h := g_ifn c1 h
    refine lv_iload_n hx hb dX6_noted_24 rfl (lv_at hl 2 rfl) ?_
    refine lv_bipush (v := -3) hx hb dX6_noted_25 (by decide) ?_
    refine lv_icmp_ne (tgt := 43) hx hb dX6_noted_27 (by decide) (fun c2 => ?_) (fun c2 => ?_)
    · have h := g_ifn c2 h
      refine lv_iload_n hx hb dX6_noted_43 rfl (lv_at hl 2 rfl) ?_
      refine lv_bipush (v := -4) hx hb dX6_noted_44 (by decide) ?_
      refine lv_icmp_ne (tgt := 62) hx hb dX6_noted_46 (by decide) (fun c3 => ?_) (fun c3 => ?_)
      · have h := g_ifn c3 h
        refine lv_iload_n hx hb dX6_noted_62 rfl (lv_at hl 0 rfl) ?_
        refine lv_iconst (v := 1) hx hb dX6_noted_63 (by decide) ?_
        refine lv_icmp_lt (tgt := 83) hx hb dX6_noted_64 (by decide) (fun c4 => ?_) (fun c4 => ?_)
        · have h := g_ifp c4 h
          refine lv_iload_n hx hb dX6_noted_83 rfl (lv_at hl 2 rfl) ?_
          have h := Option.some.inj h
          exact g_iret C P (g_fst h) (g_snd h) dX6_noted_84
        have h := g_ifn c4 h
        refine lv_iload_n hx hb dX6_noted_67 rfl (lv_at hl 0 rfl) ?_
        refine lv_bipush (v := 9) hx hb dX6_noted_68 (by decide) ?_
        refine lv_icmp_gt (tgt := 83) hx hb dX6_noted_70 (by decide) (fun c5 => ?_) (fun c5 => ?_)
        · have h := g_ifp c5 h
          refine lv_iload_n hx hb dX6_noted_83 rfl (lv_at hl 2 rfl) ?_
          have h := Option.some.inj h
          exact g_iret C P (g_fst h) (g_snd h) dX6_noted_84
        have h := g_ifn c5 h
        refine lv_aload_n hx hb dX6_noted_73 rfl (lv_at hl 1 rfl) ?_
        refine g_getR C P xl96 rfl inlX6 0 (by decide) wd_90 rfl dX6_noted_74 ?_
        refine lv_iload_n hx hb dX6_noted_77 rfl (lv_at hl 0 rfl) ?_
        refine lv_dup2_11 hx hb dX6_noted_78 rfl rfl ?_
        obtain ⟨b6, h⟩ := g_ob h
        refine g_iald (j := ((-10 : Int32) - a1).toNatClampNeg) C P xl97 b6 rfl dX6_noted_79 ?_
        refine lv_iconst (v := 1) hx hb dX6_noted_80 (by decide) ?_
        refine lv_iadd hx hb dX6_noted_81 ?_
        refine g_iast (j := ((-10 : Int32) - a1).toNatClampNeg) C P xl97 b6 rfl dX6_noted_82 (fun H locs P => ?_)
        refine lv_iload_n hx hb dX6_noted_83 rfl (lv_at hl 2 rfl) ?_
        have h := Option.some.inj h
        exact g_iret C P (g_fst h) (g_snd h) dX6_noted_84
      have h := g_ifp c3 h
      refine lv_aload_n hx hb dX6_noted_49 rfl (lv_at hl 1 rfl) ?_
      refine lv_dup hx hb dX6_noted_50 rfl ?_
      refine g_getI C P xl96 rfl inlX6 3 (by decide) wd_171 rfl dX6_noted_51 ?_
      refine lv_iconst (v := 1) hx hb dX6_noted_54 (by decide) ?_
      refine lv_iadd hx hb dX6_noted_55 ?_
      refine g_putI C P xl96 rfl inlX6 tyX6 tyX6_ok nmX6 3 (by decide) wd_171 rfl rfl rfl rfl dX6_noted_56 (fun H locs P => ?_)
      refine lv_goto (tgt := 83) hx hb dX6_noted_59 (by decide) ?_
      refine lv_iload_n hx hb dX6_noted_83 rfl (lv_at hl 2 rfl) ?_
      have h := Option.some.inj h
      exact g_iret C P (g_fst h) (g_snd h) dX6_noted_84
    have h := g_ifp c2 h
    refine lv_aload_n hx hb dX6_noted_30 rfl (lv_at hl 1 rfl) ?_
    refine lv_dup hx hb dX6_noted_31 rfl ?_
    refine g_getI C P xl96 rfl inlX6 2 (by decide) wd_170 rfl dX6_noted_32 ?_
    refine lv_iconst (v := 1) hx hb dX6_noted_35 (by decide) ?_
    refine lv_iadd hx hb dX6_noted_36 ?_
    refine g_putI C P xl96 rfl inlX6 tyX6 tyX6_ok nmX6 2 (by decide) wd_170 rfl rfl rfl rfl dX6_noted_37 (fun H locs P => ?_)
    refine lv_goto (tgt := 83) hx hb dX6_noted_40 (by decide) ?_
    refine lv_iload_n hx hb dX6_noted_83 rfl (lv_at hl 2 rfl) ?_
    have h := Option.some.inj h
    exact g_iret C P (g_fst h) (g_snd h) dX6_noted_84
  have h := g_ifp c1 h
  refine lv_aload_n hx hb dX6_noted_11 rfl (lv_at hl 1 rfl) ?_
  refine lv_dup hx hb dX6_noted_12 rfl ?_
  refine g_getI C P xl96 rfl inlX6 1 (by decide) wd_169 rfl dX6_noted_13 ?_
  refine lv_iconst (v := 1) hx hb dX6_noted_16 (by decide) ?_
  refine lv_iadd hx hb dX6_noted_17 ?_
  refine g_putI C P xl96 rfl inlX6 tyX6 tyX6_ok nmX6 1 (by decide) wd_169 rfl rfl rfl rfl dX6_noted_18 (fun H locs P => ?_)
  refine lv_goto (tgt := 83) hx hb dX6_noted_21 (by decide) ?_
  refine lv_iload_n hx hb dX6_noted_83 rfl (lv_at hl 2 rfl) ?_
  have h := Option.some.inj h
  exact g_iret C P (g_fst h) (g_snd h) dX6_noted_84
abbrev rmX6_ofReason : Room := { frames := 0, cells := 0, slots := 0, locals := 0 }
theorem kdX6_ofReason : yX6_ofReason.cls = RX6 ∧ yX6_ofReason.cls ≠ "java/lang/invoke/MethodHandle" ∧ yX6_ofReason.cls ≠ "java/lang/invoke/VarHandle" ∧ (parseMethodDescriptor yX6_ofReason.desc).map (fun d => d.parameters.length) = some 1 := by decide +kernel
set_option maxHeartbeats 4000000 in
set_option maxRecDepth 100000 in
theorem kX6_ofReason (l : Launch) (X : gXt) (hJ : gJ X xL) (σ : gS) (a1 : Int32) (q : Int32) (h : qT_ofReason σ a1 = some q) : gMi l yX6_ofReason (gws yX6_ofReason cX6_ofReason 2 (some .int)) rmX6_ofReason X xL [.ref (gad X 96), .int a1] σ q σ := by
  refine g_enter (cc := cX6_ofReason) (nL := 2) (ret := (some .int)) hJ (plainFor_of_name (by decide)) (Nat.le_of_ble_eq_true rfl) ?_
  intro p e s m below meth c ls C P hl
  have C : gC p s m _ meth c RX6 cX6_ofReason 2 (some .int) X xL := C
  have hx := C.1
  have hb := C.2.1
  have hK := C.2.2.2.2.2.2.2.1
  have hts := C.2.2.2.2.1
  have hl : lv_has ls 2 [(0, .ref (gad X 96)), (1, .int a1)] := hl
  unfold qT_ofReason at h
  refine lv_iload_n hx hb dX6_ofReason_0 rfl (lv_at hl 1 rfl) ?_
  refine lv_iconst (v := 1) hx hb dX6_ofReason_1 (by decide) ?_
  refine lv_icmp_lt (tgt := 20) hx hb dX6_ofReason_2 (by decide) (fun c1 => ?_) (fun c1 => ?_)
  · have h := g_ifp c1 h
    refine lv_bipush (v := -2) hx hb dX6_ofReason_20 (by decide) ?_
    have h := Option.some.inj h
    exact g_iret C P h rfl dX6_ofReason_22
  have h := g_ifn c1 h
  refine lv_iload_n hx hb dX6_ofReason_5 rfl (lv_at hl 1 rfl) ?_
  refine lv_bipush (v := 9) hx hb dX6_ofReason_6 (by decide) ?_
  refine lv_icmp_gt (tgt := 20) hx hb dX6_ofReason_8 (by decide) (fun c2 => ?_) (fun c2 => ?_)
  · have h := g_ifp c2 h
    refine lv_bipush (v := -2) hx hb dX6_ofReason_20 (by decide) ?_
    have h := Option.some.inj h
    exact g_iret C P h rfl dX6_ofReason_22
  have h := g_ifn c2 h
  refine lv_aload_n hx hb dX6_ofReason_11 rfl (lv_at hl 0 rfl) ?_
  refine g_getR C P xl96 rfl inlX6 0 (by decide) wd_90 rfl dX6_ofReason_12 ?_
  refine lv_iload_n hx hb dX6_ofReason_15 rfl (lv_at hl 1 rfl) ?_
  obtain ⟨b3, h⟩ := g_ob h
  refine g_iald (j := a1.toNatClampNeg) C P xl97 b3 rfl dX6_ofReason_16 ?_
  refine lv_goto (tgt := 22) hx hb dX6_ofReason_17 (by decide) ?_
  have h := Option.some.inj h
  exact g_iret C P h rfl dX6_ofReason_22
abbrev rmX6_ofAllReasons : Room := { frames := 0, cells := 0, slots := 0, locals := 0 }
theorem kdX6_ofAllReasons : yX6_ofAllReasons.cls = RX6 ∧ yX6_ofAllReasons.cls ≠ "java/lang/invoke/MethodHandle" ∧ yX6_ofAllReasons.cls ≠ "java/lang/invoke/VarHandle" ∧ (parseMethodDescriptor yX6_ofAllReasons.desc).map (fun d => d.parameters.length) = some 0 := by decide +kernel
set_option maxHeartbeats 4000000 in
set_option maxRecDepth 100000 in
theorem kX6_ofAllReasons_4 {p : Program} {l : Launch} {e : Env} {s : State} {m : MethodId} {args : Array Value} {below : List Frame} {meth : Method} {c : Code} {X : gXt} (hJ : gJ X xL) (C : gC p s m args meth c RX6 cX6_ofAllReasons 3 (some .int) X xL) (σ : gS) (k : Int32 → Option Int32) (q : Int32) (hk : ∀ (x1 : Int32) (H : Heap) (locs : List Loc) (ls : Array Slot), k x1 = some q → gH X xL σ s H locs → lv_has ls 3 [(1, .int x1)] → W p l e rmX6_ofAllReasons s m args below meth c H locs 0 0 (MQ below (gQi X xL q σ) args s 0 0 (gA X xL)) (F0 m 25 ls [])) : ∀ (n : Nat) (v1 : Int32) (v2 : Int32), qT_ofAllReasons_4 σ k n v1 v2 = some q → ∀ (H : Heap) (locs : List Loc) (ls : Array Slot), gH X xL σ s H locs → lv_has ls 3 [(0, .ref (gad X 96)), (1, .int v1), (2, .int v2)] → W p l e rmX6_ofAllReasons s m args below meth c H locs 0 0 (MQ below (gQi X xL q σ) args s 0 0 (gA X xL)) (F0 m 4 ls []) := by
  have hx := C.1
  have hb := C.2.1
  have hK := C.2.2.2.2.2.2.2.1
  have hts := C.2.2.2.2.1
  intro n
  induction n with
  | zero => intro v1 v2 h; cases h
  | succ n ih =>
    intro v1 v2 h H locs ls P hl
    have h : (if (9 : Int32) < v2 then k v1 else gob v2 10 (qT_ofAllReasons_4 σ k n (v1 + (gM σ 97 v2.toNatClampNeg)) (v2 + 1))) = some q := h
    refine lv_iload_n hx hb dX6_ofAllReasons_4 rfl (lv_at hl 2 rfl) ?_
    refine lv_bipush (v := 9) hx hb dX6_ofAllReasons_5 (by decide) ?_
    refine lv_icmp_gt (tgt := 25) hx hb dX6_ofAllReasons_7 (by decide) (fun c1 => ?_) (fun c1 => ?_)
    · have h := g_ifp c1 h
      exact hk v1 _ _ _ h P (lv_sub hl [1] rfl)
    have h := g_ifn c1 h
    refine lv_iload_n hx hb dX6_ofAllReasons_10 rfl (lv_at hl 1 rfl) ?_
    refine lv_aload_n hx hb dX6_ofAllReasons_11 rfl (lv_at hl 0 rfl) ?_
    refine g_getR C P xl96 rfl inlX6 0 (by decide) wd_90 rfl dX6_ofAllReasons_12 ?_
    refine lv_iload_n hx hb dX6_ofAllReasons_15 rfl (lv_at hl 2 rfl) ?_
    obtain ⟨b2, h⟩ := g_ob h
    refine g_iald (j := v2.toNatClampNeg) C P xl97 b2 rfl dX6_ofAllReasons_16 ?_
    refine lv_iadd hx hb dX6_ofAllReasons_17 ?_
    refine lv_istore_n (lv' := [(1, .int (v1 + (gM σ 97 v2.toNatClampNeg))), (0, .ref (gad X 96)), (2, .int v2)]) hx hb dX6_ofAllReasons_18 rfl hl (by decide) rfl (fun ls hl => ?_)
    refine lv_iinc (v := (v2 + 1)) (lv' := [(2, .int (v2 + 1)), (1, .int (v1 + (gM σ 97 v2.toNatClampNeg))), (0, .ref (gad X 96))]) hx hb dX6_ofAllReasons_19 hl (k := 2) rfl rfl (by decide) rfl (fun ls hl => ?_)
    refine lv_goto (tgt := 4) hx hb dX6_ofAllReasons_22 (by decide) ?_
    exact ih (v1 + (gM σ 97 v2.toNatClampNeg)) (v2 + 1) h _ _ _ P (lv_sub hl [2, 1, 0] rfl)
set_option maxHeartbeats 4000000 in
set_option maxRecDepth 100000 in
theorem kX6_ofAllReasons (l : Launch) (X : gXt) (hJ : gJ X xL) (σ : gS) (q : Int32) (h : qT_ofAllReasons σ = some q) : gMi l yX6_ofAllReasons (gws yX6_ofAllReasons cX6_ofAllReasons 3 (some .int)) rmX6_ofAllReasons X xL [.ref (gad X 96)] σ q σ := by
  refine g_enter (cc := cX6_ofAllReasons) (nL := 3) (ret := (some .int)) hJ (plainFor_of_name (by decide)) (Nat.le_of_ble_eq_true rfl) ?_
  intro p e s m below meth c ls C P hl
  have C : gC p s m _ meth c RX6 cX6_ofAllReasons 3 (some .int) X xL := C
  have hx := C.1
  have hb := C.2.1
  have hK := C.2.2.2.2.2.2.2.1
  have hts := C.2.2.2.2.1
  have hl : lv_has ls 3 [(0, .ref (gad X 96))] := hl
  unfold qT_ofAllReasons at h
  refine lv_iconst (v := 0) hx hb dX6_ofAllReasons_0 (by decide) ?_
  refine lv_istore_n (lv' := [(1, .int (0 : Int32)), (0, .ref (gad X 96))]) hx hb dX6_ofAllReasons_1 rfl hl (by decide) rfl (fun ls hl => ?_)
  refine lv_iconst (v := 1) hx hb dX6_ofAllReasons_2 (by decide) ?_
  refine lv_istore_n (lv' := [(2, .int (1 : Int32)), (1, .int (0 : Int32)), (0, .ref (gad X 96))]) hx hb dX6_ofAllReasons_3 rfl hl (by decide) rfl (fun ls hl => ?_)
  refine kX6_ofAllReasons_4 hJ C σ _ _ ?_ _ _ _ h _ _ _ P (lv_sub hl [2, 1, 0] rfl)
  intro x3 H locs ls h P hl
  refine lv_iload_n hx hb dX6_ofAllReasons_25 rfl (lv_at hl 0 rfl) ?_
  have h := Option.some.inj h
  exact g_iret C P h rfl dX6_ofAllReasons_26
abbrev rmX7_settled : Room := { frames := 1, cells := 0, slots := 0, locals := 22 }
theorem kdX7_settled : yX7_settled.cls = RX7 ∧ yX7_settled.cls ≠ "java/lang/invoke/MethodHandle" ∧ yX7_settled.cls ≠ "java/lang/invoke/VarHandle" ∧ (parseMethodDescriptor yX7_settled.desc).map (fun d => d.parameters.length) = some 1 := by decide +kernel
set_option maxHeartbeats 4000000 in
set_option maxRecDepth 100000 in
theorem kX7_settled (l : Launch) (X : gXt) (hJ : gJ X xL) (σ : gS) (a1 : Int32) (q : Int32 × gS) (h : qF_settled σ a1 = some q) : gMi l yX7_settled (gws yX7_settled cX7_settled 2 (some .int)) rmX7_settled X xL [.ref (gad X 0), .int a1] σ q.1 q.2 := by
  refine g_enter (cc := cX7_settled) (nL := 2) (ret := (some .int)) hJ (plainFor_of_name (by decide)) (Nat.le_of_ble_eq_true rfl) ?_
  intro p e s m below meth c ls C P hl
  have C : gC p s m _ meth c RX7 cX7_settled 2 (some .int) X xL := C
  have hx := C.1
  have hb := C.2.1
  have hK := C.2.2.2.2.2.2.2.1
  have hts := C.2.2.2.2.1
  have hl : lv_has ls 2 [(0, .ref (gad X 0)), (1, .int a1)] := hl
  unfold qF_settled at h
  refine lv_iload_n hx hb dX7_settled_0 rfl (lv_at hl 1 rfl) ?_
  refine lv_if_lt (tgt := 11) hx hb dX7_settled_1 (by decide) (fun c1 => ?_) (fun c1 => ?_)
  · have h := g_ifp c1 h
    refine lv_aload_n hx hb dX7_settled_11 rfl (lv_at hl 0 rfl) ?_
    refine g_getR C P xl0 rfl inlX7 5 (by decide) wd_35 rfl dX7_settled_12 ?_
    refine lv_iload_n hx hb dX7_settled_15 rfl (lv_at hl 1 rfl) ?_
    obtain ⟨r2, hr2, h⟩ := g_bind h
    refine g_callVi (n := 1) (As := [.int a1]) (rest := []) C P (kX6_noted l X hJ σ a1 _ hr2) wd_165 wd_166 wd_167 wd_34 wd_168 rfl rfl kdX6_noted ⟨Nat.le_of_ble_eq_true rfl, Nat.le_of_ble_eq_true rfl⟩ xl96 rfl rfl rfl hl.1 (Nat.le_of_ble_eq_true rfl) dX7_settled_16 (fun H locs P => ?_)
    have h := Option.some.inj h
    exact g_iret C P (g_fst h) (g_snd h) dX7_settled_19
  have h := g_ifn c1 h
  refine lv_aload_n hx hb dX7_settled_4 rfl (lv_at hl 0 rfl) ?_
  refine g_getR C P xl0 rfl inlX7 4 (by decide) wd_31 rfl dX7_settled_5 ?_
  obtain ⟨r3, hr3, h⟩ := g_bind h
  refine g_callVv (n := 0) (As := []) (rest := []) C P (kX3_keep l X hJ σ _ hr3) wd_160 wd_161 wd_162 wd_30 wd_163 rfl rfl kdX3_keep ⟨Nat.le_of_ble_eq_true rfl, Nat.le_of_ble_eq_true rfl⟩ xl46 rfl rfl rfl hl.1 (Nat.le_of_ble_eq_true rfl) dX7_settled_8 (fun H locs P => ?_)
  refine lv_aload_n hx hb dX7_settled_11 rfl (lv_at hl 0 rfl) ?_
  refine g_getR C P xl0 rfl inlX7 5 (by decide) wd_35 rfl dX7_settled_12 ?_
  refine lv_iload_n hx hb dX7_settled_15 rfl (lv_at hl 1 rfl) ?_
  obtain ⟨r4, hr4, h⟩ := g_bind h
  refine g_callVi (n := 1) (As := [.int a1]) (rest := []) C P (kX6_noted l X hJ r3 a1 _ hr4) wd_165 wd_166 wd_167 wd_34 wd_168 rfl rfl kdX6_noted ⟨Nat.le_of_ble_eq_true rfl, Nat.le_of_ble_eq_true rfl⟩ xl96 rfl rfl rfl hl.1 (Nat.le_of_ble_eq_true rfl) dX7_settled_16 (fun H locs P => ?_)
  have h := Option.some.inj h
  exact g_iret C P (g_fst h) (g_snd h) dX7_settled_19
abbrev rmX7_make : Room := { frames := 3, cells := 0, slots := 0, locals := 70 }
theorem kdX7_make : yX7_make.cls = RX7 ∧ yX7_make.cls ≠ "java/lang/invoke/MethodHandle" ∧ yX7_make.cls ≠ "java/lang/invoke/VarHandle" ∧ (parseMethodDescriptor yX7_make.desc).map (fun d => d.parameters.length) = some 2 := by decide +kernel
set_option maxHeartbeats 4000000 in
set_option maxRecDepth 100000 in
theorem kX7_make (l : Launch) (X : gXt) (hJ : gJ X xL) (σ : gS) (a1 : Int32) (a2 : Int32) (q : Int32 × gS) (h : qF_make σ a1 a2 = some q) : gMi l yX7_make (gws yX7_make cX7_make 3 (some .int)) rmX7_make X xL [.ref (gad X 0), .int a1, .int a2] σ q.1 q.2 := by
  refine g_enter (cc := cX7_make) (nL := 3) (ret := (some .int)) hJ (plainFor_of_name (by decide)) (Nat.le_of_ble_eq_true rfl) ?_
  intro p e s m below meth c ls C P hl
  have C : gC p s m _ meth c RX7 cX7_make 3 (some .int) X xL := C
  have hx := C.1
  have hb := C.2.1
  have hK := C.2.2.2.2.2.2.2.1
  have hts := C.2.2.2.2.1
  have hl : lv_has ls 3 [(0, .ref (gad X 0)), (1, .int a1), (2, .int a2)] := hl
  unfold qF_make at h
  refine lv_aload_n hx hb dX7_make_0 rfl (lv_at hl 0 rfl) ?_
  refine g_getR C P xl0 rfl inlX7 4 (by decide) wd_31 rfl dX7_make_1 ?_
  refine lv_aload_n hx hb dX7_make_4 rfl (lv_at hl 0 rfl) ?_
  refine g_getR C P xl0 rfl inlX7 0 (by decide) wd_15 rfl dX7_make_5 ?_
  obtain ⟨r1, hr1, h⟩ := g_bind h
  refine g_callVv (n := 1) (As := [.ref (gad X 1)]) (rest := []) C P (kX3_stage l X hJ σ _ hr1) wd_110 wd_111 wd_112 wd_30 wd_113 rfl rfl kdX3_stage ⟨Nat.le_of_ble_eq_true rfl, Nat.le_of_ble_eq_true rfl⟩ xl46 rfl rfl rfl hl.1 (Nat.le_of_ble_eq_true rfl) dX7_make_8 (fun H locs P => ?_)
  refine lv_aload_n hx hb dX7_make_11 rfl (lv_at hl 0 rfl) ?_
  refine lv_aload_n hx hb dX7_make_12 rfl (lv_at hl 0 rfl) ?_
  refine g_getR C P xl0 rfl inlX7 2 (by decide) wd_23 rfl dX7_make_13 ?_
  refine lv_iload_n hx hb dX7_make_16 rfl (lv_at hl 1 rfl) ?_
  refine lv_iload_n hx hb dX7_make_17 rfl (lv_at hl 2 rfl) ?_
  obtain ⟨r2, hr2, h⟩ := g_bind h
  refine g_callVi (n := 2) (As := [.int a1, .int a2]) (rest := [.ref (gad X 0)]) C P (kX2_makeBlock l X hJ r1 a1 a2 _ hr2) wd_133 wd_134 wd_135 wd_22 wd_136 rfl rfl kdX2_makeBlock ⟨Nat.le_of_ble_eq_true rfl, Nat.le_of_ble_eq_true rfl⟩ xl40 rfl rfl rfl hl.1 (Nat.le_of_ble_eq_true rfl) dX7_make_18 (fun H locs P => ?_)
  obtain ⟨r3, hr3, h⟩ := g_bind h
  refine g_callVi (n := 1) (As := [.int r2.1]) (rest := []) C P (kX7_settled l X hJ r2.2 r2.1 _ hr3) wd_156 wd_157 wd_158 wd_2 wd_159 rfl rfl kdX7_settled ⟨Nat.le_of_ble_eq_true rfl, Nat.le_of_ble_eq_true rfl⟩ xl0 rfl rfl rfl hl.1 (Nat.le_of_ble_eq_true rfl) dX7_make_21 (fun H locs P => ?_)
  have h := Option.some.inj h
  exact g_iret C P (g_fst h) (g_snd h) dX7_make_24
