/-! WALKS, by program (wip/whole/gen.py): each method does what its mirror says -/
abbrev rmX2_loadBytes : Room := { frames := 3, cells := 0, slots := 0, locals := 66 }
theorem kdX2_loadBytes : yX2_loadBytes.cls = RX2 ∧ yX2_loadBytes.cls ≠ "java/lang/invoke/MethodHandle" ∧ yX2_loadBytes.cls ≠ "java/lang/invoke/VarHandle" ∧ (parseMethodDescriptor yX2_loadBytes.desc).map (fun d => d.parameters.length) = some 3 := by decide +kernel
set_option maxHeartbeats 4000000 in
set_option maxRecDepth 100000 in
theorem kX2_loadBytes (l : Launch) (X : gXt) (hJ : gJ X xL) (σ : gS) (a1 : Int32) (a2 : Int32) (a3 : Int32) (q : Int32 × gS) (h : qO_loadBytes σ a1 a2 a3 = some q) : gMi l yX2_loadBytes (gws yX2_loadBytes cX2_loadBytes 7 (some .int)) rmX2_loadBytes X xL [.ref (gad X 40), .int a1, .int a2, .int a3] σ q.1 q.2 := by
  refine g_enter (cc := cX2_loadBytes) (nL := 7) (ret := (some .int)) hJ (plainFor_of_name (by decide)) (Nat.le_of_ble_eq_true rfl) ?_
  intro p e s m below meth c ls C P hl
  have C : gC p s m _ meth c RX2 cX2_loadBytes 7 (some .int) X xL := C
  have hx := C.1
  have hb := C.2.1
  have hK := C.2.2.2.2.2.2.2.1
  have hts := C.2.2.2.2.1
  have hl : lv_has ls 7 [(0, .ref (gad X 40)), (1, .int a1), (2, .int a2), (3, .int a3)] := hl
  unfold qO_loadBytes at h
  refine lv_iload_n hx hb dX2_loadBytes_0 rfl (lv_at hl 1 rfl) ?_
  refine g_callNi (n := 1) (As := [.int a1]) (rest := []) C P (kX7_isRegister l X hJ σ a1 _ rfl) wd_139 rfl rfl kdX7_isRegister.2 ⟨Nat.le_of_ble_eq_true rfl, Nat.le_of_ble_eq_true rfl⟩ (hK.2 (RX2, 23, yX7_isRegister, RX7) (List.mem_of_getElem? (i := 0) rfl)) wd_2 wd_138 rfl rfl hl.1 (Nat.le_of_ble_eq_true rfl) dX2_loadBytes_1 (fun H locs P => ?_)
  refine lv_if_eq (tgt := 24) hx hb dX2_loadBytes_4 (by decide) (fun c1 => ?_) (fun c1 => ?_)
  · have h := g_ifp c1 h
    refine lv_bipush (v := -2) hx hb dX2_loadBytes_24 (by decide) ?_
    have h := Option.some.inj h
    exact g_iret C P (g_fst h) (g_snd h) dX2_loadBytes_26
  have h := g_ifn c1 h
  refine lv_iload_n hx hb dX2_loadBytes_7 rfl (lv_at hl 2 rfl) ?_
  refine g_callNi (n := 1) (As := [.int a2]) (rest := []) C P (kX7_isRegister l X hJ σ a2 _ rfl) wd_139 rfl rfl kdX7_isRegister.2 ⟨Nat.le_of_ble_eq_true rfl, Nat.le_of_ble_eq_true rfl⟩ (hK.2 (RX2, 23, yX7_isRegister, RX7) (List.mem_of_getElem? (i := 0) rfl)) wd_2 wd_138 rfl rfl hl.1 (Nat.le_of_ble_eq_true rfl) dX2_loadBytes_8 (fun H locs P => ?_)
  refine lv_if_eq (tgt := 24) hx hb dX2_loadBytes_11 (by decide) (fun c2 => ?_) (fun c2 => ?_)
  · have h := g_ifp c2 h
    refine lv_bipush (v := -2) hx hb dX2_loadBytes_24 (by decide) ?_
    have h := Option.some.inj h
    exact g_iret C P (g_fst h) (g_snd h) dX2_loadBytes_26
  have h := g_ifn c2 h
  refine lv_iload_n hx hb dX2_loadBytes_14 rfl (lv_at hl 3 rfl) ?_
  refine lv_iconst (v := 1) hx hb dX2_loadBytes_15 (by decide) ?_
  refine lv_icmp_lt (tgt := 24) hx hb dX2_loadBytes_16 (by decide) (fun c3 => ?_) (fun c3 => ?_)
  · have h := g_ifp c3 h
    refine lv_bipush (v := -2) hx hb dX2_loadBytes_24 (by decide) ?_
    have h := Option.some.inj h
    exact g_iret C P (g_fst h) (g_snd h) dX2_loadBytes_26
  have h := g_ifn c3 h
  refine lv_iload_n hx hb dX2_loadBytes_19 rfl (lv_at hl 3 rfl) ?_
  refine lv_iconst (v := 2) hx hb dX2_loadBytes_20 (by decide) ?_
  refine lv_icmp_le (tgt := 27) hx hb dX2_loadBytes_21 (by decide) (fun c4 => ?_) (fun c4 => ?_)
  · have h := g_ifp c4 h
    refine lv_aload_n hx hb dX2_loadBytes_27 rfl (lv_at hl 0 rfl) ?_
    refine lv_iload_n hx hb dX2_loadBytes_28 rfl (lv_at hl 2 rfl) ?_
    refine lv_iload_n hx hb dX2_loadBytes_29 rfl (lv_at hl 3 rfl) ?_
    obtain ⟨r5, hr5, h⟩ := g_bind h
    refine g_callVi (n := 2) (As := [.int a2, .int a3]) (rest := []) C P (kX2_faultForReading l X hJ σ a2 a3 _ hr5) wd_463 wd_464 wd_465 wd_22 wd_466 rfl rfl kdX2_faultForReading ⟨Nat.le_of_ble_eq_true rfl, Nat.le_of_ble_eq_true rfl⟩ xl40 rfl rfl rfl hl.1 (Nat.le_of_ble_eq_true rfl) dX2_loadBytes_30 (fun H locs P => ?_)
    refine lv_istore (lv' := [(4, .int r5), (0, .ref (gad X 40)), (1, .int a1), (2, .int a2), (3, .int a3)]) hx hb dX2_loadBytes_33 hl (by decide) rfl (fun ls hl => ?_)
    refine lv_iload hx hb dX2_loadBytes_35 (lv_at hl 0 rfl) ?_
    refine lv_if_eq (tgt := 43) hx hb dX2_loadBytes_37 (by decide) (fun c6 => ?_) (fun c6 => ?_)
    · have h := g_ifp c6 h
      refine lv_aload_n hx hb dX2_loadBytes_43 rfl (lv_at hl 1 rfl) ?_
      refine g_getR C P xl40 rfl inlX2 0 (by decide) wd_69 rfl dX2_loadBytes_44 ?_
      refine lv_aload_n hx hb dX2_loadBytes_47 rfl (lv_at hl 1 rfl) ?_
      refine g_getR C P xl40 rfl inlX2 0 (by decide) wd_69 rfl dX2_loadBytes_48 ?_
      refine lv_iload_n hx hb dX2_loadBytes_51 rfl (lv_at hl 3 rfl) ?_
      obtain ⟨r7, hr7, h⟩ := g_bind h
      refine g_callVi (n := 1) (As := [.int a2]) (rest := [.ref (gad X 1)]) C P (kX5_valueOf l X hJ σ a2 _ hr7) wd_339 wd_340 wd_341 wd_14 wd_342 rfl rfl kdX5_valueOf ⟨Nat.le_of_ble_eq_true rfl, Nat.le_of_ble_eq_true rfl⟩ xl1 rfl rfl rfl hl.1 (Nat.le_of_ble_eq_true rfl) dX2_loadBytes_52 (fun H locs P => ?_)
      refine lv_aload_n hx hb dX2_loadBytes_55 rfl (lv_at hl 1 rfl) ?_
      refine g_getR C P xl40 rfl inlX2 0 (by decide) wd_69 rfl dX2_loadBytes_56 ?_
      refine lv_iload_n hx hb dX2_loadBytes_59 rfl (lv_at hl 3 rfl) ?_
      obtain ⟨r8, hr8, h⟩ := g_bind h
      refine g_callVi (n := 1) (As := [.int a2]) (rest := [.int r7, .ref (gad X 1)]) C P (kX5_offsetOf l X hJ σ a2 _ hr8) wd_347 wd_348 wd_349 wd_14 wd_350 rfl rfl kdX5_offsetOf ⟨Nat.le_of_ble_eq_true rfl, Nat.le_of_ble_eq_true rfl⟩ xl1 rfl rfl rfl hl.1 (Nat.le_of_ble_eq_true rfl) dX2_loadBytes_60 (fun H locs P => ?_)
      obtain ⟨r9, hr9, h⟩ := g_bind h
      refine g_callVi (n := 2) (As := [.int r7, .int r8]) (rest := []) C P (kX5_cellAt l X hJ σ r7 r8 _ hr9) wd_438 wd_439 wd_440 wd_14 wd_441 rfl rfl kdX5_cellAt ⟨Nat.le_of_ble_eq_true rfl, Nat.le_of_ble_eq_true rfl⟩ xl1 rfl rfl rfl hl.1 (Nat.le_of_ble_eq_true rfl) dX2_loadBytes_63 (fun H locs P => ?_)
      refine lv_istore (lv' := [(5, .int r9), (4, .int r5), (0, .ref (gad X 40)), (1, .int a1), (2, .int a2), (3, .int a3)]) hx hb dX2_loadBytes_66 hl (by decide) rfl (fun ls hl => ?_)
      refine lv_iload_n hx hb dX2_loadBytes_68 rfl (lv_at hl 5 rfl) ?_
      refine lv_iconst (v := 2) hx hb dX2_loadBytes_69 (by decide) ?_
      refine lv_icmp_ne (tgt := 101) hx hb dX2_loadBytes_70 (by decide) (fun c10 => ?_) (fun c10 => ?_)
      · have h := g_ifn c10 h
        refine lv_iconst (v := 0) hx hb dX2_loadBytes_101 (by decide) ?_
        refine lv_istore (lv' := [(6, .int (0 : Int32)), (5, .int r9), (4, .int r5), (0, .ref (gad X 40)), (1, .int a1), (2, .int a2), (3, .int a3)]) hx hb dX2_loadBytes_102 hl (by decide) rfl (fun ls hl => ?_)
        refine lv_iload_n hx hb dX2_loadBytes_104 rfl (lv_at hl 6 rfl) ?_
        refine lv_iconst (v := 2) hx hb dX2_loadBytes_105 (by decide) ?_
        refine lv_icmp_ne (tgt := 137) hx hb dX2_loadBytes_106 (by decide) (fun c11 => ?_) (fun c11 => ?_)
        rotate_left
        · exact absurd c11 c10
        refine lv_iload hx hb dX2_loadBytes_137 (lv_at hl 1 rfl) ?_
        refine lv_sipush (v := 999) hx hb dX2_loadBytes_139 (by decide) ?_
        refine lv_icmp_ge (tgt := 153) hx hb dX2_loadBytes_142 (by decide) (fun c12 => ?_) (fun c12 => ?_)
        · have h := g_ifp c12 h
          refine lv_bipush (v := -16) hx hb dX2_loadBytes_153 (by decide) ?_
          have h := Option.some.inj h
          exact g_iret C P (g_fst h) (g_snd h) dX2_loadBytes_155
        have h := g_ifn c12 h
        refine lv_iload hx hb dX2_loadBytes_145 (lv_at hl 0 rfl) ?_
        refine lv_sipush (v := 999) hx hb dX2_loadBytes_147 (by decide) ?_
        refine lv_icmp_lt (tgt := 156) hx hb dX2_loadBytes_150 (by decide) (fun c13 => ?_) (fun c13 => ?_)
        rotate_left
        · exact absurd (by decide) c13
        refine lv_iload hx hb dX2_loadBytes_156 (lv_at hl 1 rfl) ?_
        refine lv_iconst (v := -1) hx hb dX2_loadBytes_158 (by decide) ?_
        refine lv_icmp_eq (tgt := 168) hx hb dX2_loadBytes_159 (by decide) (fun c14 => ?_) (fun c14 => ?_)
        · have h := g_ifp c14 h
          refine lv_bipush (v := -11) hx hb dX2_loadBytes_168 (by decide) ?_
          have h := Option.some.inj h
          exact g_iret C P (g_fst h) (g_snd h) dX2_loadBytes_170
        have h := g_ifn c14 h
        refine lv_iload hx hb dX2_loadBytes_162 (lv_at hl 0 rfl) ?_
        refine lv_iconst (v := -1) hx hb dX2_loadBytes_164 (by decide) ?_
        refine lv_icmp_ne (tgt := 171) hx hb dX2_loadBytes_165 (by decide) (fun c15 => ?_) (fun c15 => ?_)
        rotate_left
        · exact absurd c15 (by decide)
        refine lv_aload_n hx hb dX2_loadBytes_171 rfl (lv_at hl 3 rfl) ?_
        refine g_getR C P xl40 rfl inlX2 0 (by decide) wd_69 rfl dX2_loadBytes_172 ?_
        refine lv_iload_n hx hb dX2_loadBytes_175 rfl (lv_at hl 4 rfl) ?_
        refine lv_iload hx hb dX2_loadBytes_176 (lv_at hl 0 rfl) ?_
        refine lv_sipush (v := 256) hx hb dX2_loadBytes_178 (by decide) ?_
        refine lv_imul hx hb dX2_loadBytes_181 ?_
        refine lv_iload hx hb dX2_loadBytes_182 (lv_at hl 1 rfl) ?_
        refine lv_iadd hx hb dX2_loadBytes_184 ?_
        obtain ⟨r16, hr16, h⟩ := g_bind h
        refine g_callVv (n := 2) (As := [.int a1, .int (((0 : Int32) * (256 : Int32)) + r9)]) (rest := []) C P (kX5_fillWithNumber l X hJ σ a1 (((0 : Int32) * (256 : Int32)) + r9) _ hr16) wd_372 wd_373 wd_374 wd_14 wd_375 rfl rfl kdX5_fillWithNumber ⟨Nat.le_of_ble_eq_true rfl, Nat.le_of_ble_eq_true rfl⟩ xl1 rfl rfl rfl hl.1 (Nat.le_of_ble_eq_true rfl) dX2_loadBytes_185 (fun H locs P => ?_)
        refine lv_iconst (v := 1) hx hb dX2_loadBytes_188 (by decide) ?_
        have h := Option.some.inj h
        exact g_iret C P (g_fst h) (g_snd h) dX2_loadBytes_189
      have h := g_ifp c10 h
      refine lv_aload_n hx hb dX2_loadBytes_73 rfl (lv_at hl 2 rfl) ?_
      refine g_getR C P xl40 rfl inlX2 0 (by decide) wd_69 rfl dX2_loadBytes_74 ?_
      refine lv_aload_n hx hb dX2_loadBytes_77 rfl (lv_at hl 2 rfl) ?_
      refine g_getR C P xl40 rfl inlX2 0 (by decide) wd_69 rfl dX2_loadBytes_78 ?_
      refine lv_iload_n hx hb dX2_loadBytes_81 rfl (lv_at hl 4 rfl) ?_
      obtain ⟨r17, hr17, h⟩ := g_bind h
      refine g_callVi (n := 1) (As := [.int a2]) (rest := [.ref (gad X 1)]) C P (kX5_valueOf l X hJ σ a2 _ hr17) wd_339 wd_340 wd_341 wd_14 wd_342 rfl rfl kdX5_valueOf ⟨Nat.le_of_ble_eq_true rfl, Nat.le_of_ble_eq_true rfl⟩ xl1 rfl rfl rfl hl.1 (Nat.le_of_ble_eq_true rfl) dX2_loadBytes_82 (fun H locs P => ?_)
      refine lv_aload_n hx hb dX2_loadBytes_85 rfl (lv_at hl 2 rfl) ?_
      refine g_getR C P xl40 rfl inlX2 0 (by decide) wd_69 rfl dX2_loadBytes_86 ?_
      refine lv_iload_n hx hb dX2_loadBytes_89 rfl (lv_at hl 4 rfl) ?_
      obtain ⟨r18, hr18, h⟩ := g_bind h
      refine g_callVi (n := 1) (As := [.int a2]) (rest := [.int r17, .ref (gad X 1)]) C P (kX5_offsetOf l X hJ σ a2 _ hr18) wd_347 wd_348 wd_349 wd_14 wd_350 rfl rfl kdX5_offsetOf ⟨Nat.le_of_ble_eq_true rfl, Nat.le_of_ble_eq_true rfl⟩ xl1 rfl rfl rfl hl.1 (Nat.le_of_ble_eq_true rfl) dX2_loadBytes_90 (fun H locs P => ?_)
      refine lv_iconst (v := 1) hx hb dX2_loadBytes_93 (by decide) ?_
      refine lv_iadd hx hb dX2_loadBytes_94 ?_
      obtain ⟨r19, hr19, h⟩ := g_bind h
      refine g_callVi (n := 2) (As := [.int r17, .int (r18 + (1 : Int32))]) (rest := []) C P (kX5_cellAt l X hJ σ r17 (r18 + (1 : Int32)) _ hr19) wd_438 wd_439 wd_440 wd_14 wd_441 rfl rfl kdX5_cellAt ⟨Nat.le_of_ble_eq_true rfl, Nat.le_of_ble_eq_true rfl⟩ xl1 rfl rfl rfl hl.1 (Nat.le_of_ble_eq_true rfl) dX2_loadBytes_95 (fun H locs P => ?_)
      refine lv_goto (tgt := 102) hx hb dX2_loadBytes_98 (by decide) ?_
      refine lv_istore (lv' := [(6, .int r19), (5, .int r9), (4, .int r5), (0, .ref (gad X 40)), (1, .int a1), (2, .int a2), (3, .int a3)]) hx hb dX2_loadBytes_102 hl (by decide) rfl (fun ls hl => ?_)
      refine lv_iload_n hx hb dX2_loadBytes_104 rfl (lv_at hl 6 rfl) ?_
      refine lv_iconst (v := 2) hx hb dX2_loadBytes_105 (by decide) ?_
      refine lv_icmp_ne (tgt := 137) hx hb dX2_loadBytes_106 (by decide) (fun c20 => ?_) (fun c20 => ?_)
      · exact absurd c10 c20
      refine lv_iload hx hb dX2_loadBytes_109 (lv_at hl 1 rfl) ?_
      refine g_callNi (n := 1) (As := [.int r9]) (rest := []) C P (kX7_isPointerCode l X hJ σ r9 _ rfl) wd_444 rfl rfl kdX7_isPointerCode.2 ⟨Nat.le_of_ble_eq_true rfl, Nat.le_of_ble_eq_true rfl⟩ (hK.2 (RX2, 111, yX7_isPointerCode, RX7) (List.mem_of_getElem? (i := 1) rfl)) wd_2 wd_443 rfl rfl hl.1 (Nat.le_of_ble_eq_true rfl) dX2_loadBytes_111 (fun H locs P => ?_)
      refine lv_if_eq (tgt := 137) hx hb dX2_loadBytes_114 (by decide) (fun c21 => ?_) (fun c21 => ?_)
      · have h := g_ifp c21 h
        refine lv_iload hx hb dX2_loadBytes_137 (lv_at hl 1 rfl) ?_
        refine lv_sipush (v := 999) hx hb dX2_loadBytes_139 (by decide) ?_
        refine lv_icmp_ge (tgt := 153) hx hb dX2_loadBytes_142 (by decide) (fun c22 => ?_) (fun c22 => ?_)
        · have h := g_ifp c22 h
          refine lv_bipush (v := -16) hx hb dX2_loadBytes_153 (by decide) ?_
          have h := Option.some.inj h
          exact g_iret C P (g_fst h) (g_snd h) dX2_loadBytes_155
        have h := g_ifn c22 h
        refine lv_iload hx hb dX2_loadBytes_145 (lv_at hl 0 rfl) ?_
        refine lv_sipush (v := 999) hx hb dX2_loadBytes_147 (by decide) ?_
        refine lv_icmp_lt (tgt := 156) hx hb dX2_loadBytes_150 (by decide) (fun c23 => ?_) (fun c23 => ?_)
        · have h := g_ifp c23 h
          refine lv_iload hx hb dX2_loadBytes_156 (lv_at hl 1 rfl) ?_
          refine lv_iconst (v := -1) hx hb dX2_loadBytes_158 (by decide) ?_
          refine lv_icmp_eq (tgt := 168) hx hb dX2_loadBytes_159 (by decide) (fun c24 => ?_) (fun c24 => ?_)
          · have h := g_ifp c24 h
            refine lv_bipush (v := -11) hx hb dX2_loadBytes_168 (by decide) ?_
            have h := Option.some.inj h
            exact g_iret C P (g_fst h) (g_snd h) dX2_loadBytes_170
          have h := g_ifn c24 h
          refine lv_iload hx hb dX2_loadBytes_162 (lv_at hl 0 rfl) ?_
          refine lv_iconst (v := -1) hx hb dX2_loadBytes_164 (by decide) ?_
          refine lv_icmp_ne (tgt := 171) hx hb dX2_loadBytes_165 (by decide) (fun c25 => ?_) (fun c25 => ?_)
          · have h := g_ifn c25 h
            refine lv_aload_n hx hb dX2_loadBytes_171 rfl (lv_at hl 3 rfl) ?_
            refine g_getR C P xl40 rfl inlX2 0 (by decide) wd_69 rfl dX2_loadBytes_172 ?_
            refine lv_iload_n hx hb dX2_loadBytes_175 rfl (lv_at hl 4 rfl) ?_
            refine lv_iload hx hb dX2_loadBytes_176 (lv_at hl 0 rfl) ?_
            refine lv_sipush (v := 256) hx hb dX2_loadBytes_178 (by decide) ?_
            refine lv_imul hx hb dX2_loadBytes_181 ?_
            refine lv_iload hx hb dX2_loadBytes_182 (lv_at hl 1 rfl) ?_
            refine lv_iadd hx hb dX2_loadBytes_184 ?_
            obtain ⟨r26, hr26, h⟩ := g_bind h
            refine g_callVv (n := 2) (As := [.int a1, .int ((r19 * (256 : Int32)) + r9)]) (rest := []) C P (kX5_fillWithNumber l X hJ σ a1 ((r19 * (256 : Int32)) + r9) _ hr26) wd_372 wd_373 wd_374 wd_14 wd_375 rfl rfl kdX5_fillWithNumber ⟨Nat.le_of_ble_eq_true rfl, Nat.le_of_ble_eq_true rfl⟩ xl1 rfl rfl rfl hl.1 (Nat.le_of_ble_eq_true rfl) dX2_loadBytes_185 (fun H locs P => ?_)
            refine lv_iconst (v := 1) hx hb dX2_loadBytes_188 (by decide) ?_
            have h := Option.some.inj h
            exact g_iret C P (g_fst h) (g_snd h) dX2_loadBytes_189
          have h := g_ifp c25 h
          refine lv_bipush (v := -11) hx hb dX2_loadBytes_168 (by decide) ?_
          have h := Option.some.inj h
          exact g_iret C P (g_fst h) (g_snd h) dX2_loadBytes_170
        have h := g_ifn c23 h
        refine lv_bipush (v := -16) hx hb dX2_loadBytes_153 (by decide) ?_
        have h := Option.some.inj h
        exact g_iret C P (g_fst h) (g_snd h) dX2_loadBytes_155
      have h := g_ifn c21 h
      refine lv_aload_n hx hb dX2_loadBytes_117 rfl (lv_at hl 3 rfl) ?_
      refine g_getR C P xl40 rfl inlX2 0 (by decide) wd_69 rfl dX2_loadBytes_118 ?_
      refine lv_iload_n hx hb dX2_loadBytes_121 rfl (lv_at hl 4 rfl) ?_
      refine lv_iload hx hb dX2_loadBytes_122 (lv_at hl 1 rfl) ?_
      refine g_callNi (n := 1) (As := [.int r9]) (rest := [.int a1, .ref (gad X 1)]) C P (kX7_blockOfCode l X hJ σ r9 _ rfl) wd_468 rfl rfl kdX7_blockOfCode.2 ⟨Nat.le_of_ble_eq_true rfl, Nat.le_of_ble_eq_true rfl⟩ (hK.2 (RX2, 114, yX7_blockOfCode, RX7) (List.mem_of_getElem? (i := 3) rfl)) wd_2 wd_467 rfl rfl hl.1 (Nat.le_of_ble_eq_true rfl) dX2_loadBytes_124 (fun H locs P => ?_)
      refine lv_iload hx hb dX2_loadBytes_127 (lv_at hl 1 rfl) ?_
      refine g_callNi (n := 1) (As := [.int r9]) (rest := [.int (qF_blockOfCode r9), .int a1, .ref (gad X 1)]) C P (kX7_offsetOfCode l X hJ σ r9 _ rfl) wd_470 rfl rfl kdX7_offsetOfCode.2 ⟨Nat.le_of_ble_eq_true rfl, Nat.le_of_ble_eq_true rfl⟩ (hK.2 (RX2, 117, yX7_offsetOfCode, RX7) (List.mem_of_getElem? (i := 4) rfl)) wd_2 wd_469 rfl rfl hl.1 (Nat.le_of_ble_eq_true rfl) dX2_loadBytes_129 (fun H locs P => ?_)
      obtain ⟨r27, hr27, h⟩ := g_bind h
      refine g_callVv (n := 3) (As := [.int a1, .int (qF_blockOfCode r9), .int (qF_offsetOfCode r9)]) (rest := []) C P (kX5_fillWithPointer l X hJ σ a1 (qF_blockOfCode r9) (qF_offsetOfCode r9) _ hr27) wd_148 wd_149 wd_150 wd_14 wd_151 rfl rfl kdX5_fillWithPointer ⟨Nat.le_of_ble_eq_true rfl, Nat.le_of_ble_eq_true rfl⟩ xl1 rfl rfl rfl hl.1 (Nat.le_of_ble_eq_true rfl) dX2_loadBytes_132 (fun H locs P => ?_)
      refine lv_iconst (v := 2) hx hb dX2_loadBytes_135 (by decide) ?_
      have h := Option.some.inj h
      exact g_iret C P (g_fst h) (g_snd h) dX2_loadBytes_136
    have h := g_ifn c6 h
    refine lv_iload hx hb dX2_loadBytes_40 (lv_at hl 0 rfl) ?_
    have h := Option.some.inj h
    exact g_iret C P (g_fst h) (g_snd h) dX2_loadBytes_42
  have h := g_ifn c4 h
  refine lv_bipush (v := -2) hx hb dX2_loadBytes_24 (by decide) ?_
  have h := Option.some.inj h
  exact g_iret C P (g_fst h) (g_snd h) dX2_loadBytes_26
abbrev rmX2_order : Room := { frames := 0, cells := 0, slots := 0, locals := 0 }
theorem kdX2_order : yX2_order.cls = RX2 ∧ yX2_order.cls ≠ "java/lang/invoke/MethodHandle" ∧ yX2_order.cls ≠ "java/lang/invoke/VarHandle" ∧ (parseMethodDescriptor yX2_order.desc).map (fun d => d.parameters.length) = some 2 := by decide +kernel
set_option maxHeartbeats 4000000 in
set_option maxRecDepth 100000 in
theorem kX2_order (l : Launch) (X : gXt) (hJ : gJ X xL) (σ : gS) (a1 : Int32) (a2 : Int32) (q : Int32) (h : qO_order a1 a2 = q) : gMi l yX2_order (gws yX2_order cX2_order 2 (some .int)) rmX2_order X xL [.int a1, .int a2] σ q σ := by
  refine g_enter (cc := cX2_order) (nL := 2) (ret := (some .int)) hJ (plainFor_of_name (by decide)) (Nat.le_of_ble_eq_true rfl) ?_
  intro p e s m below meth c ls C P hl
  have C : gC p s m _ meth c RX2 cX2_order 2 (some .int) X xL := C
  have hx := C.1
  have hb := C.2.1
  have hK := C.2.2.2.2.2.2.2.1
  have hts := C.2.2.2.2.1
  have hl : lv_has ls 2 [(0, .int a1), (1, .int a2)] := hl
  unfold qO_order at h
  refine lv_iload_n hx hb dX2_order_0 rfl (lv_at hl 0 rfl) ?_
  refine lv_iload_n hx hb dX2_order_1 rfl (lv_at hl 1 rfl) ?_
  refine lv_icmp_ne (tgt := 7) hx hb dX2_order_2 (by decide) (fun c1 => ?_) (fun c1 => ?_)
  · have h := g_ifn c1 h
    refine lv_iload_n hx hb dX2_order_7 rfl (lv_at hl 0 rfl) ?_
    refine lv_iload_n hx hb dX2_order_8 rfl (lv_at hl 1 rfl) ?_
    refine lv_icmp_ge (tgt := 16) hx hb dX2_order_9 (by decide) (fun c2 => ?_) (fun c2 => ?_)
    · have h := g_ifp c2 h
      refine lv_iconst (v := 2) hx hb dX2_order_16 (by decide) ?_
      exact g_iret C P h rfl dX2_order_17
    have h := g_ifn c2 h
    refine lv_iconst (v := 0) hx hb dX2_order_12 (by decide) ?_
    refine lv_goto (tgt := 17) hx hb dX2_order_13 (by decide) ?_
    exact g_iret C P h rfl dX2_order_17
  have h := g_ifp c1 h
  refine lv_iconst (v := 1) hx hb dX2_order_5 (by decide) ?_
  exact g_iret C P h rfl dX2_order_6
abbrev rmX2_compareRegisters : Room := { frames := 1, cells := 0, slots := 0, locals := 21 }
theorem kdX2_compareRegisters : yX2_compareRegisters.cls = RX2 ∧ yX2_compareRegisters.cls ≠ "java/lang/invoke/MethodHandle" ∧ yX2_compareRegisters.cls ≠ "java/lang/invoke/VarHandle" ∧ (parseMethodDescriptor yX2_compareRegisters.desc).map (fun d => d.parameters.length) = some 2 := by decide +kernel
set_option maxHeartbeats 4000000 in
set_option maxRecDepth 100000 in
theorem kX2_compareRegisters (l : Launch) (X : gXt) (hJ : gJ X xL) (σ : gS) (a1 : Int32) (a2 : Int32) (q : Int32) (h : qO_compareRegisters σ a1 a2 = some q) : gMi l yX2_compareRegisters (gws yX2_compareRegisters cX2_compareRegisters 4 (some .int)) rmX2_compareRegisters X xL [.ref (gad X 40), .int a1, .int a2] σ q σ := by
  refine g_enter (cc := cX2_compareRegisters) (nL := 4) (ret := (some .int)) hJ (plainFor_of_name (by decide)) (Nat.le_of_ble_eq_true rfl) ?_
  intro p e s m below meth c ls C P hl
  have C : gC p s m _ meth c RX2 cX2_compareRegisters 4 (some .int) X xL := C
  have hx := C.1
  have hb := C.2.1
  have hK := C.2.2.2.2.2.2.2.1
  have hts := C.2.2.2.2.1
  have hl : lv_has ls 4 [(0, .ref (gad X 40)), (1, .int a1), (2, .int a2)] := hl
  unfold qO_compareRegisters at h
  refine lv_iload_n hx hb dX2_compareRegisters_0 rfl (lv_at hl 1 rfl) ?_
  refine g_callNi (n := 1) (As := [.int a1]) (rest := []) C P (kX7_isRegister l X hJ σ a1 _ rfl) wd_139 rfl rfl kdX7_isRegister.2 ⟨Nat.le_of_ble_eq_true rfl, Nat.le_of_ble_eq_true rfl⟩ (hK.2 (RX2, 23, yX7_isRegister, RX7) (List.mem_of_getElem? (i := 0) rfl)) wd_2 wd_138 rfl rfl hl.1 (Nat.le_of_ble_eq_true rfl) dX2_compareRegisters_1 (fun H locs P => ?_)
  refine lv_if_eq (tgt := 14) hx hb dX2_compareRegisters_4 (by decide) (fun c1 => ?_) (fun c1 => ?_)
  · have h := g_ifp c1 h
    refine lv_bipush (v := -2) hx hb dX2_compareRegisters_14 (by decide) ?_
    have h := Option.some.inj h
    exact g_iret C P h rfl dX2_compareRegisters_16
  have h := g_ifn c1 h
  refine lv_iload_n hx hb dX2_compareRegisters_7 rfl (lv_at hl 2 rfl) ?_
  refine g_callNi (n := 1) (As := [.int a2]) (rest := []) C P (kX7_isRegister l X hJ σ a2 _ rfl) wd_139 rfl rfl kdX7_isRegister.2 ⟨Nat.le_of_ble_eq_true rfl, Nat.le_of_ble_eq_true rfl⟩ (hK.2 (RX2, 23, yX7_isRegister, RX7) (List.mem_of_getElem? (i := 0) rfl)) wd_2 wd_138 rfl rfl hl.1 (Nat.le_of_ble_eq_true rfl) dX2_compareRegisters_8 (fun H locs P => ?_)
  refine lv_if_ne (tgt := 17) hx hb dX2_compareRegisters_11 (by decide) (fun c2 => ?_) (fun c2 => ?_)
  · have h := g_ifn c2 h
    refine lv_aload_n hx hb dX2_compareRegisters_17 rfl (lv_at hl 0 rfl) ?_
    refine g_getR C P xl40 rfl inlX2 0 (by decide) wd_69 rfl dX2_compareRegisters_18 ?_
    refine lv_iload_n hx hb dX2_compareRegisters_21 rfl (lv_at hl 1 rfl) ?_
    obtain ⟨r3, hr3, h⟩ := g_bind h
    refine g_callVi (n := 1) (As := [.int a1]) (rest := []) C P (kX5_kindOf l X hJ σ a1 _ hr3) wd_335 wd_336 wd_337 wd_14 wd_338 rfl rfl kdX5_kindOf ⟨Nat.le_of_ble_eq_true rfl, Nat.le_of_ble_eq_true rfl⟩ xl1 rfl rfl rfl hl.1 (Nat.le_of_ble_eq_true rfl) dX2_compareRegisters_22 (fun H locs P => ?_)
    refine lv_istore_n (lv' := [(3, .int r3), (0, .ref (gad X 40)), (1, .int a1), (2, .int a2)]) hx hb dX2_compareRegisters_25 rfl hl (by decide) rfl (fun ls hl => ?_)
    refine lv_iload_n hx hb dX2_compareRegisters_26 rfl (lv_at hl 0 rfl) ?_
    refine lv_if_eq (tgt := 41) hx hb dX2_compareRegisters_27 (by decide) (fun c4 => ?_) (fun c4 => ?_)
    · have h := g_ifp c4 h
      refine lv_bipush (v := -11) hx hb dX2_compareRegisters_41 (by decide) ?_
      have h := Option.some.inj h
      exact g_iret C P h rfl dX2_compareRegisters_43
    have h := g_ifn c4 h
    refine lv_aload_n hx hb dX2_compareRegisters_30 rfl (lv_at hl 1 rfl) ?_
    refine g_getR C P xl40 rfl inlX2 0 (by decide) wd_69 rfl dX2_compareRegisters_31 ?_
    refine lv_iload_n hx hb dX2_compareRegisters_34 rfl (lv_at hl 3 rfl) ?_
    obtain ⟨r5, hr5, h⟩ := g_bind h
    refine g_callVi (n := 1) (As := [.int a2]) (rest := []) C P (kX5_kindOf l X hJ σ a2 _ hr5) wd_335 wd_336 wd_337 wd_14 wd_338 rfl rfl kdX5_kindOf ⟨Nat.le_of_ble_eq_true rfl, Nat.le_of_ble_eq_true rfl⟩ xl1 rfl rfl rfl hl.1 (Nat.le_of_ble_eq_true rfl) dX2_compareRegisters_35 (fun H locs P => ?_)
    refine lv_if_ne (tgt := 44) hx hb dX2_compareRegisters_38 (by decide) (fun c6 => ?_) (fun c6 => ?_)
    · have h := g_ifn c6 h
      refine lv_iload_n hx hb dX2_compareRegisters_44 rfl (lv_at hl 0 rfl) ?_
      refine lv_aload_n hx hb dX2_compareRegisters_45 rfl (lv_at hl 1 rfl) ?_
      refine g_getR C P xl40 rfl inlX2 0 (by decide) wd_69 rfl dX2_compareRegisters_46 ?_
      refine lv_iload_n hx hb dX2_compareRegisters_49 rfl (lv_at hl 3 rfl) ?_
      obtain ⟨r7, hr7, h⟩ := g_bind h
      refine g_callVi (n := 1) (As := [.int a2]) (rest := [.int r3]) C P (kX5_kindOf l X hJ σ a2 _ hr7) wd_335 wd_336 wd_337 wd_14 wd_338 rfl rfl kdX5_kindOf ⟨Nat.le_of_ble_eq_true rfl, Nat.le_of_ble_eq_true rfl⟩ xl1 rfl rfl rfl hl.1 (Nat.le_of_ble_eq_true rfl) dX2_compareRegisters_50 (fun H locs P => ?_)
      refine lv_icmp_eq (tgt := 59) hx hb dX2_compareRegisters_53 (by decide) (fun c8 => ?_) (fun c8 => ?_)
      · have h := g_ifp c8 h
        refine lv_iload_n hx hb dX2_compareRegisters_59 rfl (lv_at hl 0 rfl) ?_
        refine lv_iconst (v := 1) hx hb dX2_compareRegisters_60 (by decide) ?_
        refine lv_icmp_ne (tgt := 84) hx hb dX2_compareRegisters_61 (by decide) (fun c9 => ?_) (fun c9 => ?_)
        · have h := g_ifn c9 h
          refine lv_aload_n hx hb dX2_compareRegisters_84 rfl (lv_at hl 1 rfl) ?_
          refine g_getR C P xl40 rfl inlX2 0 (by decide) wd_69 rfl dX2_compareRegisters_85 ?_
          refine lv_iload_n hx hb dX2_compareRegisters_88 rfl (lv_at hl 2 rfl) ?_
          obtain ⟨r10, hr10, h⟩ := g_bind h
          refine g_callVi (n := 1) (As := [.int a1]) (rest := []) C P (kX5_valueOf l X hJ σ a1 _ hr10) wd_339 wd_340 wd_341 wd_14 wd_342 rfl rfl kdX5_valueOf ⟨Nat.le_of_ble_eq_true rfl, Nat.le_of_ble_eq_true rfl⟩ xl1 rfl rfl rfl hl.1 (Nat.le_of_ble_eq_true rfl) dX2_compareRegisters_89 (fun H locs P => ?_)
          refine lv_aload_n hx hb dX2_compareRegisters_92 rfl (lv_at hl 1 rfl) ?_
          refine g_getR C P xl40 rfl inlX2 0 (by decide) wd_69 rfl dX2_compareRegisters_93 ?_
          refine lv_iload_n hx hb dX2_compareRegisters_96 rfl (lv_at hl 3 rfl) ?_
          obtain ⟨r11, hr11, h⟩ := g_bind h
          refine g_callVi (n := 1) (As := [.int a2]) (rest := [.int r10]) C P (kX5_valueOf l X hJ σ a2 _ hr11) wd_339 wd_340 wd_341 wd_14 wd_342 rfl rfl kdX5_valueOf ⟨Nat.le_of_ble_eq_true rfl, Nat.le_of_ble_eq_true rfl⟩ xl1 rfl rfl rfl hl.1 (Nat.le_of_ble_eq_true rfl) dX2_compareRegisters_97 (fun H locs P => ?_)
          refine lv_icmp_eq (tgt := 106) hx hb dX2_compareRegisters_100 (by decide) (fun c12 => ?_) (fun c12 => ?_)
          · have h := g_ifp c12 h
            refine lv_aload_n hx hb dX2_compareRegisters_106 rfl (lv_at hl 1 rfl) ?_
            refine g_getR C P xl40 rfl inlX2 0 (by decide) wd_69 rfl dX2_compareRegisters_107 ?_
            refine lv_iload_n hx hb dX2_compareRegisters_110 rfl (lv_at hl 2 rfl) ?_
            obtain ⟨r13, hr13, h⟩ := g_bind h
            refine g_callVi (n := 1) (As := [.int a1]) (rest := []) C P (kX5_offsetOf l X hJ σ a1 _ hr13) wd_347 wd_348 wd_349 wd_14 wd_350 rfl rfl kdX5_offsetOf ⟨Nat.le_of_ble_eq_true rfl, Nat.le_of_ble_eq_true rfl⟩ xl1 rfl rfl rfl hl.1 (Nat.le_of_ble_eq_true rfl) dX2_compareRegisters_111 (fun H locs P => ?_)
            refine lv_aload_n hx hb dX2_compareRegisters_114 rfl (lv_at hl 1 rfl) ?_
            refine g_getR C P xl40 rfl inlX2 0 (by decide) wd_69 rfl dX2_compareRegisters_115 ?_
            refine lv_iload_n hx hb dX2_compareRegisters_118 rfl (lv_at hl 3 rfl) ?_
            obtain ⟨r14, hr14, h⟩ := g_bind h
            refine g_callVi (n := 1) (As := [.int a2]) (rest := [.int r13]) C P (kX5_offsetOf l X hJ σ a2 _ hr14) wd_347 wd_348 wd_349 wd_14 wd_350 rfl rfl kdX5_offsetOf ⟨Nat.le_of_ble_eq_true rfl, Nat.le_of_ble_eq_true rfl⟩ xl1 rfl rfl rfl hl.1 (Nat.le_of_ble_eq_true rfl) dX2_compareRegisters_119 (fun H locs P => ?_)
            refine g_callSi (n := 2) (As := [.int r13, .int r14]) (rest := []) C P (kX2_order l X hJ σ r13 r14 _ rfl) wd_483 wd_484 wd_22 wd_485 rfl rfl kdX2_order.2 ⟨Nat.le_of_ble_eq_true rfl, Nat.le_of_ble_eq_true rfl⟩ rfl rfl hl.1 (Nat.le_of_ble_eq_true rfl) dX2_compareRegisters_122 (fun H locs P => ?_)
            have h := Option.some.inj h
            exact g_iret C P h rfl dX2_compareRegisters_125
          have h := g_ifn c12 h
          refine lv_bipush (v := -18) hx hb dX2_compareRegisters_103 (by decide) ?_
          have h := Option.some.inj h
          exact g_iret C P h rfl dX2_compareRegisters_105
        have h := g_ifp c9 h
        refine lv_aload_n hx hb dX2_compareRegisters_64 rfl (lv_at hl 1 rfl) ?_
        refine g_getR C P xl40 rfl inlX2 0 (by decide) wd_69 rfl dX2_compareRegisters_65 ?_
        refine lv_iload_n hx hb dX2_compareRegisters_68 rfl (lv_at hl 2 rfl) ?_
        obtain ⟨r15, hr15, h⟩ := g_bind h
        refine g_callVi (n := 1) (As := [.int a1]) (rest := []) C P (kX5_valueOf l X hJ σ a1 _ hr15) wd_339 wd_340 wd_341 wd_14 wd_342 rfl rfl kdX5_valueOf ⟨Nat.le_of_ble_eq_true rfl, Nat.le_of_ble_eq_true rfl⟩ xl1 rfl rfl rfl hl.1 (Nat.le_of_ble_eq_true rfl) dX2_compareRegisters_69 (fun H locs P => ?_)
        refine lv_aload_n hx hb dX2_compareRegisters_72 rfl (lv_at hl 1 rfl) ?_
        refine g_getR C P xl40 rfl inlX2 0 (by decide) wd_69 rfl dX2_compareRegisters_73 ?_
        refine lv_iload_n hx hb dX2_compareRegisters_76 rfl (lv_at hl 3 rfl) ?_
        obtain ⟨r16, hr16, h⟩ := g_bind h
        refine g_callVi (n := 1) (As := [.int a2]) (rest := [.int r15]) C P (kX5_valueOf l X hJ σ a2 _ hr16) wd_339 wd_340 wd_341 wd_14 wd_342 rfl rfl kdX5_valueOf ⟨Nat.le_of_ble_eq_true rfl, Nat.le_of_ble_eq_true rfl⟩ xl1 rfl rfl rfl hl.1 (Nat.le_of_ble_eq_true rfl) dX2_compareRegisters_77 (fun H locs P => ?_)
        refine g_callSi (n := 2) (As := [.int r15, .int r16]) (rest := []) C P (kX2_order l X hJ σ r15 r16 _ rfl) wd_483 wd_484 wd_22 wd_485 rfl rfl kdX2_order.2 ⟨Nat.le_of_ble_eq_true rfl, Nat.le_of_ble_eq_true rfl⟩ rfl rfl hl.1 (Nat.le_of_ble_eq_true rfl) dX2_compareRegisters_80 (fun H locs P => ?_)
        have h := Option.some.inj h
        exact g_iret C P h rfl dX2_compareRegisters_83
      have h := g_ifn c8 h
      refine lv_bipush (v := -17) hx hb dX2_compareRegisters_56 (by decide) ?_
      have h := Option.some.inj h
      exact g_iret C P h rfl dX2_compareRegisters_58
    have h := g_ifp c6 h
    refine lv_bipush (v := -11) hx hb dX2_compareRegisters_41 (by decide) ?_
    have h := Option.some.inj h
    exact g_iret C P h rfl dX2_compareRegisters_43
  have h := g_ifp c2 h
  refine lv_bipush (v := -2) hx hb dX2_compareRegisters_14 (by decide) ?_
  have h := Option.some.inj h
  exact g_iret C P h rfl dX2_compareRegisters_16
abbrev rmX2_compareInto : Room := { frames := 2, cells := 0, slots := 0, locals := 46 }
theorem kdX2_compareInto : yX2_compareInto.cls = RX2 ∧ yX2_compareInto.cls ≠ "java/lang/invoke/MethodHandle" ∧ yX2_compareInto.cls ≠ "java/lang/invoke/VarHandle" ∧ (parseMethodDescriptor yX2_compareInto.desc).map (fun d => d.parameters.length) = some 3 := by decide +kernel
set_option maxHeartbeats 4000000 in
set_option maxRecDepth 100000 in
theorem kX2_compareInto (l : Launch) (X : gXt) (hJ : gJ X xL) (σ : gS) (a1 : Int32) (a2 : Int32) (a3 : Int32) (q : Int32 × gS) (h : qO_compareInto σ a1 a2 a3 = some q) : gMi l yX2_compareInto (gws yX2_compareInto cX2_compareInto 5 (some .int)) rmX2_compareInto X xL [.ref (gad X 40), .int a1, .int a2, .int a3] σ q.1 q.2 := by
  refine g_enter (cc := cX2_compareInto) (nL := 5) (ret := (some .int)) hJ (plainFor_of_name (by decide)) (Nat.le_of_ble_eq_true rfl) ?_
  intro p e s m below meth c ls C P hl
  have C : gC p s m _ meth c RX2 cX2_compareInto 5 (some .int) X xL := C
  have hx := C.1
  have hb := C.2.1
  have hK := C.2.2.2.2.2.2.2.1
  have hts := C.2.2.2.2.1
  have hl : lv_has ls 5 [(0, .ref (gad X 40)), (1, .int a1), (2, .int a2), (3, .int a3)] := hl
  unfold qO_compareInto at h
  refine lv_iload_n hx hb dX2_compareInto_0 rfl (lv_at hl 3 rfl) ?_
  refine g_callNi (n := 1) (As := [.int a3]) (rest := []) C P (kX7_isRegister l X hJ σ a3 _ rfl) wd_139 rfl rfl kdX7_isRegister.2 ⟨Nat.le_of_ble_eq_true rfl, Nat.le_of_ble_eq_true rfl⟩ (hK.2 (RX2, 23, yX7_isRegister, RX7) (List.mem_of_getElem? (i := 0) rfl)) wd_2 wd_138 rfl rfl hl.1 (Nat.le_of_ble_eq_true rfl) dX2_compareInto_1 (fun H locs P => ?_)
  refine lv_if_ne (tgt := 10) hx hb dX2_compareInto_4 (by decide) (fun c1 => ?_) (fun c1 => ?_)
  · have h := g_ifn c1 h
    refine lv_aload_n hx hb dX2_compareInto_10 rfl (lv_at hl 0 rfl) ?_
    refine lv_iload_n hx hb dX2_compareInto_11 rfl (lv_at hl 1 rfl) ?_
    refine lv_iload_n hx hb dX2_compareInto_12 rfl (lv_at hl 2 rfl) ?_
    obtain ⟨r2, hr2, h⟩ := g_bind h
    refine g_callVi (n := 2) (As := [.int a1, .int a2]) (rest := []) C P (kX2_compareRegisters l X hJ σ a1 a2 _ hr2) wd_889 wd_480 wd_481 wd_22 wd_482 rfl rfl kdX2_compareRegisters ⟨Nat.le_of_ble_eq_true rfl, Nat.le_of_ble_eq_true rfl⟩ xl40 rfl rfl rfl hl.1 (Nat.le_of_ble_eq_true rfl) dX2_compareInto_13 (fun H locs P => ?_)
    refine lv_istore (lv' := [(4, .int r2), (0, .ref (gad X 40)), (1, .int a1), (2, .int a2), (3, .int a3)]) hx hb dX2_compareInto_16 hl (by decide) rfl (fun ls hl => ?_)
    refine lv_iload hx hb dX2_compareInto_18 (lv_at hl 0 rfl) ?_
    refine lv_if_lt (tgt := 33) hx hb dX2_compareInto_20 (by decide) (fun c3 => ?_) (fun c3 => ?_)
    · have h := g_ifp c3 h
      refine lv_iload hx hb dX2_compareInto_33 (lv_at hl 0 rfl) ?_
      have h := Option.some.inj h
      exact g_iret C P (g_fst h) (g_snd h) dX2_compareInto_35
    have h := g_ifn c3 h
    refine lv_aload_n hx hb dX2_compareInto_23 rfl (lv_at hl 1 rfl) ?_
    refine g_getR C P xl40 rfl inlX2 0 (by decide) wd_69 rfl dX2_compareInto_24 ?_
    refine lv_iload_n hx hb dX2_compareInto_27 rfl (lv_at hl 4 rfl) ?_
    refine lv_iload hx hb dX2_compareInto_28 (lv_at hl 0 rfl) ?_
    obtain ⟨r4, hr4, h⟩ := g_bind h
    refine g_callVv (n := 2) (As := [.int a3, .int r2]) (rest := []) C P (kX5_fillWithNumber l X hJ σ a3 r2 _ hr4) wd_372 wd_373 wd_374 wd_14 wd_375 rfl rfl kdX5_fillWithNumber ⟨Nat.le_of_ble_eq_true rfl, Nat.le_of_ble_eq_true rfl⟩ xl1 rfl rfl rfl hl.1 (Nat.le_of_ble_eq_true rfl) dX2_compareInto_30 (fun H locs P => ?_)
    refine lv_iload hx hb dX2_compareInto_33 (lv_at hl 0 rfl) ?_
    have h := Option.some.inj h
    exact g_iret C P (g_fst h) (g_snd h) dX2_compareInto_35
  have h := g_ifp c1 h
  refine lv_bipush (v := -2) hx hb dX2_compareInto_7 (by decide) ?_
  have h := Option.some.inj h
  exact g_iret C P (g_fst h) (g_snd h) dX2_compareInto_9
abbrev rmX2_jumps : Room := { frames := 1, cells := 0, slots := 0, locals := 21 }
theorem kdX2_jumps : yX2_jumps.cls = RX2 ∧ yX2_jumps.cls ≠ "java/lang/invoke/MethodHandle" ∧ yX2_jumps.cls ≠ "java/lang/invoke/VarHandle" ∧ (parseMethodDescriptor yX2_jumps.desc).map (fun d => d.parameters.length) = some 1 := by decide +kernel
set_option maxHeartbeats 4000000 in
set_option maxRecDepth 100000 in
theorem kX2_jumps (l : Launch) (X : gXt) (hJ : gJ X xL) (σ : gS) (a1 : Int32) (q : Int32) (h : qO_jumps σ a1 = some q) : gMi l yX2_jumps (gws yX2_jumps cX2_jumps 3 (some .int)) rmX2_jumps X xL [.ref (gad X 40), .int a1] σ q σ := by
  refine g_enter (cc := cX2_jumps) (nL := 3) (ret := (some .int)) hJ (plainFor_of_name (by decide)) (Nat.le_of_ble_eq_true rfl) ?_
  intro p e s m below meth c ls C P hl
  have C : gC p s m _ meth c RX2 cX2_jumps 3 (some .int) X xL := C
  have hx := C.1
  have hb := C.2.1
  have hK := C.2.2.2.2.2.2.2.1
  have hts := C.2.2.2.2.1
  have hl : lv_has ls 3 [(0, .ref (gad X 40)), (1, .int a1)] := hl
  unfold qO_jumps at h
  refine lv_iload_n hx hb dX2_jumps_0 rfl (lv_at hl 1 rfl) ?_
  refine g_callNi (n := 1) (As := [.int a1]) (rest := []) C P (kX7_isRegister l X hJ σ a1 _ rfl) wd_139 rfl rfl kdX7_isRegister.2 ⟨Nat.le_of_ble_eq_true rfl, Nat.le_of_ble_eq_true rfl⟩ (hK.2 (RX2, 23, yX7_isRegister, RX7) (List.mem_of_getElem? (i := 0) rfl)) wd_2 wd_138 rfl rfl hl.1 (Nat.le_of_ble_eq_true rfl) dX2_jumps_1 (fun H locs P => ?_)
  refine lv_if_ne (tgt := 10) hx hb dX2_jumps_4 (by decide) (fun c1 => ?_) (fun c1 => ?_)
  · have h := g_ifn c1 h
    refine lv_aload_n hx hb dX2_jumps_10 rfl (lv_at hl 0 rfl) ?_
    refine g_getR C P xl40 rfl inlX2 0 (by decide) wd_69 rfl dX2_jumps_11 ?_
    refine lv_iload_n hx hb dX2_jumps_14 rfl (lv_at hl 1 rfl) ?_
    obtain ⟨r2, hr2, h⟩ := g_bind h
    refine g_callVi (n := 1) (As := [.int a1]) (rest := []) C P (kX5_kindOf l X hJ σ a1 _ hr2) wd_335 wd_336 wd_337 wd_14 wd_338 rfl rfl kdX5_kindOf ⟨Nat.le_of_ble_eq_true rfl, Nat.le_of_ble_eq_true rfl⟩ xl1 rfl rfl rfl hl.1 (Nat.le_of_ble_eq_true rfl) dX2_jumps_15 (fun H locs P => ?_)
    refine lv_istore_n (lv' := [(2, .int r2), (0, .ref (gad X 40)), (1, .int a1)]) hx hb dX2_jumps_18 rfl hl (by decide) rfl (fun ls hl => ?_)
    refine lv_iload_n hx hb dX2_jumps_19 rfl (lv_at hl 0 rfl) ?_
    refine lv_if_ne (tgt := 26) hx hb dX2_jumps_20 (by decide) (fun c3 => ?_) (fun c3 => ?_)
    · have h := g_ifn c3 h
      refine lv_iload_n hx hb dX2_jumps_26 rfl (lv_at hl 0 rfl) ?_
      refine lv_iconst (v := 2) hx hb dX2_jumps_27 (by decide) ?_
      refine lv_icmp_ne (tgt := 34) hx hb dX2_jumps_28 (by decide) (fun c4 => ?_) (fun c4 => ?_)
      · have h := g_ifn c4 h
        refine lv_aload_n hx hb dX2_jumps_34 rfl (lv_at hl 1 rfl) ?_
        refine g_getR C P xl40 rfl inlX2 0 (by decide) wd_69 rfl dX2_jumps_35 ?_
        refine lv_iload_n hx hb dX2_jumps_38 rfl (lv_at hl 2 rfl) ?_
        obtain ⟨r5, hr5, h⟩ := g_bind h
        refine g_callVi (n := 1) (As := [.int a1]) (rest := []) C P (kX5_valueOf l X hJ σ a1 _ hr5) wd_339 wd_340 wd_341 wd_14 wd_342 rfl rfl kdX5_valueOf ⟨Nat.le_of_ble_eq_true rfl, Nat.le_of_ble_eq_true rfl⟩ xl1 rfl rfl rfl hl.1 (Nat.le_of_ble_eq_true rfl) dX2_jumps_39 (fun H locs P => ?_)
        refine lv_if_eq (tgt := 49) hx hb dX2_jumps_42 (by decide) (fun c6 => ?_) (fun c6 => ?_)
        · have h := g_ifp c6 h
          refine lv_iconst (v := 0) hx hb dX2_jumps_49 (by decide) ?_
          have h := Option.some.inj h
          exact g_iret C P h rfl dX2_jumps_50
        have h := g_ifn c6 h
        refine lv_iconst (v := 1) hx hb dX2_jumps_45 (by decide) ?_
        refine lv_goto (tgt := 50) hx hb dX2_jumps_46 (by decide) ?_
        have h := Option.some.inj h
        exact g_iret C P h rfl dX2_jumps_50
      have h := g_ifp c4 h
      refine lv_bipush (v := -17) hx hb dX2_jumps_31 (by decide) ?_
      have h := Option.some.inj h
      exact g_iret C P h rfl dX2_jumps_33
    have h := g_ifp c3 h
    refine lv_bipush (v := -11) hx hb dX2_jumps_23 (by decide) ?_
    have h := Option.some.inj h
    exact g_iret C P h rfl dX2_jumps_25
  have h := g_ifp c1 h
  refine lv_bipush (v := -2) hx hb dX2_jumps_7 (by decide) ?_
  have h := Option.some.inj h
  exact g_iret C P h rfl dX2_jumps_9
abbrev rmX2_cutsPointer : Room := { frames := 1, cells := 0, slots := 0, locals := 22 }
theorem kdX2_cutsPointer : yX2_cutsPointer.cls = RX2 ∧ yX2_cutsPointer.cls ≠ "java/lang/invoke/MethodHandle" ∧ yX2_cutsPointer.cls ≠ "java/lang/invoke/VarHandle" ∧ (parseMethodDescriptor yX2_cutsPointer.desc).map (fun d => d.parameters.length) = some 3 := by decide +kernel
set_option maxHeartbeats 4000000 in
set_option maxRecDepth 100000 in
theorem kX2_cutsPointer (l : Launch) (X : gXt) (hJ : gJ X xL) (σ : gS) (a1 : Int32) (a2 : Int32) (a3 : Int32) (q : Int32) (h : qO_cutsPointer σ a1 a2 a3 = some q) : gMi l yX2_cutsPointer (gws yX2_cutsPointer cX2_cutsPointer 4 (some .boolean)) rmX2_cutsPointer X xL [.ref (gad X 40), .int a1, .int a2, .int a3] σ q σ := by
  refine g_enter (cc := cX2_cutsPointer) (nL := 4) (ret := (some .boolean)) hJ (plainFor_of_name (by decide)) (Nat.le_of_ble_eq_true rfl) ?_
  intro p e s m below meth c ls C P hl
  have C : gC p s m _ meth c RX2 cX2_cutsPointer 4 (some .boolean) X xL := C
  have hx := C.1
  have hb := C.2.1
  have hK := C.2.2.2.2.2.2.2.1
  have hts := C.2.2.2.2.1
  have hl : lv_has ls 4 [(0, .ref (gad X 40)), (1, .int a1), (2, .int a2), (3, .int a3)] := hl
  unfold qO_cutsPointer at h
  refine lv_aload_n hx hb dX2_cutsPointer_0 rfl (lv_at hl 0 rfl) ?_
  refine g_getR C P xl40 rfl inlX2 0 (by decide) wd_69 rfl dX2_cutsPointer_1 ?_
  refine lv_iload_n hx hb dX2_cutsPointer_4 rfl (lv_at hl 1 rfl) ?_
  refine lv_iload_n hx hb dX2_cutsPointer_5 rfl (lv_at hl 2 rfl) ?_
  obtain ⟨r1, hr1, h⟩ := g_bind h
  refine g_callVi (n := 2) (As := [.int a1, .int a2]) (rest := []) C P (kX5_cellAt l X hJ σ a1 a2 _ hr1) wd_438 wd_439 wd_440 wd_14 wd_441 rfl rfl kdX5_cellAt ⟨Nat.le_of_ble_eq_true rfl, Nat.le_of_ble_eq_true rfl⟩ xl1 rfl rfl rfl hl.1 (Nat.le_of_ble_eq_true rfl) dX2_cutsPointer_6 (fun H locs P => ?_)
  refine lv_sipush (v := 999) hx hb dX2_cutsPointer_9 (by decide) ?_
  refine lv_icmp_eq (tgt := 34) hx hb dX2_cutsPointer_12 (by decide) (fun c2 => ?_) (fun c2 => ?_)
  · have h := g_ifp c2 h
    refine lv_iconst (v := 1) hx hb dX2_cutsPointer_34 (by decide) ?_
    refine lv_goto (tgt := 39) hx hb dX2_cutsPointer_35 (by decide) ?_
    have h := Option.some.inj h
    exact g_zret C P rfl h rfl dX2_cutsPointer_39
  have h := g_ifn c2 h
  refine lv_aload_n hx hb dX2_cutsPointer_15 rfl (lv_at hl 0 rfl) ?_
  refine g_getR C P xl40 rfl inlX2 0 (by decide) wd_69 rfl dX2_cutsPointer_16 ?_
  refine lv_iload_n hx hb dX2_cutsPointer_19 rfl (lv_at hl 1 rfl) ?_
  refine lv_iload_n hx hb dX2_cutsPointer_20 rfl (lv_at hl 2 rfl) ?_
  refine lv_iload_n hx hb dX2_cutsPointer_21 rfl (lv_at hl 3 rfl) ?_
  refine lv_iadd hx hb dX2_cutsPointer_22 ?_
  refine lv_iconst (v := 1) hx hb dX2_cutsPointer_23 (by decide) ?_
  refine lv_isub hx hb dX2_cutsPointer_24 ?_
  obtain ⟨r3, hr3, h⟩ := g_bind h
  refine g_callVi (n := 2) (As := [.int a1, .int ((a2 + a3) - (1 : Int32))]) (rest := []) C P (kX5_cellAt l X hJ σ a1 ((a2 + a3) - (1 : Int32)) _ hr3) wd_438 wd_439 wd_440 wd_14 wd_441 rfl rfl kdX5_cellAt ⟨Nat.le_of_ble_eq_true rfl, Nat.le_of_ble_eq_true rfl⟩ xl1 rfl rfl rfl hl.1 (Nat.le_of_ble_eq_true rfl) dX2_cutsPointer_25 (fun H locs P => ?_)
  refine g_callNi (n := 1) (As := [.int r3]) (rest := []) C P (kX7_isPointerCode l X hJ σ r3 _ rfl) wd_444 rfl rfl kdX7_isPointerCode.2 ⟨Nat.le_of_ble_eq_true rfl, Nat.le_of_ble_eq_true rfl⟩ (hK.2 (RX2, 111, yX7_isPointerCode, RX7) (List.mem_of_getElem? (i := 1) rfl)) wd_2 wd_443 rfl rfl hl.1 (Nat.le_of_ble_eq_true rfl) dX2_cutsPointer_28 (fun H locs P => ?_)
  refine lv_if_eq (tgt := 38) hx hb dX2_cutsPointer_31 (by decide) (fun c4 => ?_) (fun c4 => ?_)
  · have h := g_ifp c4 h
    refine lv_iconst (v := 0) hx hb dX2_cutsPointer_38 (by decide) ?_
    have h := Option.some.inj h
    exact g_zret C P rfl h rfl dX2_cutsPointer_39
  have h := g_ifn c4 h
  refine lv_iconst (v := 1) hx hb dX2_cutsPointer_34 (by decide) ?_
  refine lv_goto (tgt := 39) hx hb dX2_cutsPointer_35 (by decide) ?_
  have h := Option.some.inj h
  exact g_zret C P rfl h rfl dX2_cutsPointer_39
abbrev rmX2_carryBytes : Room := { frames := 2, cells := 0, slots := 0, locals := 46 }
theorem kdX2_carryBytes : yX2_carryBytes.cls = RX2 ∧ yX2_carryBytes.cls ≠ "java/lang/invoke/MethodHandle" ∧ yX2_carryBytes.cls ≠ "java/lang/invoke/VarHandle" ∧ (parseMethodDescriptor yX2_carryBytes.desc).map (fun d => d.parameters.length) = some 3 := by decide +kernel
set_option maxHeartbeats 4000000 in
set_option maxRecDepth 100000 in
theorem kX2_carryBytes_3 {p : Program} {l : Launch} {e : Env} {s : State} {m : MethodId} {args : Array Value} {below : List Frame} {meth : Method} {c : Code} {X : gXt} (hJ : gJ X xL) (C : gC p s m args meth c RX2 cX2_carryBytes 7 none X xL) (f3_1 : Int32) (f3_2 : Int32) (f3_3 : Int32) (k : gS → Option gS) (q : gS) (hk : ∀ (σ' : gS) (H : Heap) (locs : List Loc) (ls : Array Slot), k σ' = some q → gH X xL σ' s H locs → lv_has ls 7 [(0, .ref (gad X 40)), (1, .int f3_1), (3, .int f3_3)] → W p l e rmX2_carryBytes s m args below meth c H locs 0 0 (MQ below (gQv X xL q) args s 0 0 (gA X xL)) (F0 m 55 ls [])) : ∀ (n : Nat) (σ : gS) (v4 : Int32), qO_carryBytes_3 f3_1 f3_2 f3_3 k n σ v4 = some q → ∀ (H : Heap) (locs : List Loc) (ls : Array Slot), gH X xL σ s H locs → lv_has ls 7 [(0, .ref (gad X 40)), (1, .int f3_1), (2, .int f3_2), (3, .int f3_3), (4, .int v4)] → W p l e rmX2_carryBytes s m args below meth c H locs 0 0 (MQ below (gQv X xL q) args s 0 0 (gA X xL)) (F0 m 3 ls []) := by
  have hx := C.1
  have hb := C.2.1
  have hK := C.2.2.2.2.2.2.2.1
  have hts := C.2.2.2.2.1
  intro n
  induction n with
  | zero => intro σ v4 h; cases h
  | succ n ih =>
    intro σ v4 h H locs ls P hl
    have h : (if f3_3 ≤ v4 then k σ else (if (12 : Int32) ≤ v4 then k σ else (qS_valueOf σ f3_2).bind (fun r3 => (qS_offsetOf σ f3_2).bind (fun r4 => (qS_cellAt σ r3 (r4 + v4)).bind (fun r5 => gob v4 12 (qO_carryBytes_3 f3_1 f3_2 f3_3 k n (sM σ 41 v4.toNatClampNeg r5) (v4 + 1))))))) = some q := h
    refine lv_iload hx hb dX2_carryBytes_3 (lv_at hl 4 rfl) ?_
    refine lv_iload_n hx hb dX2_carryBytes_5 rfl (lv_at hl 3 rfl) ?_
    refine lv_icmp_ge (tgt := 55) hx hb dX2_carryBytes_6 (by decide) (fun c1 => ?_) (fun c1 => ?_)
    · have h := g_ifp c1 h
      exact hk σ _ _ _ h P (lv_sub hl [0, 1, 3] rfl)
    have h := g_ifn c1 h
    refine lv_iload hx hb dX2_carryBytes_9 (lv_at hl 4 rfl) ?_
    refine lv_bipush (v := 12) hx hb dX2_carryBytes_11 (by decide) ?_
    refine lv_icmp_ge (tgt := 55) hx hb dX2_carryBytes_13 (by decide) (fun c2 => ?_) (fun c2 => ?_)
    · have h := g_ifp c2 h
      exact hk σ _ _ _ h P (lv_sub hl [0, 1, 3] rfl)
    have h := g_ifn c2 h
    refine lv_aload_n hx hb dX2_carryBytes_16 rfl (lv_at hl 0 rfl) ?_
    refine g_getR C P xl40 rfl inlX2 2 (by decide) wd_71 rfl dX2_carryBytes_17 ?_
    refine lv_iload hx hb dX2_carryBytes_20 (lv_at hl 4 rfl) ?_
    refine lv_aload_n hx hb dX2_carryBytes_22 rfl (lv_at hl 0 rfl) ?_
    refine g_getR C P xl40 rfl inlX2 0 (by decide) wd_69 rfl dX2_carryBytes_23 ?_
    refine lv_aload_n hx hb dX2_carryBytes_26 rfl (lv_at hl 0 rfl) ?_
    refine g_getR C P xl40 rfl inlX2 0 (by decide) wd_69 rfl dX2_carryBytes_27 ?_
    refine lv_iload_n hx hb dX2_carryBytes_30 rfl (lv_at hl 2 rfl) ?_
    obtain ⟨r3, hr3, h⟩ := g_bind h
    refine g_callVi (n := 1) (As := [.int f3_2]) (rest := [.ref (gad X 1), .int v4, .ref (gad X 41)]) C P (kX5_valueOf l X hJ σ f3_2 _ hr3) wd_339 wd_340 wd_341 wd_14 wd_342 rfl rfl kdX5_valueOf ⟨Nat.le_of_ble_eq_true rfl, Nat.le_of_ble_eq_true rfl⟩ xl1 rfl rfl rfl hl.1 (Nat.le_of_ble_eq_true rfl) dX2_carryBytes_31 (fun H locs P => ?_)
    refine lv_aload_n hx hb dX2_carryBytes_34 rfl (lv_at hl 0 rfl) ?_
    refine g_getR C P xl40 rfl inlX2 0 (by decide) wd_69 rfl dX2_carryBytes_35 ?_
    refine lv_iload_n hx hb dX2_carryBytes_38 rfl (lv_at hl 2 rfl) ?_
    obtain ⟨r4, hr4, h⟩ := g_bind h
    refine g_callVi (n := 1) (As := [.int f3_2]) (rest := [.int r3, .ref (gad X 1), .int v4, .ref (gad X 41)]) C P (kX5_offsetOf l X hJ σ f3_2 _ hr4) wd_347 wd_348 wd_349 wd_14 wd_350 rfl rfl kdX5_offsetOf ⟨Nat.le_of_ble_eq_true rfl, Nat.le_of_ble_eq_true rfl⟩ xl1 rfl rfl rfl hl.1 (Nat.le_of_ble_eq_true rfl) dX2_carryBytes_39 (fun H locs P => ?_)
    refine lv_iload hx hb dX2_carryBytes_42 (lv_at hl 4 rfl) ?_
    refine lv_iadd hx hb dX2_carryBytes_44 ?_
    obtain ⟨r5, hr5, h⟩ := g_bind h
    refine g_callVi (n := 2) (As := [.int r3, .int (r4 + v4)]) (rest := [.int v4, .ref (gad X 41)]) C P (kX5_cellAt l X hJ σ r3 (r4 + v4) _ hr5) wd_438 wd_439 wd_440 wd_14 wd_441 rfl rfl kdX5_cellAt ⟨Nat.le_of_ble_eq_true rfl, Nat.le_of_ble_eq_true rfl⟩ xl1 rfl rfl rfl hl.1 (Nat.le_of_ble_eq_true rfl) dX2_carryBytes_45 (fun H locs P => ?_)
    obtain ⟨b6, h⟩ := g_ob h
    refine g_iast (j := v4.toNatClampNeg) C P xl41 b6 rfl dX2_carryBytes_48 (fun H locs P => ?_)
    refine lv_iinc (v := (v4 + 1)) (lv' := [(4, .int (v4 + 1)), (0, .ref (gad X 40)), (1, .int f3_1), (2, .int f3_2), (3, .int f3_3)]) hx hb dX2_carryBytes_49 hl (k := 4) rfl rfl (by decide) rfl (fun ls hl => ?_)
    refine lv_goto (tgt := 3) hx hb dX2_carryBytes_52 (by decide) ?_
    exact ih (sM σ 41 v4.toNatClampNeg r5) (v4 + 1) h _ _ _ P (lv_sub hl [1, 2, 3, 4, 0] rfl)
set_option maxHeartbeats 4000000 in
set_option maxRecDepth 100000 in
theorem kX2_carryBytes_87 {p : Program} {l : Launch} {e : Env} {s : State} {m : MethodId} {args : Array Value} {below : List Frame} {meth : Method} {c : Code} {X : gXt} (hJ : gJ X xL) (C : gC p s m args meth c RX2 cX2_carryBytes 7 none X xL) (f87_3 : Int32) (f87_4 : Int32) (f87_5 : Int32) (k : gS → Option gS) (q : gS) (hk : ∀ (σ' : gS) (H : Heap) (locs : List Loc) (ls : Array Slot), k σ' = some q → gH X xL σ' s H locs → lv_has ls 7 [] → W p l e rmX2_carryBytes s m args below meth c H locs 0 0 (MQ below (gQv X xL q) args s 0 0 (gA X xL)) (F0 m 127 ls [])) : ∀ (n : Nat) (σ : gS) (v6 : Int32), qO_carryBytes_87 f87_3 f87_4 f87_5 k n σ v6 = some q → ∀ (H : Heap) (locs : List Loc) (ls : Array Slot), gH X xL σ s H locs → lv_has ls 7 [(0, .ref (gad X 40)), (3, .int f87_3), (4, .int f87_4), (5, .int f87_5), (6, .int v6)] → W p l e rmX2_carryBytes s m args below meth c H locs 0 0 (MQ below (gQv X xL q) args s 0 0 (gA X xL)) (F0 m 87 ls []) := by
  have hx := C.1
  have hb := C.2.1
  have hK := C.2.2.2.2.2.2.2.1
  have hts := C.2.2.2.2.1
  intro n
  induction n with
  | zero => intro σ v6 h; cases h
  | succ n ih =>
    intro σ v6 h H locs ls P hl
    have h : (if f87_3 ≤ v6 then k σ else (if (12 : Int32) ≤ v6 then k σ else gob v6 12 ((qS_putCell σ f87_4 (f87_5 + v6) (gM σ 41 v6.toNatClampNeg)).bind (fun r14 => qO_carryBytes_87 f87_3 f87_4 f87_5 k n r14 (v6 + 1))))) = some q := h
    refine lv_iload hx hb dX2_carryBytes_87 (lv_at hl 4 rfl) ?_
    refine lv_iload_n hx hb dX2_carryBytes_89 rfl (lv_at hl 1 rfl) ?_
    refine lv_icmp_ge (tgt := 127) hx hb dX2_carryBytes_90 (by decide) (fun c11 => ?_) (fun c11 => ?_)
    · have h := g_ifp c11 h
      exact hk σ _ _ _ h P (lv_sub hl [] rfl)
    have h := g_ifn c11 h
    refine lv_iload hx hb dX2_carryBytes_93 (lv_at hl 4 rfl) ?_
    refine lv_bipush (v := 12) hx hb dX2_carryBytes_95 (by decide) ?_
    refine lv_icmp_ge (tgt := 127) hx hb dX2_carryBytes_97 (by decide) (fun c12 => ?_) (fun c12 => ?_)
    · have h := g_ifp c12 h
      exact hk σ _ _ _ h P (lv_sub hl [] rfl)
    have h := g_ifn c12 h
    refine lv_aload_n hx hb dX2_carryBytes_100 rfl (lv_at hl 0 rfl) ?_
    refine g_getR C P xl40 rfl inlX2 0 (by decide) wd_69 rfl dX2_carryBytes_101 ?_
    refine lv_iload hx hb dX2_carryBytes_104 (lv_at hl 2 rfl) ?_
    refine lv_iload hx hb dX2_carryBytes_106 (lv_at hl 3 rfl) ?_
    refine lv_iload hx hb dX2_carryBytes_108 (lv_at hl 4 rfl) ?_
    refine lv_iadd hx hb dX2_carryBytes_110 ?_
    refine lv_aload_n hx hb dX2_carryBytes_111 rfl (lv_at hl 0 rfl) ?_
    refine g_getR C P xl40 rfl inlX2 2 (by decide) wd_71 rfl dX2_carryBytes_112 ?_
    refine lv_iload hx hb dX2_carryBytes_115 (lv_at hl 4 rfl) ?_
    obtain ⟨b13, h⟩ := g_ob h
    refine g_iald (j := v6.toNatClampNeg) C P xl41 b13 rfl dX2_carryBytes_117 ?_
    obtain ⟨r14, hr14, h⟩ := g_bind h
    refine g_callVv (n := 3) (As := [.int f87_4, .int (f87_5 + v6), .int (gM σ 41 v6.toNatClampNeg)]) (rest := []) C P (kX5_putCell l X hJ σ f87_4 (f87_5 + v6) (gM σ 41 v6.toNatClampNeg) _ hr14) wd_442 wd_145 wd_146 wd_14 wd_147 rfl rfl kdX5_putCell ⟨Nat.le_of_ble_eq_true rfl, Nat.le_of_ble_eq_true rfl⟩ xl1 rfl rfl rfl hl.1 (Nat.le_of_ble_eq_true rfl) dX2_carryBytes_118 (fun H locs P => ?_)
    refine lv_iinc (v := (v6 + 1)) (lv' := [(6, .int (v6 + 1)), (0, .ref (gad X 40)), (3, .int f87_3), (4, .int f87_4), (5, .int f87_5)]) hx hb dX2_carryBytes_121 hl (k := 4) rfl rfl (by decide) rfl (fun ls hl => ?_)
    refine lv_goto (tgt := 87) hx hb dX2_carryBytes_124 (by decide) ?_
    exact ih r14 (v6 + 1) h _ _ _ P (lv_sub hl [1, 2, 3, 4, 0] rfl)
set_option maxHeartbeats 4000000 in
set_option maxRecDepth 100000 in
theorem kX2_carryBytes (l : Launch) (X : gXt) (hJ : gJ X xL) (σ : gS) (a1 : Int32) (a2 : Int32) (a3 : Int32) (q : gS) (h : qO_carryBytes σ a1 a2 a3 = some q) : gMv l yX2_carryBytes (gws yX2_carryBytes cX2_carryBytes 7 none) rmX2_carryBytes X xL [.ref (gad X 40), .int a1, .int a2, .int a3] σ q := by
  refine g_enter (cc := cX2_carryBytes) (nL := 7) (ret := none) hJ (plainFor_of_name (by decide)) (Nat.le_of_ble_eq_true rfl) ?_
  intro p e s m below meth c ls C P hl
  have C : gC p s m _ meth c RX2 cX2_carryBytes 7 none X xL := C
  have hx := C.1
  have hb := C.2.1
  have hK := C.2.2.2.2.2.2.2.1
  have hts := C.2.2.2.2.1
  have hl : lv_has ls 7 [(0, .ref (gad X 40)), (1, .int a1), (2, .int a2), (3, .int a3)] := hl
  unfold qO_carryBytes at h
  refine lv_iconst (v := 0) hx hb dX2_carryBytes_0 (by decide) ?_
  refine lv_istore (lv' := [(4, .int (0 : Int32)), (0, .ref (gad X 40)), (1, .int a1), (2, .int a2), (3, .int a3)]) hx hb dX2_carryBytes_1 hl (by decide) rfl (fun ls hl => ?_)
  refine kX2_carryBytes_3 hJ C a1 a2 a3 _ _ ?_ _ _ _ h _ _ _ P (lv_sub hl [1, 2, 3, 4, 0] rfl)
  intro σ7 H locs ls h P hl
  refine lv_aload_n hx hb dX2_carryBytes_55 rfl (lv_at hl 0 rfl) ?_
  refine g_getR C P xl40 rfl inlX2 0 (by decide) wd_69 rfl dX2_carryBytes_56 ?_
  refine lv_iload_n hx hb dX2_carryBytes_59 rfl (lv_at hl 1 rfl) ?_
  obtain ⟨r8, hr8, h⟩ := g_bind h
  refine g_callVi (n := 1) (As := [.int a1]) (rest := []) C P (kX5_valueOf l X hJ σ7 a1 _ hr8) wd_339 wd_340 wd_341 wd_14 wd_342 rfl rfl kdX5_valueOf ⟨Nat.le_of_ble_eq_true rfl, Nat.le_of_ble_eq_true rfl⟩ xl1 rfl rfl rfl hl.1 (Nat.le_of_ble_eq_true rfl) dX2_carryBytes_60 (fun H locs P => ?_)
  refine lv_istore (lv' := [(4, .int r8), (0, .ref (gad X 40)), (1, .int a1), (3, .int a3)]) hx hb dX2_carryBytes_63 hl (by decide) rfl (fun ls hl => ?_)
  refine lv_aload_n hx hb dX2_carryBytes_65 rfl (lv_at hl 1 rfl) ?_
  refine g_getR C P xl40 rfl inlX2 0 (by decide) wd_69 rfl dX2_carryBytes_66 ?_
  refine lv_iload_n hx hb dX2_carryBytes_69 rfl (lv_at hl 2 rfl) ?_
  obtain ⟨r9, hr9, h⟩ := g_bind h
  refine g_callVi (n := 1) (As := [.int a1]) (rest := []) C P (kX5_offsetOf l X hJ σ7 a1 _ hr9) wd_347 wd_348 wd_349 wd_14 wd_350 rfl rfl kdX5_offsetOf ⟨Nat.le_of_ble_eq_true rfl, Nat.le_of_ble_eq_true rfl⟩ xl1 rfl rfl rfl hl.1 (Nat.le_of_ble_eq_true rfl) dX2_carryBytes_70 (fun H locs P => ?_)
  refine lv_istore (lv' := [(5, .int r9), (4, .int r8), (0, .ref (gad X 40)), (1, .int a1), (3, .int a3)]) hx hb dX2_carryBytes_73 hl (by decide) rfl (fun ls hl => ?_)
  refine lv_aload_n hx hb dX2_carryBytes_75 rfl (lv_at hl 2 rfl) ?_
  refine lv_iload hx hb dX2_carryBytes_76 (lv_at hl 1 rfl) ?_
  refine lv_iload hx hb dX2_carryBytes_78 (lv_at hl 0 rfl) ?_
  refine lv_iload_n hx hb dX2_carryBytes_80 rfl (lv_at hl 4 rfl) ?_
  obtain ⟨r10, hr10, h⟩ := g_bind h
  refine g_callVv (n := 3) (As := [.int r8, .int r9, .int a3]) (rest := []) C P (kX2_splitPointers l X hJ σ7 r8 r9 a3 _ hr10) wd_434 wd_435 wd_436 wd_22 wd_437 rfl rfl kdX2_splitPointers ⟨Nat.le_of_ble_eq_true rfl, Nat.le_of_ble_eq_true rfl⟩ xl40 rfl rfl rfl hl.1 (Nat.le_of_ble_eq_true rfl) dX2_carryBytes_81 (fun H locs P => ?_)
  refine lv_iconst (v := 0) hx hb dX2_carryBytes_84 (by decide) ?_
  refine lv_istore (lv' := [(6, .int (0 : Int32)), (5, .int r9), (4, .int r8), (0, .ref (gad X 40)), (1, .int a1), (3, .int a3)]) hx hb dX2_carryBytes_85 hl (by decide) rfl (fun ls hl => ?_)
  refine kX2_carryBytes_87 hJ C a3 r8 r9 _ _ ?_ _ _ _ h _ _ _ P (lv_sub hl [3, 5, 2, 1, 0] rfl)
  intro σ15 H locs ls h P hl
  have h := Option.some.inj h
  exact g_vret C P h dX2_carryBytes_127
abbrev rmX2_blitBytes : Room := { frames := 3, cells := 0, slots := 0, locals := 72 }
theorem kdX2_blitBytes : yX2_blitBytes.cls = RX2 ∧ yX2_blitBytes.cls ≠ "java/lang/invoke/MethodHandle" ∧ yX2_blitBytes.cls ≠ "java/lang/invoke/VarHandle" ∧ (parseMethodDescriptor yX2_blitBytes.desc).map (fun d => d.parameters.length) = some 3 := by decide +kernel
set_option maxHeartbeats 4000000 in
set_option maxRecDepth 100000 in
theorem kX2_blitBytes (l : Launch) (X : gXt) (hJ : gJ X xL) (σ : gS) (a1 : Int32) (a2 : Int32) (a3 : Int32) (q : Int32 × gS) (h : qO_blitBytes σ a1 a2 a3 = some q) : gMi l yX2_blitBytes (gws yX2_blitBytes cX2_blitBytes 5 (some .int)) rmX2_blitBytes X xL [.ref (gad X 40), .int a1, .int a2, .int a3] σ q.1 q.2 := by
  refine g_enter (cc := cX2_blitBytes) (nL := 5) (ret := (some .int)) hJ (plainFor_of_name (by decide)) (Nat.le_of_ble_eq_true rfl) ?_
  intro p e s m below meth c ls C P hl
  have C : gC p s m _ meth c RX2 cX2_blitBytes 5 (some .int) X xL := C
  have hx := C.1
  have hb := C.2.1
  have hK := C.2.2.2.2.2.2.2.1
  have hts := C.2.2.2.2.1
  have hl : lv_has ls 5 [(0, .ref (gad X 40)), (1, .int a1), (2, .int a2), (3, .int a3)] := hl
  unfold qO_blitBytes at h
  refine lv_iload_n hx hb dX2_blitBytes_0 rfl (lv_at hl 1 rfl) ?_
  refine g_callNi (n := 1) (As := [.int a1]) (rest := []) C P (kX7_isRegister l X hJ σ a1 _ rfl) wd_139 rfl rfl kdX7_isRegister.2 ⟨Nat.le_of_ble_eq_true rfl, Nat.le_of_ble_eq_true rfl⟩ (hK.2 (RX2, 23, yX7_isRegister, RX7) (List.mem_of_getElem? (i := 0) rfl)) wd_2 wd_138 rfl rfl hl.1 (Nat.le_of_ble_eq_true rfl) dX2_blitBytes_1 (fun H locs P => ?_)
  refine lv_if_eq (tgt := 25) hx hb dX2_blitBytes_4 (by decide) (fun c1 => ?_) (fun c1 => ?_)
  · have h := g_ifp c1 h
    refine lv_bipush (v := -2) hx hb dX2_blitBytes_25 (by decide) ?_
    have h := Option.some.inj h
    exact g_iret C P (g_fst h) (g_snd h) dX2_blitBytes_27
  have h := g_ifn c1 h
  refine lv_iload_n hx hb dX2_blitBytes_7 rfl (lv_at hl 2 rfl) ?_
  refine g_callNi (n := 1) (As := [.int a2]) (rest := []) C P (kX7_isRegister l X hJ σ a2 _ rfl) wd_139 rfl rfl kdX7_isRegister.2 ⟨Nat.le_of_ble_eq_true rfl, Nat.le_of_ble_eq_true rfl⟩ (hK.2 (RX2, 23, yX7_isRegister, RX7) (List.mem_of_getElem? (i := 0) rfl)) wd_2 wd_138 rfl rfl hl.1 (Nat.le_of_ble_eq_true rfl) dX2_blitBytes_8 (fun H locs P => ?_)
  refine lv_if_eq (tgt := 25) hx hb dX2_blitBytes_11 (by decide) (fun c2 => ?_) (fun c2 => ?_)
  · have h := g_ifp c2 h
    refine lv_bipush (v := -2) hx hb dX2_blitBytes_25 (by decide) ?_
    have h := Option.some.inj h
    exact g_iret C P (g_fst h) (g_snd h) dX2_blitBytes_27
  have h := g_ifn c2 h
  refine lv_iload_n hx hb dX2_blitBytes_14 rfl (lv_at hl 3 rfl) ?_
  refine lv_iconst (v := 1) hx hb dX2_blitBytes_15 (by decide) ?_
  refine lv_icmp_lt (tgt := 25) hx hb dX2_blitBytes_16 (by decide) (fun c3 => ?_) (fun c3 => ?_)
  · have h := g_ifp c3 h
    refine lv_bipush (v := -2) hx hb dX2_blitBytes_25 (by decide) ?_
    have h := Option.some.inj h
    exact g_iret C P (g_fst h) (g_snd h) dX2_blitBytes_27
  have h := g_ifn c3 h
  refine lv_iload_n hx hb dX2_blitBytes_19 rfl (lv_at hl 3 rfl) ?_
  refine lv_bipush (v := 12) hx hb dX2_blitBytes_20 (by decide) ?_
  refine lv_icmp_le (tgt := 28) hx hb dX2_blitBytes_22 (by decide) (fun c4 => ?_) (fun c4 => ?_)
  · have h := g_ifp c4 h
    refine lv_aload_n hx hb dX2_blitBytes_28 rfl (lv_at hl 0 rfl) ?_
    refine lv_iload_n hx hb dX2_blitBytes_29 rfl (lv_at hl 1 rfl) ?_
    refine lv_iload_n hx hb dX2_blitBytes_30 rfl (lv_at hl 3 rfl) ?_
    obtain ⟨r5, hr5, h⟩ := g_bind h
    refine g_callVi (n := 2) (As := [.int a1, .int a3]) (rest := []) C P (kX2_faultForWriting l X hJ σ a1 a3 _ hr5) wd_426 wd_427 wd_428 wd_22 wd_429 rfl rfl kdX2_faultForWriting ⟨Nat.le_of_ble_eq_true rfl, Nat.le_of_ble_eq_true rfl⟩ xl40 rfl rfl rfl hl.1 (Nat.le_of_ble_eq_true rfl) dX2_blitBytes_31 (fun H locs P => ?_)
    refine lv_istore (lv' := [(4, .int r5), (0, .ref (gad X 40)), (1, .int a1), (2, .int a2), (3, .int a3)]) hx hb dX2_blitBytes_34 hl (by decide) rfl (fun ls hl => ?_)
    refine lv_iload hx hb dX2_blitBytes_36 (lv_at hl 0 rfl) ?_
    refine lv_if_ne (tgt := 49) hx hb dX2_blitBytes_38 (by decide) (fun c6 => ?_) (fun c6 => ?_)
    · have h := g_ifn c6 h
      refine lv_iload hx hb dX2_blitBytes_49 (lv_at hl 0 rfl) ?_
      refine lv_if_eq (tgt := 57) hx hb dX2_blitBytes_51 (by decide) (fun c7 => ?_) (fun c7 => ?_)
      · exact absurd c7 c6
      refine lv_iload hx hb dX2_blitBytes_54 (lv_at hl 0 rfl) ?_
      have h := Option.some.inj h
      exact g_iret C P (g_fst h) (g_snd h) dX2_blitBytes_56
    have h := g_ifp c6 h
    refine lv_aload_n hx hb dX2_blitBytes_41 rfl (lv_at hl 1 rfl) ?_
    refine lv_iload_n hx hb dX2_blitBytes_42 rfl (lv_at hl 3 rfl) ?_
    refine lv_iload_n hx hb dX2_blitBytes_43 rfl (lv_at hl 4 rfl) ?_
    obtain ⟨r8, hr8, h⟩ := g_bind h
    refine g_callVi (n := 2) (As := [.int a2, .int a3]) (rest := []) C P (kX2_faultForReading l X hJ σ a2 a3 _ hr8) wd_463 wd_464 wd_465 wd_22 wd_466 rfl rfl kdX2_faultForReading ⟨Nat.le_of_ble_eq_true rfl, Nat.le_of_ble_eq_true rfl⟩ xl40 rfl rfl rfl hl.1 (Nat.le_of_ble_eq_true rfl) dX2_blitBytes_44 (fun H locs P => ?_)
    refine lv_istore (lv' := [(4, .int r8), (0, .ref (gad X 40)), (1, .int a1), (2, .int a2), (3, .int a3)]) hx hb dX2_blitBytes_47 hl (by decide) rfl (fun ls hl => ?_)
    refine lv_iload hx hb dX2_blitBytes_49 (lv_at hl 0 rfl) ?_
    refine lv_if_eq (tgt := 57) hx hb dX2_blitBytes_51 (by decide) (fun c9 => ?_) (fun c9 => ?_)
    · have h := g_ifp c9 h
      refine lv_aload_n hx hb dX2_blitBytes_57 rfl (lv_at hl 1 rfl) ?_
      refine lv_aload_n hx hb dX2_blitBytes_58 rfl (lv_at hl 1 rfl) ?_
      refine g_getR C P xl40 rfl inlX2 0 (by decide) wd_69 rfl dX2_blitBytes_59 ?_
      refine lv_iload_n hx hb dX2_blitBytes_62 rfl (lv_at hl 3 rfl) ?_
      obtain ⟨r10, hr10, h⟩ := g_bind h
      refine g_callVi (n := 1) (As := [.int a2]) (rest := [.ref (gad X 40)]) C P (kX5_valueOf l X hJ σ a2 _ hr10) wd_339 wd_340 wd_341 wd_14 wd_342 rfl rfl kdX5_valueOf ⟨Nat.le_of_ble_eq_true rfl, Nat.le_of_ble_eq_true rfl⟩ xl1 rfl rfl rfl hl.1 (Nat.le_of_ble_eq_true rfl) dX2_blitBytes_63 (fun H locs P => ?_)
      refine lv_aload_n hx hb dX2_blitBytes_66 rfl (lv_at hl 1 rfl) ?_
      refine g_getR C P xl40 rfl inlX2 0 (by decide) wd_69 rfl dX2_blitBytes_67 ?_
      refine lv_iload_n hx hb dX2_blitBytes_70 rfl (lv_at hl 3 rfl) ?_
      obtain ⟨r11, hr11, h⟩ := g_bind h
      refine g_callVi (n := 1) (As := [.int a2]) (rest := [.int r10, .ref (gad X 40)]) C P (kX5_offsetOf l X hJ σ a2 _ hr11) wd_347 wd_348 wd_349 wd_14 wd_350 rfl rfl kdX5_offsetOf ⟨Nat.le_of_ble_eq_true rfl, Nat.le_of_ble_eq_true rfl⟩ xl1 rfl rfl rfl hl.1 (Nat.le_of_ble_eq_true rfl) dX2_blitBytes_71 (fun H locs P => ?_)
      refine lv_iload_n hx hb dX2_blitBytes_74 rfl (lv_at hl 4 rfl) ?_
      obtain ⟨r12, hr12, h⟩ := g_bind h
      refine g_callVi (n := 3) (As := [.int r10, .int r11, .int a3]) (rest := []) C P (kX2_cutsPointer l X hJ σ r10 r11 a3 _ hr12) wd_502 wd_503 wd_504 wd_22 wd_505 rfl rfl kdX2_cutsPointer ⟨Nat.le_of_ble_eq_true rfl, Nat.le_of_ble_eq_true rfl⟩ xl40 rfl rfl rfl hl.1 (Nat.le_of_ble_eq_true rfl) dX2_blitBytes_75 (fun H locs P => ?_)
      refine lv_if_eq (tgt := 84) hx hb dX2_blitBytes_78 (by decide) (fun c13 => ?_) (fun c13 => ?_)
      · have h := g_ifp c13 h
        refine lv_aload_n hx hb dX2_blitBytes_84 rfl (lv_at hl 1 rfl) ?_
        refine lv_iload_n hx hb dX2_blitBytes_85 rfl (lv_at hl 2 rfl) ?_
        refine lv_iload_n hx hb dX2_blitBytes_86 rfl (lv_at hl 3 rfl) ?_
        refine lv_iload_n hx hb dX2_blitBytes_87 rfl (lv_at hl 4 rfl) ?_
        obtain ⟨r14, hr14, h⟩ := g_bind h
        refine g_callVv (n := 3) (As := [.int a1, .int a2, .int a3]) (rest := []) C P (kX2_carryBytes l X hJ σ a1 a2 a3 _ hr14) wd_506 wd_507 wd_508 wd_22 wd_509 rfl rfl kdX2_carryBytes ⟨Nat.le_of_ble_eq_true rfl, Nat.le_of_ble_eq_true rfl⟩ xl40 rfl rfl rfl hl.1 (Nat.le_of_ble_eq_true rfl) dX2_blitBytes_88 (fun H locs P => ?_)
        refine lv_iload_n hx hb dX2_blitBytes_91 rfl (lv_at hl 4 rfl) ?_
        have h := Option.some.inj h
        exact g_iret C P (g_fst h) (g_snd h) dX2_blitBytes_92
      have h := g_ifn c13 h
      refine lv_bipush (v := -16) hx hb dX2_blitBytes_81 (by decide) ?_
      have h := Option.some.inj h
      exact g_iret C P (g_fst h) (g_snd h) dX2_blitBytes_83
    have h := g_ifn c9 h
    refine lv_iload hx hb dX2_blitBytes_54 (lv_at hl 0 rfl) ?_
    have h := Option.some.inj h
    exact g_iret C P (g_fst h) (g_snd h) dX2_blitBytes_56
  have h := g_ifn c4 h
  refine lv_bipush (v := -2) hx hb dX2_blitBytes_25 (by decide) ?_
  have h := Option.some.inj h
  exact g_iret C P (g_fst h) (g_snd h) dX2_blitBytes_27
abbrev rmX2_freezeBlocks : Room := { frames := 3, cells := 0, slots := 0, locals := 69 }
theorem kdX2_freezeBlocks : yX2_freezeBlocks.cls = RX2 ∧ yX2_freezeBlocks.cls ≠ "java/lang/invoke/MethodHandle" ∧ yX2_freezeBlocks.cls ≠ "java/lang/invoke/VarHandle" ∧ (parseMethodDescriptor yX2_freezeBlocks.desc).map (fun d => d.parameters.length) = some 1 := by decide +kernel
set_option maxHeartbeats 4000000 in
set_option maxRecDepth 100000 in
theorem kX2_freezeBlocks (l : Launch) (X : gXt) (hJ : gJ X xL) (σ : gS) (a1 : Int32) (q : Int32 × gS) (h : qO_freezeBlocks σ a1 = some q) : gMi l yX2_freezeBlocks (gws yX2_freezeBlocks cX2_freezeBlocks 4 (some .int)) rmX2_freezeBlocks X xL [.ref (gad X 40), .int a1] σ q.1 q.2 := by
  refine g_enter (cc := cX2_freezeBlocks) (nL := 4) (ret := (some .int)) hJ (plainFor_of_name (by decide)) (Nat.le_of_ble_eq_true rfl) ?_
  intro p e s m below meth c ls C P hl
  have C : gC p s m _ meth c RX2 cX2_freezeBlocks 4 (some .int) X xL := C
  have hx := C.1
  have hb := C.2.1
  have hK := C.2.2.2.2.2.2.2.1
  have hts := C.2.2.2.2.1
  have hl : lv_has ls 4 [(0, .ref (gad X 40)), (1, .int a1)] := hl
  unfold qO_freezeBlocks at h
  refine lv_iload_n hx hb dX2_freezeBlocks_0 rfl (lv_at hl 1 rfl) ?_
  refine g_callNi (n := 1) (As := [.int a1]) (rest := []) C P (kX7_isRegister l X hJ σ a1 _ rfl) wd_139 rfl rfl kdX7_isRegister.2 ⟨Nat.le_of_ble_eq_true rfl, Nat.le_of_ble_eq_true rfl⟩ (hK.2 (RX2, 23, yX7_isRegister, RX7) (List.mem_of_getElem? (i := 0) rfl)) wd_2 wd_138 rfl rfl hl.1 (Nat.le_of_ble_eq_true rfl) dX2_freezeBlocks_1 (fun H locs P => ?_)
  refine lv_if_ne (tgt := 10) hx hb dX2_freezeBlocks_4 (by decide) (fun c1 => ?_) (fun c1 => ?_)
  · have h := g_ifn c1 h
    refine lv_aload_n hx hb dX2_freezeBlocks_10 rfl (lv_at hl 0 rfl) ?_
    refine lv_iload_n hx hb dX2_freezeBlocks_11 rfl (lv_at hl 1 rfl) ?_
    obtain ⟨r2, hr2, h⟩ := g_bind h
    refine g_callVi (n := 1) (As := [.int a1]) (rest := []) C P (kX2_faultAsBegin l X hJ σ a1 _ hr2) wd_327 wd_328 wd_329 wd_22 wd_330 rfl rfl kdX2_faultAsBegin ⟨Nat.le_of_ble_eq_true rfl, Nat.le_of_ble_eq_true rfl⟩ xl40 rfl rfl rfl hl.1 (Nat.le_of_ble_eq_true rfl) dX2_freezeBlocks_12 (fun H locs P => ?_)
    refine lv_istore_n (lv' := [(2, .int r2), (0, .ref (gad X 40)), (1, .int a1)]) hx hb dX2_freezeBlocks_15 rfl hl (by decide) rfl (fun ls hl => ?_)
    refine lv_iload_n hx hb dX2_freezeBlocks_16 rfl (lv_at hl 0 rfl) ?_
    refine lv_if_eq (tgt := 22) hx hb dX2_freezeBlocks_17 (by decide) (fun c3 => ?_) (fun c3 => ?_)
    · have h := g_ifp c3 h
      refine lv_aload_n hx hb dX2_freezeBlocks_22 rfl (lv_at hl 1 rfl) ?_
      refine g_getR C P xl40 rfl inlX2 1 (by decide) wd_70 rfl dX2_freezeBlocks_23 ?_
      refine lv_aload_n hx hb dX2_freezeBlocks_26 rfl (lv_at hl 1 rfl) ?_
      refine g_getR C P xl40 rfl inlX2 0 (by decide) wd_69 rfl dX2_freezeBlocks_27 ?_
      refine lv_aload_n hx hb dX2_freezeBlocks_30 rfl (lv_at hl 1 rfl) ?_
      refine g_getR C P xl40 rfl inlX2 0 (by decide) wd_69 rfl dX2_freezeBlocks_31 ?_
      refine lv_iload_n hx hb dX2_freezeBlocks_34 rfl (lv_at hl 2 rfl) ?_
      obtain ⟨r4, hr4, h⟩ := g_bind h
      refine g_callVi (n := 1) (As := [.int a1]) (rest := [.ref (gad X 1), .ref (gad X 9)]) C P (kX5_valueOf l X hJ σ a1 _ hr4) wd_339 wd_340 wd_341 wd_14 wd_342 rfl rfl kdX5_valueOf ⟨Nat.le_of_ble_eq_true rfl, Nat.le_of_ble_eq_true rfl⟩ xl1 rfl rfl rfl hl.1 (Nat.le_of_ble_eq_true rfl) dX2_freezeBlocks_35 (fun H locs P => ?_)
      obtain ⟨r5, hr5, h⟩ := g_bind h
      refine g_callVi (n := 2) (As := [.ref (gad X 1), .int r4]) (rest := []) C P (kX0_reach l X hJ σ r4 _ hr5) wd_523 wd_524 wd_525 wd_18 wd_526 rfl rfl kdX0_reach ⟨Nat.le_of_ble_eq_true rfl, Nat.le_of_ble_eq_true rfl⟩ xl9 rfl rfl rfl hl.1 (Nat.le_of_ble_eq_true rfl) dX2_freezeBlocks_38 (fun H locs P => ?_)
      refine lv_pop hx hb dX2_freezeBlocks_41 rfl ?_
      refine lv_aload_n hx hb dX2_freezeBlocks_42 rfl (lv_at hl 1 rfl) ?_
      refine g_getR C P xl40 rfl inlX2 1 (by decide) wd_70 rfl dX2_freezeBlocks_43 ?_
      refine lv_aload_n hx hb dX2_freezeBlocks_46 rfl (lv_at hl 1 rfl) ?_
      refine g_getR C P xl40 rfl inlX2 0 (by decide) wd_69 rfl dX2_freezeBlocks_47 ?_
      obtain ⟨r6, hr6, h⟩ := g_bind h
      refine g_callVi (n := 1) (As := [.ref (gad X 1)]) (rest := []) C P (kX0_allReachedLive l X hJ r5.2 _ hr6) wd_538 wd_539 wd_540 wd_18 wd_541 rfl rfl kdX0_allReachedLive ⟨Nat.le_of_ble_eq_true rfl, Nat.le_of_ble_eq_true rfl⟩ xl9 rfl rfl rfl hl.1 (Nat.le_of_ble_eq_true rfl) dX2_freezeBlocks_50 (fun H locs P => ?_)
      refine lv_if_ne (tgt := 59) hx hb dX2_freezeBlocks_53 (by decide) (fun c7 => ?_) (fun c7 => ?_)
      · have h := g_ifn c7 h
        refine lv_aload_n hx hb dX2_freezeBlocks_59 rfl (lv_at hl 1 rfl) ?_
        refine g_getR C P xl40 rfl inlX2 1 (by decide) wd_70 rfl dX2_freezeBlocks_60 ?_
        refine lv_aload_n hx hb dX2_freezeBlocks_63 rfl (lv_at hl 1 rfl) ?_
        refine g_getR C P xl40 rfl inlX2 0 (by decide) wd_69 rfl dX2_freezeBlocks_64 ?_
        obtain ⟨r8, hr8, h⟩ := g_bind h
        refine g_callVv (n := 1) (As := [.ref (gad X 1)]) (rest := []) C P (kX0_draw l X hJ r5.2 _ hr8) wd_543 wd_544 wd_545 wd_18 wd_546 rfl rfl kdX0_draw ⟨Nat.le_of_ble_eq_true rfl, Nat.le_of_ble_eq_true rfl⟩ xl9 rfl rfl rfl hl.1 (Nat.le_of_ble_eq_true rfl) dX2_freezeBlocks_67 (fun H locs P => ?_)
        refine lv_aload_n hx hb dX2_freezeBlocks_70 rfl (lv_at hl 1 rfl) ?_
        refine g_getR C P xl40 rfl inlX2 1 (by decide) wd_70 rfl dX2_freezeBlocks_71 ?_
        refine lv_aload_n hx hb dX2_freezeBlocks_74 rfl (lv_at hl 1 rfl) ?_
        refine g_getR C P xl40 rfl inlX2 0 (by decide) wd_69 rfl dX2_freezeBlocks_75 ?_
        obtain ⟨r9, hr9, h⟩ := g_bind h
        refine g_callVi (n := 1) (As := [.ref (gad X 1)]) (rest := []) C P (kX0_indexOfDrawn l X hJ r8 _ hr9) wd_569 wd_570 wd_571 wd_18 wd_572 rfl rfl kdX0_indexOfDrawn ⟨Nat.le_of_ble_eq_true rfl, Nat.le_of_ble_eq_true rfl⟩ xl9 rfl rfl rfl hl.1 (Nat.le_of_ble_eq_true rfl) dX2_freezeBlocks_78 (fun H locs P => ?_)
        refine lv_istore_n (lv' := [(3, .int r9), (2, .int r2), (0, .ref (gad X 40)), (1, .int a1)]) hx hb dX2_freezeBlocks_81 rfl hl (by decide) rfl (fun ls hl => ?_)
        refine lv_iload_n hx hb dX2_freezeBlocks_82 rfl (lv_at hl 0 rfl) ?_
        refine lv_bipush (v := 8) hx hb dX2_freezeBlocks_83 (by decide) ?_
        refine lv_icmp_lt (tgt := 91) hx hb dX2_freezeBlocks_85 (by decide) (fun c10 => ?_) (fun c10 => ?_)
        · have h := g_ifp c10 h
          refine lv_iload_n hx hb dX2_freezeBlocks_91 rfl (lv_at hl 0 rfl) ?_
          refine lv_aload_n hx hb dX2_freezeBlocks_92 rfl (lv_at hl 2 rfl) ?_
          refine g_getR C P xl40 rfl inlX2 0 (by decide) wd_69 rfl dX2_freezeBlocks_93 ?_
          refine g_getI C P xl1 rfl inlX5 8 (by decide) wd_522 rfl dX2_freezeBlocks_96 ?_
          refine lv_icmp_ne (tgt := 112) hx hb dX2_freezeBlocks_99 (by decide) (fun c11 => ?_) (fun c11 => ?_)
          · have h := g_ifn c11 h
            refine lv_aload_n hx hb dX2_freezeBlocks_112 rfl (lv_at hl 2 rfl) ?_
            refine g_getR C P xl40 rfl inlX2 1 (by decide) wd_70 rfl dX2_freezeBlocks_113 ?_
            refine lv_aload_n hx hb dX2_freezeBlocks_116 rfl (lv_at hl 2 rfl) ?_
            refine g_getR C P xl40 rfl inlX2 0 (by decide) wd_69 rfl dX2_freezeBlocks_117 ?_
            obtain ⟨r12, hr12, h⟩ := g_bind h
            refine g_callVv (n := 1) (As := [.ref (gad X 1)]) (rest := []) C P (kX0_markReachedConstant l X hJ r8 _ hr12) wd_577 wd_578 wd_579 wd_18 wd_580 rfl rfl kdX0_markReachedConstant ⟨Nat.le_of_ble_eq_true rfl, Nat.le_of_ble_eq_true rfl⟩ xl9 rfl rfl rfl hl.1 (Nat.le_of_ble_eq_true rfl) dX2_freezeBlocks_120 (fun H locs P => ?_)
            refine lv_iload_n hx hb dX2_freezeBlocks_123 rfl (lv_at hl 0 rfl) ?_
            have h := Option.some.inj h
            exact g_iret C P (g_fst h) (g_snd h) dX2_freezeBlocks_124
          have h := g_ifp c11 h
          refine lv_aload_n hx hb dX2_freezeBlocks_102 rfl (lv_at hl 2 rfl) ?_
          refine g_getR C P xl40 rfl inlX2 0 (by decide) wd_69 rfl dX2_freezeBlocks_103 ?_
          refine lv_iload_n hx hb dX2_freezeBlocks_106 rfl (lv_at hl 0 rfl) ?_
          refine lv_iconst (v := 1) hx hb dX2_freezeBlocks_107 (by decide) ?_
          refine lv_iadd hx hb dX2_freezeBlocks_108 ?_
          refine g_putI C P xl1 rfl inlX5 tyX5 tyX5_ok nmX5 8 (by decide) wd_522 rfl rfl rfl rfl dX2_freezeBlocks_109 (fun H locs P => ?_)
          refine lv_aload_n hx hb dX2_freezeBlocks_112 rfl (lv_at hl 2 rfl) ?_
          refine g_getR C P xl40 rfl inlX2 1 (by decide) wd_70 rfl dX2_freezeBlocks_113 ?_
          refine lv_aload_n hx hb dX2_freezeBlocks_116 rfl (lv_at hl 2 rfl) ?_
          refine g_getR C P xl40 rfl inlX2 0 (by decide) wd_69 rfl dX2_freezeBlocks_117 ?_
          obtain ⟨r13, hr13, h⟩ := g_bind h
          refine g_callVv (n := 1) (As := [.ref (gad X 1)]) (rest := []) C P (kX0_markReachedConstant l X hJ (sI r8 1 8 (r9 + (1 : Int32))) _ hr13) wd_577 wd_578 wd_579 wd_18 wd_580 rfl rfl kdX0_markReachedConstant ⟨Nat.le_of_ble_eq_true rfl, Nat.le_of_ble_eq_true rfl⟩ xl9 rfl rfl rfl hl.1 (Nat.le_of_ble_eq_true rfl) dX2_freezeBlocks_120 (fun H locs P => ?_)
          refine lv_iload_n hx hb dX2_freezeBlocks_123 rfl (lv_at hl 0 rfl) ?_
          have h := Option.some.inj h
          exact g_iret C P (g_fst h) (g_snd h) dX2_freezeBlocks_124
        have h := g_ifn c10 h
        refine lv_bipush (v := -4) hx hb dX2_freezeBlocks_88 (by decide) ?_
        have h := Option.some.inj h
        exact g_iret C P (g_fst h) (g_snd h) dX2_freezeBlocks_90
      have h := g_ifp c7 h
      refine lv_bipush (v := -13) hx hb dX2_freezeBlocks_56 (by decide) ?_
      have h := Option.some.inj h
      exact g_iret C P (g_fst h) (g_snd h) dX2_freezeBlocks_58
    have h := g_ifn c3 h
    refine lv_iload_n hx hb dX2_freezeBlocks_20 rfl (lv_at hl 0 rfl) ?_
    have h := Option.some.inj h
    exact g_iret C P (g_fst h) (g_snd h) dX2_freezeBlocks_21
  have h := g_ifp c1 h
  refine lv_bipush (v := -2) hx hb dX2_freezeBlocks_7 (by decide) ?_
  have h := Option.some.inj h
  exact g_iret C P (g_fst h) (g_snd h) dX2_freezeBlocks_9
abbrev rmX3_waiting : Room := { frames := 1, cells := 0, slots := 0, locals := 22 }
theorem kdX3_waiting : yX3_waiting.cls = RX3 ∧ yX3_waiting.cls ≠ "java/lang/invoke/MethodHandle" ∧ yX3_waiting.cls ≠ "java/lang/invoke/VarHandle" ∧ (parseMethodDescriptor yX3_waiting.desc).map (fun d => d.parameters.length) = some 0 := by decide +kernel
set_option maxHeartbeats 4000000 in
set_option maxRecDepth 100000 in
theorem kX3_waiting (l : Launch) (X : gXt) (hJ : gJ X xL) (σ : gS) (q : Nat) (h : qH_waiting σ = some q) : gMr l yX3_waiting (gws yX3_waiting cX3_waiting 1 (some (.object "FrozenImages$State"))) rmX3_waiting X xL [.ref (gad X 46)] σ q σ := by
  refine g_enter (cc := cX3_waiting) (nL := 1) (ret := (some (.object "FrozenImages$State"))) hJ (plainFor_of_name (by decide)) (Nat.le_of_ble_eq_true rfl) ?_
  intro p e s m below meth c ls C P hl
  have C : gC p s m _ meth c RX3 cX3_waiting 1 (some (.object "FrozenImages$State")) X xL := C
  have hx := C.1
  have hb := C.2.1
  have hK := C.2.2.2.2.2.2.2.1
  have hts := C.2.2.2.2.1
  have hl : lv_has ls 1 [(0, .ref (gad X 46))] := hl
  unfold qH_waiting at h
  refine lv_aload_n hx hb dX3_waiting_0 rfl (lv_at hl 0 rfl) ?_
  refine g_getR C P xl46 rfl inlX3 0 (by decide) wd_84 rfl dX3_waiting_1 ?_
  refine lv_aload_n hx hb dX3_waiting_4 rfl (lv_at hl 0 rfl) ?_
  refine g_getI C P xl46 rfl inlX3 1 (by decide) wd_118 rfl dX3_waiting_5 ?_
  refine lv_bipush (v := 6) hx hb dX3_waiting_8 (by decide) ?_
  obtain ⟨r1, hr1, h⟩ := g_bind h
  refine g_callSi (n := 2) (As := [.int (gI σ 46 1), .int (6 : Int32)]) (rest := [.ref (gad X 47)]) C P (kJ9_floorMod_7cf53 l X hJ σ (gI σ 46 1) (6 : Int32) _ hr1) wd_119 wd_120 wd_121 wd_122 rfl rfl kdJ9_floorMod_7cf53.2 ⟨Nat.le_of_ble_eq_true rfl, Nat.le_of_ble_eq_true rfl⟩ rfl rfl hl.1 (Nat.le_of_ble_eq_true rfl) dX3_waiting_10 (fun H locs P => ?_)
  obtain ⟨r3, b2, eb2, h⟩ := g_or h
  refine g_aald (t := 2) C P xl47 rfl b2 eb2 dX3_waiting_13 ?_
  have h := Option.some.inj h
  exact g_aret C P h rfl dX3_waiting_14
abbrev rmX5_become : Room := { frames := 1, cells := 0, slots := 0, locals := 18 }
theorem kdX5_become : yX5_become.cls = RX5 ∧ yX5_become.cls ≠ "java/lang/invoke/MethodHandle" ∧ yX5_become.cls ≠ "java/lang/invoke/VarHandle" ∧ (parseMethodDescriptor yX5_become.desc).map (fun d => d.parameters.length) = some 1 := by decide +kernel
set_option maxHeartbeats 4000000 in
set_option maxRecDepth 100000 in
theorem kX5_become (l : Launch) (X : gXt) (hJ : gJ X xL) (σ : gS) (k : Nat) (k2 : Nat) (hk_k : gSt k) (hk_k2 : gSt k2) (q : gS) (h : qS_become σ k k2 = some q) : gMv l yX5_become (gws yX5_become cX5_become 2 none) rmX5_become X xL [.ref (gad X k), .ref (gad X k2)] σ q := by
  refine g_enter (cc := cX5_become) (nL := 2) (ret := none) hJ (plainFor_of_name (by decide)) (Nat.le_of_ble_eq_true rfl) ?_
  intro p e s m below meth c ls C P hl
  have C : gC p s m _ meth c RX5 cX5_become 2 none X xL := C
  have hx := C.1
  have hb := C.2.1
  have hK := C.2.2.2.2.2.2.2.1
  have hts := C.2.2.2.2.1
  have hl : lv_has ls 2 [(0, .ref (gad X k)), (1, .ref (gad X k2))] := hl
  unfold qS_become at h
  refine lv_aload_n hx hb dX5_become_0 rfl (lv_at hl 1 rfl) ?_
  refine g_getR C P hk_k2.1 rfl inlX5 0 (by decide) wd_41 rfl dX5_become_1 ?_
  refine lv_iconst (v := 0) hx hb dX5_become_4 (by decide) ?_
  refine lv_aload_n hx hb dX5_become_5 rfl (lv_at hl 0 rfl) ?_
  refine g_getR C P hk_k.1 rfl inlX5 0 (by decide) wd_41 rfl dX5_become_6 ?_
  refine lv_iconst (v := 0) hx hb dX5_become_9 (by decide) ?_
  refine lv_bipush (v := 6) hx hb dX5_become_10 (by decide) ?_
  refine g_copy C P hk_k2.2.1 hk_k.2.1 hl.1 wd_127 wd_128 wd_129 wd_130 (by decide) (by decide) (by decide) (by decide) (by decide) (Nat.le_of_ble_eq_true rfl) (by decide) dX5_become_12 (fun H locs P => ?_)
  obtain ⟨σ1, eσ1, h⟩ := g_nm h
  have P : gH X xL σ1 s H locs := by rw [eσ1]; exact P
  clear eσ1
  refine lv_aload_n hx hb dX5_become_15 rfl (lv_at hl 1 rfl) ?_
  refine g_getR C P hk_k2.1 rfl inlX5 1 (by decide) wd_42 rfl dX5_become_16 ?_
  refine lv_iconst (v := 0) hx hb dX5_become_19 (by decide) ?_
  refine lv_aload_n hx hb dX5_become_20 rfl (lv_at hl 0 rfl) ?_
  refine g_getR C P hk_k.1 rfl inlX5 1 (by decide) wd_42 rfl dX5_become_21 ?_
  refine lv_iconst (v := 0) hx hb dX5_become_24 (by decide) ?_
  refine lv_bipush (v := 6) hx hb dX5_become_25 (by decide) ?_
  refine g_copy C P hk_k2.2.2.1 hk_k.2.2.1 hl.1 wd_127 wd_128 wd_129 wd_130 (by decide) (by decide) (by decide) (by decide) (by decide) (Nat.le_of_ble_eq_true rfl) (by decide) dX5_become_27 (fun H locs P => ?_)
  obtain ⟨σ2, eσ2, h⟩ := g_nm h
  have P : gH X xL σ2 s H locs := by rw [eσ2]; exact P
  clear eσ2
  refine lv_aload_n hx hb dX5_become_30 rfl (lv_at hl 1 rfl) ?_
  refine g_getR C P hk_k2.1 rfl inlX5 2 (by decide) wd_43 rfl dX5_become_31 ?_
  refine lv_iconst (v := 0) hx hb dX5_become_34 (by decide) ?_
  refine lv_aload_n hx hb dX5_become_35 rfl (lv_at hl 0 rfl) ?_
  refine g_getR C P hk_k.1 rfl inlX5 2 (by decide) wd_43 rfl dX5_become_36 ?_
  refine lv_iconst (v := 0) hx hb dX5_become_39 (by decide) ?_
  refine lv_bipush (v := 6) hx hb dX5_become_40 (by decide) ?_
  refine g_copy C P hk_k2.2.2.2.1 hk_k.2.2.2.1 hl.1 wd_127 wd_128 wd_129 wd_130 (by decide) (by decide) (by decide) (by decide) (by decide) (Nat.le_of_ble_eq_true rfl) (by decide) dX5_become_42 (fun H locs P => ?_)
  obtain ⟨σ3, eσ3, h⟩ := g_nm h
  have P : gH X xL σ3 s H locs := by rw [eσ3]; exact P
  clear eσ3
  refine lv_aload_n hx hb dX5_become_45 rfl (lv_at hl 1 rfl) ?_
  refine g_getR C P hk_k2.1 rfl inlX5 3 (by decide) wd_44 rfl dX5_become_46 ?_
  refine lv_iconst (v := 0) hx hb dX5_become_49 (by decide) ?_
  refine lv_aload_n hx hb dX5_become_50 rfl (lv_at hl 0 rfl) ?_
  refine g_getR C P hk_k.1 rfl inlX5 3 (by decide) wd_44 rfl dX5_become_51 ?_
  refine lv_iconst (v := 0) hx hb dX5_become_54 (by decide) ?_
  refine lv_bipush (v := 10) hx hb dX5_become_55 (by decide) ?_
  refine g_copy C P hk_k2.2.2.2.2.1 hk_k.2.2.2.2.1 hl.1 wd_127 wd_128 wd_129 wd_130 (by decide) (by decide) (by decide) (by decide) (by decide) (Nat.le_of_ble_eq_true rfl) (by decide) dX5_become_57 (fun H locs P => ?_)
  obtain ⟨σ4, eσ4, h⟩ := g_nm h
  have P : gH X xL σ4 s H locs := by rw [eσ4]; exact P
  clear eσ4
  refine lv_aload_n hx hb dX5_become_60 rfl (lv_at hl 1 rfl) ?_
  refine g_getR C P hk_k2.1 rfl inlX5 4 (by decide) wd_45 rfl dX5_become_61 ?_
  refine lv_iconst (v := 0) hx hb dX5_become_64 (by decide) ?_
  refine lv_aload_n hx hb dX5_become_65 rfl (lv_at hl 0 rfl) ?_
  refine g_getR C P hk_k.1 rfl inlX5 4 (by decide) wd_45 rfl dX5_become_66 ?_
  refine lv_iconst (v := 0) hx hb dX5_become_69 (by decide) ?_
  refine lv_bipush (v := 10) hx hb dX5_become_70 (by decide) ?_
  refine g_copy C P hk_k2.2.2.2.2.2.1 hk_k.2.2.2.2.2.1 hl.1 wd_127 wd_128 wd_129 wd_130 (by decide) (by decide) (by decide) (by decide) (by decide) (Nat.le_of_ble_eq_true rfl) (by decide) dX5_become_72 (fun H locs P => ?_)
  obtain ⟨σ5, eσ5, h⟩ := g_nm h
  have P : gH X xL σ5 s H locs := by rw [eσ5]; exact P
  clear eσ5
  refine lv_aload_n hx hb dX5_become_75 rfl (lv_at hl 1 rfl) ?_
  refine g_getR C P hk_k2.1 rfl inlX5 5 (by decide) wd_46 rfl dX5_become_76 ?_
  refine lv_iconst (v := 0) hx hb dX5_become_79 (by decide) ?_
  refine lv_aload_n hx hb dX5_become_80 rfl (lv_at hl 0 rfl) ?_
  refine g_getR C P hk_k.1 rfl inlX5 5 (by decide) wd_46 rfl dX5_become_81 ?_
  refine lv_iconst (v := 0) hx hb dX5_become_84 (by decide) ?_
  refine lv_bipush (v := 10) hx hb dX5_become_85 (by decide) ?_
  refine g_copy C P hk_k2.2.2.2.2.2.2.1 hk_k.2.2.2.2.2.2.1 hl.1 wd_127 wd_128 wd_129 wd_130 (by decide) (by decide) (by decide) (by decide) (by decide) (Nat.le_of_ble_eq_true rfl) (by decide) dX5_become_87 (fun H locs P => ?_)
  obtain ⟨σ6, eσ6, h⟩ := g_nm h
  have P : gH X xL σ6 s H locs := by rw [eσ6]; exact P
  clear eσ6
  refine lv_aload_n hx hb dX5_become_90 rfl (lv_at hl 1 rfl) ?_
  refine g_getR C P hk_k2.1 rfl inlX5 6 (by decide) wd_47 rfl dX5_become_91 ?_
  refine lv_iconst (v := 0) hx hb dX5_become_94 (by decide) ?_
  refine lv_aload_n hx hb dX5_become_95 rfl (lv_at hl 0 rfl) ?_
  refine g_getR C P hk_k.1 rfl inlX5 6 (by decide) wd_47 rfl dX5_become_96 ?_
  refine lv_iconst (v := 0) hx hb dX5_become_99 (by decide) ?_
  refine lv_bipush (v := 120) hx hb dX5_become_100 (by decide) ?_
  refine g_copy C P hk_k2.2.2.2.2.2.2.2 hk_k.2.2.2.2.2.2.2 hl.1 wd_127 wd_128 wd_129 wd_130 (by decide) (by decide) (by decide) (by decide) (by decide) (Nat.le_of_ble_eq_true rfl) (by decide) dX5_become_102 (fun H locs P => ?_)
  obtain ⟨σ7, eσ7, h⟩ := g_nm h
  have P : gH X xL σ7 s H locs := by rw [eσ7]; exact P
  clear eσ7
  refine lv_aload_n hx hb dX5_become_105 rfl (lv_at hl 0 rfl) ?_
  refine lv_aload_n hx hb dX5_become_106 rfl (lv_at hl 1 rfl) ?_
  refine g_getI C P hk_k2.1 rfl inlX5 7 (by decide) wd_131 rfl dX5_become_107 ?_
  refine g_putI C P hk_k.1 rfl inlX5 tyX5 tyX5_ok nmX5 7 (by decide) wd_131 rfl rfl rfl rfl dX5_become_110 (fun H locs P => ?_)
  refine lv_aload_n hx hb dX5_become_113 rfl (lv_at hl 0 rfl) ?_
  refine lv_aload_n hx hb dX5_become_114 rfl (lv_at hl 1 rfl) ?_
  refine g_getI C P hk_k2.1 rfl inlX5 8 (by decide) wd_132 rfl dX5_become_115 ?_
  refine g_putI C P hk_k.1 rfl inlX5 tyX5 tyX5_ok nmX5 8 (by decide) wd_132 rfl rfl rfl rfl dX5_become_118 (fun H locs P => ?_)
  refine lv_aload_n hx hb dX5_become_121 rfl (lv_at hl 0 rfl) ?_
  refine lv_aload_n hx hb dX5_become_122 rfl (lv_at hl 1 rfl) ?_
  refine g_getI C P hk_k2.1 rfl inlX5 9 (by decide) wd_48 rfl dX5_become_123 ?_
  refine g_putI C P hk_k.1 rfl inlX5 tyX5 tyX5_ok nmX5 9 (by decide) wd_48 rfl rfl rfl rfl dX5_become_126 (fun H locs P => ?_)
  have h := Option.some.inj h
  exact g_vret C P h dX5_become_129
abbrev rmX3_stage : Room := { frames := 2, cells := 0, slots := 0, locals := 42 }
theorem kdX3_stage : yX3_stage.cls = RX3 ∧ yX3_stage.cls ≠ "java/lang/invoke/MethodHandle" ∧ yX3_stage.cls ≠ "java/lang/invoke/VarHandle" ∧ (parseMethodDescriptor yX3_stage.desc).map (fun d => d.parameters.length) = some 1 := by decide +kernel
set_option maxHeartbeats 4000000 in
set_option maxRecDepth 100000 in
theorem kX3_stage (l : Launch) (X : gXt) (hJ : gJ X xL) (σ : gS) (q : gS) (h : qH_stage σ = some q) : gMv l yX3_stage (gws yX3_stage cX3_stage 2 none) rmX3_stage X xL [.ref (gad X 46), .ref (gad X 1)] σ q := by
  refine g_enter (cc := cX3_stage) (nL := 2) (ret := none) hJ (plainFor_of_name (by decide)) (Nat.le_of_ble_eq_true rfl) ?_
  intro p e s m below meth c ls C P hl
  have C : gC p s m _ meth c RX3 cX3_stage 2 none X xL := C
  have hx := C.1
  have hb := C.2.1
  have hK := C.2.2.2.2.2.2.2.1
  have hts := C.2.2.2.2.1
  have hl : lv_has ls 2 [(0, .ref (gad X 46)), (1, .ref (gad X 1))] := hl
  unfold qH_stage at h
  refine lv_aload_n hx hb dX3_stage_0 rfl (lv_at hl 0 rfl) ?_
  obtain ⟨r1, hr1, h⟩ := g_bind h
  refine g_callVr (n := 0) (As := []) (rest := []) C P (kX3_waiting l X hJ σ _ hr1) wd_114 wd_115 wd_116 wd_30 wd_117 rfl rfl kdX3_waiting ⟨Nat.le_of_ble_eq_true rfl, Nat.le_of_ble_eq_true rfl⟩ xl46 rfl rfl rfl hl.1 (Nat.le_of_ble_eq_true rfl) dX3_stage_1 (fun H locs P => ?_)
  obtain ⟨hk_r1, h⟩ := g_st h
  refine lv_aload_n hx hb dX3_stage_4 rfl (lv_at hl 1 rfl) ?_
  obtain ⟨r2, hr2, h⟩ := g_bind h
  refine g_callVv (n := 1) (As := [.ref (gad X 1)]) (rest := []) C P (kX5_become l X hJ σ r1 1 hk_r1 gSt_1 _ hr2) wd_123 wd_124 wd_125 wd_14 wd_126 rfl rfl kdX5_become ⟨Nat.le_of_ble_eq_true rfl, Nat.le_of_ble_eq_true rfl⟩ hk_r1.1 rfl rfl rfl hl.1 (Nat.le_of_ble_eq_true rfl) dX3_stage_5 (fun H locs P => ?_)
  have h := Option.some.inj h
  exact g_vret C P h dX3_stage_8
abbrev rmX3_keep : Room := { frames := 0, cells := 0, slots := 0, locals := 0 }
theorem kdX3_keep : yX3_keep.cls = RX3 ∧ yX3_keep.cls ≠ "java/lang/invoke/MethodHandle" ∧ yX3_keep.cls ≠ "java/lang/invoke/VarHandle" ∧ (parseMethodDescriptor yX3_keep.desc).map (fun d => d.parameters.length) = some 0 := by decide +kernel
set_option maxHeartbeats 4000000 in
set_option maxRecDepth 100000 in
theorem kX3_keep (l : Launch) (X : gXt) (hJ : gJ X xL) (σ : gS) (q : gS) (h : qH_keep σ = some q) : gMv l yX3_keep (gws yX3_keep cX3_keep 1 none) rmX3_keep X xL [.ref (gad X 46)] σ q := by
  refine g_enter (cc := cX3_keep) (nL := 1) (ret := none) hJ (plainFor_of_name (by decide)) (Nat.le_of_ble_eq_true rfl) ?_
  intro p e s m below meth c ls C P hl
  have C : gC p s m _ meth c RX3 cX3_keep 1 none X xL := C
  have hx := C.1
  have hb := C.2.1
  have hK := C.2.2.2.2.2.2.2.1
  have hts := C.2.2.2.2.1
  have hl : lv_has ls 1 [(0, .ref (gad X 46))] := hl
  unfold qH_keep at h
  refine lv_aload_n hx hb dX3_keep_0 rfl (lv_at hl 0 rfl) ?_
  refine lv_aload_n hx hb dX3_keep_1 rfl (lv_at hl 0 rfl) ?_
  refine g_getI C P xl46 rfl inlX3 1 (by decide) wd_118 rfl dX3_keep_2 ?_
  refine lv_iconst (v := 1) hx hb dX3_keep_5 (by decide) ?_
  refine lv_iadd hx hb dX3_keep_6 ?_
  refine lv_bipush (v := 6) hx hb dX3_keep_7 (by decide) ?_
  refine lv_irem hx hb dX3_keep_9 (by decide) ?_
  refine g_putI C P xl46 rfl inlX3 tyX3 tyX3_ok nmX3 1 (by decide) wd_118 rfl rfl rfl rfl dX3_keep_10 (fun H locs P => ?_)
  refine lv_aload_n hx hb dX3_keep_13 rfl (lv_at hl 0 rfl) ?_
  refine g_getI C P xl46 rfl inlX3 2 (by decide) wd_164 rfl dX3_keep_14 ?_
  refine lv_iconst (v := 5) hx hb dX3_keep_17 (by decide) ?_
  refine lv_icmp_ge (tgt := 31) hx hb dX3_keep_18 (by decide) (fun c1 => ?_) (fun c1 => ?_)
  · have h := g_ifp c1 h
    have h := Option.some.inj h
    exact g_vret C P h dX3_keep_31
  have h := g_ifn c1 h
  refine lv_aload_n hx hb dX3_keep_21 rfl (lv_at hl 0 rfl) ?_
  refine lv_aload_n hx hb dX3_keep_22 rfl (lv_at hl 0 rfl) ?_
  refine g_getI C P xl46 rfl inlX3 2 (by decide) wd_164 rfl dX3_keep_23 ?_
  refine lv_iconst (v := 1) hx hb dX3_keep_26 (by decide) ?_
  refine lv_iadd hx hb dX3_keep_27 ?_
  refine g_putI C P xl46 rfl inlX3 tyX3 tyX3_ok nmX3 2 (by decide) wd_164 rfl rfl rfl rfl dX3_keep_28 (fun H locs P => ?_)
  have h := Option.some.inj h
  exact g_vret C P h dX3_keep_31
abbrev rmX3_undo : Room := { frames := 2, cells := 0, slots := 0, locals := 42 }
theorem kdX3_undo : yX3_undo.cls = RX3 ∧ yX3_undo.cls ≠ "java/lang/invoke/MethodHandle" ∧ yX3_undo.cls ≠ "java/lang/invoke/VarHandle" ∧ (parseMethodDescriptor yX3_undo.desc).map (fun d => d.parameters.length) = some 1 := by decide +kernel
set_option maxHeartbeats 4000000 in
set_option maxRecDepth 100000 in
theorem kX3_undo (l : Launch) (X : gXt) (hJ : gJ X xL) (σ : gS) (q : gS) (h : qH_undo σ = some q) : gMv l yX3_undo (gws yX3_undo cX3_undo 2 none) rmX3_undo X xL [.ref (gad X 46), .ref (gad X 1)] σ q := by
  refine g_enter (cc := cX3_undo) (nL := 2) (ret := none) hJ (plainFor_of_name (by decide)) (Nat.le_of_ble_eq_true rfl) ?_
  intro p e s m below meth c ls C P hl
  have C : gC p s m _ meth c RX3 cX3_undo 2 none X xL := C
  have hx := C.1
  have hb := C.2.1
  have hK := C.2.2.2.2.2.2.2.1
  have hts := C.2.2.2.2.1
  have hl : lv_has ls 2 [(0, .ref (gad X 46)), (1, .ref (gad X 1))] := hl
  unfold qH_undo at h
  refine lv_aload_n hx hb dX3_undo_0 rfl (lv_at hl 1 rfl) ?_
  refine lv_aload_n hx hb dX3_undo_1 rfl (lv_at hl 0 rfl) ?_
  obtain ⟨r1, hr1, h⟩ := g_bind h
  refine g_callVr (n := 0) (As := []) (rest := [.ref (gad X 1)]) C P (kX3_waiting l X hJ σ _ hr1) wd_114 wd_115 wd_116 wd_30 wd_117 rfl rfl kdX3_waiting ⟨Nat.le_of_ble_eq_true rfl, Nat.le_of_ble_eq_true rfl⟩ xl46 rfl rfl rfl hl.1 (Nat.le_of_ble_eq_true rfl) dX3_undo_2 (fun H locs P => ?_)
  obtain ⟨hk_r1, h⟩ := g_st h
  obtain ⟨r2, hr2, h⟩ := g_bind h
  refine g_callVv (n := 1) (As := [.ref (gad X r1)]) (rest := []) C P (kX5_become l X hJ σ 1 r1 gSt_1 hk_r1 _ hr2) wd_123 wd_124 wd_125 wd_14 wd_126 rfl rfl kdX5_become ⟨Nat.le_of_ble_eq_true rfl, Nat.le_of_ble_eq_true rfl⟩ xl1 rfl rfl rfl hl.1 (Nat.le_of_ble_eq_true rfl) dX3_undo_5 (fun H locs P => ?_)
  have h := Option.some.inj h
  exact g_vret C P h dX3_undo_8
abbrev rmX3_bringBack : Room := { frames := 2, cells := 0, slots := 0, locals := 42 }
theorem kdX3_bringBack : yX3_bringBack.cls = RX3 ∧ yX3_bringBack.cls ≠ "java/lang/invoke/MethodHandle" ∧ yX3_bringBack.cls ≠ "java/lang/invoke/VarHandle" ∧ (parseMethodDescriptor yX3_bringBack.desc).map (fun d => d.parameters.length) = some 1 := by decide +kernel
set_option maxHeartbeats 4000000 in
set_option maxRecDepth 100000 in
theorem kX3_bringBack (l : Launch) (X : gXt) (hJ : gJ X xL) (σ : gS) (q : Int32 × gS) (h : qH_bringBack σ = some q) : gMi l yX3_bringBack (gws yX3_bringBack cX3_bringBack 2 (some .int)) rmX3_bringBack X xL [.ref (gad X 46), .ref (gad X 1)] σ q.1 q.2 := by
  refine g_enter (cc := cX3_bringBack) (nL := 2) (ret := (some .int)) hJ (plainFor_of_name (by decide)) (Nat.le_of_ble_eq_true rfl) ?_
  intro p e s m below meth c ls C P hl
  have C : gC p s m _ meth c RX3 cX3_bringBack 2 (some .int) X xL := C
  have hx := C.1
  have hb := C.2.1
  have hK := C.2.2.2.2.2.2.2.1
  have hts := C.2.2.2.2.1
  have hl : lv_has ls 2 [(0, .ref (gad X 46)), (1, .ref (gad X 1))] := hl
  unfold qH_bringBack at h
  refine lv_aload_n hx hb dX3_bringBack_0 rfl (lv_at hl 0 rfl) ?_
  refine g_getI C P xl46 rfl inlX3 2 (by decide) wd_164 rfl dX3_bringBack_1 ?_
  refine lv_if_ne (tgt := 10) hx hb dX3_bringBack_4 (by decide) (fun c1 => ?_) (fun c1 => ?_)
  · have h := g_ifn c1 h
    refine lv_aload_n hx hb dX3_bringBack_10 rfl (lv_at hl 0 rfl) ?_
    refine lv_aload_n hx hb dX3_bringBack_11 rfl (lv_at hl 0 rfl) ?_
    refine g_getI C P xl46 rfl inlX3 1 (by decide) wd_118 rfl dX3_bringBack_12 ?_
    refine lv_bipush (v := 6) hx hb dX3_bringBack_15 (by decide) ?_
    refine lv_iadd hx hb dX3_bringBack_17 ?_
    refine lv_iconst (v := 1) hx hb dX3_bringBack_18 (by decide) ?_
    refine lv_isub hx hb dX3_bringBack_19 ?_
    refine lv_bipush (v := 6) hx hb dX3_bringBack_20 (by decide) ?_
    refine lv_irem hx hb dX3_bringBack_22 (by decide) ?_
    refine g_putI C P xl46 rfl inlX3 tyX3 tyX3_ok nmX3 1 (by decide) wd_118 rfl rfl rfl rfl dX3_bringBack_23 (fun H locs P => ?_)
    refine lv_aload_n hx hb dX3_bringBack_26 rfl (lv_at hl 0 rfl) ?_
    refine lv_aload_n hx hb dX3_bringBack_27 rfl (lv_at hl 0 rfl) ?_
    refine g_getI C P xl46 rfl inlX3 2 (by decide) wd_164 rfl dX3_bringBack_28 ?_
    refine lv_iconst (v := 1) hx hb dX3_bringBack_31 (by decide) ?_
    refine lv_isub hx hb dX3_bringBack_32 ?_
    refine g_putI C P xl46 rfl inlX3 tyX3 tyX3_ok nmX3 2 (by decide) wd_164 rfl rfl rfl rfl dX3_bringBack_33 (fun H locs P => ?_)
    refine lv_aload_n hx hb dX3_bringBack_36 rfl (lv_at hl 1 rfl) ?_
    refine lv_aload_n hx hb dX3_bringBack_37 rfl (lv_at hl 0 rfl) ?_
    obtain ⟨r2, hr2, h⟩ := g_bind h
    refine g_callVr (n := 0) (As := []) (rest := [.ref (gad X 1)]) C P (kX3_waiting l X hJ (sI (sI σ 46 1 ((((gI σ 46 1) + (6 : Int32)) - (1 : Int32)) - (((gI σ 46 1) + (6 : Int32)) - (1 : Int32)) / (6 : Int32) * (6 : Int32))) 46 2 ((gI (sI σ 46 1 ((((gI σ 46 1) + (6 : Int32)) - (1 : Int32)) - (((gI σ 46 1) + (6 : Int32)) - (1 : Int32)) / (6 : Int32) * (6 : Int32))) 46 2) - (1 : Int32))) _ hr2) wd_114 wd_115 wd_116 wd_30 wd_117 rfl rfl kdX3_waiting ⟨Nat.le_of_ble_eq_true rfl, Nat.le_of_ble_eq_true rfl⟩ xl46 rfl rfl rfl hl.1 (Nat.le_of_ble_eq_true rfl) dX3_bringBack_38 (fun H locs P => ?_)
    obtain ⟨hk_r2, h⟩ := g_st h
    obtain ⟨r3, hr3, h⟩ := g_bind h
    refine g_callVv (n := 1) (As := [.ref (gad X r2)]) (rest := []) C P (kX5_become l X hJ (sI (sI σ 46 1 ((((gI σ 46 1) + (6 : Int32)) - (1 : Int32)) - (((gI σ 46 1) + (6 : Int32)) - (1 : Int32)) / (6 : Int32) * (6 : Int32))) 46 2 ((gI (sI σ 46 1 ((((gI σ 46 1) + (6 : Int32)) - (1 : Int32)) - (((gI σ 46 1) + (6 : Int32)) - (1 : Int32)) / (6 : Int32) * (6 : Int32))) 46 2) - (1 : Int32))) 1 r2 gSt_1 hk_r2 _ hr3) wd_123 wd_124 wd_125 wd_14 wd_126 rfl rfl kdX5_become ⟨Nat.le_of_ble_eq_true rfl, Nat.le_of_ble_eq_true rfl⟩ xl1 rfl rfl rfl hl.1 (Nat.le_of_ble_eq_true rfl) dX3_bringBack_41 (fun H locs P => ?_)
    refine lv_aload_n hx hb dX3_bringBack_44 rfl (lv_at hl 0 rfl) ?_
    refine g_getI C P xl46 rfl inlX3 2 (by decide) wd_164 rfl dX3_bringBack_45 ?_
    have h := Option.some.inj h
    exact g_iret C P (g_fst h) (g_snd h) dX3_bringBack_48
  have h := g_ifp c1 h
  refine lv_bipush (v := -3) hx hb dX3_bringBack_7 (by decide) ?_
  have h := Option.some.inj h
  exact g_iret C P (g_fst h) (g_snd h) dX3_bringBack_9
abbrev rmX4_append : Room := { frames := 0, cells := 0, slots := 0, locals := 0 }
theorem kdX4_append : yX4_append.cls = RX4 ∧ yX4_append.cls ≠ "java/lang/invoke/MethodHandle" ∧ yX4_append.cls ≠ "java/lang/invoke/VarHandle" ∧ (parseMethodDescriptor yX4_append.desc).map (fun d => d.parameters.length) = some 1 := by decide +kernel
set_option maxHeartbeats 4000000 in
set_option maxRecDepth 100000 in
theorem kX4_append (l : Launch) (X : gXt) (hJ : gJ X xL) (σ : gS) (a1 : Int32) (q : Int32 × gS) (h : qP_append σ a1 = some q) : gMi l yX4_append (gws yX4_append cX4_append 2 (some .int)) rmX4_append X xL [.ref (gad X 42), .int a1] σ q.1 q.2 := by
  refine g_enter (cc := cX4_append) (nL := 2) (ret := (some .int)) hJ (plainFor_of_name (by decide)) (Nat.le_of_ble_eq_true rfl) ?_
  intro p e s m below meth c ls C P hl
  have C : gC p s m _ meth c RX4 cX4_append 2 (some .int) X xL := C
  have hx := C.1
  have hb := C.2.1
  have hK := C.2.2.2.2.2.2.2.1
  have hts := C.2.2.2.2.1
  have hl : lv_has ls 2 [(0, .ref (gad X 42)), (1, .int a1)] := hl
  unfold qP_append at h
  refine lv_iload_n hx hb dX4_append_0 rfl (lv_at hl 1 rfl) ?_
  refine lv_if_lt (tgt := 10) hx hb dX4_append_1 (by decide) (fun c1 => ?_) (fun c1 => ?_)
  · have h := g_ifp c1 h
    refine lv_bipush (v := -2) hx hb dX4_append_10 (by decide) ?_
    have h := Option.some.inj h
    exact g_iret C P (g_fst h) (g_snd h) dX4_append_12
  have h := g_ifn c1 h
  refine lv_iload_n hx hb dX4_append_4 rfl (lv_at hl 1 rfl) ?_
  refine lv_bipush (v := 127) hx hb dX4_append_5 (by decide) ?_
  refine lv_icmp_le (tgt := 13) hx hb dX4_append_7 (by decide) (fun c2 => ?_) (fun c2 => ?_)
  · have h := g_ifp c2 h
    refine lv_aload_n hx hb dX4_append_13 rfl (lv_at hl 0 rfl) ?_
    refine g_getI C P xl42 rfl inlX4 3 (by decide) wd_804 rfl dX4_append_14 ?_
    refine lv_if_lt (tgt := 29) hx hb dX4_append_17 (by decide) (fun c3 => ?_) (fun c3 => ?_)
    · have h := g_ifp c3 h
      refine lv_bipush (v := -4) hx hb dX4_append_29 (by decide) ?_
      have h := Option.some.inj h
      exact g_iret C P (g_fst h) (g_snd h) dX4_append_31
    have h := g_ifn c3 h
    refine lv_aload_n hx hb dX4_append_20 rfl (lv_at hl 0 rfl) ?_
    refine g_getI C P xl42 rfl inlX4 3 (by decide) wd_804 rfl dX4_append_21 ?_
    refine lv_bipush (v := 120) hx hb dX4_append_24 (by decide) ?_
    refine lv_icmp_lt (tgt := 32) hx hb dX4_append_26 (by decide) (fun c4 => ?_) (fun c4 => ?_)
    · have h := g_ifp c4 h
      refine lv_aload_n hx hb dX4_append_32 rfl (lv_at hl 0 rfl) ?_
      refine g_getR C P xl42 rfl inlX4 0 (by decide) wd_76 rfl dX4_append_33 ?_
      refine lv_aload_n hx hb dX4_append_36 rfl (lv_at hl 0 rfl) ?_
      refine g_getI C P xl42 rfl inlX4 3 (by decide) wd_804 rfl dX4_append_37 ?_
      refine lv_iload_n hx hb dX4_append_40 rfl (lv_at hl 1 rfl) ?_
      obtain ⟨b5, h⟩ := g_ob h
      refine g_iast (j := (gI σ 42 3).toNatClampNeg) C P xl43 b5 rfl dX4_append_41 (fun H locs P => ?_)
      refine lv_aload_n hx hb dX4_append_42 rfl (lv_at hl 0 rfl) ?_
      refine lv_aload_n hx hb dX4_append_43 rfl (lv_at hl 0 rfl) ?_
      refine g_getI C P xl42 rfl inlX4 3 (by decide) wd_804 rfl dX4_append_44 ?_
      refine lv_iconst (v := 1) hx hb dX4_append_47 (by decide) ?_
      refine lv_iadd hx hb dX4_append_48 ?_
      refine g_putI C P xl42 rfl inlX4 tyX4 tyX4_ok nmX4 3 (by decide) wd_804 rfl rfl rfl rfl dX4_append_49 (fun H locs P => ?_)
      refine lv_aload_n hx hb dX4_append_52 rfl (lv_at hl 0 rfl) ?_
      refine g_getI C P xl42 rfl inlX4 3 (by decide) wd_804 rfl dX4_append_53 ?_
      have h := Option.some.inj h
      exact g_iret C P (g_fst h) (g_snd h) dX4_append_56
    have h := g_ifn c4 h
    refine lv_bipush (v := -4) hx hb dX4_append_29 (by decide) ?_
    have h := Option.some.inj h
    exact g_iret C P (g_fst h) (g_snd h) dX4_append_31
  have h := g_ifn c2 h
  refine lv_bipush (v := -2) hx hb dX4_append_10 (by decide) ?_
  have h := Option.some.inj h
  exact g_iret C P (g_fst h) (g_snd h) dX4_append_12
abbrev rmX4_empty : Room := { frames := 0, cells := 0, slots := 0, locals := 0 }
theorem kdX4_empty : yX4_empty.cls = RX4 ∧ yX4_empty.cls ≠ "java/lang/invoke/MethodHandle" ∧ yX4_empty.cls ≠ "java/lang/invoke/VarHandle" ∧ (parseMethodDescriptor yX4_empty.desc).map (fun d => d.parameters.length) = some 0 := by decide +kernel
set_option maxHeartbeats 4000000 in
set_option maxRecDepth 100000 in
theorem kX4_empty (l : Launch) (X : gXt) (hJ : gJ X xL) (σ : gS) (q : Int32 × gS) (h : qP_empty σ = some q) : gMi l yX4_empty (gws yX4_empty cX4_empty 2 (some .int)) rmX4_empty X xL [.ref (gad X 42)] σ q.1 q.2 := by
  refine g_enter (cc := cX4_empty) (nL := 2) (ret := (some .int)) hJ (plainFor_of_name (by decide)) (Nat.le_of_ble_eq_true rfl) ?_
  intro p e s m below meth c ls C P hl
  have C : gC p s m _ meth c RX4 cX4_empty 2 (some .int) X xL := C
  have hx := C.1
  have hb := C.2.1
  have hK := C.2.2.2.2.2.2.2.1
  have hts := C.2.2.2.2.1
  have hl : lv_has ls 2 [(0, .ref (gad X 42))] := hl
  unfold qP_empty at h
  refine lv_aload_n hx hb dX4_empty_0 rfl (lv_at hl 0 rfl) ?_
  refine g_getI C P xl42 rfl inlX4 3 (by decide) wd_804 rfl dX4_empty_1 ?_
  refine lv_istore_n (lv' := [(1, .int (gI σ 42 3)), (0, .ref (gad X 42))]) hx hb dX4_empty_4 rfl hl (by decide) rfl (fun ls hl => ?_)
  refine lv_aload_n hx hb dX4_empty_5 rfl (lv_at hl 1 rfl) ?_
  refine lv_iconst (v := 0) hx hb dX4_empty_6 (by decide) ?_
  refine g_putI C P xl42 rfl inlX4 tyX4 tyX4_ok nmX4 3 (by decide) wd_804 rfl rfl rfl rfl dX4_empty_7 (fun H locs P => ?_)
  refine lv_iload_n hx hb dX4_empty_10 rfl (lv_at hl 0 rfl) ?_
  have h := Option.some.inj h
  exact g_iret C P (g_fst h) (g_snd h) dX4_empty_11
abbrev rmX4_operandsOf : Room := { frames := 0, cells := 0, slots := 0, locals := 0 }
theorem kdX4_operandsOf : yX4_operandsOf.cls = RX4 ∧ yX4_operandsOf.cls ≠ "java/lang/invoke/MethodHandle" ∧ yX4_operandsOf.cls ≠ "java/lang/invoke/VarHandle" ∧ (parseMethodDescriptor yX4_operandsOf.desc).map (fun d => d.parameters.length) = some 1 := by decide +kernel
set_option maxHeartbeats 4000000 in
set_option maxRecDepth 100000 in
theorem kX4_operandsOf (l : Launch) (X : gXt) (hJ : gJ X xL) (σ : gS) (a1 : Int32) (q : Int32) (h : qP_operandsOf a1 = q) : gMi l yX4_operandsOf (gws yX4_operandsOf cX4_operandsOf 1 (some .int)) rmX4_operandsOf X xL [.int a1] σ q σ := by
  refine g_enter (cc := cX4_operandsOf) (nL := 1) (ret := (some .int)) hJ (plainFor_of_name (by decide)) (Nat.le_of_ble_eq_true rfl) ?_
  intro p e s m below meth c ls C P hl
  have C : gC p s m _ meth c RX4 cX4_operandsOf 1 (some .int) X xL := C
  have hx := C.1
  have hb := C.2.1
  have hK := C.2.2.2.2.2.2.2.1
  have hts := C.2.2.2.2.1
  have hl : lv_has ls 1 [(0, .int a1)] := hl
  unfold qP_operandsOf at h
  refine lv_iload_n hx hb dX4_operandsOf_0 rfl (lv_at hl 0 rfl) ?_
  by_cases cs98 : a1 = (98 : Int32)
  · have h := g_ifp cs98 h
    refine lv_tableIn (off := 119) (tgt := 120) hx hb dX4_operandsOf_1 (by rw [cs98]; decide) (by rw [cs98]; decide) (by rw [cs98]; rfl) (by decide) ?_
    refine lv_iconst (v := 3) hx hb dX4_operandsOf_120 (by decide) ?_
    exact g_iret C P h rfl dX4_operandsOf_121
  have h := g_ifn cs98 h
  by_cases cs99 : a1 = (99 : Int32)
  · have h := g_ifp cs99 h
    refine lv_tableIn (off := 117) (tgt := 118) hx hb dX4_operandsOf_1 (by rw [cs99]; decide) (by rw [cs99]; decide) (by rw [cs99]; rfl) (by decide) ?_
    refine lv_iconst (v := 2) hx hb dX4_operandsOf_118 (by decide) ?_
    exact g_iret C P h rfl dX4_operandsOf_119
  have h := g_ifn cs99 h
  by_cases cs100 : a1 = (100 : Int32)
  · have h := g_ifp cs100 h
    refine lv_tableIn (off := 119) (tgt := 120) hx hb dX4_operandsOf_1 (by rw [cs100]; decide) (by rw [cs100]; decide) (by rw [cs100]; rfl) (by decide) ?_
    refine lv_iconst (v := 3) hx hb dX4_operandsOf_120 (by decide) ?_
    exact g_iret C P h rfl dX4_operandsOf_121
  have h := g_ifn cs100 h
  by_cases cs101 : a1 = (101 : Int32)
  · have h := g_ifp cs101 h
    refine lv_tableIn (off := 115) (tgt := 116) hx hb dX4_operandsOf_1 (by rw [cs101]; decide) (by rw [cs101]; decide) (by rw [cs101]; rfl) (by decide) ?_
    refine lv_iconst (v := 1) hx hb dX4_operandsOf_116 (by decide) ?_
    exact g_iret C P h rfl dX4_operandsOf_117
  have h := g_ifn cs101 h
  by_cases cs106 : a1 = (106 : Int32)
  · have h := g_ifp cs106 h
    refine lv_tableIn (off := 117) (tgt := 118) hx hb dX4_operandsOf_1 (by rw [cs106]; decide) (by rw [cs106]; decide) (by rw [cs106]; rfl) (by decide) ?_
    refine lv_iconst (v := 2) hx hb dX4_operandsOf_118 (by decide) ?_
    exact g_iret C P h rfl dX4_operandsOf_119
  have h := g_ifn cs106 h
  by_cases cs108 : a1 = (108 : Int32)
  · have h := g_ifp cs108 h
    refine lv_tableIn (off := 119) (tgt := 120) hx hb dX4_operandsOf_1 (by rw [cs108]; decide) (by rw [cs108]; decide) (by rw [cs108]; rfl) (by decide) ?_
    refine lv_iconst (v := 3) hx hb dX4_operandsOf_120 (by decide) ?_
    exact g_iret C P h rfl dX4_operandsOf_121
  have h := g_ifn cs108 h
  by_cases cs109 : a1 = (109 : Int32)
  · have h := g_ifp cs109 h
    refine lv_tableIn (off := 117) (tgt := 118) hx hb dX4_operandsOf_1 (by rw [cs109]; decide) (by rw [cs109]; decide) (by rw [cs109]; rfl) (by decide) ?_
    refine lv_iconst (v := 2) hx hb dX4_operandsOf_118 (by decide) ?_
    exact g_iret C P h rfl dX4_operandsOf_119
  have h := g_ifn cs109 h
  by_cases cs115 : a1 = (115 : Int32)
  · have h := g_ifp cs115 h
    refine lv_tableIn (off := 117) (tgt := 118) hx hb dX4_operandsOf_1 (by rw [cs115]; decide) (by rw [cs115]; decide) (by rw [cs115]; rfl) (by decide) ?_
    refine lv_iconst (v := 2) hx hb dX4_operandsOf_118 (by decide) ?_
    exact g_iret C P h rfl dX4_operandsOf_119
  have h := g_ifn cs115 h
  by_cases cs118 : a1 = (118 : Int32)
  · have h := g_ifp cs118 h
    refine lv_tableIn (off := 117) (tgt := 118) hx hb dX4_operandsOf_1 (by rw [cs118]; decide) (by rw [cs118]; decide) (by rw [cs118]; rfl) (by decide) ?_
    refine lv_iconst (v := 2) hx hb dX4_operandsOf_118 (by decide) ?_
    exact g_iret C P h rfl dX4_operandsOf_119
  have h := g_ifn cs118 h
  by_cases cs119 : a1 = (119 : Int32)
  · have h := g_ifp cs119 h
    refine lv_tableIn (off := 119) (tgt := 120) hx hb dX4_operandsOf_1 (by rw [cs119]; decide) (by rw [cs119]; decide) (by rw [cs119]; rfl) (by decide) ?_
    refine lv_iconst (v := 3) hx hb dX4_operandsOf_120 (by decide) ?_
    exact g_iret C P h rfl dX4_operandsOf_121
  have h := g_ifn cs119 h
  by_cases cs122 : a1 = (122 : Int32)
  · have h := g_ifp cs122 h
    refine lv_tableIn (off := 115) (tgt := 116) hx hb dX4_operandsOf_1 (by rw [cs122]; decide) (by rw [cs122]; decide) (by rw [cs122]; rfl) (by decide) ?_
    refine lv_iconst (v := 1) hx hb dX4_operandsOf_116 (by decide) ?_
    exact g_iret C P h rfl dX4_operandsOf_117
  have h := g_ifn cs122 h
  by_cases cs102 : a1 = (102 : Int32)
  · refine lv_tableIn (off := 121) (tgt := 122) hx hb dX4_operandsOf_1 (by rw [cs102]; decide) (by rw [cs102]; decide) (by rw [cs102]; rfl) (by decide) ?_
    refine lv_iconst (v := 0) hx hb dX4_operandsOf_122 (by decide) ?_
    exact g_iret C P h rfl dX4_operandsOf_123
  by_cases cs103 : a1 = (103 : Int32)
  · refine lv_tableIn (off := 121) (tgt := 122) hx hb dX4_operandsOf_1 (by rw [cs103]; decide) (by rw [cs103]; decide) (by rw [cs103]; rfl) (by decide) ?_
    refine lv_iconst (v := 0) hx hb dX4_operandsOf_122 (by decide) ?_
    exact g_iret C P h rfl dX4_operandsOf_123
  by_cases cs104 : a1 = (104 : Int32)
  · refine lv_tableIn (off := 121) (tgt := 122) hx hb dX4_operandsOf_1 (by rw [cs104]; decide) (by rw [cs104]; decide) (by rw [cs104]; rfl) (by decide) ?_
    refine lv_iconst (v := 0) hx hb dX4_operandsOf_122 (by decide) ?_
    exact g_iret C P h rfl dX4_operandsOf_123
  by_cases cs105 : a1 = (105 : Int32)
  · refine lv_tableIn (off := 121) (tgt := 122) hx hb dX4_operandsOf_1 (by rw [cs105]; decide) (by rw [cs105]; decide) (by rw [cs105]; rfl) (by decide) ?_
    refine lv_iconst (v := 0) hx hb dX4_operandsOf_122 (by decide) ?_
    exact g_iret C P h rfl dX4_operandsOf_123
  by_cases cs107 : a1 = (107 : Int32)
  · refine lv_tableIn (off := 121) (tgt := 122) hx hb dX4_operandsOf_1 (by rw [cs107]; decide) (by rw [cs107]; decide) (by rw [cs107]; rfl) (by decide) ?_
    refine lv_iconst (v := 0) hx hb dX4_operandsOf_122 (by decide) ?_
    exact g_iret C P h rfl dX4_operandsOf_123
  by_cases cs110 : a1 = (110 : Int32)
  · refine lv_tableIn (off := 121) (tgt := 122) hx hb dX4_operandsOf_1 (by rw [cs110]; decide) (by rw [cs110]; decide) (by rw [cs110]; rfl) (by decide) ?_
    refine lv_iconst (v := 0) hx hb dX4_operandsOf_122 (by decide) ?_
    exact g_iret C P h rfl dX4_operandsOf_123
  by_cases cs111 : a1 = (111 : Int32)
  · refine lv_tableIn (off := 121) (tgt := 122) hx hb dX4_operandsOf_1 (by rw [cs111]; decide) (by rw [cs111]; decide) (by rw [cs111]; rfl) (by decide) ?_
    refine lv_iconst (v := 0) hx hb dX4_operandsOf_122 (by decide) ?_
    exact g_iret C P h rfl dX4_operandsOf_123
  by_cases cs112 : a1 = (112 : Int32)
  · refine lv_tableIn (off := 121) (tgt := 122) hx hb dX4_operandsOf_1 (by rw [cs112]; decide) (by rw [cs112]; decide) (by rw [cs112]; rfl) (by decide) ?_
    refine lv_iconst (v := 0) hx hb dX4_operandsOf_122 (by decide) ?_
    exact g_iret C P h rfl dX4_operandsOf_123
  by_cases cs113 : a1 = (113 : Int32)
  · refine lv_tableIn (off := 121) (tgt := 122) hx hb dX4_operandsOf_1 (by rw [cs113]; decide) (by rw [cs113]; decide) (by rw [cs113]; rfl) (by decide) ?_
    refine lv_iconst (v := 0) hx hb dX4_operandsOf_122 (by decide) ?_
    exact g_iret C P h rfl dX4_operandsOf_123
  by_cases cs114 : a1 = (114 : Int32)
  · refine lv_tableIn (off := 121) (tgt := 122) hx hb dX4_operandsOf_1 (by rw [cs114]; decide) (by rw [cs114]; decide) (by rw [cs114]; rfl) (by decide) ?_
    refine lv_iconst (v := 0) hx hb dX4_operandsOf_122 (by decide) ?_
    exact g_iret C P h rfl dX4_operandsOf_123
  by_cases cs116 : a1 = (116 : Int32)
  · refine lv_tableIn (off := 121) (tgt := 122) hx hb dX4_operandsOf_1 (by rw [cs116]; decide) (by rw [cs116]; decide) (by rw [cs116]; rfl) (by decide) ?_
    refine lv_iconst (v := 0) hx hb dX4_operandsOf_122 (by decide) ?_
    exact g_iret C P h rfl dX4_operandsOf_123
  by_cases cs117 : a1 = (117 : Int32)
  · refine lv_tableIn (off := 121) (tgt := 122) hx hb dX4_operandsOf_1 (by rw [cs117]; decide) (by rw [cs117]; decide) (by rw [cs117]; rfl) (by decide) ?_
    refine lv_iconst (v := 0) hx hb dX4_operandsOf_122 (by decide) ?_
    exact g_iret C P h rfl dX4_operandsOf_123
  by_cases cs120 : a1 = (120 : Int32)
  · refine lv_tableIn (off := 121) (tgt := 122) hx hb dX4_operandsOf_1 (by rw [cs120]; decide) (by rw [cs120]; decide) (by rw [cs120]; rfl) (by decide) ?_
    refine lv_iconst (v := 0) hx hb dX4_operandsOf_122 (by decide) ?_
    exact g_iret C P h rfl dX4_operandsOf_123
  by_cases cs121 : a1 = (121 : Int32)
  · refine lv_tableIn (off := 121) (tgt := 122) hx hb dX4_operandsOf_1 (by rw [cs121]; decide) (by rw [cs121]; decide) (by rw [cs121]; rfl) (by decide) ?_
    refine lv_iconst (v := 0) hx hb dX4_operandsOf_122 (by decide) ?_
    exact g_iret C P h rfl dX4_operandsOf_123
  refine lv_tableOut (tgt := 122) hx hb dX4_operandsOf_1 (by have e0 := lv_neT cs98 (a := 98) rfl; have e1 := lv_neT cs99 (a := 99) rfl; have e2 := lv_neT cs100 (a := 100) rfl; have e3 := lv_neT cs101 (a := 101) rfl; have e4 := lv_neT cs106 (a := 106) rfl; have e5 := lv_neT cs108 (a := 108) rfl; have e6 := lv_neT cs109 (a := 109) rfl; have e7 := lv_neT cs115 (a := 115) rfl; have e8 := lv_neT cs118 (a := 118) rfl; have e9 := lv_neT cs119 (a := 119) rfl; have e10 := lv_neT cs122 (a := 122) rfl; have e11 := lv_neT cs102 (a := 102) rfl; have e12 := lv_neT cs103 (a := 103) rfl; have e13 := lv_neT cs104 (a := 104) rfl; have e14 := lv_neT cs105 (a := 105) rfl; have e15 := lv_neT cs107 (a := 107) rfl; have e16 := lv_neT cs110 (a := 110) rfl; have e17 := lv_neT cs111 (a := 111) rfl; have e18 := lv_neT cs112 (a := 112) rfl; have e19 := lv_neT cs113 (a := 113) rfl; have e20 := lv_neT cs114 (a := 114) rfl; have e21 := lv_neT cs116 (a := 116) rfl; have e22 := lv_neT cs117 (a := 117) rfl; have e23 := lv_neT cs120 (a := 120) rfl; have e24 := lv_neT cs121 (a := 121) rfl; omega) (by decide) ?_
  refine lv_iconst (v := 0) hx hb dX4_operandsOf_122 (by decide) ?_
  exact g_iret C P h rfl dX4_operandsOf_123
abbrev rmX4_acceptsLetter : Room := { frames := 1, cells := 0, slots := 0, locals := 20 }
theorem kdX4_acceptsLetter : yX4_acceptsLetter.cls = RX4 ∧ yX4_acceptsLetter.cls ≠ "java/lang/invoke/MethodHandle" ∧ yX4_acceptsLetter.cls ≠ "java/lang/invoke/VarHandle" ∧ (parseMethodDescriptor yX4_acceptsLetter.desc).map (fun d => d.parameters.length) = some 1 := by decide +kernel
set_option maxHeartbeats 4000000 in
set_option maxRecDepth 100000 in
theorem kX4_acceptsLetter (l : Launch) (X : gXt) (hJ : gJ X xL) (σ : gS) (a1 : Int32) (q : Int32 × gS) (h : qP_acceptsLetter σ a1 = some q) : gMi l yX4_acceptsLetter (gws yX4_acceptsLetter cX4_acceptsLetter 2 (some .boolean)) rmX4_acceptsLetter X xL [.ref (gad X 42), .int a1] σ q.1 q.2 := by
  refine g_enter (cc := cX4_acceptsLetter) (nL := 2) (ret := (some .boolean)) hJ (plainFor_of_name (by decide)) (Nat.le_of_ble_eq_true rfl) ?_
  intro p e s m below meth c ls C P hl
  have C : gC p s m _ meth c RX4 cX4_acceptsLetter 2 (some .boolean) X xL := C
  have hx := C.1
  have hb := C.2.1
  have hK := C.2.2.2.2.2.2.2.1
  have hts := C.2.2.2.2.1
  have hl : lv_has ls 2 [(0, .ref (gad X 42)), (1, .int a1)] := hl
  unfold qP_acceptsLetter at h
  refine lv_iload_n hx hb dX4_acceptsLetter_0 rfl (lv_at hl 1 rfl) ?_
  refine g_callSi (n := 1) (As := [.int a1]) (rest := []) C P (kX4_operandsOf l X hJ σ a1 _ rfl) wd_842 wd_843 wd_26 wd_844 rfl rfl kdX4_operandsOf.2 ⟨Nat.le_of_ble_eq_true rfl, Nat.le_of_ble_eq_true rfl⟩ rfl rfl hl.1 (Nat.le_of_ble_eq_true rfl) dX4_acceptsLetter_1 (fun H locs P => ?_)
  refine lv_if_eq (tgt := 23) hx hb dX4_acceptsLetter_4 (by decide) (fun c1 => ?_) (fun c1 => ?_)
  · have h := g_ifp c1 h
    refine lv_iconst (v := 0) hx hb dX4_acceptsLetter_23 (by decide) ?_
    have h := Option.some.inj h
    exact g_zret C P rfl (g_fst h) (g_snd h) dX4_acceptsLetter_24
  have h := g_ifn c1 h
  refine lv_aload_n hx hb dX4_acceptsLetter_7 rfl (lv_at hl 0 rfl) ?_
  refine g_getI C P xl42 rfl inlX4 4 (by decide) wd_829 rfl dX4_acceptsLetter_8 ?_
  refine lv_if_lt (tgt := 23) hx hb dX4_acceptsLetter_11 (by decide) (fun c2 => ?_) (fun c2 => ?_)
  · have h := g_ifp c2 h
    refine lv_iconst (v := 0) hx hb dX4_acceptsLetter_23 (by decide) ?_
    have h := Option.some.inj h
    exact g_zret C P rfl (g_fst h) (g_snd h) dX4_acceptsLetter_24
  have h := g_ifn c2 h
  refine lv_aload_n hx hb dX4_acceptsLetter_14 rfl (lv_at hl 0 rfl) ?_
  refine g_getI C P xl42 rfl inlX4 4 (by decide) wd_829 rfl dX4_acceptsLetter_15 ?_
  refine lv_bipush (v := 40) hx hb dX4_acceptsLetter_18 (by decide) ?_
  refine lv_icmp_lt (tgt := 25) hx hb dX4_acceptsLetter_20 (by decide) (fun c3 => ?_) (fun c3 => ?_)
  · have h := g_ifp c3 h
    refine lv_aload_n hx hb dX4_acceptsLetter_25 rfl (lv_at hl 0 rfl) ?_
    refine g_getR C P xl42 rfl inlX4 1 (by decide) wd_77 rfl dX4_acceptsLetter_26 ?_
    refine lv_aload_n hx hb dX4_acceptsLetter_29 rfl (lv_at hl 0 rfl) ?_
    refine g_getI C P xl42 rfl inlX4 4 (by decide) wd_829 rfl dX4_acceptsLetter_30 ?_
    refine lv_iload_n hx hb dX4_acceptsLetter_33 rfl (lv_at hl 1 rfl) ?_
    obtain ⟨b4, h⟩ := g_ob h
    refine g_iast (j := (gI σ 42 4).toNatClampNeg) C P xl44 b4 rfl dX4_acceptsLetter_34 (fun H locs P => ?_)
    refine lv_aload_n hx hb dX4_acceptsLetter_35 rfl (lv_at hl 0 rfl) ?_
    refine lv_iload_n hx hb dX4_acceptsLetter_36 rfl (lv_at hl 1 rfl) ?_
    refine g_putI C P xl42 rfl inlX4 tyX4 tyX4_ok nmX4 5 (by decide) wd_830 rfl rfl rfl rfl dX4_acceptsLetter_37 (fun H locs P => ?_)
    refine lv_aload_n hx hb dX4_acceptsLetter_40 rfl (lv_at hl 0 rfl) ?_
    refine lv_iconst (v := 0) hx hb dX4_acceptsLetter_41 (by decide) ?_
    refine g_putI C P xl42 rfl inlX4 tyX4 tyX4_ok nmX4 6 (by decide) wd_841 rfl rfl rfl rfl dX4_acceptsLetter_42 (fun H locs P => ?_)
    refine lv_aload_n hx hb dX4_acceptsLetter_45 rfl (lv_at hl 0 rfl) ?_
    refine lv_iconst (v := 0) hx hb dX4_acceptsLetter_46 (by decide) ?_
    refine g_putI C P xl42 rfl inlX4 tyX4 tyX4_ok nmX4 7 (by decide) wd_836 rfl rfl rfl rfl dX4_acceptsLetter_47 (fun H locs P => ?_)
    refine lv_aload_n hx hb dX4_acceptsLetter_50 rfl (lv_at hl 0 rfl) ?_
    refine lv_iconst (v := 0) hx hb dX4_acceptsLetter_51 (by decide) ?_
    refine g_putI C P xl42 rfl inlX4 tyX4 tyX4_ok nmX4 8 (by decide) wd_835 rfl rfl rfl rfl dX4_acceptsLetter_52 (fun H locs P => ?_)
    refine lv_iconst (v := 1) hx hb dX4_acceptsLetter_55 (by decide) ?_
    have h := Option.some.inj h
    exact g_zret C P rfl (g_fst h) (g_snd h) dX4_acceptsLetter_56
  have h := g_ifn c3 h
  refine lv_iconst (v := 0) hx hb dX4_acceptsLetter_23 (by decide) ?_
  have h := Option.some.inj h
  exact g_zret C P rfl (g_fst h) (g_snd h) dX4_acceptsLetter_24
