/-! WALKS, by program (wip/whole/gen.py): each method does what its mirror says -/
abbrev rmX8_storesAt : Room := { frames := 4, cells := 0, slots := 0, locals := 86 }
theorem kdX8_storesAt : yX8_storesAt.cls = RX8 ∧ yX8_storesAt.cls ≠ "java/lang/invoke/MethodHandle" ∧ yX8_storesAt.cls ≠ "java/lang/invoke/VarHandle" ∧ (parseMethodDescriptor yX8_storesAt.desc).map (fun d => d.parameters.length) = some 3 := by decide +kernel
set_option maxHeartbeats 4000000 in
set_option maxRecDepth 100000 in
theorem kX8_storesAt (l : Launch) (X : gXt) (hJ : gJ X mL) (σ : gS) (a1 : Int32) (a2 : Int32) (a3 : Int32) (q : Int32 × gS) (h : qM_storesAt σ a1 a2 a3 = some q) : gMi l yX8_storesAt (gws yX8_storesAt cX8_storesAt 9 (some .int)) rmX8_storesAt X mL [.ref (gad X 0), .int a1, .int a2, .int a3] σ q.1 q.2 := by
  refine g_enter (cc := cX8_storesAt) (nL := 9) (ret := (some .int)) hJ (plainFor_of_name (by decide)) (Nat.le_of_ble_eq_true rfl) ?_
  intro p e s m below meth c ls C P hl
  have C : gC p s m _ meth c RX8 cX8_storesAt 9 (some .int) X mL := C
  have hx := C.1
  have hb := C.2.1
  have hK := C.2.2.2.2.2.2.2.1
  have hts := C.2.2.2.2.1
  have hl : lv_has ls 9 [(0, .ref (gad X 0)), (1, .int a1), (2, .int a2), (3, .int a3)] := hl
  unfold qM_storesAt at h
  refine lv_iload_n hx hb dX8_storesAt_0 rfl (lv_at hl 1 rfl) ?_
  refine g_callSi (n := 1) (As := [.int a1]) (rest := []) C P (kX8_isRegister l X hJ σ a1 _ rfl) wd_192 wd_193 wd_5 wd_194 rfl rfl kdX8_isRegister.2 ⟨Nat.le_of_ble_eq_true rfl, Nat.le_of_ble_eq_true rfl⟩ rfl rfl hl.1 (Nat.le_of_ble_eq_true rfl) dX8_storesAt_1 (fun H locs P => ?_)
  refine lv_if_eq (tgt := 23) hx hb dX8_storesAt_4 (by decide) (fun c1 => ?_) (fun c1 => ?_)
  · have h := g_ifp c1 h
    refine lv_bipush (v := -2) hx hb dX8_storesAt_23 (by decide) ?_
    have h := Option.some.inj h
    exact g_iret C P (g_fst h) (g_snd h) dX8_storesAt_25
  have h := g_ifn c1 h
  refine lv_iload_n hx hb dX8_storesAt_7 rfl (lv_at hl 2 rfl) ?_
  refine g_callSi (n := 1) (As := [.int a2]) (rest := []) C P (kX8_isRegister l X hJ σ a2 _ rfl) wd_192 wd_193 wd_5 wd_194 rfl rfl kdX8_isRegister.2 ⟨Nat.le_of_ble_eq_true rfl, Nat.le_of_ble_eq_true rfl⟩ rfl rfl hl.1 (Nat.le_of_ble_eq_true rfl) dX8_storesAt_8 (fun H locs P => ?_)
  refine lv_if_eq (tgt := 23) hx hb dX8_storesAt_11 (by decide) (fun c2 => ?_) (fun c2 => ?_)
  · have h := g_ifp c2 h
    refine lv_bipush (v := -2) hx hb dX8_storesAt_23 (by decide) ?_
    have h := Option.some.inj h
    exact g_iret C P (g_fst h) (g_snd h) dX8_storesAt_25
  have h := g_ifn c2 h
  refine lv_iload_n hx hb dX8_storesAt_14 rfl (lv_at hl 3 rfl) ?_
  refine lv_iconst (v := 1) hx hb dX8_storesAt_15 (by decide) ?_
  refine lv_iconst (v := 2) hx hb dX8_storesAt_16 (by decide) ?_
  refine g_callSi (n := 3) (As := [.int a3, .int (1 : Int32), .int (2 : Int32)]) (rest := []) C P (kX8_in l X hJ σ a3 (1 : Int32) (2 : Int32) _ rfl) wd_195 wd_196 wd_5 wd_197 rfl rfl kdX8_in.2 ⟨Nat.le_of_ble_eq_true rfl, Nat.le_of_ble_eq_true rfl⟩ rfl rfl hl.1 (Nat.le_of_ble_eq_true rfl) dX8_storesAt_17 (fun H locs P => ?_)
  refine lv_if_ne (tgt := 26) hx hb dX8_storesAt_20 (by decide) (fun c3 => ?_) (fun c3 => ?_)
  · have h := g_ifn c3 h
    refine lv_aload_n hx hb dX8_storesAt_26 rfl (lv_at hl 0 rfl) ?_
    refine lv_iload_n hx hb dX8_storesAt_27 rfl (lv_at hl 1 rfl) ?_
    refine lv_iload_n hx hb dX8_storesAt_28 rfl (lv_at hl 3 rfl) ?_
    obtain ⟨r4, hr4, h⟩ := g_bind h
    refine g_callVi (n := 2) (As := [.int a1, .int a3]) (rest := []) C P (kX8_notToWrite l X hJ σ a1 a3 _ hr4) wd_258 wd_259 wd_260 wd_5 wd_261 rfl rfl kdX8_notToWrite ⟨Nat.le_of_ble_eq_true rfl, Nat.le_of_ble_eq_true rfl⟩ ml0 rfl rfl rfl hl.1 (Nat.le_of_ble_eq_true rfl) dX8_storesAt_29 (fun H locs P => ?_)
    refine lv_istore (lv' := [(4, .int r4), (0, .ref (gad X 0)), (1, .int a1), (2, .int a2), (3, .int a3)]) hx hb dX8_storesAt_32 hl (by decide) rfl (fun ls hl => ?_)
    refine lv_iload hx hb dX8_storesAt_34 (lv_at hl 0 rfl) ?_
    refine lv_if_ne (tgt := 73) hx hb dX8_storesAt_36 (by decide) (fun c5 => ?_) (fun c5 => ?_)
    · have h := g_ifn c5 h
      refine lv_iload hx hb dX8_storesAt_73 (lv_at hl 0 rfl) ?_
      refine lv_if_eq (tgt := 84) hx hb dX8_storesAt_75 (by decide) (fun c6 => ?_) (fun c6 => ?_)
      · exact absurd c6 c5
      refine lv_iload hx hb dX8_storesAt_78 (lv_at hl 0 rfl) ?_
      refine g_callSi (n := 1) (As := [.int r4]) (rest := []) C P (kX8_undefinedAs l X hJ σ r4 _ rfl) wd_233 wd_234 wd_5 wd_235 rfl rfl kdX8_undefinedAs.2 ⟨Nat.le_of_ble_eq_true rfl, Nat.le_of_ble_eq_true rfl⟩ rfl rfl hl.1 (Nat.le_of_ble_eq_true rfl) dX8_storesAt_80 (fun H locs P => ?_)
      have h := Option.some.inj h
      exact g_iret C P (g_fst h) (g_snd h) dX8_storesAt_83
    have h := g_ifp c5 h
    refine lv_aload_n hx hb dX8_storesAt_39 rfl (lv_at hl 1 rfl) ?_
    refine lv_iload_n hx hb dX8_storesAt_40 rfl (lv_at hl 3 rfl) ?_
    obtain ⟨r7, hr7, h⟩ := g_bind h
    refine g_callVi (n := 1) (As := [.int a2]) (rest := []) C P (kX8_kindOf l X hJ σ a2 _ hr7) wd_213 wd_214 wd_215 wd_5 wd_216 rfl rfl kdX8_kindOf ⟨Nat.le_of_ble_eq_true rfl, Nat.le_of_ble_eq_true rfl⟩ ml0 rfl rfl rfl hl.1 (Nat.le_of_ble_eq_true rfl) dX8_storesAt_41 (fun H locs P => ?_)
    refine lv_if_ne (tgt := 51) hx hb dX8_storesAt_44 (by decide) (fun c8 => ?_) (fun c8 => ?_)
    · have h := g_ifn c8 h
      refine lv_aload_n hx hb dX8_storesAt_51 rfl (lv_at hl 1 rfl) ?_
      refine lv_iload_n hx hb dX8_storesAt_52 rfl (lv_at hl 3 rfl) ?_
      obtain ⟨r9, hr9, h⟩ := g_bind h
      refine g_callVi (n := 1) (As := [.int a2]) (rest := []) C P (kX8_kindOf l X hJ σ a2 _ hr9) wd_213 wd_214 wd_215 wd_5 wd_216 rfl rfl kdX8_kindOf ⟨Nat.le_of_ble_eq_true rfl, Nat.le_of_ble_eq_true rfl⟩ ml0 rfl rfl rfl hl.1 (Nat.le_of_ble_eq_true rfl) dX8_storesAt_53 (fun H locs P => ?_)
      refine lv_iconst (v := 2) hx hb dX8_storesAt_56 (by decide) ?_
      refine lv_icmp_ne (tgt := 70) hx hb dX8_storesAt_57 (by decide) (fun c10 => ?_) (fun c10 => ?_)
      · have h := g_ifn c10 h
        refine lv_iconst (v := 0) hx hb dX8_storesAt_70 (by decide) ?_
        refine lv_istore (lv' := [(4, .int (0 : Int32)), (0, .ref (gad X 0)), (1, .int a1), (2, .int a2), (3, .int a3)]) hx hb dX8_storesAt_71 hl (by decide) rfl (fun ls hl => ?_)
        refine lv_iload hx hb dX8_storesAt_73 (lv_at hl 0 rfl) ?_
        refine lv_if_eq (tgt := 84) hx hb dX8_storesAt_75 (by decide) (fun c11 => ?_) (fun c11 => ?_)
        rotate_left
        · exact absurd (by decide) c11
        refine lv_aload_n hx hb dX8_storesAt_84 rfl (lv_at hl 1 rfl) ?_
        refine lv_iload_n hx hb dX8_storesAt_85 rfl (lv_at hl 2 rfl) ?_
        obtain ⟨r12, hr12, h⟩ := g_bind h
        refine g_callVi (n := 1) (As := [.int a1]) (rest := []) C P (kX8_valueOf l X hJ σ a1 _ hr12) wd_217 wd_218 wd_219 wd_5 wd_220 rfl rfl kdX8_valueOf ⟨Nat.le_of_ble_eq_true rfl, Nat.le_of_ble_eq_true rfl⟩ ml0 rfl rfl rfl hl.1 (Nat.le_of_ble_eq_true rfl) dX8_storesAt_86 (fun H locs P => ?_)
        refine lv_istore (lv' := [(5, .int r12), (4, .int (0 : Int32)), (0, .ref (gad X 0)), (1, .int a1), (2, .int a2), (3, .int a3)]) hx hb dX8_storesAt_89 hl (by decide) rfl (fun ls hl => ?_)
        refine lv_aload_n hx hb dX8_storesAt_91 rfl (lv_at hl 2 rfl) ?_
        refine lv_iload_n hx hb dX8_storesAt_92 rfl (lv_at hl 3 rfl) ?_
        obtain ⟨r13, hr13, h⟩ := g_bind h
        refine g_callVi (n := 1) (As := [.int a1]) (rest := []) C P (kX8_placeOf l X hJ σ a1 _ hr13) wd_225 wd_226 wd_227 wd_5 wd_228 rfl rfl kdX8_placeOf ⟨Nat.le_of_ble_eq_true rfl, Nat.le_of_ble_eq_true rfl⟩ ml0 rfl rfl rfl hl.1 (Nat.le_of_ble_eq_true rfl) dX8_storesAt_93 (fun H locs P => ?_)
        refine lv_istore (lv' := [(6, .int r13), (5, .int r12), (4, .int (0 : Int32)), (0, .ref (gad X 0)), (1, .int a1), (2, .int a2), (3, .int a3)]) hx hb dX8_storesAt_96 hl (by decide) rfl (fun ls hl => ?_)
        refine lv_aload_n hx hb dX8_storesAt_98 rfl (lv_at hl 3 rfl) ?_
        refine lv_iload_n hx hb dX8_storesAt_99 rfl (lv_at hl 5 rfl) ?_
        obtain ⟨r14, hr14, h⟩ := g_bind h
        refine g_callVi (n := 1) (As := [.int a2]) (rest := []) C P (kX8_valueOf l X hJ σ a2 _ hr14) wd_217 wd_218 wd_219 wd_5 wd_220 rfl rfl kdX8_valueOf ⟨Nat.le_of_ble_eq_true rfl, Nat.le_of_ble_eq_true rfl⟩ ml0 rfl rfl rfl hl.1 (Nat.le_of_ble_eq_true rfl) dX8_storesAt_100 (fun H locs P => ?_)
        refine lv_istore (lv' := [(7, .int r14), (6, .int r13), (5, .int r12), (4, .int (0 : Int32)), (0, .ref (gad X 0)), (1, .int a1), (2, .int a2), (3, .int a3)]) hx hb dX8_storesAt_103 hl (by decide) rfl (fun ls hl => ?_)
        refine lv_aload_n hx hb dX8_storesAt_105 rfl (lv_at hl 4 rfl) ?_
        refine lv_iload hx hb dX8_storesAt_106 (lv_at hl 2 rfl) ?_
        refine lv_iload hx hb dX8_storesAt_108 (lv_at hl 1 rfl) ?_
        refine lv_iload_n hx hb dX8_storesAt_110 rfl (lv_at hl 7 rfl) ?_
        obtain ⟨r15, hr15, h⟩ := g_bind h
        refine g_callVv (n := 3) (As := [.int r12, .int r13, .int a3]) (rest := []) C P (kX8_cuts l X hJ σ r12 r13 a3 _ hr15) wd_266 wd_267 wd_268 wd_5 wd_269 rfl rfl kdX8_cuts ⟨Nat.le_of_ble_eq_true rfl, Nat.le_of_ble_eq_true rfl⟩ ml0 rfl rfl rfl hl.1 (Nat.le_of_ble_eq_true rfl) dX8_storesAt_111 (fun H locs P => ?_)
        refine lv_aload_n hx hb dX8_storesAt_114 rfl (lv_at hl 4 rfl) ?_
        refine lv_iload_n hx hb dX8_storesAt_115 rfl (lv_at hl 6 rfl) ?_
        obtain ⟨r16, hr16, h⟩ := g_bind h
        refine g_callVi (n := 1) (As := [.int a2]) (rest := []) C P (kX8_kindOf l X hJ r15 a2 _ hr16) wd_213 wd_214 wd_215 wd_5 wd_216 rfl rfl kdX8_kindOf ⟨Nat.le_of_ble_eq_true rfl, Nat.le_of_ble_eq_true rfl⟩ ml0 rfl rfl rfl hl.1 (Nat.le_of_ble_eq_true rfl) dX8_storesAt_116 (fun H locs P => ?_)
        refine lv_iconst (v := 2) hx hb dX8_storesAt_119 (by decide) ?_
        refine lv_icmp_ne (tgt := 127) hx hb dX8_storesAt_120 (by decide) (fun c17 => ?_) (fun c17 => ?_)
        · have h := g_ifn c17 h
          refine lv_iconst (v := 0) hx hb dX8_storesAt_127 (by decide) ?_
          refine lv_istore (lv' := [(8, .int (0 : Int32)), (7, .int r14), (6, .int r13), (5, .int r12), (4, .int (0 : Int32)), (0, .ref (gad X 0)), (1, .int a1), (2, .int a2), (3, .int a3)]) hx hb dX8_storesAt_128 hl (by decide) rfl (fun ls hl => ?_)
          refine lv_aload_n hx hb dX8_storesAt_130 rfl (lv_at hl 5 rfl) ?_
          refine g_getR C P ml0 rfl inlX8 0 (by decide) wd_95 rfl dX8_storesAt_131 ?_
          refine lv_iload hx hb dX8_storesAt_134 (lv_at hl 3 rfl) ?_
          refine lv_iload hx hb dX8_storesAt_136 (lv_at hl 2 rfl) ?_
          refine g_callSi (n := 2) (As := [.int r12, .int r13]) (rest := [.ref (gad X 1)]) C P (kX8_bytePlace l X hJ r15 r12 r13 _ rfl) wd_270 wd_271 wd_5 wd_272 rfl rfl kdX8_bytePlace.2 ⟨Nat.le_of_ble_eq_true rfl, Nat.le_of_ble_eq_true rfl⟩ rfl rfl hl.1 (Nat.le_of_ble_eq_true rfl) dX8_storesAt_138 (fun H locs P => ?_)
          refine lv_iload hx hb dX8_storesAt_141 (lv_at hl 0 rfl) ?_
          refine lv_if_eq (tgt := 164) hx hb dX8_storesAt_143 (by decide) (fun c18 => ?_) (fun c18 => ?_)
          rotate_left
          · exact absurd (by decide) c18
          refine lv_iload hx hb dX8_storesAt_164 (lv_at hl 1 rfl) ?_
          refine lv_sipush (v := 255) hx hb dX8_storesAt_166 (by decide) ?_
          refine lv_iand hx hb dX8_storesAt_169 ?_
          obtain ⟨b19, h⟩ := g_ob h
          refine g_iast (j := (qM_bytePlace r12 r13).toNatClampNeg) C P ml1 b19 rfl dX8_storesAt_170 (fun H locs P => ?_)
          refine lv_iload_n hx hb dX8_storesAt_171 rfl (lv_at hl 8 rfl) ?_
          refine lv_iconst (v := 2) hx hb dX8_storesAt_172 (by decide) ?_
          refine lv_icmp_ne (tgt := 206) hx hb dX8_storesAt_173 (by decide) (fun c20 => ?_) (fun c20 => ?_)
          · have h := g_ifn c20 h
            refine lv_iload hx hb dX8_storesAt_206 (lv_at hl 2 rfl) ?_
            have h := Option.some.inj h
            exact g_iret C P (g_fst h) (g_snd h) dX8_storesAt_208
          have h := g_ifp c20 h
          refine lv_aload_n hx hb dX8_storesAt_176 rfl (lv_at hl 5 rfl) ?_
          refine g_getR C P ml0 rfl inlX8 0 (by decide) wd_95 rfl dX8_storesAt_177 ?_
          refine lv_iload hx hb dX8_storesAt_180 (lv_at hl 3 rfl) ?_
          refine lv_iload hx hb dX8_storesAt_182 (lv_at hl 2 rfl) ?_
          refine lv_iconst (v := 1) hx hb dX8_storesAt_184 (by decide) ?_
          refine lv_iadd hx hb dX8_storesAt_185 ?_
          refine g_callSi (n := 2) (As := [.int r12, .int (r13 + (1 : Int32))]) (rest := [.ref (gad X 1)]) C P (kX8_bytePlace l X hJ (sM r15 1 (qM_bytePlace r12 r13).toNatClampNeg (r14 &&& (255 : Int32))) r12 (r13 + (1 : Int32)) _ rfl) wd_270 wd_271 wd_5 wd_272 rfl rfl kdX8_bytePlace.2 ⟨Nat.le_of_ble_eq_true rfl, Nat.le_of_ble_eq_true rfl⟩ rfl rfl hl.1 (Nat.le_of_ble_eq_true rfl) dX8_storesAt_186 (fun H locs P => ?_)
          refine lv_iload hx hb dX8_storesAt_189 (lv_at hl 0 rfl) ?_
          refine lv_if_eq (tgt := 200) hx hb dX8_storesAt_191 (by decide) (fun c21 => ?_) (fun c21 => ?_)
          rotate_left
          · exact absurd (by decide) c21
          refine lv_iload hx hb dX8_storesAt_200 (lv_at hl 1 rfl) ?_
          refine lv_bipush (v := 8) hx hb dX8_storesAt_202 (by decide) ?_
          refine lv_ishr hx hb dX8_storesAt_204 ?_
          obtain ⟨b22, h⟩ := g_ob h
          refine g_iast (j := (qM_bytePlace r12 (r13 + (1 : Int32))).toNatClampNeg) C P ml1 b22 rfl dX8_storesAt_205 (fun H locs P => ?_)
          refine lv_iload hx hb dX8_storesAt_206 (lv_at hl 2 rfl) ?_
          have h := Option.some.inj h
          exact g_iret C P (g_fst h) (g_snd h) dX8_storesAt_208
        have h := g_ifp c17 h
        refine lv_iconst (v := 1) hx hb dX8_storesAt_123 (by decide) ?_
        refine lv_goto (tgt := 128) hx hb dX8_storesAt_124 (by decide) ?_
        refine lv_istore (lv' := [(8, .int (1 : Int32)), (7, .int r14), (6, .int r13), (5, .int r12), (4, .int (0 : Int32)), (0, .ref (gad X 0)), (1, .int a1), (2, .int a2), (3, .int a3)]) hx hb dX8_storesAt_128 hl (by decide) rfl (fun ls hl => ?_)
        refine lv_aload_n hx hb dX8_storesAt_130 rfl (lv_at hl 5 rfl) ?_
        refine g_getR C P ml0 rfl inlX8 0 (by decide) wd_95 rfl dX8_storesAt_131 ?_
        refine lv_iload hx hb dX8_storesAt_134 (lv_at hl 3 rfl) ?_
        refine lv_iload hx hb dX8_storesAt_136 (lv_at hl 2 rfl) ?_
        refine g_callSi (n := 2) (As := [.int r12, .int r13]) (rest := [.ref (gad X 1)]) C P (kX8_bytePlace l X hJ r15 r12 r13 _ rfl) wd_270 wd_271 wd_5 wd_272 rfl rfl kdX8_bytePlace.2 ⟨Nat.le_of_ble_eq_true rfl, Nat.le_of_ble_eq_true rfl⟩ rfl rfl hl.1 (Nat.le_of_ble_eq_true rfl) dX8_storesAt_138 (fun H locs P => ?_)
        refine lv_iload hx hb dX8_storesAt_141 (lv_at hl 0 rfl) ?_
        refine lv_if_eq (tgt := 164) hx hb dX8_storesAt_143 (by decide) (fun c23 => ?_) (fun c23 => ?_)
        · exact absurd c23 (by decide)
        refine lv_sipush (v := 1000) hx hb dX8_storesAt_146 (by decide) ?_
        refine lv_bipush (v := 100) hx hb dX8_storesAt_149 (by decide) ?_
        refine lv_iload hx hb dX8_storesAt_151 (lv_at hl 1 rfl) ?_
        refine lv_imul hx hb dX8_storesAt_153 ?_
        refine lv_iadd hx hb dX8_storesAt_154 ?_
        refine lv_aload_n hx hb dX8_storesAt_155 rfl (lv_at hl 5 rfl) ?_
        refine lv_iload_n hx hb dX8_storesAt_156 rfl (lv_at hl 7 rfl) ?_
        obtain ⟨r24, hr24, h⟩ := g_bind h
        refine g_callVi (n := 1) (As := [.int a2]) (rest := [.int ((1000 : Int32) + ((100 : Int32) * r14)), .int (qM_bytePlace r12 r13), .ref (gad X 1)]) C P (kX8_placeOf l X hJ r15 a2 _ hr24) wd_225 wd_226 wd_227 wd_5 wd_228 rfl rfl kdX8_placeOf ⟨Nat.le_of_ble_eq_true rfl, Nat.le_of_ble_eq_true rfl⟩ ml0 rfl rfl rfl hl.1 (Nat.le_of_ble_eq_true rfl) dX8_storesAt_157 (fun H locs P => ?_)
        refine lv_iadd hx hb dX8_storesAt_160 ?_
        refine lv_goto (tgt := 170) hx hb dX8_storesAt_161 (by decide) ?_
        obtain ⟨b25, h⟩ := g_ob h
        refine g_iast (j := (qM_bytePlace r12 r13).toNatClampNeg) C P ml1 b25 rfl dX8_storesAt_170 (fun H locs P => ?_)
        refine lv_iload_n hx hb dX8_storesAt_171 rfl (lv_at hl 8 rfl) ?_
        refine lv_iconst (v := 2) hx hb dX8_storesAt_172 (by decide) ?_
        refine lv_icmp_ne (tgt := 206) hx hb dX8_storesAt_173 (by decide) (fun c26 => ?_) (fun c26 => ?_)
        · have h := g_ifn c26 h
          refine lv_iload hx hb dX8_storesAt_206 (lv_at hl 2 rfl) ?_
          have h := Option.some.inj h
          exact g_iret C P (g_fst h) (g_snd h) dX8_storesAt_208
        have h := g_ifp c26 h
        refine lv_aload_n hx hb dX8_storesAt_176 rfl (lv_at hl 5 rfl) ?_
        refine g_getR C P ml0 rfl inlX8 0 (by decide) wd_95 rfl dX8_storesAt_177 ?_
        refine lv_iload hx hb dX8_storesAt_180 (lv_at hl 3 rfl) ?_
        refine lv_iload hx hb dX8_storesAt_182 (lv_at hl 2 rfl) ?_
        refine lv_iconst (v := 1) hx hb dX8_storesAt_184 (by decide) ?_
        refine lv_iadd hx hb dX8_storesAt_185 ?_
        refine g_callSi (n := 2) (As := [.int r12, .int (r13 + (1 : Int32))]) (rest := [.ref (gad X 1)]) C P (kX8_bytePlace l X hJ (sM r15 1 (qM_bytePlace r12 r13).toNatClampNeg (((1000 : Int32) + ((100 : Int32) * r14)) + r24)) r12 (r13 + (1 : Int32)) _ rfl) wd_270 wd_271 wd_5 wd_272 rfl rfl kdX8_bytePlace.2 ⟨Nat.le_of_ble_eq_true rfl, Nat.le_of_ble_eq_true rfl⟩ rfl rfl hl.1 (Nat.le_of_ble_eq_true rfl) dX8_storesAt_186 (fun H locs P => ?_)
        refine lv_iload hx hb dX8_storesAt_189 (lv_at hl 0 rfl) ?_
        refine lv_if_eq (tgt := 200) hx hb dX8_storesAt_191 (by decide) (fun c27 => ?_) (fun c27 => ?_)
        · exact absurd c27 (by decide)
        refine lv_sipush (v := 999) hx hb dX8_storesAt_194 (by decide) ?_
        refine lv_goto (tgt := 205) hx hb dX8_storesAt_197 (by decide) ?_
        obtain ⟨b28, h⟩ := g_ob h
        refine g_iast (j := (qM_bytePlace r12 (r13 + (1 : Int32))).toNatClampNeg) C P ml1 b28 rfl dX8_storesAt_205 (fun H locs P => ?_)
        refine lv_iload hx hb dX8_storesAt_206 (lv_at hl 2 rfl) ?_
        have h := Option.some.inj h
        exact g_iret C P (g_fst h) (g_snd h) dX8_storesAt_208
      have h := g_ifp c10 h
      refine lv_iload_n hx hb dX8_storesAt_60 rfl (lv_at hl 4 rfl) ?_
      refine lv_iconst (v := 1) hx hb dX8_storesAt_61 (by decide) ?_
      refine lv_icmp_ne (tgt := 70) hx hb dX8_storesAt_62 (by decide) (fun c29 => ?_) (fun c29 => ?_)
      · have h := g_ifn c29 h
        refine lv_iconst (v := 0) hx hb dX8_storesAt_70 (by decide) ?_
        refine lv_istore (lv' := [(4, .int (0 : Int32)), (0, .ref (gad X 0)), (1, .int a1), (2, .int a2), (3, .int a3)]) hx hb dX8_storesAt_71 hl (by decide) rfl (fun ls hl => ?_)
        refine lv_iload hx hb dX8_storesAt_73 (lv_at hl 0 rfl) ?_
        refine lv_if_eq (tgt := 84) hx hb dX8_storesAt_75 (by decide) (fun c30 => ?_) (fun c30 => ?_)
        rotate_left
        · exact absurd (by decide) c30
        refine lv_aload_n hx hb dX8_storesAt_84 rfl (lv_at hl 1 rfl) ?_
        refine lv_iload_n hx hb dX8_storesAt_85 rfl (lv_at hl 2 rfl) ?_
        obtain ⟨r31, hr31, h⟩ := g_bind h
        refine g_callVi (n := 1) (As := [.int a1]) (rest := []) C P (kX8_valueOf l X hJ σ a1 _ hr31) wd_217 wd_218 wd_219 wd_5 wd_220 rfl rfl kdX8_valueOf ⟨Nat.le_of_ble_eq_true rfl, Nat.le_of_ble_eq_true rfl⟩ ml0 rfl rfl rfl hl.1 (Nat.le_of_ble_eq_true rfl) dX8_storesAt_86 (fun H locs P => ?_)
        refine lv_istore (lv' := [(5, .int r31), (4, .int (0 : Int32)), (0, .ref (gad X 0)), (1, .int a1), (2, .int a2), (3, .int a3)]) hx hb dX8_storesAt_89 hl (by decide) rfl (fun ls hl => ?_)
        refine lv_aload_n hx hb dX8_storesAt_91 rfl (lv_at hl 2 rfl) ?_
        refine lv_iload_n hx hb dX8_storesAt_92 rfl (lv_at hl 3 rfl) ?_
        obtain ⟨r32, hr32, h⟩ := g_bind h
        refine g_callVi (n := 1) (As := [.int a1]) (rest := []) C P (kX8_placeOf l X hJ σ a1 _ hr32) wd_225 wd_226 wd_227 wd_5 wd_228 rfl rfl kdX8_placeOf ⟨Nat.le_of_ble_eq_true rfl, Nat.le_of_ble_eq_true rfl⟩ ml0 rfl rfl rfl hl.1 (Nat.le_of_ble_eq_true rfl) dX8_storesAt_93 (fun H locs P => ?_)
        refine lv_istore (lv' := [(6, .int r32), (5, .int r31), (4, .int (0 : Int32)), (0, .ref (gad X 0)), (1, .int a1), (2, .int a2), (3, .int a3)]) hx hb dX8_storesAt_96 hl (by decide) rfl (fun ls hl => ?_)
        refine lv_aload_n hx hb dX8_storesAt_98 rfl (lv_at hl 3 rfl) ?_
        refine lv_iload_n hx hb dX8_storesAt_99 rfl (lv_at hl 5 rfl) ?_
        obtain ⟨r33, hr33, h⟩ := g_bind h
        refine g_callVi (n := 1) (As := [.int a2]) (rest := []) C P (kX8_valueOf l X hJ σ a2 _ hr33) wd_217 wd_218 wd_219 wd_5 wd_220 rfl rfl kdX8_valueOf ⟨Nat.le_of_ble_eq_true rfl, Nat.le_of_ble_eq_true rfl⟩ ml0 rfl rfl rfl hl.1 (Nat.le_of_ble_eq_true rfl) dX8_storesAt_100 (fun H locs P => ?_)
        refine lv_istore (lv' := [(7, .int r33), (6, .int r32), (5, .int r31), (4, .int (0 : Int32)), (0, .ref (gad X 0)), (1, .int a1), (2, .int a2), (3, .int a3)]) hx hb dX8_storesAt_103 hl (by decide) rfl (fun ls hl => ?_)
        refine lv_aload_n hx hb dX8_storesAt_105 rfl (lv_at hl 4 rfl) ?_
        refine lv_iload hx hb dX8_storesAt_106 (lv_at hl 2 rfl) ?_
        refine lv_iload hx hb dX8_storesAt_108 (lv_at hl 1 rfl) ?_
        refine lv_iload_n hx hb dX8_storesAt_110 rfl (lv_at hl 7 rfl) ?_
        obtain ⟨r34, hr34, h⟩ := g_bind h
        refine g_callVv (n := 3) (As := [.int r31, .int r32, .int a3]) (rest := []) C P (kX8_cuts l X hJ σ r31 r32 a3 _ hr34) wd_266 wd_267 wd_268 wd_5 wd_269 rfl rfl kdX8_cuts ⟨Nat.le_of_ble_eq_true rfl, Nat.le_of_ble_eq_true rfl⟩ ml0 rfl rfl rfl hl.1 (Nat.le_of_ble_eq_true rfl) dX8_storesAt_111 (fun H locs P => ?_)
        refine lv_aload_n hx hb dX8_storesAt_114 rfl (lv_at hl 4 rfl) ?_
        refine lv_iload_n hx hb dX8_storesAt_115 rfl (lv_at hl 6 rfl) ?_
        obtain ⟨r35, hr35, h⟩ := g_bind h
        refine g_callVi (n := 1) (As := [.int a2]) (rest := []) C P (kX8_kindOf l X hJ r34 a2 _ hr35) wd_213 wd_214 wd_215 wd_5 wd_216 rfl rfl kdX8_kindOf ⟨Nat.le_of_ble_eq_true rfl, Nat.le_of_ble_eq_true rfl⟩ ml0 rfl rfl rfl hl.1 (Nat.le_of_ble_eq_true rfl) dX8_storesAt_116 (fun H locs P => ?_)
        refine lv_iconst (v := 2) hx hb dX8_storesAt_119 (by decide) ?_
        refine lv_icmp_ne (tgt := 127) hx hb dX8_storesAt_120 (by decide) (fun c36 => ?_) (fun c36 => ?_)
        · have h := g_ifn c36 h
          refine lv_iconst (v := 0) hx hb dX8_storesAt_127 (by decide) ?_
          refine lv_istore (lv' := [(8, .int (0 : Int32)), (7, .int r33), (6, .int r32), (5, .int r31), (4, .int (0 : Int32)), (0, .ref (gad X 0)), (1, .int a1), (2, .int a2), (3, .int a3)]) hx hb dX8_storesAt_128 hl (by decide) rfl (fun ls hl => ?_)
          refine lv_aload_n hx hb dX8_storesAt_130 rfl (lv_at hl 5 rfl) ?_
          refine g_getR C P ml0 rfl inlX8 0 (by decide) wd_95 rfl dX8_storesAt_131 ?_
          refine lv_iload hx hb dX8_storesAt_134 (lv_at hl 3 rfl) ?_
          refine lv_iload hx hb dX8_storesAt_136 (lv_at hl 2 rfl) ?_
          refine g_callSi (n := 2) (As := [.int r31, .int r32]) (rest := [.ref (gad X 1)]) C P (kX8_bytePlace l X hJ r34 r31 r32 _ rfl) wd_270 wd_271 wd_5 wd_272 rfl rfl kdX8_bytePlace.2 ⟨Nat.le_of_ble_eq_true rfl, Nat.le_of_ble_eq_true rfl⟩ rfl rfl hl.1 (Nat.le_of_ble_eq_true rfl) dX8_storesAt_138 (fun H locs P => ?_)
          refine lv_iload hx hb dX8_storesAt_141 (lv_at hl 0 rfl) ?_
          refine lv_if_eq (tgt := 164) hx hb dX8_storesAt_143 (by decide) (fun c37 => ?_) (fun c37 => ?_)
          rotate_left
          · exact absurd (by decide) c37
          refine lv_iload hx hb dX8_storesAt_164 (lv_at hl 1 rfl) ?_
          refine lv_sipush (v := 255) hx hb dX8_storesAt_166 (by decide) ?_
          refine lv_iand hx hb dX8_storesAt_169 ?_
          obtain ⟨b38, h⟩ := g_ob h
          refine g_iast (j := (qM_bytePlace r31 r32).toNatClampNeg) C P ml1 b38 rfl dX8_storesAt_170 (fun H locs P => ?_)
          refine lv_iload_n hx hb dX8_storesAt_171 rfl (lv_at hl 8 rfl) ?_
          refine lv_iconst (v := 2) hx hb dX8_storesAt_172 (by decide) ?_
          refine lv_icmp_ne (tgt := 206) hx hb dX8_storesAt_173 (by decide) (fun c39 => ?_) (fun c39 => ?_)
          · have h := g_ifn c39 h
            refine lv_iload hx hb dX8_storesAt_206 (lv_at hl 2 rfl) ?_
            have h := Option.some.inj h
            exact g_iret C P (g_fst h) (g_snd h) dX8_storesAt_208
          have h := g_ifp c39 h
          refine lv_aload_n hx hb dX8_storesAt_176 rfl (lv_at hl 5 rfl) ?_
          refine g_getR C P ml0 rfl inlX8 0 (by decide) wd_95 rfl dX8_storesAt_177 ?_
          refine lv_iload hx hb dX8_storesAt_180 (lv_at hl 3 rfl) ?_
          refine lv_iload hx hb dX8_storesAt_182 (lv_at hl 2 rfl) ?_
          refine lv_iconst (v := 1) hx hb dX8_storesAt_184 (by decide) ?_
          refine lv_iadd hx hb dX8_storesAt_185 ?_
          refine g_callSi (n := 2) (As := [.int r31, .int (r32 + (1 : Int32))]) (rest := [.ref (gad X 1)]) C P (kX8_bytePlace l X hJ (sM r34 1 (qM_bytePlace r31 r32).toNatClampNeg (r33 &&& (255 : Int32))) r31 (r32 + (1 : Int32)) _ rfl) wd_270 wd_271 wd_5 wd_272 rfl rfl kdX8_bytePlace.2 ⟨Nat.le_of_ble_eq_true rfl, Nat.le_of_ble_eq_true rfl⟩ rfl rfl hl.1 (Nat.le_of_ble_eq_true rfl) dX8_storesAt_186 (fun H locs P => ?_)
          refine lv_iload hx hb dX8_storesAt_189 (lv_at hl 0 rfl) ?_
          refine lv_if_eq (tgt := 200) hx hb dX8_storesAt_191 (by decide) (fun c40 => ?_) (fun c40 => ?_)
          rotate_left
          · exact absurd (by decide) c40
          refine lv_iload hx hb dX8_storesAt_200 (lv_at hl 1 rfl) ?_
          refine lv_bipush (v := 8) hx hb dX8_storesAt_202 (by decide) ?_
          refine lv_ishr hx hb dX8_storesAt_204 ?_
          obtain ⟨b41, h⟩ := g_ob h
          refine g_iast (j := (qM_bytePlace r31 (r32 + (1 : Int32))).toNatClampNeg) C P ml1 b41 rfl dX8_storesAt_205 (fun H locs P => ?_)
          refine lv_iload hx hb dX8_storesAt_206 (lv_at hl 2 rfl) ?_
          have h := Option.some.inj h
          exact g_iret C P (g_fst h) (g_snd h) dX8_storesAt_208
        have h := g_ifp c36 h
        refine lv_iconst (v := 1) hx hb dX8_storesAt_123 (by decide) ?_
        refine lv_goto (tgt := 128) hx hb dX8_storesAt_124 (by decide) ?_
        refine lv_istore (lv' := [(8, .int (1 : Int32)), (7, .int r33), (6, .int r32), (5, .int r31), (4, .int (0 : Int32)), (0, .ref (gad X 0)), (1, .int a1), (2, .int a2), (3, .int a3)]) hx hb dX8_storesAt_128 hl (by decide) rfl (fun ls hl => ?_)
        refine lv_aload_n hx hb dX8_storesAt_130 rfl (lv_at hl 5 rfl) ?_
        refine g_getR C P ml0 rfl inlX8 0 (by decide) wd_95 rfl dX8_storesAt_131 ?_
        refine lv_iload hx hb dX8_storesAt_134 (lv_at hl 3 rfl) ?_
        refine lv_iload hx hb dX8_storesAt_136 (lv_at hl 2 rfl) ?_
        refine g_callSi (n := 2) (As := [.int r31, .int r32]) (rest := [.ref (gad X 1)]) C P (kX8_bytePlace l X hJ r34 r31 r32 _ rfl) wd_270 wd_271 wd_5 wd_272 rfl rfl kdX8_bytePlace.2 ⟨Nat.le_of_ble_eq_true rfl, Nat.le_of_ble_eq_true rfl⟩ rfl rfl hl.1 (Nat.le_of_ble_eq_true rfl) dX8_storesAt_138 (fun H locs P => ?_)
        refine lv_iload hx hb dX8_storesAt_141 (lv_at hl 0 rfl) ?_
        refine lv_if_eq (tgt := 164) hx hb dX8_storesAt_143 (by decide) (fun c42 => ?_) (fun c42 => ?_)
        · exact absurd c42 (by decide)
        refine lv_sipush (v := 1000) hx hb dX8_storesAt_146 (by decide) ?_
        refine lv_bipush (v := 100) hx hb dX8_storesAt_149 (by decide) ?_
        refine lv_iload hx hb dX8_storesAt_151 (lv_at hl 1 rfl) ?_
        refine lv_imul hx hb dX8_storesAt_153 ?_
        refine lv_iadd hx hb dX8_storesAt_154 ?_
        refine lv_aload_n hx hb dX8_storesAt_155 rfl (lv_at hl 5 rfl) ?_
        refine lv_iload_n hx hb dX8_storesAt_156 rfl (lv_at hl 7 rfl) ?_
        obtain ⟨r43, hr43, h⟩ := g_bind h
        refine g_callVi (n := 1) (As := [.int a2]) (rest := [.int ((1000 : Int32) + ((100 : Int32) * r33)), .int (qM_bytePlace r31 r32), .ref (gad X 1)]) C P (kX8_placeOf l X hJ r34 a2 _ hr43) wd_225 wd_226 wd_227 wd_5 wd_228 rfl rfl kdX8_placeOf ⟨Nat.le_of_ble_eq_true rfl, Nat.le_of_ble_eq_true rfl⟩ ml0 rfl rfl rfl hl.1 (Nat.le_of_ble_eq_true rfl) dX8_storesAt_157 (fun H locs P => ?_)
        refine lv_iadd hx hb dX8_storesAt_160 ?_
        refine lv_goto (tgt := 170) hx hb dX8_storesAt_161 (by decide) ?_
        obtain ⟨b44, h⟩ := g_ob h
        refine g_iast (j := (qM_bytePlace r31 r32).toNatClampNeg) C P ml1 b44 rfl dX8_storesAt_170 (fun H locs P => ?_)
        refine lv_iload_n hx hb dX8_storesAt_171 rfl (lv_at hl 8 rfl) ?_
        refine lv_iconst (v := 2) hx hb dX8_storesAt_172 (by decide) ?_
        refine lv_icmp_ne (tgt := 206) hx hb dX8_storesAt_173 (by decide) (fun c45 => ?_) (fun c45 => ?_)
        · have h := g_ifn c45 h
          refine lv_iload hx hb dX8_storesAt_206 (lv_at hl 2 rfl) ?_
          have h := Option.some.inj h
          exact g_iret C P (g_fst h) (g_snd h) dX8_storesAt_208
        have h := g_ifp c45 h
        refine lv_aload_n hx hb dX8_storesAt_176 rfl (lv_at hl 5 rfl) ?_
        refine g_getR C P ml0 rfl inlX8 0 (by decide) wd_95 rfl dX8_storesAt_177 ?_
        refine lv_iload hx hb dX8_storesAt_180 (lv_at hl 3 rfl) ?_
        refine lv_iload hx hb dX8_storesAt_182 (lv_at hl 2 rfl) ?_
        refine lv_iconst (v := 1) hx hb dX8_storesAt_184 (by decide) ?_
        refine lv_iadd hx hb dX8_storesAt_185 ?_
        refine g_callSi (n := 2) (As := [.int r31, .int (r32 + (1 : Int32))]) (rest := [.ref (gad X 1)]) C P (kX8_bytePlace l X hJ (sM r34 1 (qM_bytePlace r31 r32).toNatClampNeg (((1000 : Int32) + ((100 : Int32) * r33)) + r43)) r31 (r32 + (1 : Int32)) _ rfl) wd_270 wd_271 wd_5 wd_272 rfl rfl kdX8_bytePlace.2 ⟨Nat.le_of_ble_eq_true rfl, Nat.le_of_ble_eq_true rfl⟩ rfl rfl hl.1 (Nat.le_of_ble_eq_true rfl) dX8_storesAt_186 (fun H locs P => ?_)
        refine lv_iload hx hb dX8_storesAt_189 (lv_at hl 0 rfl) ?_
        refine lv_if_eq (tgt := 200) hx hb dX8_storesAt_191 (by decide) (fun c46 => ?_) (fun c46 => ?_)
        · exact absurd c46 (by decide)
        refine lv_sipush (v := 999) hx hb dX8_storesAt_194 (by decide) ?_
        refine lv_goto (tgt := 205) hx hb dX8_storesAt_197 (by decide) ?_
        obtain ⟨b47, h⟩ := g_ob h
        refine g_iast (j := (qM_bytePlace r31 (r32 + (1 : Int32))).toNatClampNeg) C P ml1 b47 rfl dX8_storesAt_205 (fun H locs P => ?_)
        refine lv_iload hx hb dX8_storesAt_206 (lv_at hl 2 rfl) ?_
        have h := Option.some.inj h
        exact g_iret C P (g_fst h) (g_snd h) dX8_storesAt_208
      have h := g_ifp c29 h
      refine lv_bipush (v := 7) hx hb dX8_storesAt_65 (by decide) ?_
      refine lv_goto (tgt := 71) hx hb dX8_storesAt_67 (by decide) ?_
      refine lv_istore (lv' := [(4, .int (7 : Int32)), (0, .ref (gad X 0)), (1, .int a1), (2, .int a2), (3, .int a3)]) hx hb dX8_storesAt_71 hl (by decide) rfl (fun ls hl => ?_)
      refine lv_iload hx hb dX8_storesAt_73 (lv_at hl 0 rfl) ?_
      refine lv_if_eq (tgt := 84) hx hb dX8_storesAt_75 (by decide) (fun c48 => ?_) (fun c48 => ?_)
      · exact absurd c48 (by decide)
      refine lv_iload hx hb dX8_storesAt_78 (lv_at hl 0 rfl) ?_
      refine g_callSi (n := 1) (As := [.int (7 : Int32)]) (rest := []) C P (kX8_undefinedAs l X hJ σ (7 : Int32) _ rfl) wd_233 wd_234 wd_5 wd_235 rfl rfl kdX8_undefinedAs.2 ⟨Nat.le_of_ble_eq_true rfl, Nat.le_of_ble_eq_true rfl⟩ rfl rfl hl.1 (Nat.le_of_ble_eq_true rfl) dX8_storesAt_80 (fun H locs P => ?_)
      have h := Option.some.inj h
      exact g_iret C P (g_fst h) (g_snd h) dX8_storesAt_83
    have h := g_ifp c8 h
    refine lv_iconst (v := 1) hx hb dX8_storesAt_47 (by decide) ?_
    refine lv_goto (tgt := 71) hx hb dX8_storesAt_48 (by decide) ?_
    refine lv_istore (lv' := [(4, .int (1 : Int32)), (0, .ref (gad X 0)), (1, .int a1), (2, .int a2), (3, .int a3)]) hx hb dX8_storesAt_71 hl (by decide) rfl (fun ls hl => ?_)
    refine lv_iload hx hb dX8_storesAt_73 (lv_at hl 0 rfl) ?_
    refine lv_if_eq (tgt := 84) hx hb dX8_storesAt_75 (by decide) (fun c49 => ?_) (fun c49 => ?_)
    · exact absurd c49 (by decide)
    refine lv_iload hx hb dX8_storesAt_78 (lv_at hl 0 rfl) ?_
    refine g_callSi (n := 1) (As := [.int (1 : Int32)]) (rest := []) C P (kX8_undefinedAs l X hJ σ (1 : Int32) _ rfl) wd_233 wd_234 wd_5 wd_235 rfl rfl kdX8_undefinedAs.2 ⟨Nat.le_of_ble_eq_true rfl, Nat.le_of_ble_eq_true rfl⟩ rfl rfl hl.1 (Nat.le_of_ble_eq_true rfl) dX8_storesAt_80 (fun H locs P => ?_)
    have h := Option.some.inj h
    exact g_iret C P (g_fst h) (g_snd h) dX8_storesAt_83
  have h := g_ifp c3 h
  refine lv_bipush (v := -2) hx hb dX8_storesAt_23 (by decide) ?_
  have h := Option.some.inj h
  exact g_iret C P (g_fst h) (g_snd h) dX8_storesAt_25
abbrev rmX8_loadsFrom : Room := { frames := 4, cells := 0, slots := 0, locals := 86 }
theorem kdX8_loadsFrom : yX8_loadsFrom.cls = RX8 ∧ yX8_loadsFrom.cls ≠ "java/lang/invoke/MethodHandle" ∧ yX8_loadsFrom.cls ≠ "java/lang/invoke/VarHandle" ∧ (parseMethodDescriptor yX8_loadsFrom.desc).map (fun d => d.parameters.length) = some 3 := by decide +kernel
set_option maxHeartbeats 4000000 in
set_option maxRecDepth 100000 in
theorem kX8_loadsFrom (l : Launch) (X : gXt) (hJ : gJ X mL) (σ : gS) (a1 : Int32) (a2 : Int32) (a3 : Int32) (q : Int32 × gS) (h : qM_loadsFrom σ a1 a2 a3 = some q) : gMi l yX8_loadsFrom (gws yX8_loadsFrom cX8_loadsFrom 7 (some .int)) rmX8_loadsFrom X mL [.ref (gad X 0), .int a1, .int a2, .int a3] σ q.1 q.2 := by
  refine g_enter (cc := cX8_loadsFrom) (nL := 7) (ret := (some .int)) hJ (plainFor_of_name (by decide)) (Nat.le_of_ble_eq_true rfl) ?_
  intro p e s m below meth c ls C P hl
  have C : gC p s m _ meth c RX8 cX8_loadsFrom 7 (some .int) X mL := C
  have hx := C.1
  have hb := C.2.1
  have hK := C.2.2.2.2.2.2.2.1
  have hts := C.2.2.2.2.1
  have hl : lv_has ls 7 [(0, .ref (gad X 0)), (1, .int a1), (2, .int a2), (3, .int a3)] := hl
  unfold qM_loadsFrom at h
  refine lv_iload_n hx hb dX8_loadsFrom_0 rfl (lv_at hl 1 rfl) ?_
  refine g_callSi (n := 1) (As := [.int a1]) (rest := []) C P (kX8_isRegister l X hJ σ a1 _ rfl) wd_192 wd_193 wd_5 wd_194 rfl rfl kdX8_isRegister.2 ⟨Nat.le_of_ble_eq_true rfl, Nat.le_of_ble_eq_true rfl⟩ rfl rfl hl.1 (Nat.le_of_ble_eq_true rfl) dX8_loadsFrom_1 (fun H locs P => ?_)
  refine lv_if_eq (tgt := 23) hx hb dX8_loadsFrom_4 (by decide) (fun c1 => ?_) (fun c1 => ?_)
  · have h := g_ifp c1 h
    refine lv_bipush (v := -2) hx hb dX8_loadsFrom_23 (by decide) ?_
    have h := Option.some.inj h
    exact g_iret C P (g_fst h) (g_snd h) dX8_loadsFrom_25
  have h := g_ifn c1 h
  refine lv_iload_n hx hb dX8_loadsFrom_7 rfl (lv_at hl 2 rfl) ?_
  refine g_callSi (n := 1) (As := [.int a2]) (rest := []) C P (kX8_isRegister l X hJ σ a2 _ rfl) wd_192 wd_193 wd_5 wd_194 rfl rfl kdX8_isRegister.2 ⟨Nat.le_of_ble_eq_true rfl, Nat.le_of_ble_eq_true rfl⟩ rfl rfl hl.1 (Nat.le_of_ble_eq_true rfl) dX8_loadsFrom_8 (fun H locs P => ?_)
  refine lv_if_eq (tgt := 23) hx hb dX8_loadsFrom_11 (by decide) (fun c2 => ?_) (fun c2 => ?_)
  · have h := g_ifp c2 h
    refine lv_bipush (v := -2) hx hb dX8_loadsFrom_23 (by decide) ?_
    have h := Option.some.inj h
    exact g_iret C P (g_fst h) (g_snd h) dX8_loadsFrom_25
  have h := g_ifn c2 h
  refine lv_iload_n hx hb dX8_loadsFrom_14 rfl (lv_at hl 3 rfl) ?_
  refine lv_iconst (v := 1) hx hb dX8_loadsFrom_15 (by decide) ?_
  refine lv_iconst (v := 2) hx hb dX8_loadsFrom_16 (by decide) ?_
  refine g_callSi (n := 3) (As := [.int a3, .int (1 : Int32), .int (2 : Int32)]) (rest := []) C P (kX8_in l X hJ σ a3 (1 : Int32) (2 : Int32) _ rfl) wd_195 wd_196 wd_5 wd_197 rfl rfl kdX8_in.2 ⟨Nat.le_of_ble_eq_true rfl, Nat.le_of_ble_eq_true rfl⟩ rfl rfl hl.1 (Nat.le_of_ble_eq_true rfl) dX8_loadsFrom_17 (fun H locs P => ?_)
  refine lv_if_ne (tgt := 26) hx hb dX8_loadsFrom_20 (by decide) (fun c3 => ?_) (fun c3 => ?_)
  · have h := g_ifn c3 h
    refine lv_aload_n hx hb dX8_loadsFrom_26 rfl (lv_at hl 0 rfl) ?_
    refine lv_iload_n hx hb dX8_loadsFrom_27 rfl (lv_at hl 2 rfl) ?_
    refine lv_iload_n hx hb dX8_loadsFrom_28 rfl (lv_at hl 3 rfl) ?_
    obtain ⟨r4, hr4, h⟩ := g_bind h
    refine g_callVi (n := 2) (As := [.int a2, .int a3]) (rest := []) C P (kX8_notGoodFor l X hJ σ a2 a3 _ hr4) wd_277 wd_278 wd_279 wd_5 wd_280 rfl rfl kdX8_notGoodFor ⟨Nat.le_of_ble_eq_true rfl, Nat.le_of_ble_eq_true rfl⟩ ml0 rfl rfl rfl hl.1 (Nat.le_of_ble_eq_true rfl) dX8_loadsFrom_29 (fun H locs P => ?_)
    refine lv_istore (lv' := [(4, .int r4), (0, .ref (gad X 0)), (1, .int a1), (2, .int a2), (3, .int a3)]) hx hb dX8_loadsFrom_32 hl (by decide) rfl (fun ls hl => ?_)
    refine lv_iload hx hb dX8_loadsFrom_34 (lv_at hl 0 rfl) ?_
    refine lv_if_eq (tgt := 45) hx hb dX8_loadsFrom_36 (by decide) (fun c5 => ?_) (fun c5 => ?_)
    · have h := g_ifp c5 h
      refine lv_aload_n hx hb dX8_loadsFrom_45 rfl (lv_at hl 1 rfl) ?_
      refine g_getR C P ml0 rfl inlX8 0 (by decide) wd_95 rfl dX8_loadsFrom_46 ?_
      refine lv_aload_n hx hb dX8_loadsFrom_49 rfl (lv_at hl 1 rfl) ?_
      refine lv_iload_n hx hb dX8_loadsFrom_50 rfl (lv_at hl 3 rfl) ?_
      obtain ⟨r6, hr6, h⟩ := g_bind h
      refine g_callVi (n := 1) (As := [.int a2]) (rest := [.ref (gad X 1)]) C P (kX8_valueOf l X hJ σ a2 _ hr6) wd_217 wd_218 wd_219 wd_5 wd_220 rfl rfl kdX8_valueOf ⟨Nat.le_of_ble_eq_true rfl, Nat.le_of_ble_eq_true rfl⟩ ml0 rfl rfl rfl hl.1 (Nat.le_of_ble_eq_true rfl) dX8_loadsFrom_51 (fun H locs P => ?_)
      refine lv_aload_n hx hb dX8_loadsFrom_54 rfl (lv_at hl 1 rfl) ?_
      refine lv_iload_n hx hb dX8_loadsFrom_55 rfl (lv_at hl 3 rfl) ?_
      obtain ⟨r7, hr7, h⟩ := g_bind h
      refine g_callVi (n := 1) (As := [.int a2]) (rest := [.int r6, .ref (gad X 1)]) C P (kX8_placeOf l X hJ σ a2 _ hr7) wd_225 wd_226 wd_227 wd_5 wd_228 rfl rfl kdX8_placeOf ⟨Nat.le_of_ble_eq_true rfl, Nat.le_of_ble_eq_true rfl⟩ ml0 rfl rfl rfl hl.1 (Nat.le_of_ble_eq_true rfl) dX8_loadsFrom_56 (fun H locs P => ?_)
      refine g_callSi (n := 2) (As := [.int r6, .int r7]) (rest := [.ref (gad X 1)]) C P (kX8_bytePlace l X hJ σ r6 r7 _ rfl) wd_270 wd_271 wd_5 wd_272 rfl rfl kdX8_bytePlace.2 ⟨Nat.le_of_ble_eq_true rfl, Nat.le_of_ble_eq_true rfl⟩ rfl rfl hl.1 (Nat.le_of_ble_eq_true rfl) dX8_loadsFrom_59 (fun H locs P => ?_)
      obtain ⟨b8, h⟩ := g_ob h
      refine g_iald (j := (qM_bytePlace r6 r7).toNatClampNeg) C P ml1 b8 rfl dX8_loadsFrom_62 ?_
      refine lv_istore (lv' := [(5, .int (gM σ 1 (qM_bytePlace r6 r7).toNatClampNeg)), (4, .int r4), (0, .ref (gad X 0)), (1, .int a1), (2, .int a2), (3, .int a3)]) hx hb dX8_loadsFrom_63 hl (by decide) rfl (fun ls hl => ?_)
      refine lv_iload_n hx hb dX8_loadsFrom_65 rfl (lv_at hl 5 rfl) ?_
      refine lv_iconst (v := 2) hx hb dX8_loadsFrom_66 (by decide) ?_
      refine lv_icmp_ne (tgt := 93) hx hb dX8_loadsFrom_67 (by decide) (fun c9 => ?_) (fun c9 => ?_)
      · have h := g_ifn c9 h
        refine lv_iconst (v := 0) hx hb dX8_loadsFrom_93 (by decide) ?_
        refine lv_istore (lv' := [(6, .int (0 : Int32)), (5, .int (gM σ 1 (qM_bytePlace r6 r7).toNatClampNeg)), (4, .int r4), (0, .ref (gad X 0)), (1, .int a1), (2, .int a2), (3, .int a3)]) hx hb dX8_loadsFrom_94 hl (by decide) rfl (fun ls hl => ?_)
        refine lv_iload_n hx hb dX8_loadsFrom_96 rfl (lv_at hl 6 rfl) ?_
        refine lv_iconst (v := 2) hx hb dX8_loadsFrom_97 (by decide) ?_
        refine lv_icmp_ne (tgt := 134) hx hb dX8_loadsFrom_98 (by decide) (fun c10 => ?_) (fun c10 => ?_)
        rotate_left
        · exact absurd c10 c9
        refine lv_iload hx hb dX8_loadsFrom_134 (lv_at hl 1 rfl) ?_
        refine lv_sipush (v := 999) hx hb dX8_loadsFrom_136 (by decide) ?_
        refine lv_icmp_ge (tgt := 150) hx hb dX8_loadsFrom_139 (by decide) (fun c11 => ?_) (fun c11 => ?_)
        · have h := g_ifp c11 h
          refine lv_bipush (v := 6) hx hb dX8_loadsFrom_150 (by decide) ?_
          refine g_callSi (n := 1) (As := [.int (6 : Int32)]) (rest := []) C P (kX8_undefinedAs l X hJ σ (6 : Int32) _ rfl) wd_233 wd_234 wd_5 wd_235 rfl rfl kdX8_undefinedAs.2 ⟨Nat.le_of_ble_eq_true rfl, Nat.le_of_ble_eq_true rfl⟩ rfl rfl hl.1 (Nat.le_of_ble_eq_true rfl) dX8_loadsFrom_152 (fun H locs P => ?_)
          have h := Option.some.inj h
          exact g_iret C P (g_fst h) (g_snd h) dX8_loadsFrom_155
        have h := g_ifn c11 h
        refine lv_iload hx hb dX8_loadsFrom_142 (lv_at hl 0 rfl) ?_
        refine lv_sipush (v := 999) hx hb dX8_loadsFrom_144 (by decide) ?_
        refine lv_icmp_lt (tgt := 156) hx hb dX8_loadsFrom_147 (by decide) (fun c12 => ?_) (fun c12 => ?_)
        rotate_left
        · exact absurd (by decide) c12
        refine lv_iload hx hb dX8_loadsFrom_156 (lv_at hl 1 rfl) ?_
        refine lv_iconst (v := -1) hx hb dX8_loadsFrom_158 (by decide) ?_
        refine lv_icmp_eq (tgt := 168) hx hb dX8_loadsFrom_159 (by decide) (fun c13 => ?_) (fun c13 => ?_)
        · have h := g_ifp c13 h
          refine lv_iconst (v := 1) hx hb dX8_loadsFrom_168 (by decide) ?_
          refine g_callSi (n := 1) (As := [.int (1 : Int32)]) (rest := []) C P (kX8_undefinedAs l X hJ σ (1 : Int32) _ rfl) wd_233 wd_234 wd_5 wd_235 rfl rfl kdX8_undefinedAs.2 ⟨Nat.le_of_ble_eq_true rfl, Nat.le_of_ble_eq_true rfl⟩ rfl rfl hl.1 (Nat.le_of_ble_eq_true rfl) dX8_loadsFrom_169 (fun H locs P => ?_)
          refine lv_goto (tgt := 191) hx hb dX8_loadsFrom_172 (by decide) ?_
          have h := Option.some.inj h
          exact g_iret C P (g_fst h) (g_snd h) dX8_loadsFrom_191
        have h := g_ifn c13 h
        refine lv_iload hx hb dX8_loadsFrom_162 (lv_at hl 0 rfl) ?_
        refine lv_iconst (v := -1) hx hb dX8_loadsFrom_164 (by decide) ?_
        refine lv_icmp_ne (tgt := 175) hx hb dX8_loadsFrom_165 (by decide) (fun c14 => ?_) (fun c14 => ?_)
        rotate_left
        · exact absurd c14 (by decide)
        refine lv_aload_n hx hb dX8_loadsFrom_175 rfl (lv_at hl 3 rfl) ?_
        refine lv_iload_n hx hb dX8_loadsFrom_176 rfl (lv_at hl 4 rfl) ?_
        refine lv_iconst (v := 1) hx hb dX8_loadsFrom_177 (by decide) ?_
        refine lv_iload hx hb dX8_loadsFrom_178 (lv_at hl 1 rfl) ?_
        refine lv_sipush (v := 256) hx hb dX8_loadsFrom_180 (by decide) ?_
        refine lv_iload hx hb dX8_loadsFrom_183 (lv_at hl 0 rfl) ?_
        refine lv_imul hx hb dX8_loadsFrom_185 ?_
        refine lv_iadd hx hb dX8_loadsFrom_186 ?_
        refine lv_iconst (v := 0) hx hb dX8_loadsFrom_187 (by decide) ?_
        obtain ⟨r15, hr15, h⟩ := g_bind h
        refine g_callVi (n := 4) (As := [.int a1, .int (1 : Int32), .int ((gM σ 1 (qM_bytePlace r6 r7).toNatClampNeg) + ((256 : Int32) * (0 : Int32))), .int (0 : Int32)]) (rest := []) C P (kX8_tells l X hJ σ a1 (1 : Int32) ((gM σ 1 (qM_bytePlace r6 r7).toNatClampNeg) + ((256 : Int32) * (0 : Int32))) (0 : Int32) _ hr15) wd_201 wd_202 wd_203 wd_5 wd_204 rfl rfl kdX8_tells ⟨Nat.le_of_ble_eq_true rfl, Nat.le_of_ble_eq_true rfl⟩ ml0 rfl rfl rfl hl.1 (Nat.le_of_ble_eq_true rfl) dX8_loadsFrom_188 (fun H locs P => ?_)
        have h := Option.some.inj h
        exact g_iret C P (g_fst h) (g_snd h) dX8_loadsFrom_191
      have h := g_ifp c9 h
      refine lv_aload_n hx hb dX8_loadsFrom_70 rfl (lv_at hl 2 rfl) ?_
      refine g_getR C P ml0 rfl inlX8 0 (by decide) wd_95 rfl dX8_loadsFrom_71 ?_
      refine lv_aload_n hx hb dX8_loadsFrom_74 rfl (lv_at hl 2 rfl) ?_
      refine lv_iload_n hx hb dX8_loadsFrom_75 rfl (lv_at hl 4 rfl) ?_
      obtain ⟨r16, hr16, h⟩ := g_bind h
      refine g_callVi (n := 1) (As := [.int a2]) (rest := [.ref (gad X 1)]) C P (kX8_valueOf l X hJ σ a2 _ hr16) wd_217 wd_218 wd_219 wd_5 wd_220 rfl rfl kdX8_valueOf ⟨Nat.le_of_ble_eq_true rfl, Nat.le_of_ble_eq_true rfl⟩ ml0 rfl rfl rfl hl.1 (Nat.le_of_ble_eq_true rfl) dX8_loadsFrom_76 (fun H locs P => ?_)
      refine lv_aload_n hx hb dX8_loadsFrom_79 rfl (lv_at hl 2 rfl) ?_
      refine lv_iload_n hx hb dX8_loadsFrom_80 rfl (lv_at hl 4 rfl) ?_
      obtain ⟨r17, hr17, h⟩ := g_bind h
      refine g_callVi (n := 1) (As := [.int a2]) (rest := [.int r16, .ref (gad X 1)]) C P (kX8_placeOf l X hJ σ a2 _ hr17) wd_225 wd_226 wd_227 wd_5 wd_228 rfl rfl kdX8_placeOf ⟨Nat.le_of_ble_eq_true rfl, Nat.le_of_ble_eq_true rfl⟩ ml0 rfl rfl rfl hl.1 (Nat.le_of_ble_eq_true rfl) dX8_loadsFrom_81 (fun H locs P => ?_)
      refine lv_iconst (v := 1) hx hb dX8_loadsFrom_84 (by decide) ?_
      refine lv_iadd hx hb dX8_loadsFrom_85 ?_
      refine g_callSi (n := 2) (As := [.int r16, .int (r17 + (1 : Int32))]) (rest := [.ref (gad X 1)]) C P (kX8_bytePlace l X hJ σ r16 (r17 + (1 : Int32)) _ rfl) wd_270 wd_271 wd_5 wd_272 rfl rfl kdX8_bytePlace.2 ⟨Nat.le_of_ble_eq_true rfl, Nat.le_of_ble_eq_true rfl⟩ rfl rfl hl.1 (Nat.le_of_ble_eq_true rfl) dX8_loadsFrom_86 (fun H locs P => ?_)
      obtain ⟨b18, h⟩ := g_ob h
      refine g_iald (j := (qM_bytePlace r16 (r17 + (1 : Int32))).toNatClampNeg) C P ml1 b18 rfl dX8_loadsFrom_89 ?_
      refine lv_goto (tgt := 94) hx hb dX8_loadsFrom_90 (by decide) ?_
      refine lv_istore (lv' := [(6, .int (gM σ 1 (qM_bytePlace r16 (r17 + (1 : Int32))).toNatClampNeg)), (5, .int (gM σ 1 (qM_bytePlace r6 r7).toNatClampNeg)), (4, .int r4), (0, .ref (gad X 0)), (1, .int a1), (2, .int a2), (3, .int a3)]) hx hb dX8_loadsFrom_94 hl (by decide) rfl (fun ls hl => ?_)
      refine lv_iload_n hx hb dX8_loadsFrom_96 rfl (lv_at hl 6 rfl) ?_
      refine lv_iconst (v := 2) hx hb dX8_loadsFrom_97 (by decide) ?_
      refine lv_icmp_ne (tgt := 134) hx hb dX8_loadsFrom_98 (by decide) (fun c19 => ?_) (fun c19 => ?_)
      · exact absurd c9 c19
      refine lv_iload hx hb dX8_loadsFrom_101 (lv_at hl 1 rfl) ?_
      refine lv_sipush (v := 1000) hx hb dX8_loadsFrom_103 (by decide) ?_
      refine lv_icmp_lt (tgt := 134) hx hb dX8_loadsFrom_106 (by decide) (fun c20 => ?_) (fun c20 => ?_)
      · have h := g_ifp c20 h
        refine lv_iload hx hb dX8_loadsFrom_134 (lv_at hl 1 rfl) ?_
        refine lv_sipush (v := 999) hx hb dX8_loadsFrom_136 (by decide) ?_
        refine lv_icmp_ge (tgt := 150) hx hb dX8_loadsFrom_139 (by decide) (fun c21 => ?_) (fun c21 => ?_)
        · have h := g_ifp c21 h
          refine lv_bipush (v := 6) hx hb dX8_loadsFrom_150 (by decide) ?_
          refine g_callSi (n := 1) (As := [.int (6 : Int32)]) (rest := []) C P (kX8_undefinedAs l X hJ σ (6 : Int32) _ rfl) wd_233 wd_234 wd_5 wd_235 rfl rfl kdX8_undefinedAs.2 ⟨Nat.le_of_ble_eq_true rfl, Nat.le_of_ble_eq_true rfl⟩ rfl rfl hl.1 (Nat.le_of_ble_eq_true rfl) dX8_loadsFrom_152 (fun H locs P => ?_)
          have h := Option.some.inj h
          exact g_iret C P (g_fst h) (g_snd h) dX8_loadsFrom_155
        have h := g_ifn c21 h
        refine lv_iload hx hb dX8_loadsFrom_142 (lv_at hl 0 rfl) ?_
        refine lv_sipush (v := 999) hx hb dX8_loadsFrom_144 (by decide) ?_
        refine lv_icmp_lt (tgt := 156) hx hb dX8_loadsFrom_147 (by decide) (fun c22 => ?_) (fun c22 => ?_)
        · have h := g_ifp c22 h
          refine lv_iload hx hb dX8_loadsFrom_156 (lv_at hl 1 rfl) ?_
          refine lv_iconst (v := -1) hx hb dX8_loadsFrom_158 (by decide) ?_
          refine lv_icmp_eq (tgt := 168) hx hb dX8_loadsFrom_159 (by decide) (fun c23 => ?_) (fun c23 => ?_)
          · have h := g_ifp c23 h
            refine lv_iconst (v := 1) hx hb dX8_loadsFrom_168 (by decide) ?_
            refine g_callSi (n := 1) (As := [.int (1 : Int32)]) (rest := []) C P (kX8_undefinedAs l X hJ σ (1 : Int32) _ rfl) wd_233 wd_234 wd_5 wd_235 rfl rfl kdX8_undefinedAs.2 ⟨Nat.le_of_ble_eq_true rfl, Nat.le_of_ble_eq_true rfl⟩ rfl rfl hl.1 (Nat.le_of_ble_eq_true rfl) dX8_loadsFrom_169 (fun H locs P => ?_)
            refine lv_goto (tgt := 191) hx hb dX8_loadsFrom_172 (by decide) ?_
            have h := Option.some.inj h
            exact g_iret C P (g_fst h) (g_snd h) dX8_loadsFrom_191
          have h := g_ifn c23 h
          refine lv_iload hx hb dX8_loadsFrom_162 (lv_at hl 0 rfl) ?_
          refine lv_iconst (v := -1) hx hb dX8_loadsFrom_164 (by decide) ?_
          refine lv_icmp_ne (tgt := 175) hx hb dX8_loadsFrom_165 (by decide) (fun c24 => ?_) (fun c24 => ?_)
          · have h := g_ifn c24 h
            refine lv_aload_n hx hb dX8_loadsFrom_175 rfl (lv_at hl 3 rfl) ?_
            refine lv_iload_n hx hb dX8_loadsFrom_176 rfl (lv_at hl 4 rfl) ?_
            refine lv_iconst (v := 1) hx hb dX8_loadsFrom_177 (by decide) ?_
            refine lv_iload hx hb dX8_loadsFrom_178 (lv_at hl 1 rfl) ?_
            refine lv_sipush (v := 256) hx hb dX8_loadsFrom_180 (by decide) ?_
            refine lv_iload hx hb dX8_loadsFrom_183 (lv_at hl 0 rfl) ?_
            refine lv_imul hx hb dX8_loadsFrom_185 ?_
            refine lv_iadd hx hb dX8_loadsFrom_186 ?_
            refine lv_iconst (v := 0) hx hb dX8_loadsFrom_187 (by decide) ?_
            obtain ⟨r25, hr25, h⟩ := g_bind h
            refine g_callVi (n := 4) (As := [.int a1, .int (1 : Int32), .int ((gM σ 1 (qM_bytePlace r6 r7).toNatClampNeg) + ((256 : Int32) * (gM σ 1 (qM_bytePlace r16 (r17 + (1 : Int32))).toNatClampNeg))), .int (0 : Int32)]) (rest := []) C P (kX8_tells l X hJ σ a1 (1 : Int32) ((gM σ 1 (qM_bytePlace r6 r7).toNatClampNeg) + ((256 : Int32) * (gM σ 1 (qM_bytePlace r16 (r17 + (1 : Int32))).toNatClampNeg))) (0 : Int32) _ hr25) wd_201 wd_202 wd_203 wd_5 wd_204 rfl rfl kdX8_tells ⟨Nat.le_of_ble_eq_true rfl, Nat.le_of_ble_eq_true rfl⟩ ml0 rfl rfl rfl hl.1 (Nat.le_of_ble_eq_true rfl) dX8_loadsFrom_188 (fun H locs P => ?_)
            have h := Option.some.inj h
            exact g_iret C P (g_fst h) (g_snd h) dX8_loadsFrom_191
          have h := g_ifp c24 h
          refine lv_iconst (v := 1) hx hb dX8_loadsFrom_168 (by decide) ?_
          refine g_callSi (n := 1) (As := [.int (1 : Int32)]) (rest := []) C P (kX8_undefinedAs l X hJ σ (1 : Int32) _ rfl) wd_233 wd_234 wd_5 wd_235 rfl rfl kdX8_undefinedAs.2 ⟨Nat.le_of_ble_eq_true rfl, Nat.le_of_ble_eq_true rfl⟩ rfl rfl hl.1 (Nat.le_of_ble_eq_true rfl) dX8_loadsFrom_169 (fun H locs P => ?_)
          refine lv_goto (tgt := 191) hx hb dX8_loadsFrom_172 (by decide) ?_
          have h := Option.some.inj h
          exact g_iret C P (g_fst h) (g_snd h) dX8_loadsFrom_191
        have h := g_ifn c22 h
        refine lv_bipush (v := 6) hx hb dX8_loadsFrom_150 (by decide) ?_
        refine g_callSi (n := 1) (As := [.int (6 : Int32)]) (rest := []) C P (kX8_undefinedAs l X hJ σ (6 : Int32) _ rfl) wd_233 wd_234 wd_5 wd_235 rfl rfl kdX8_undefinedAs.2 ⟨Nat.le_of_ble_eq_true rfl, Nat.le_of_ble_eq_true rfl⟩ rfl rfl hl.1 (Nat.le_of_ble_eq_true rfl) dX8_loadsFrom_152 (fun H locs P => ?_)
        have h := Option.some.inj h
        exact g_iret C P (g_fst h) (g_snd h) dX8_loadsFrom_155
      have h := g_ifn c20 h
      refine lv_aload_n hx hb dX8_loadsFrom_109 rfl (lv_at hl 3 rfl) ?_
      refine lv_iload_n hx hb dX8_loadsFrom_110 rfl (lv_at hl 4 rfl) ?_
      refine lv_iconst (v := 2) hx hb dX8_loadsFrom_111 (by decide) ?_
      refine lv_iload hx hb dX8_loadsFrom_112 (lv_at hl 1 rfl) ?_
      refine lv_sipush (v := 1000) hx hb dX8_loadsFrom_114 (by decide) ?_
      refine lv_isub hx hb dX8_loadsFrom_117 ?_
      refine lv_bipush (v := 100) hx hb dX8_loadsFrom_118 (by decide) ?_
      refine lv_idiv hx hb dX8_loadsFrom_120 (by decide) ?_
      refine lv_iload hx hb dX8_loadsFrom_121 (lv_at hl 1 rfl) ?_
      refine lv_sipush (v := 1000) hx hb dX8_loadsFrom_123 (by decide) ?_
      refine lv_isub hx hb dX8_loadsFrom_126 ?_
      refine lv_bipush (v := 100) hx hb dX8_loadsFrom_127 (by decide) ?_
      refine lv_irem hx hb dX8_loadsFrom_129 (by decide) ?_
      obtain ⟨r26, hr26, h⟩ := g_bind h
      refine g_callVi (n := 4) (As := [.int a1, .int (2 : Int32), .int (((gM σ 1 (qM_bytePlace r6 r7).toNatClampNeg) - (1000 : Int32)) / (100 : Int32)), .int (((gM σ 1 (qM_bytePlace r6 r7).toNatClampNeg) - (1000 : Int32)) - ((gM σ 1 (qM_bytePlace r6 r7).toNatClampNeg) - (1000 : Int32)) / (100 : Int32) * (100 : Int32))]) (rest := []) C P (kX8_tells l X hJ σ a1 (2 : Int32) (((gM σ 1 (qM_bytePlace r6 r7).toNatClampNeg) - (1000 : Int32)) / (100 : Int32)) (((gM σ 1 (qM_bytePlace r6 r7).toNatClampNeg) - (1000 : Int32)) - ((gM σ 1 (qM_bytePlace r6 r7).toNatClampNeg) - (1000 : Int32)) / (100 : Int32) * (100 : Int32)) _ hr26) wd_201 wd_202 wd_203 wd_5 wd_204 rfl rfl kdX8_tells ⟨Nat.le_of_ble_eq_true rfl, Nat.le_of_ble_eq_true rfl⟩ ml0 rfl rfl rfl hl.1 (Nat.le_of_ble_eq_true rfl) dX8_loadsFrom_130 (fun H locs P => ?_)
      have h := Option.some.inj h
      exact g_iret C P (g_fst h) (g_snd h) dX8_loadsFrom_133
    have h := g_ifn c5 h
    refine lv_iload hx hb dX8_loadsFrom_39 (lv_at hl 0 rfl) ?_
    refine g_callSi (n := 1) (As := [.int r4]) (rest := []) C P (kX8_undefinedAs l X hJ σ r4 _ rfl) wd_233 wd_234 wd_5 wd_235 rfl rfl kdX8_undefinedAs.2 ⟨Nat.le_of_ble_eq_true rfl, Nat.le_of_ble_eq_true rfl⟩ rfl rfl hl.1 (Nat.le_of_ble_eq_true rfl) dX8_loadsFrom_41 (fun H locs P => ?_)
    have h := Option.some.inj h
    exact g_iret C P (g_fst h) (g_snd h) dX8_loadsFrom_44
  have h := g_ifp c3 h
  refine lv_bipush (v := -2) hx hb dX8_loadsFrom_23 (by decide) ?_
  have h := Option.some.inj h
  exact g_iret C P (g_fst h) (g_snd h) dX8_loadsFrom_25
abbrev rmX8_comparesTo : Room := { frames := 2, cells := 0, slots := 0, locals := 42 }
theorem kdX8_comparesTo : yX8_comparesTo.cls = RX8 ∧ yX8_comparesTo.cls ≠ "java/lang/invoke/MethodHandle" ∧ yX8_comparesTo.cls ≠ "java/lang/invoke/VarHandle" ∧ (parseMethodDescriptor yX8_comparesTo.desc).map (fun d => d.parameters.length) = some 2 := by decide +kernel
set_option maxHeartbeats 4000000 in
set_option maxRecDepth 100000 in
theorem kX8_comparesTo (l : Launch) (X : gXt) (hJ : gJ X mL) (σ : gS) (a1 : Int32) (a2 : Int32) (q : Int32) (h : qM_comparesTo σ a1 a2 = some q) : gMi l yX8_comparesTo (gws yX8_comparesTo cX8_comparesTo 6 (some .int)) rmX8_comparesTo X mL [.ref (gad X 0), .int a1, .int a2] σ q σ := by
  refine g_enter (cc := cX8_comparesTo) (nL := 6) (ret := (some .int)) hJ (plainFor_of_name (by decide)) (Nat.le_of_ble_eq_true rfl) ?_
  intro p e s m below meth c ls C P hl
  have C : gC p s m _ meth c RX8 cX8_comparesTo 6 (some .int) X mL := C
  have hx := C.1
  have hb := C.2.1
  have hK := C.2.2.2.2.2.2.2.1
  have hts := C.2.2.2.2.1
  have hl : lv_has ls 6 [(0, .ref (gad X 0)), (1, .int a1), (2, .int a2)] := hl
  unfold qM_comparesTo at h
  refine lv_iload_n hx hb dX8_comparesTo_0 rfl (lv_at hl 1 rfl) ?_
  refine g_callSi (n := 1) (As := [.int a1]) (rest := []) C P (kX8_isRegister l X hJ σ a1 _ rfl) wd_192 wd_193 wd_5 wd_194 rfl rfl kdX8_isRegister.2 ⟨Nat.le_of_ble_eq_true rfl, Nat.le_of_ble_eq_true rfl⟩ rfl rfl hl.1 (Nat.le_of_ble_eq_true rfl) dX8_comparesTo_1 (fun H locs P => ?_)
  refine lv_if_eq (tgt := 14) hx hb dX8_comparesTo_4 (by decide) (fun c1 => ?_) (fun c1 => ?_)
  · have h := g_ifp c1 h
    refine lv_bipush (v := -2) hx hb dX8_comparesTo_14 (by decide) ?_
    have h := Option.some.inj h
    exact g_iret C P h rfl dX8_comparesTo_16
  have h := g_ifn c1 h
  refine lv_iload_n hx hb dX8_comparesTo_7 rfl (lv_at hl 2 rfl) ?_
  refine g_callSi (n := 1) (As := [.int a2]) (rest := []) C P (kX8_isRegister l X hJ σ a2 _ rfl) wd_192 wd_193 wd_5 wd_194 rfl rfl kdX8_isRegister.2 ⟨Nat.le_of_ble_eq_true rfl, Nat.le_of_ble_eq_true rfl⟩ rfl rfl hl.1 (Nat.le_of_ble_eq_true rfl) dX8_comparesTo_8 (fun H locs P => ?_)
  refine lv_if_ne (tgt := 17) hx hb dX8_comparesTo_11 (by decide) (fun c2 => ?_) (fun c2 => ?_)
  · have h := g_ifn c2 h
    refine lv_aload_n hx hb dX8_comparesTo_17 rfl (lv_at hl 0 rfl) ?_
    refine lv_iload_n hx hb dX8_comparesTo_18 rfl (lv_at hl 1 rfl) ?_
    obtain ⟨r3, hr3, h⟩ := g_bind h
    refine g_callVi (n := 1) (As := [.int a1]) (rest := []) C P (kX8_kindOf l X hJ σ a1 _ hr3) wd_213 wd_214 wd_215 wd_5 wd_216 rfl rfl kdX8_kindOf ⟨Nat.le_of_ble_eq_true rfl, Nat.le_of_ble_eq_true rfl⟩ ml0 rfl rfl rfl hl.1 (Nat.le_of_ble_eq_true rfl) dX8_comparesTo_19 (fun H locs P => ?_)
    refine lv_if_eq (tgt := 33) hx hb dX8_comparesTo_22 (by decide) (fun c4 => ?_) (fun c4 => ?_)
    · have h := g_ifp c4 h
      refine lv_iconst (v := 1) hx hb dX8_comparesTo_33 (by decide) ?_
      refine g_callSi (n := 1) (As := [.int (1 : Int32)]) (rest := []) C P (kX8_undefinedAs l X hJ σ (1 : Int32) _ rfl) wd_233 wd_234 wd_5 wd_235 rfl rfl kdX8_undefinedAs.2 ⟨Nat.le_of_ble_eq_true rfl, Nat.le_of_ble_eq_true rfl⟩ rfl rfl hl.1 (Nat.le_of_ble_eq_true rfl) dX8_comparesTo_34 (fun H locs P => ?_)
      have h := Option.some.inj h
      exact g_iret C P h rfl dX8_comparesTo_37
    have h := g_ifn c4 h
    refine lv_aload_n hx hb dX8_comparesTo_25 rfl (lv_at hl 0 rfl) ?_
    refine lv_iload_n hx hb dX8_comparesTo_26 rfl (lv_at hl 2 rfl) ?_
    obtain ⟨r5, hr5, h⟩ := g_bind h
    refine g_callVi (n := 1) (As := [.int a2]) (rest := []) C P (kX8_kindOf l X hJ σ a2 _ hr5) wd_213 wd_214 wd_215 wd_5 wd_216 rfl rfl kdX8_kindOf ⟨Nat.le_of_ble_eq_true rfl, Nat.le_of_ble_eq_true rfl⟩ ml0 rfl rfl rfl hl.1 (Nat.le_of_ble_eq_true rfl) dX8_comparesTo_27 (fun H locs P => ?_)
    refine lv_if_ne (tgt := 38) hx hb dX8_comparesTo_30 (by decide) (fun c6 => ?_) (fun c6 => ?_)
    · have h := g_ifn c6 h
      refine lv_aload_n hx hb dX8_comparesTo_38 rfl (lv_at hl 0 rfl) ?_
      refine lv_iload_n hx hb dX8_comparesTo_39 rfl (lv_at hl 1 rfl) ?_
      obtain ⟨r7, hr7, h⟩ := g_bind h
      refine g_callVi (n := 1) (As := [.int a1]) (rest := []) C P (kX8_kindOf l X hJ σ a1 _ hr7) wd_213 wd_214 wd_215 wd_5 wd_216 rfl rfl kdX8_kindOf ⟨Nat.le_of_ble_eq_true rfl, Nat.le_of_ble_eq_true rfl⟩ ml0 rfl rfl rfl hl.1 (Nat.le_of_ble_eq_true rfl) dX8_comparesTo_40 (fun H locs P => ?_)
      refine lv_aload_n hx hb dX8_comparesTo_43 rfl (lv_at hl 0 rfl) ?_
      refine lv_iload_n hx hb dX8_comparesTo_44 rfl (lv_at hl 2 rfl) ?_
      obtain ⟨r8, hr8, h⟩ := g_bind h
      refine g_callVi (n := 1) (As := [.int a2]) (rest := [.int r7]) C P (kX8_kindOf l X hJ σ a2 _ hr8) wd_213 wd_214 wd_215 wd_5 wd_216 rfl rfl kdX8_kindOf ⟨Nat.le_of_ble_eq_true rfl, Nat.le_of_ble_eq_true rfl⟩ ml0 rfl rfl rfl hl.1 (Nat.le_of_ble_eq_true rfl) dX8_comparesTo_45 (fun H locs P => ?_)
      refine lv_icmp_eq (tgt := 57) hx hb dX8_comparesTo_48 (by decide) (fun c9 => ?_) (fun c9 => ?_)
      · have h := g_ifp c9 h
        refine lv_aload_n hx hb dX8_comparesTo_57 rfl (lv_at hl 0 rfl) ?_
        refine lv_iload_n hx hb dX8_comparesTo_58 rfl (lv_at hl 1 rfl) ?_
        obtain ⟨r10, hr10, h⟩ := g_bind h
        refine g_callVi (n := 1) (As := [.int a1]) (rest := []) C P (kX8_kindOf l X hJ σ a1 _ hr10) wd_213 wd_214 wd_215 wd_5 wd_216 rfl rfl kdX8_kindOf ⟨Nat.le_of_ble_eq_true rfl, Nat.le_of_ble_eq_true rfl⟩ ml0 rfl rfl rfl hl.1 (Nat.le_of_ble_eq_true rfl) dX8_comparesTo_59 (fun H locs P => ?_)
        refine lv_iconst (v := 2) hx hb dX8_comparesTo_62 (by decide) ?_
        refine lv_icmp_ne (tgt := 70) hx hb dX8_comparesTo_63 (by decide) (fun c11 => ?_) (fun c11 => ?_)
        · have h := g_ifn c11 h
          refine lv_iconst (v := 0) hx hb dX8_comparesTo_70 (by decide) ?_
          refine lv_istore_n (lv' := [(3, .int (0 : Int32)), (0, .ref (gad X 0)), (1, .int a1), (2, .int a2)]) hx hb dX8_comparesTo_71 rfl hl (by decide) rfl (fun ls hl => ?_)
          refine lv_iload_n hx hb dX8_comparesTo_72 rfl (lv_at hl 0 rfl) ?_
          refine lv_if_eq (tgt := 95) hx hb dX8_comparesTo_73 (by decide) (fun c12 => ?_) (fun c12 => ?_)
          rotate_left
          · exact absurd (by decide) c12
          refine lv_iload_n hx hb dX8_comparesTo_95 rfl (lv_at hl 0 rfl) ?_
          refine lv_if_eq (tgt := 107) hx hb dX8_comparesTo_96 (by decide) (fun c13 => ?_) (fun c13 => ?_)
          rotate_left
          · exact absurd (by decide) c13
          refine lv_aload_n hx hb dX8_comparesTo_107 rfl (lv_at hl 1 rfl) ?_
          refine lv_iload_n hx hb dX8_comparesTo_108 rfl (lv_at hl 2 rfl) ?_
          obtain ⟨r14, hr14, h⟩ := g_bind h
          refine g_callVi (n := 1) (As := [.int a1]) (rest := []) C P (kX8_valueOf l X hJ σ a1 _ hr14) wd_217 wd_218 wd_219 wd_5 wd_220 rfl rfl kdX8_valueOf ⟨Nat.le_of_ble_eq_true rfl, Nat.le_of_ble_eq_true rfl⟩ ml0 rfl rfl rfl hl.1 (Nat.le_of_ble_eq_true rfl) dX8_comparesTo_109 (fun H locs P => ?_)
          refine lv_istore (lv' := [(4, .int r14), (3, .int (0 : Int32)), (0, .ref (gad X 0)), (1, .int a1), (2, .int a2)]) hx hb dX8_comparesTo_112 hl (by decide) rfl (fun ls hl => ?_)
          refine lv_iload_n hx hb dX8_comparesTo_114 rfl (lv_at hl 1 rfl) ?_
          refine lv_if_eq (tgt := 126) hx hb dX8_comparesTo_115 (by decide) (fun c15 => ?_) (fun c15 => ?_)
          rotate_left
          · exact absurd (by decide) c15
          refine lv_aload_n hx hb dX8_comparesTo_126 rfl (lv_at hl 2 rfl) ?_
          refine lv_iload_n hx hb dX8_comparesTo_127 rfl (lv_at hl 4 rfl) ?_
          obtain ⟨r16, hr16, h⟩ := g_bind h
          refine g_callVi (n := 1) (As := [.int a2]) (rest := []) C P (kX8_valueOf l X hJ σ a2 _ hr16) wd_217 wd_218 wd_219 wd_5 wd_220 rfl rfl kdX8_valueOf ⟨Nat.le_of_ble_eq_true rfl, Nat.le_of_ble_eq_true rfl⟩ ml0 rfl rfl rfl hl.1 (Nat.le_of_ble_eq_true rfl) dX8_comparesTo_128 (fun H locs P => ?_)
          refine lv_istore (lv' := [(5, .int r16), (4, .int r14), (3, .int (0 : Int32)), (0, .ref (gad X 0)), (1, .int a1), (2, .int a2)]) hx hb dX8_comparesTo_131 hl (by decide) rfl (fun ls hl => ?_)
          refine lv_iload hx hb dX8_comparesTo_133 (lv_at hl 1 rfl) ?_
          refine lv_iload hx hb dX8_comparesTo_135 (lv_at hl 0 rfl) ?_
          refine lv_icmp_ge (tgt := 144) hx hb dX8_comparesTo_137 (by decide) (fun c17 => ?_) (fun c17 => ?_)
          · have h := g_ifp c17 h
            refine lv_iload hx hb dX8_comparesTo_144 (lv_at hl 1 rfl) ?_
            refine lv_iload hx hb dX8_comparesTo_146 (lv_at hl 0 rfl) ?_
            refine lv_icmp_ne (tgt := 155) hx hb dX8_comparesTo_148 (by decide) (fun c18 => ?_) (fun c18 => ?_)
            · have h := g_ifn c18 h
              refine lv_iconst (v := 2) hx hb dX8_comparesTo_155 (by decide) ?_
              have h := Option.some.inj h
              exact g_iret C P h rfl dX8_comparesTo_156
            have h := g_ifp c18 h
            refine lv_iconst (v := 1) hx hb dX8_comparesTo_151 (by decide) ?_
            refine lv_goto (tgt := 156) hx hb dX8_comparesTo_152 (by decide) ?_
            have h := Option.some.inj h
            exact g_iret C P h rfl dX8_comparesTo_156
          have h := g_ifn c17 h
          refine lv_iconst (v := 0) hx hb dX8_comparesTo_140 (by decide) ?_
          refine lv_goto (tgt := 156) hx hb dX8_comparesTo_141 (by decide) ?_
          have h := Option.some.inj h
          exact g_iret C P h rfl dX8_comparesTo_156
        have h := g_ifp c11 h
        refine lv_iconst (v := 1) hx hb dX8_comparesTo_66 (by decide) ?_
        refine lv_goto (tgt := 71) hx hb dX8_comparesTo_67 (by decide) ?_
        refine lv_istore_n (lv' := [(3, .int (1 : Int32)), (0, .ref (gad X 0)), (1, .int a1), (2, .int a2)]) hx hb dX8_comparesTo_71 rfl hl (by decide) rfl (fun ls hl => ?_)
        refine lv_iload_n hx hb dX8_comparesTo_72 rfl (lv_at hl 0 rfl) ?_
        refine lv_if_eq (tgt := 95) hx hb dX8_comparesTo_73 (by decide) (fun c19 => ?_) (fun c19 => ?_)
        · exact absurd c19 (by decide)
        refine lv_aload_n hx hb dX8_comparesTo_76 rfl (lv_at hl 1 rfl) ?_
        refine lv_iload_n hx hb dX8_comparesTo_77 rfl (lv_at hl 2 rfl) ?_
        obtain ⟨r20, hr20, h⟩ := g_bind h
        refine g_callVi (n := 1) (As := [.int a1]) (rest := []) C P (kX8_valueOf l X hJ σ a1 _ hr20) wd_217 wd_218 wd_219 wd_5 wd_220 rfl rfl kdX8_valueOf ⟨Nat.le_of_ble_eq_true rfl, Nat.le_of_ble_eq_true rfl⟩ ml0 rfl rfl rfl hl.1 (Nat.le_of_ble_eq_true rfl) dX8_comparesTo_78 (fun H locs P => ?_)
        refine lv_aload_n hx hb dX8_comparesTo_81 rfl (lv_at hl 1 rfl) ?_
        refine lv_iload_n hx hb dX8_comparesTo_82 rfl (lv_at hl 3 rfl) ?_
        obtain ⟨r21, hr21, h⟩ := g_bind h
        refine g_callVi (n := 1) (As := [.int a2]) (rest := [.int r20]) C P (kX8_valueOf l X hJ σ a2 _ hr21) wd_217 wd_218 wd_219 wd_5 wd_220 rfl rfl kdX8_valueOf ⟨Nat.le_of_ble_eq_true rfl, Nat.le_of_ble_eq_true rfl⟩ ml0 rfl rfl rfl hl.1 (Nat.le_of_ble_eq_true rfl) dX8_comparesTo_83 (fun H locs P => ?_)
        refine lv_icmp_eq (tgt := 95) hx hb dX8_comparesTo_86 (by decide) (fun c22 => ?_) (fun c22 => ?_)
        · have h := g_ifp c22 h
          refine lv_iload_n hx hb dX8_comparesTo_95 rfl (lv_at hl 0 rfl) ?_
          refine lv_if_eq (tgt := 107) hx hb dX8_comparesTo_96 (by decide) (fun c23 => ?_) (fun c23 => ?_)
          · exact absurd c23 (by decide)
          refine lv_aload_n hx hb dX8_comparesTo_99 rfl (lv_at hl 1 rfl) ?_
          refine lv_iload_n hx hb dX8_comparesTo_100 rfl (lv_at hl 2 rfl) ?_
          obtain ⟨r24, hr24, h⟩ := g_bind h
          refine g_callVi (n := 1) (As := [.int a1]) (rest := []) C P (kX8_placeOf l X hJ σ a1 _ hr24) wd_225 wd_226 wd_227 wd_5 wd_228 rfl rfl kdX8_placeOf ⟨Nat.le_of_ble_eq_true rfl, Nat.le_of_ble_eq_true rfl⟩ ml0 rfl rfl rfl hl.1 (Nat.le_of_ble_eq_true rfl) dX8_comparesTo_101 (fun H locs P => ?_)
          refine lv_goto (tgt := 112) hx hb dX8_comparesTo_104 (by decide) ?_
          refine lv_istore (lv' := [(4, .int r24), (3, .int (1 : Int32)), (0, .ref (gad X 0)), (1, .int a1), (2, .int a2)]) hx hb dX8_comparesTo_112 hl (by decide) rfl (fun ls hl => ?_)
          refine lv_iload_n hx hb dX8_comparesTo_114 rfl (lv_at hl 1 rfl) ?_
          refine lv_if_eq (tgt := 126) hx hb dX8_comparesTo_115 (by decide) (fun c25 => ?_) (fun c25 => ?_)
          · exact absurd c25 (by decide)
          refine lv_aload_n hx hb dX8_comparesTo_118 rfl (lv_at hl 2 rfl) ?_
          refine lv_iload_n hx hb dX8_comparesTo_119 rfl (lv_at hl 4 rfl) ?_
          obtain ⟨r26, hr26, h⟩ := g_bind h
          refine g_callVi (n := 1) (As := [.int a2]) (rest := []) C P (kX8_placeOf l X hJ σ a2 _ hr26) wd_225 wd_226 wd_227 wd_5 wd_228 rfl rfl kdX8_placeOf ⟨Nat.le_of_ble_eq_true rfl, Nat.le_of_ble_eq_true rfl⟩ ml0 rfl rfl rfl hl.1 (Nat.le_of_ble_eq_true rfl) dX8_comparesTo_120 (fun H locs P => ?_)
          refine lv_goto (tgt := 131) hx hb dX8_comparesTo_123 (by decide) ?_
          refine lv_istore (lv' := [(5, .int r26), (4, .int r24), (3, .int (1 : Int32)), (0, .ref (gad X 0)), (1, .int a1), (2, .int a2)]) hx hb dX8_comparesTo_131 hl (by decide) rfl (fun ls hl => ?_)
          refine lv_iload hx hb dX8_comparesTo_133 (lv_at hl 1 rfl) ?_
          refine lv_iload hx hb dX8_comparesTo_135 (lv_at hl 0 rfl) ?_
          refine lv_icmp_ge (tgt := 144) hx hb dX8_comparesTo_137 (by decide) (fun c27 => ?_) (fun c27 => ?_)
          · have h := g_ifp c27 h
            refine lv_iload hx hb dX8_comparesTo_144 (lv_at hl 1 rfl) ?_
            refine lv_iload hx hb dX8_comparesTo_146 (lv_at hl 0 rfl) ?_
            refine lv_icmp_ne (tgt := 155) hx hb dX8_comparesTo_148 (by decide) (fun c28 => ?_) (fun c28 => ?_)
            · have h := g_ifn c28 h
              refine lv_iconst (v := 2) hx hb dX8_comparesTo_155 (by decide) ?_
              have h := Option.some.inj h
              exact g_iret C P h rfl dX8_comparesTo_156
            have h := g_ifp c28 h
            refine lv_iconst (v := 1) hx hb dX8_comparesTo_151 (by decide) ?_
            refine lv_goto (tgt := 156) hx hb dX8_comparesTo_152 (by decide) ?_
            have h := Option.some.inj h
            exact g_iret C P h rfl dX8_comparesTo_156
          have h := g_ifn c27 h
          refine lv_iconst (v := 0) hx hb dX8_comparesTo_140 (by decide) ?_
          refine lv_goto (tgt := 156) hx hb dX8_comparesTo_141 (by decide) ?_
          have h := Option.some.inj h
          exact g_iret C P h rfl dX8_comparesTo_156
        have h := g_ifn c22 h
        refine lv_bipush (v := 8) hx hb dX8_comparesTo_89 (by decide) ?_
        refine g_callSi (n := 1) (As := [.int (8 : Int32)]) (rest := []) C P (kX8_undefinedAs l X hJ σ (8 : Int32) _ rfl) wd_233 wd_234 wd_5 wd_235 rfl rfl kdX8_undefinedAs.2 ⟨Nat.le_of_ble_eq_true rfl, Nat.le_of_ble_eq_true rfl⟩ rfl rfl hl.1 (Nat.le_of_ble_eq_true rfl) dX8_comparesTo_91 (fun H locs P => ?_)
        have h := Option.some.inj h
        exact g_iret C P h rfl dX8_comparesTo_94
      have h := g_ifn c9 h
      refine lv_bipush (v := 7) hx hb dX8_comparesTo_51 (by decide) ?_
      refine g_callSi (n := 1) (As := [.int (7 : Int32)]) (rest := []) C P (kX8_undefinedAs l X hJ σ (7 : Int32) _ rfl) wd_233 wd_234 wd_5 wd_235 rfl rfl kdX8_undefinedAs.2 ⟨Nat.le_of_ble_eq_true rfl, Nat.le_of_ble_eq_true rfl⟩ rfl rfl hl.1 (Nat.le_of_ble_eq_true rfl) dX8_comparesTo_53 (fun H locs P => ?_)
      have h := Option.some.inj h
      exact g_iret C P h rfl dX8_comparesTo_56
    have h := g_ifp c6 h
    refine lv_iconst (v := 1) hx hb dX8_comparesTo_33 (by decide) ?_
    refine g_callSi (n := 1) (As := [.int (1 : Int32)]) (rest := []) C P (kX8_undefinedAs l X hJ σ (1 : Int32) _ rfl) wd_233 wd_234 wd_5 wd_235 rfl rfl kdX8_undefinedAs.2 ⟨Nat.le_of_ble_eq_true rfl, Nat.le_of_ble_eq_true rfl⟩ rfl rfl hl.1 (Nat.le_of_ble_eq_true rfl) dX8_comparesTo_34 (fun H locs P => ?_)
    have h := Option.some.inj h
    exact g_iret C P h rfl dX8_comparesTo_37
  have h := g_ifp c2 h
  refine lv_bipush (v := -2) hx hb dX8_comparesTo_14 (by decide) ?_
  have h := Option.some.inj h
  exact g_iret C P h rfl dX8_comparesTo_16
abbrev rmX8_blits : Room := { frames := 4, cells := 0, slots := 0, locals := 86 }
theorem kdX8_blits : yX8_blits.cls = RX8 ∧ yX8_blits.cls ≠ "java/lang/invoke/MethodHandle" ∧ yX8_blits.cls ≠ "java/lang/invoke/VarHandle" ∧ (parseMethodDescriptor yX8_blits.desc).map (fun d => d.parameters.length) = some 3 := by decide +kernel
set_option maxHeartbeats 4000000 in
set_option maxRecDepth 100000 in
theorem kX8_blits_62 {p : Program} {l : Launch} {e : Env} {s : State} {m : MethodId} {args : Array Value} {below : List Frame} {meth : Method} {c : Code} {X : gXt} (hJ : gJ X mL) (C : gC p s m args meth c RX8 cX8_blits 6 (some .int) X mL) (f62_1 : Int32) (f62_2 : Int32) (f62_3 : Int32) (k : gS → Option (Int32 × gS)) (q : Int32 × gS) (hk : ∀ (σ' : gS) (H : Heap) (locs : List Loc) (ls : Array Slot), k σ' = some q → gH X mL σ' s H locs → lv_has ls 6 [(0, .ref (gad X 0)), (1, .int f62_1), (3, .int f62_3)] → W p l e rmX8_blits s m args below meth c H locs 0 0 (MQ below (gQi X mL q.1 q.2) args s 0 0 (gA X mL)) (F0 m 102 ls [])) : ∀ (n : Nat) (σ : gS) (v5 : Int32), qM_blits_62 f62_1 f62_2 f62_3 k n σ v5 = some q → ∀ (H : Heap) (locs : List Loc) (ls : Array Slot), gH X mL σ s H locs → lv_has ls 6 [(0, .ref (gad X 0)), (1, .int f62_1), (2, .int f62_2), (3, .int f62_3), (5, .int v5)] → W p l e rmX8_blits s m args below meth c H locs 0 0 (MQ below (gQi X mL q.1 q.2) args s 0 0 (gA X mL)) (F0 m 62 ls []) := by
  have hx := C.1
  have hb := C.2.1
  have hK := C.2.2.2.2.2.2.2.1
  have hts := C.2.2.2.2.1
  intro n
  induction n with
  | zero => intro σ v5 h; cases h
  | succ n ih =>
    intro σ v5 h H locs ls P hl
    have h : (if f62_3 ≤ v5 then k σ else (qM_valueOf σ f62_2).bind (fun r10 => (qM_placeOf σ f62_2).bind (fun r11 => gob (qM_bytePlace r10 (r11 + v5)) 1219 (gob v5 12 (qM_blits_62 f62_1 f62_2 f62_3 k n (sM σ 7 v5.toNatClampNeg (gM σ 1 (qM_bytePlace r10 (r11 + v5)).toNatClampNeg)) (v5 + 1)))))) = some q := h
    refine lv_iload hx hb dX8_blits_62 (lv_at hl 4 rfl) ?_
    refine lv_iload_n hx hb dX8_blits_64 rfl (lv_at hl 3 rfl) ?_
    refine lv_icmp_ge (tgt := 102) hx hb dX8_blits_65 (by decide) (fun c9 => ?_) (fun c9 => ?_)
    · have h := g_ifp c9 h
      exact hk σ _ _ _ h P (lv_sub hl [0, 1, 3] rfl)
    have h := g_ifn c9 h
    refine lv_aload_n hx hb dX8_blits_68 rfl (lv_at hl 0 rfl) ?_
    refine g_getR C P ml0 rfl inlX8 8 (by decide) wd_101 rfl dX8_blits_69 ?_
    refine lv_iload hx hb dX8_blits_72 (lv_at hl 4 rfl) ?_
    refine lv_aload_n hx hb dX8_blits_74 rfl (lv_at hl 0 rfl) ?_
    refine g_getR C P ml0 rfl inlX8 0 (by decide) wd_95 rfl dX8_blits_75 ?_
    refine lv_aload_n hx hb dX8_blits_78 rfl (lv_at hl 0 rfl) ?_
    refine lv_iload_n hx hb dX8_blits_79 rfl (lv_at hl 2 rfl) ?_
    obtain ⟨r10, hr10, h⟩ := g_bind h
    refine g_callVi (n := 1) (As := [.int f62_2]) (rest := [.ref (gad X 1), .int v5, .ref (gad X 7)]) C P (kX8_valueOf l X hJ σ f62_2 _ hr10) wd_217 wd_218 wd_219 wd_5 wd_220 rfl rfl kdX8_valueOf ⟨Nat.le_of_ble_eq_true rfl, Nat.le_of_ble_eq_true rfl⟩ ml0 rfl rfl rfl hl.1 (Nat.le_of_ble_eq_true rfl) dX8_blits_80 (fun H locs P => ?_)
    refine lv_aload_n hx hb dX8_blits_83 rfl (lv_at hl 0 rfl) ?_
    refine lv_iload_n hx hb dX8_blits_84 rfl (lv_at hl 2 rfl) ?_
    obtain ⟨r11, hr11, h⟩ := g_bind h
    refine g_callVi (n := 1) (As := [.int f62_2]) (rest := [.int r10, .ref (gad X 1), .int v5, .ref (gad X 7)]) C P (kX8_placeOf l X hJ σ f62_2 _ hr11) wd_225 wd_226 wd_227 wd_5 wd_228 rfl rfl kdX8_placeOf ⟨Nat.le_of_ble_eq_true rfl, Nat.le_of_ble_eq_true rfl⟩ ml0 rfl rfl rfl hl.1 (Nat.le_of_ble_eq_true rfl) dX8_blits_85 (fun H locs P => ?_)
    refine lv_iload hx hb dX8_blits_88 (lv_at hl 4 rfl) ?_
    refine lv_iadd hx hb dX8_blits_90 ?_
    refine g_callSi (n := 2) (As := [.int r10, .int (r11 + v5)]) (rest := [.ref (gad X 1), .int v5, .ref (gad X 7)]) C P (kX8_bytePlace l X hJ σ r10 (r11 + v5) _ rfl) wd_270 wd_271 wd_5 wd_272 rfl rfl kdX8_bytePlace.2 ⟨Nat.le_of_ble_eq_true rfl, Nat.le_of_ble_eq_true rfl⟩ rfl rfl hl.1 (Nat.le_of_ble_eq_true rfl) dX8_blits_91 (fun H locs P => ?_)
    obtain ⟨b12, h⟩ := g_ob h
    refine g_iald (j := (qM_bytePlace r10 (r11 + v5)).toNatClampNeg) C P ml1 b12 rfl dX8_blits_94 ?_
    obtain ⟨b13, h⟩ := g_ob h
    refine g_iast (j := v5.toNatClampNeg) C P ml7 b13 rfl dX8_blits_95 (fun H locs P => ?_)
    refine lv_iinc (v := (v5 + 1)) (lv' := [(5, .int (v5 + 1)), (0, .ref (gad X 0)), (1, .int f62_1), (2, .int f62_2), (3, .int f62_3)]) hx hb dX8_blits_96 hl (k := 4) rfl rfl (by decide) rfl (fun ls hl => ?_)
    refine lv_goto (tgt := 62) hx hb dX8_blits_99 (by decide) ?_
    exact ih (sM σ 7 v5.toNatClampNeg (gM σ 1 (qM_bytePlace r10 (r11 + v5)).toNatClampNeg)) (v5 + 1) h _ _ _ P (lv_sub hl [1, 2, 3, 4, 0] rfl)
set_option maxHeartbeats 4000000 in
set_option maxRecDepth 100000 in
theorem kX8_blits_152 {p : Program} {l : Launch} {e : Env} {s : State} {m : MethodId} {args : Array Value} {below : List Frame} {meth : Method} {c : Code} {X : gXt} (hJ : gJ X mL) (C : gC p s m args meth c RX8 cX8_blits 6 (some .int) X mL) (f152_1 : Int32) (f152_3 : Int32) (k : gS → Option (Int32 × gS)) (q : Int32 × gS) (hk : ∀ (σ' : gS) (H : Heap) (locs : List Loc) (ls : Array Slot), k σ' = some q → gH X mL σ' s H locs → lv_has ls 6 [(3, .int f152_3)] → W p l e rmX8_blits s m args below meth c H locs 0 0 (MQ below (gQi X mL q.1 q.2) args s 0 0 (gA X mL)) (F0 m 192 ls [])) : ∀ (n : Nat) (σ : gS) (v5 : Int32), qM_blits_152 f152_1 f152_3 k n σ v5 = some q → ∀ (H : Heap) (locs : List Loc) (ls : Array Slot), gH X mL σ s H locs → lv_has ls 6 [(0, .ref (gad X 0)), (1, .int f152_1), (3, .int f152_3), (5, .int v5)] → W p l e rmX8_blits s m args below meth c H locs 0 0 (MQ below (gQi X mL q.1 q.2) args s 0 0 (gA X mL)) (F0 m 152 ls []) := by
  have hx := C.1
  have hb := C.2.1
  have hK := C.2.2.2.2.2.2.2.1
  have hts := C.2.2.2.2.1
  intro n
  induction n with
  | zero => intro σ v5 h; cases h
  | succ n ih =>
    intro σ v5 h H locs ls P hl
    have h : (if f152_3 ≤ v5 then k σ else (qM_valueOf σ f152_1).bind (fun r22 => (qM_placeOf σ f152_1).bind (fun r23 => gob v5 12 (gob (qM_bytePlace r22 (r23 + v5)) 1219 (qM_blits_152 f152_1 f152_3 k n (sM σ 1 (qM_bytePlace r22 (r23 + v5)).toNatClampNeg (gM σ 7 v5.toNatClampNeg)) (v5 + 1)))))) = some q := h
    refine lv_iload hx hb dX8_blits_152 (lv_at hl 3 rfl) ?_
    refine lv_iload_n hx hb dX8_blits_154 rfl (lv_at hl 2 rfl) ?_
    refine lv_icmp_ge (tgt := 192) hx hb dX8_blits_155 (by decide) (fun c21 => ?_) (fun c21 => ?_)
    · have h := g_ifp c21 h
      exact hk σ _ _ _ h P (lv_sub hl [2] rfl)
    have h := g_ifn c21 h
    refine lv_aload_n hx hb dX8_blits_158 rfl (lv_at hl 0 rfl) ?_
    refine g_getR C P ml0 rfl inlX8 0 (by decide) wd_95 rfl dX8_blits_159 ?_
    refine lv_aload_n hx hb dX8_blits_162 rfl (lv_at hl 0 rfl) ?_
    refine lv_iload_n hx hb dX8_blits_163 rfl (lv_at hl 1 rfl) ?_
    obtain ⟨r22, hr22, h⟩ := g_bind h
    refine g_callVi (n := 1) (As := [.int f152_1]) (rest := [.ref (gad X 1)]) C P (kX8_valueOf l X hJ σ f152_1 _ hr22) wd_217 wd_218 wd_219 wd_5 wd_220 rfl rfl kdX8_valueOf ⟨Nat.le_of_ble_eq_true rfl, Nat.le_of_ble_eq_true rfl⟩ ml0 rfl rfl rfl hl.1 (Nat.le_of_ble_eq_true rfl) dX8_blits_164 (fun H locs P => ?_)
    refine lv_aload_n hx hb dX8_blits_167 rfl (lv_at hl 0 rfl) ?_
    refine lv_iload_n hx hb dX8_blits_168 rfl (lv_at hl 1 rfl) ?_
    obtain ⟨r23, hr23, h⟩ := g_bind h
    refine g_callVi (n := 1) (As := [.int f152_1]) (rest := [.int r22, .ref (gad X 1)]) C P (kX8_placeOf l X hJ σ f152_1 _ hr23) wd_225 wd_226 wd_227 wd_5 wd_228 rfl rfl kdX8_placeOf ⟨Nat.le_of_ble_eq_true rfl, Nat.le_of_ble_eq_true rfl⟩ ml0 rfl rfl rfl hl.1 (Nat.le_of_ble_eq_true rfl) dX8_blits_169 (fun H locs P => ?_)
    refine lv_iload hx hb dX8_blits_172 (lv_at hl 3 rfl) ?_
    refine lv_iadd hx hb dX8_blits_174 ?_
    refine g_callSi (n := 2) (As := [.int r22, .int (r23 + v5)]) (rest := [.ref (gad X 1)]) C P (kX8_bytePlace l X hJ σ r22 (r23 + v5) _ rfl) wd_270 wd_271 wd_5 wd_272 rfl rfl kdX8_bytePlace.2 ⟨Nat.le_of_ble_eq_true rfl, Nat.le_of_ble_eq_true rfl⟩ rfl rfl hl.1 (Nat.le_of_ble_eq_true rfl) dX8_blits_175 (fun H locs P => ?_)
    refine lv_aload_n hx hb dX8_blits_178 rfl (lv_at hl 0 rfl) ?_
    refine g_getR C P ml0 rfl inlX8 8 (by decide) wd_101 rfl dX8_blits_179 ?_
    refine lv_iload hx hb dX8_blits_182 (lv_at hl 3 rfl) ?_
    obtain ⟨b24, h⟩ := g_ob h
    refine g_iald (j := v5.toNatClampNeg) C P ml7 b24 rfl dX8_blits_184 ?_
    obtain ⟨b25, h⟩ := g_ob h
    refine g_iast (j := (qM_bytePlace r22 (r23 + v5)).toNatClampNeg) C P ml1 b25 rfl dX8_blits_185 (fun H locs P => ?_)
    refine lv_iinc (v := (v5 + 1)) (lv' := [(5, .int (v5 + 1)), (0, .ref (gad X 0)), (1, .int f152_1), (3, .int f152_3)]) hx hb dX8_blits_186 hl (k := 3) rfl rfl (by decide) rfl (fun ls hl => ?_)
    refine lv_goto (tgt := 152) hx hb dX8_blits_189 (by decide) ?_
    exact ih (sM σ 1 (qM_bytePlace r22 (r23 + v5)).toNatClampNeg (gM σ 7 v5.toNatClampNeg)) (v5 + 1) h _ _ _ P (lv_sub hl [1, 2, 3, 0] rfl)
set_option maxHeartbeats 4000000 in
set_option maxRecDepth 100000 in
theorem kX8_blits (l : Launch) (X : gXt) (hJ : gJ X mL) (σ : gS) (a1 : Int32) (a2 : Int32) (a3 : Int32) (q : Int32 × gS) (h : qM_blits σ a1 a2 a3 = some q) : gMi l yX8_blits (gws yX8_blits cX8_blits 6 (some .int)) rmX8_blits X mL [.ref (gad X 0), .int a1, .int a2, .int a3] σ q.1 q.2 := by
  refine g_enter (cc := cX8_blits) (nL := 6) (ret := (some .int)) hJ (plainFor_of_name (by decide)) (Nat.le_of_ble_eq_true rfl) ?_
  intro p e s m below meth c ls C P hl
  have C : gC p s m _ meth c RX8 cX8_blits 6 (some .int) X mL := C
  have hx := C.1
  have hb := C.2.1
  have hK := C.2.2.2.2.2.2.2.1
  have hts := C.2.2.2.2.1
  have hl : lv_has ls 6 [(0, .ref (gad X 0)), (1, .int a1), (2, .int a2), (3, .int a3)] := hl
  unfold qM_blits at h
  refine lv_iload_n hx hb dX8_blits_0 rfl (lv_at hl 1 rfl) ?_
  refine g_callSi (n := 1) (As := [.int a1]) (rest := []) C P (kX8_isRegister l X hJ σ a1 _ rfl) wd_192 wd_193 wd_5 wd_194 rfl rfl kdX8_isRegister.2 ⟨Nat.le_of_ble_eq_true rfl, Nat.le_of_ble_eq_true rfl⟩ rfl rfl hl.1 (Nat.le_of_ble_eq_true rfl) dX8_blits_1 (fun H locs P => ?_)
  refine lv_if_eq (tgt := 24) hx hb dX8_blits_4 (by decide) (fun c1 => ?_) (fun c1 => ?_)
  · have h := g_ifp c1 h
    refine lv_bipush (v := -2) hx hb dX8_blits_24 (by decide) ?_
    have h := Option.some.inj h
    exact g_iret C P (g_fst h) (g_snd h) dX8_blits_26
  have h := g_ifn c1 h
  refine lv_iload_n hx hb dX8_blits_7 rfl (lv_at hl 2 rfl) ?_
  refine g_callSi (n := 1) (As := [.int a2]) (rest := []) C P (kX8_isRegister l X hJ σ a2 _ rfl) wd_192 wd_193 wd_5 wd_194 rfl rfl kdX8_isRegister.2 ⟨Nat.le_of_ble_eq_true rfl, Nat.le_of_ble_eq_true rfl⟩ rfl rfl hl.1 (Nat.le_of_ble_eq_true rfl) dX8_blits_8 (fun H locs P => ?_)
  refine lv_if_eq (tgt := 24) hx hb dX8_blits_11 (by decide) (fun c2 => ?_) (fun c2 => ?_)
  · have h := g_ifp c2 h
    refine lv_bipush (v := -2) hx hb dX8_blits_24 (by decide) ?_
    have h := Option.some.inj h
    exact g_iret C P (g_fst h) (g_snd h) dX8_blits_26
  have h := g_ifn c2 h
  refine lv_iload_n hx hb dX8_blits_14 rfl (lv_at hl 3 rfl) ?_
  refine lv_iconst (v := 1) hx hb dX8_blits_15 (by decide) ?_
  refine lv_bipush (v := 12) hx hb dX8_blits_16 (by decide) ?_
  refine g_callSi (n := 3) (As := [.int a3, .int (1 : Int32), .int (12 : Int32)]) (rest := []) C P (kX8_in l X hJ σ a3 (1 : Int32) (12 : Int32) _ rfl) wd_195 wd_196 wd_5 wd_197 rfl rfl kdX8_in.2 ⟨Nat.le_of_ble_eq_true rfl, Nat.le_of_ble_eq_true rfl⟩ rfl rfl hl.1 (Nat.le_of_ble_eq_true rfl) dX8_blits_18 (fun H locs P => ?_)
  refine lv_if_ne (tgt := 27) hx hb dX8_blits_21 (by decide) (fun c3 => ?_) (fun c3 => ?_)
  · have h := g_ifn c3 h
    refine lv_aload_n hx hb dX8_blits_27 rfl (lv_at hl 0 rfl) ?_
    refine lv_iload_n hx hb dX8_blits_28 rfl (lv_at hl 1 rfl) ?_
    refine lv_iload_n hx hb dX8_blits_29 rfl (lv_at hl 3 rfl) ?_
    obtain ⟨r4, hr4, h⟩ := g_bind h
    refine g_callVi (n := 2) (As := [.int a1, .int a3]) (rest := []) C P (kX8_notToWrite l X hJ σ a1 a3 _ hr4) wd_258 wd_259 wd_260 wd_5 wd_261 rfl rfl kdX8_notToWrite ⟨Nat.le_of_ble_eq_true rfl, Nat.le_of_ble_eq_true rfl⟩ ml0 rfl rfl rfl hl.1 (Nat.le_of_ble_eq_true rfl) dX8_blits_30 (fun H locs P => ?_)
    refine lv_istore (lv' := [(4, .int r4), (0, .ref (gad X 0)), (1, .int a1), (2, .int a2), (3, .int a3)]) hx hb dX8_blits_33 hl (by decide) rfl (fun ls hl => ?_)
    refine lv_iload hx hb dX8_blits_35 (lv_at hl 0 rfl) ?_
    refine lv_if_ne (tgt := 48) hx hb dX8_blits_37 (by decide) (fun c5 => ?_) (fun c5 => ?_)
    · have h := g_ifn c5 h
      refine lv_iload hx hb dX8_blits_48 (lv_at hl 0 rfl) ?_
      refine lv_if_eq (tgt := 59) hx hb dX8_blits_50 (by decide) (fun c6 => ?_) (fun c6 => ?_)
      · exact absurd c6 c5
      refine lv_iload hx hb dX8_blits_53 (lv_at hl 0 rfl) ?_
      refine g_callSi (n := 1) (As := [.int r4]) (rest := []) C P (kX8_undefinedAs l X hJ σ r4 _ rfl) wd_233 wd_234 wd_5 wd_235 rfl rfl kdX8_undefinedAs.2 ⟨Nat.le_of_ble_eq_true rfl, Nat.le_of_ble_eq_true rfl⟩ rfl rfl hl.1 (Nat.le_of_ble_eq_true rfl) dX8_blits_55 (fun H locs P => ?_)
      have h := Option.some.inj h
      exact g_iret C P (g_fst h) (g_snd h) dX8_blits_58
    have h := g_ifp c5 h
    refine lv_aload_n hx hb dX8_blits_40 rfl (lv_at hl 1 rfl) ?_
    refine lv_iload_n hx hb dX8_blits_41 rfl (lv_at hl 3 rfl) ?_
    refine lv_iload_n hx hb dX8_blits_42 rfl (lv_at hl 4 rfl) ?_
    obtain ⟨r7, hr7, h⟩ := g_bind h
    refine g_callVi (n := 2) (As := [.int a2, .int a3]) (rest := []) C P (kX8_notGoodFor l X hJ σ a2 a3 _ hr7) wd_277 wd_278 wd_279 wd_5 wd_280 rfl rfl kdX8_notGoodFor ⟨Nat.le_of_ble_eq_true rfl, Nat.le_of_ble_eq_true rfl⟩ ml0 rfl rfl rfl hl.1 (Nat.le_of_ble_eq_true rfl) dX8_blits_43 (fun H locs P => ?_)
    refine lv_istore (lv' := [(4, .int r7), (0, .ref (gad X 0)), (1, .int a1), (2, .int a2), (3, .int a3)]) hx hb dX8_blits_46 hl (by decide) rfl (fun ls hl => ?_)
    refine lv_iload hx hb dX8_blits_48 (lv_at hl 0 rfl) ?_
    refine lv_if_eq (tgt := 59) hx hb dX8_blits_50 (by decide) (fun c8 => ?_) (fun c8 => ?_)
    · have h := g_ifp c8 h
      refine lv_iconst (v := 0) hx hb dX8_blits_59 (by decide) ?_
      refine lv_istore (lv' := [(5, .int (0 : Int32)), (4, .int r7), (0, .ref (gad X 0)), (1, .int a1), (2, .int a2), (3, .int a3)]) hx hb dX8_blits_60 hl (by decide) rfl (fun ls hl => ?_)
      refine kX8_blits_62 hJ C a1 a2 a3 _ _ ?_ _ _ _ h _ _ _ P (lv_sub hl [2, 3, 4, 5, 0] rfl)
      intro σ14 H locs ls h P hl
      refine lv_aload_n hx hb dX8_blits_102 rfl (lv_at hl 0 rfl) ?_
      refine g_getR C P ml0 rfl inlX8 8 (by decide) wd_101 rfl dX8_blits_103 ?_
      refine lv_iconst (v := 0) hx hb dX8_blits_106 (by decide) ?_
      refine g_iald (j := 0) C P ml7 (vp_in_iff.mpr ⟨by decide, by decide⟩) (by decide) dX8_blits_107 ?_
      refine lv_sipush (v := 999) hx hb dX8_blits_108 (by decide) ?_
      refine lv_icmp_eq (tgt := 128) hx hb dX8_blits_111 (by decide) (fun c15 => ?_) (fun c15 => ?_)
      · have h := g_ifp c15 h
        refine lv_bipush (v := 6) hx hb dX8_blits_128 (by decide) ?_
        refine g_callSi (n := 1) (As := [.int (6 : Int32)]) (rest := []) C P (kX8_undefinedAs l X hJ σ14 (6 : Int32) _ rfl) wd_233 wd_234 wd_5 wd_235 rfl rfl kdX8_undefinedAs.2 ⟨Nat.le_of_ble_eq_true rfl, Nat.le_of_ble_eq_true rfl⟩ rfl rfl hl.1 (Nat.le_of_ble_eq_true rfl) dX8_blits_130 (fun H locs P => ?_)
        have h := Option.some.inj h
        exact g_iret C P (g_fst h) (g_snd h) dX8_blits_133
      have h := g_ifn c15 h
      refine lv_aload_n hx hb dX8_blits_114 rfl (lv_at hl 0 rfl) ?_
      refine g_getR C P ml0 rfl inlX8 8 (by decide) wd_101 rfl dX8_blits_115 ?_
      refine lv_iload_n hx hb dX8_blits_118 rfl (lv_at hl 2 rfl) ?_
      refine lv_iconst (v := 1) hx hb dX8_blits_119 (by decide) ?_
      refine lv_isub hx hb dX8_blits_120 ?_
      obtain ⟨b16, h⟩ := g_ob h
      refine g_iald (j := (a3 - (1 : Int32)).toNatClampNeg) C P ml7 b16 rfl dX8_blits_121 ?_
      refine lv_sipush (v := 1000) hx hb dX8_blits_122 (by decide) ?_
      refine lv_icmp_lt (tgt := 134) hx hb dX8_blits_125 (by decide) (fun c17 => ?_) (fun c17 => ?_)
      · have h := g_ifp c17 h
        refine lv_aload_n hx hb dX8_blits_134 rfl (lv_at hl 0 rfl) ?_
        refine lv_aload_n hx hb dX8_blits_135 rfl (lv_at hl 0 rfl) ?_
        refine lv_iload_n hx hb dX8_blits_136 rfl (lv_at hl 1 rfl) ?_
        obtain ⟨r18, hr18, h⟩ := g_bind h
        refine g_callVi (n := 1) (As := [.int a1]) (rest := [.ref (gad X 0)]) C P (kX8_valueOf l X hJ σ14 a1 _ hr18) wd_217 wd_218 wd_219 wd_5 wd_220 rfl rfl kdX8_valueOf ⟨Nat.le_of_ble_eq_true rfl, Nat.le_of_ble_eq_true rfl⟩ ml0 rfl rfl rfl hl.1 (Nat.le_of_ble_eq_true rfl) dX8_blits_137 (fun H locs P => ?_)
        refine lv_aload_n hx hb dX8_blits_140 rfl (lv_at hl 0 rfl) ?_
        refine lv_iload_n hx hb dX8_blits_141 rfl (lv_at hl 1 rfl) ?_
        obtain ⟨r19, hr19, h⟩ := g_bind h
        refine g_callVi (n := 1) (As := [.int a1]) (rest := [.int r18, .ref (gad X 0)]) C P (kX8_placeOf l X hJ σ14 a1 _ hr19) wd_225 wd_226 wd_227 wd_5 wd_228 rfl rfl kdX8_placeOf ⟨Nat.le_of_ble_eq_true rfl, Nat.le_of_ble_eq_true rfl⟩ ml0 rfl rfl rfl hl.1 (Nat.le_of_ble_eq_true rfl) dX8_blits_142 (fun H locs P => ?_)
        refine lv_iload_n hx hb dX8_blits_145 rfl (lv_at hl 2 rfl) ?_
        obtain ⟨r20, hr20, h⟩ := g_bind h
        refine g_callVv (n := 3) (As := [.int r18, .int r19, .int a3]) (rest := []) C P (kX8_cuts l X hJ σ14 r18 r19 a3 _ hr20) wd_266 wd_267 wd_268 wd_5 wd_269 rfl rfl kdX8_cuts ⟨Nat.le_of_ble_eq_true rfl, Nat.le_of_ble_eq_true rfl⟩ ml0 rfl rfl rfl hl.1 (Nat.le_of_ble_eq_true rfl) dX8_blits_146 (fun H locs P => ?_)
        refine lv_iconst (v := 0) hx hb dX8_blits_149 (by decide) ?_
        refine lv_istore (lv' := [(5, .int (0 : Int32)), (0, .ref (gad X 0)), (1, .int a1), (3, .int a3)]) hx hb dX8_blits_150 hl (by decide) rfl (fun ls hl => ?_)
        refine kX8_blits_152 hJ C a1 a3 _ _ ?_ _ _ _ h _ _ _ P (lv_sub hl [1, 2, 3, 0] rfl)
        intro σ26 H locs ls h P hl
        refine lv_iload_n hx hb dX8_blits_192 rfl (lv_at hl 0 rfl) ?_
        have h := Option.some.inj h
        exact g_iret C P (g_fst h) (g_snd h) dX8_blits_193
      have h := g_ifn c17 h
      refine lv_bipush (v := 6) hx hb dX8_blits_128 (by decide) ?_
      refine g_callSi (n := 1) (As := [.int (6 : Int32)]) (rest := []) C P (kX8_undefinedAs l X hJ σ14 (6 : Int32) _ rfl) wd_233 wd_234 wd_5 wd_235 rfl rfl kdX8_undefinedAs.2 ⟨Nat.le_of_ble_eq_true rfl, Nat.le_of_ble_eq_true rfl⟩ rfl rfl hl.1 (Nat.le_of_ble_eq_true rfl) dX8_blits_130 (fun H locs P => ?_)
      have h := Option.some.inj h
      exact g_iret C P (g_fst h) (g_snd h) dX8_blits_133
    have h := g_ifn c8 h
    refine lv_iload hx hb dX8_blits_53 (lv_at hl 0 rfl) ?_
    refine g_callSi (n := 1) (As := [.int r7]) (rest := []) C P (kX8_undefinedAs l X hJ σ r7 _ rfl) wd_233 wd_234 wd_5 wd_235 rfl rfl kdX8_undefinedAs.2 ⟨Nat.le_of_ble_eq_true rfl, Nat.le_of_ble_eq_true rfl⟩ rfl rfl hl.1 (Nat.le_of_ble_eq_true rfl) dX8_blits_55 (fun H locs P => ?_)
    have h := Option.some.inj h
    exact g_iret C P (g_fst h) (g_snd h) dX8_blits_58
  have h := g_ifp c3 h
  refine lv_bipush (v := -2) hx hb dX8_blits_24 (by decide) ?_
  have h := Option.some.inj h
  exact g_iret C P (g_fst h) (g_snd h) dX8_blits_26
abbrev rmX8_nodeOf : Room := { frames := 0, cells := 0, slots := 0, locals := 0 }
theorem kdX8_nodeOf : yX8_nodeOf.cls = RX8 ∧ yX8_nodeOf.cls ≠ "java/lang/invoke/MethodHandle" ∧ yX8_nodeOf.cls ≠ "java/lang/invoke/VarHandle" ∧ (parseMethodDescriptor yX8_nodeOf.desc).map (fun d => d.parameters.length) = some 1 := by decide +kernel
set_option maxHeartbeats 4000000 in
set_option maxRecDepth 100000 in
theorem kX8_nodeOf_4 {p : Program} {l : Launch} {e : Env} {s : State} {m : MethodId} {args : Array Value} {below : List Frame} {meth : Method} {c : Code} {X : gXt} (hJ : gJ X mL) (C : gC p s m args meth c RX8 cX8_nodeOf 4 (some .int) X mL) (σ : gS) (f4_1 : Int32) (k : Int32 → Option Int32) (q : Int32) (hk : ∀ (x2 : Int32) (H : Heap) (locs : List Loc) (ls : Array Slot), k x2 = some q → gH X mL σ s H locs → lv_has ls 4 [(2, .int x2)] → W p l e rmX8_nodeOf s m args below meth c H locs 0 0 (MQ below (gQi X mL q σ) args s 0 0 (gA X mL)) (F0 m 34 ls [])) : ∀ (n : Nat) (v2 : Int32) (v3 : Int32), qM_nodeOf_4 σ f4_1 k n v2 v3 = some q → ∀ (H : Heap) (locs : List Loc) (ls : Array Slot), gH X mL σ s H locs → lv_has ls 4 [(0, .ref (gad X 0)), (1, .int f4_1), (2, .int v2), (3, .int v3)] → W p l e rmX8_nodeOf s m args below meth c H locs 0 0 (MQ below (gQi X mL q σ) args s 0 0 (gA X mL)) (F0 m 4 ls []) := by
  have hx := C.1
  have hb := C.2.1
  have hK := C.2.2.2.2.2.2.2.1
  have hts := C.2.2.2.2.1
  intro n
  induction n with
  | zero => intro v2 v3 h; cases h
  | succ n ih =>
    intro v2 v3 h H locs ls P hl
    have h : (if (gI σ 0 10) ≤ v3 then k v2 else gob v3 10 ((if (gM σ 8 v3.toNatClampNeg) = f4_1 then qM_nodeOf_4 σ f4_1 k n v3 (v3 + 1) else qM_nodeOf_4 σ f4_1 k n v2 (v3 + 1)))) = some q := h
    refine lv_iload_n hx hb dX8_nodeOf_4 rfl (lv_at hl 3 rfl) ?_
    refine lv_aload_n hx hb dX8_nodeOf_5 rfl (lv_at hl 0 rfl) ?_
    refine g_getI C P ml0 rfl inlX8 10 (by decide) wd_289 rfl dX8_nodeOf_6 ?_
    refine lv_icmp_ge (tgt := 34) hx hb dX8_nodeOf_9 (by decide) (fun c1 => ?_) (fun c1 => ?_)
    · have h := g_ifp c1 h
      exact hk v2 _ _ _ h P (lv_sub hl [2] rfl)
    have h := g_ifn c1 h
    refine lv_aload_n hx hb dX8_nodeOf_12 rfl (lv_at hl 0 rfl) ?_
    refine g_getR C P ml0 rfl inlX8 9 (by decide) wd_102 rfl dX8_nodeOf_13 ?_
    refine lv_iload_n hx hb dX8_nodeOf_16 rfl (lv_at hl 3 rfl) ?_
    obtain ⟨b2, h⟩ := g_ob h
    refine g_iald (j := v3.toNatClampNeg) C P ml8 b2 rfl dX8_nodeOf_17 ?_
    refine lv_iload_n hx hb dX8_nodeOf_18 rfl (lv_at hl 1 rfl) ?_
    refine lv_icmp_ne (tgt := 26) hx hb dX8_nodeOf_19 (by decide) (fun c3 => ?_) (fun c3 => ?_)
    · have h := g_ifn c3 h
      refine lv_iload_n hx hb dX8_nodeOf_26 rfl (lv_at hl 2 rfl) ?_
      refine lv_istore_n (lv' := [(2, .int v2), (0, .ref (gad X 0)), (1, .int f4_1), (3, .int v3)]) hx hb dX8_nodeOf_27 rfl hl (by decide) rfl (fun ls hl => ?_)
      refine lv_iinc (v := (v3 + 1)) (lv' := [(3, .int (v3 + 1)), (2, .int v2), (0, .ref (gad X 0)), (1, .int f4_1)]) hx hb dX8_nodeOf_28 hl (k := 3) rfl rfl (by decide) rfl (fun ls hl => ?_)
      refine lv_goto (tgt := 4) hx hb dX8_nodeOf_31 (by decide) ?_
      exact ih v2 (v3 + 1) h _ _ _ P (lv_sub hl [2, 3, 1, 0] rfl)
    have h := g_ifp c3 h
    refine lv_iload_n hx hb dX8_nodeOf_22 rfl (lv_at hl 3 rfl) ?_
    refine lv_goto (tgt := 27) hx hb dX8_nodeOf_23 (by decide) ?_
    refine lv_istore_n (lv' := [(2, .int v3), (0, .ref (gad X 0)), (1, .int f4_1), (3, .int v3)]) hx hb dX8_nodeOf_27 rfl hl (by decide) rfl (fun ls hl => ?_)
    refine lv_iinc (v := (v3 + 1)) (lv' := [(3, .int (v3 + 1)), (2, .int v3), (0, .ref (gad X 0)), (1, .int f4_1)]) hx hb dX8_nodeOf_28 hl (k := 3) rfl rfl (by decide) rfl (fun ls hl => ?_)
    refine lv_goto (tgt := 4) hx hb dX8_nodeOf_31 (by decide) ?_
    exact ih v3 (v3 + 1) h _ _ _ P (lv_sub hl [2, 3, 1, 0] rfl)
set_option maxHeartbeats 4000000 in
set_option maxRecDepth 100000 in
theorem kX8_nodeOf (l : Launch) (X : gXt) (hJ : gJ X mL) (σ : gS) (a1 : Int32) (q : Int32) (h : qM_nodeOf σ a1 = some q) : gMi l yX8_nodeOf (gws yX8_nodeOf cX8_nodeOf 4 (some .int)) rmX8_nodeOf X mL [.ref (gad X 0), .int a1] σ q σ := by
  refine g_enter (cc := cX8_nodeOf) (nL := 4) (ret := (some .int)) hJ (plainFor_of_name (by decide)) (Nat.le_of_ble_eq_true rfl) ?_
  intro p e s m below meth c ls C P hl
  have C : gC p s m _ meth c RX8 cX8_nodeOf 4 (some .int) X mL := C
  have hx := C.1
  have hb := C.2.1
  have hK := C.2.2.2.2.2.2.2.1
  have hts := C.2.2.2.2.1
  have hl : lv_has ls 4 [(0, .ref (gad X 0)), (1, .int a1)] := hl
  unfold qM_nodeOf at h
  refine lv_iconst (v := -1) hx hb dX8_nodeOf_0 (by decide) ?_
  refine lv_istore_n (lv' := [(2, .int (-1 : Int32)), (0, .ref (gad X 0)), (1, .int a1)]) hx hb dX8_nodeOf_1 rfl hl (by decide) rfl (fun ls hl => ?_)
  refine lv_iconst (v := 0) hx hb dX8_nodeOf_2 (by decide) ?_
  refine lv_istore_n (lv' := [(3, .int (0 : Int32)), (2, .int (-1 : Int32)), (0, .ref (gad X 0)), (1, .int a1)]) hx hb dX8_nodeOf_3 rfl hl (by decide) rfl (fun ls hl => ?_)
  refine kX8_nodeOf_4 hJ C σ a1 _ _ ?_ _ _ _ h _ _ _ P (lv_sub hl [2, 3, 1, 0] rfl)
  intro x4 H locs ls h P hl
  refine lv_iload_n hx hb dX8_nodeOf_34 rfl (lv_at hl 0 rfl) ?_
  have h := Option.some.inj h
  exact g_iret C P h rfl dX8_nodeOf_35
abbrev rmX8_reaches : Room := { frames := 2, cells := 0, slots := 0, locals := 41 }
theorem kdX8_reaches : yX8_reaches.cls = RX8 ∧ yX8_reaches.cls ≠ "java/lang/invoke/MethodHandle" ∧ yX8_reaches.cls ≠ "java/lang/invoke/VarHandle" ∧ (parseMethodDescriptor yX8_reaches.desc).map (fun d => d.parameters.length) = some 1 := by decide +kernel
set_option maxHeartbeats 4000000 in
set_option maxRecDepth 100000 in
theorem kX8_reaches_24 {p : Program} {l : Launch} {e : Env} {s : State} {m : MethodId} {args : Array Value} {below : List Frame} {meth : Method} {c : Code} {X : gXt} (hJ : gJ X mL) (C : gC p s m args meth c RX8 cX8_reaches 6 none X mL) (f24_2 : Int32) (k : gS → Option gS) (q : gS) (hk : ∀ (σ' : gS) (H : Heap) (locs : List Loc) (ls : Array Slot), k σ' = some q → gH X mL σ' s H locs → lv_has ls 6 [(0, .ref (gad X 0)), (2, .int f24_2)] → W p l e rmX8_reaches s m args below meth c H locs 0 0 (MQ below (gQv X mL q) args s 0 0 (gA X mL)) (F0 m 121 ls [])) : ∀ (n : Nat) (σ : gS) (v3 : Int32), qM_reaches_24 f24_2 k n σ v3 = some q → ∀ (H : Heap) (locs : List Loc) (ls : Array Slot), gH X mL σ s H locs → lv_has ls 6 [(0, .ref (gad X 0)), (2, .int f24_2), (3, .int v3)] → W p l e rmX8_reaches s m args below meth c H locs 0 0 (MQ below (gQv X mL q) args s 0 0 (gA X mL)) (F0 m 24 ls []) := by
  have hx := C.1
  have hb := C.2.1
  have hK := C.2.2.2.2.2.2.2.1
  have hts := C.2.2.2.2.1
  intro n
  induction n with
  | zero => intro σ v3 h; cases h
  | succ n ih =>
    intro σ v3 h H locs ls P hl
    have h : gob f24_2 10 ((qM_sizeOf σ (gM σ 8 f24_2.toNatClampNeg)).bind (fun r3 => (if r3 ≤ v3 then k σ else gob (qM_bytePlace (gM σ 8 f24_2.toNatClampNeg) v3) 1219 ((if (gM σ 1 (qM_bytePlace (gM σ 8 f24_2.toNatClampNeg) v3).toNatClampNeg) < (1000 : Int32) then qM_reaches_24 f24_2 k n σ (v3 + 1) else (if (((gM σ 1 (qM_bytePlace (gM σ 8 f24_2.toNatClampNeg) v3).toNatClampNeg) - (1000 : Int32)) / (100 : Int32)) = (-1 : Int32) then qM_reaches_24 f24_2 k n σ (v3 + 1) else (qM_nodeOf σ (((gM σ 1 (qM_bytePlace (gM σ 8 f24_2.toNatClampNeg) v3).toNatClampNeg) - (1000 : Int32)) / (100 : Int32))).bind (fun r9 => (if r9 = (-1 : Int32) then gob (gI σ 0 10) 10 (qM_reaches_24 f24_2 k n (sI (sM σ 8 (gI σ 0 10).toNatClampNeg (((gM σ 1 (qM_bytePlace (gM σ 8 f24_2.toNatClampNeg) v3).toNatClampNeg) - (1000 : Int32)) / (100 : Int32))) 0 10 ((gI (sM σ 8 (gI σ 0 10).toNatClampNeg (((gM σ 1 (qM_bytePlace (gM σ 8 f24_2.toNatClampNeg) v3).toNatClampNeg) - (1000 : Int32)) / (100 : Int32))) 0 10) + (1 : Int32))) (v3 + 1)) else qM_reaches_24 f24_2 k n σ (v3 + 1))))))))) = some q := h
    refine lv_iload_n hx hb dX8_reaches_24 rfl (lv_at hl 2 rfl) ?_
    refine lv_aload_n hx hb dX8_reaches_25 rfl (lv_at hl 0 rfl) ?_
    refine lv_aload_n hx hb dX8_reaches_26 rfl (lv_at hl 0 rfl) ?_
    refine g_getR C P ml0 rfl inlX8 9 (by decide) wd_102 rfl dX8_reaches_27 ?_
    refine lv_iload_n hx hb dX8_reaches_30 rfl (lv_at hl 1 rfl) ?_
    obtain ⟨b2, h⟩ := g_ob h
    refine g_iald (j := f24_2.toNatClampNeg) C P ml8 b2 rfl dX8_reaches_31 ?_
    obtain ⟨r3, hr3, h⟩ := g_bind h
    refine g_callVi (n := 1) (As := [.int (gM σ 8 f24_2.toNatClampNeg)]) (rest := [.int v3]) C P (kX8_sizeOf l X hJ σ (gM σ 8 f24_2.toNatClampNeg) _ hr3) wd_250 wd_251 wd_252 wd_5 wd_253 rfl rfl kdX8_sizeOf ⟨Nat.le_of_ble_eq_true rfl, Nat.le_of_ble_eq_true rfl⟩ ml0 rfl rfl rfl hl.1 (Nat.le_of_ble_eq_true rfl) dX8_reaches_32 (fun H locs P => ?_)
    refine lv_icmp_ge (tgt := 121) hx hb dX8_reaches_35 (by decide) (fun c4 => ?_) (fun c4 => ?_)
    · have h := g_ifp c4 h
      exact hk σ _ _ _ h P (lv_sub hl [0, 1] rfl)
    have h := g_ifn c4 h
    refine lv_aload_n hx hb dX8_reaches_38 rfl (lv_at hl 0 rfl) ?_
    refine g_getR C P ml0 rfl inlX8 0 (by decide) wd_95 rfl dX8_reaches_39 ?_
    refine lv_aload_n hx hb dX8_reaches_42 rfl (lv_at hl 0 rfl) ?_
    refine g_getR C P ml0 rfl inlX8 9 (by decide) wd_102 rfl dX8_reaches_43 ?_
    refine lv_iload_n hx hb dX8_reaches_46 rfl (lv_at hl 1 rfl) ?_
    refine g_iald (j := f24_2.toNatClampNeg) C P ml8 b2 rfl dX8_reaches_47 ?_
    refine lv_iload_n hx hb dX8_reaches_48 rfl (lv_at hl 2 rfl) ?_
    refine g_callSi (n := 2) (As := [.int (gM σ 8 f24_2.toNatClampNeg), .int v3]) (rest := [.ref (gad X 1)]) C P (kX8_bytePlace l X hJ σ (gM σ 8 f24_2.toNatClampNeg) v3 _ rfl) wd_270 wd_271 wd_5 wd_272 rfl rfl kdX8_bytePlace.2 ⟨Nat.le_of_ble_eq_true rfl, Nat.le_of_ble_eq_true rfl⟩ rfl rfl hl.1 (Nat.le_of_ble_eq_true rfl) dX8_reaches_49 (fun H locs P => ?_)
    obtain ⟨b5, h⟩ := g_ob h
    refine g_iald (j := (qM_bytePlace (gM σ 8 f24_2.toNatClampNeg) v3).toNatClampNeg) C P ml1 b5 rfl dX8_reaches_52 ?_
    refine lv_istore (lv' := [(4, .int (gM σ 1 (qM_bytePlace (gM σ 8 f24_2.toNatClampNeg) v3).toNatClampNeg)), (0, .ref (gad X 0)), (2, .int f24_2), (3, .int v3)]) hx hb dX8_reaches_53 hl (by decide) rfl (fun ls hl => ?_)
    refine lv_iload hx hb dX8_reaches_55 (lv_at hl 0 rfl) ?_
    refine lv_sipush (v := 1000) hx hb dX8_reaches_57 (by decide) ?_
    refine lv_icmp_lt (tgt := 75) hx hb dX8_reaches_60 (by decide) (fun c6 => ?_) (fun c6 => ?_)
    · have h := g_ifp c6 h
      refine lv_iconst (v := -1) hx hb dX8_reaches_75 (by decide) ?_
      refine lv_istore (lv' := [(5, .int (-1 : Int32)), (4, .int (gM σ 1 (qM_bytePlace (gM σ 8 f24_2.toNatClampNeg) v3).toNatClampNeg)), (0, .ref (gad X 0)), (2, .int f24_2), (3, .int v3)]) hx hb dX8_reaches_76 hl (by decide) rfl (fun ls hl => ?_)
      refine lv_iload hx hb dX8_reaches_78 (lv_at hl 0 rfl) ?_
      refine lv_iconst (v := -1) hx hb dX8_reaches_80 (by decide) ?_
      refine lv_icmp_eq (tgt := 115) hx hb dX8_reaches_81 (by decide) (fun c7 => ?_) (fun c7 => ?_)
      rotate_left
      · exact absurd (by decide) c7
      refine lv_iinc (v := (v3 + 1)) (lv' := [(3, .int (v3 + 1)), (5, .int (-1 : Int32)), (4, .int (gM σ 1 (qM_bytePlace (gM σ 8 f24_2.toNatClampNeg) v3).toNatClampNeg)), (0, .ref (gad X 0)), (2, .int f24_2)]) hx hb dX8_reaches_115 hl (k := 4) rfl rfl (by decide) rfl (fun ls hl => ?_)
      refine lv_goto (tgt := 24) hx hb dX8_reaches_118 (by decide) ?_
      exact ih σ (v3 + 1) h _ _ _ P (lv_sub hl [3, 4, 0] rfl)
    have h := g_ifn c6 h
    refine lv_iload hx hb dX8_reaches_63 (lv_at hl 0 rfl) ?_
    refine lv_sipush (v := 1000) hx hb dX8_reaches_65 (by decide) ?_
    refine lv_isub hx hb dX8_reaches_68 ?_
    refine lv_bipush (v := 100) hx hb dX8_reaches_69 (by decide) ?_
    refine lv_idiv hx hb dX8_reaches_71 (by decide) ?_
    refine lv_goto (tgt := 76) hx hb dX8_reaches_72 (by decide) ?_
    refine lv_istore (lv' := [(5, .int (((gM σ 1 (qM_bytePlace (gM σ 8 f24_2.toNatClampNeg) v3).toNatClampNeg) - (1000 : Int32)) / (100 : Int32))), (4, .int (gM σ 1 (qM_bytePlace (gM σ 8 f24_2.toNatClampNeg) v3).toNatClampNeg)), (0, .ref (gad X 0)), (2, .int f24_2), (3, .int v3)]) hx hb dX8_reaches_76 hl (by decide) rfl (fun ls hl => ?_)
    refine lv_iload hx hb dX8_reaches_78 (lv_at hl 0 rfl) ?_
    refine lv_iconst (v := -1) hx hb dX8_reaches_80 (by decide) ?_
    refine lv_icmp_eq (tgt := 115) hx hb dX8_reaches_81 (by decide) (fun c8 => ?_) (fun c8 => ?_)
    · have h := g_ifp c8 h
      refine lv_iinc (v := (v3 + 1)) (lv' := [(3, .int (v3 + 1)), (5, .int (((gM σ 1 (qM_bytePlace (gM σ 8 f24_2.toNatClampNeg) v3).toNatClampNeg) - (1000 : Int32)) / (100 : Int32))), (4, .int (gM σ 1 (qM_bytePlace (gM σ 8 f24_2.toNatClampNeg) v3).toNatClampNeg)), (0, .ref (gad X 0)), (2, .int f24_2)]) hx hb dX8_reaches_115 hl (k := 4) rfl rfl (by decide) rfl (fun ls hl => ?_)
      refine lv_goto (tgt := 24) hx hb dX8_reaches_118 (by decide) ?_
      exact ih σ (v3 + 1) h _ _ _ P (lv_sub hl [3, 4, 0] rfl)
    have h := g_ifn c8 h
    refine lv_aload_n hx hb dX8_reaches_84 rfl (lv_at hl 2 rfl) ?_
    refine lv_iload hx hb dX8_reaches_85 (lv_at hl 0 rfl) ?_
    obtain ⟨r9, hr9, h⟩ := g_bind h
    refine g_callVi (n := 1) (As := [.int (((gM σ 1 (qM_bytePlace (gM σ 8 f24_2.toNatClampNeg) v3).toNatClampNeg) - (1000 : Int32)) / (100 : Int32))]) (rest := []) C P (kX8_nodeOf l X hJ σ (((gM σ 1 (qM_bytePlace (gM σ 8 f24_2.toNatClampNeg) v3).toNatClampNeg) - (1000 : Int32)) / (100 : Int32)) _ hr9) wd_294 wd_295 wd_296 wd_5 wd_297 rfl rfl kdX8_nodeOf ⟨Nat.le_of_ble_eq_true rfl, Nat.le_of_ble_eq_true rfl⟩ ml0 rfl rfl rfl hl.1 (Nat.le_of_ble_eq_true rfl) dX8_reaches_87 (fun H locs P => ?_)
    refine lv_iconst (v := -1) hx hb dX8_reaches_90 (by decide) ?_
    refine lv_icmp_ne (tgt := 115) hx hb dX8_reaches_91 (by decide) (fun c10 => ?_) (fun c10 => ?_)
    · have h := g_ifn c10 h
      refine lv_iinc (v := (v3 + 1)) (lv' := [(3, .int (v3 + 1)), (5, .int (((gM σ 1 (qM_bytePlace (gM σ 8 f24_2.toNatClampNeg) v3).toNatClampNeg) - (1000 : Int32)) / (100 : Int32))), (4, .int (gM σ 1 (qM_bytePlace (gM σ 8 f24_2.toNatClampNeg) v3).toNatClampNeg)), (0, .ref (gad X 0)), (2, .int f24_2)]) hx hb dX8_reaches_115 hl (k := 4) rfl rfl (by decide) rfl (fun ls hl => ?_)
      refine lv_goto (tgt := 24) hx hb dX8_reaches_118 (by decide) ?_
      exact ih σ (v3 + 1) h _ _ _ P (lv_sub hl [3, 4, 0] rfl)
    have h := g_ifp c10 h
    refine lv_aload_n hx hb dX8_reaches_94 rfl (lv_at hl 2 rfl) ?_
    refine g_getR C P ml0 rfl inlX8 9 (by decide) wd_102 rfl dX8_reaches_95 ?_
    refine lv_aload_n hx hb dX8_reaches_98 rfl (lv_at hl 2 rfl) ?_
    refine g_getI C P ml0 rfl inlX8 10 (by decide) wd_289 rfl dX8_reaches_99 ?_
    refine lv_iload hx hb dX8_reaches_102 (lv_at hl 0 rfl) ?_
    obtain ⟨b11, h⟩ := g_ob h
    refine g_iast (j := (gI σ 0 10).toNatClampNeg) C P ml8 b11 rfl dX8_reaches_104 (fun H locs P => ?_)
    refine lv_aload_n hx hb dX8_reaches_105 rfl (lv_at hl 2 rfl) ?_
    refine lv_dup hx hb dX8_reaches_106 rfl ?_
    refine g_getI C P ml0 rfl inlX8 10 (by decide) wd_289 rfl dX8_reaches_107 ?_
    refine lv_iconst (v := 1) hx hb dX8_reaches_110 (by decide) ?_
    refine lv_iadd hx hb dX8_reaches_111 ?_
    refine g_putI C P ml0 rfl inlX8 tyX8 tyX8_ok nmX8 10 (by decide) wd_289 rfl rfl rfl rfl dX8_reaches_112 (fun H locs P => ?_)
    refine lv_iinc (v := (v3 + 1)) (lv' := [(3, .int (v3 + 1)), (5, .int (((gM σ 1 (qM_bytePlace (gM σ 8 f24_2.toNatClampNeg) v3).toNatClampNeg) - (1000 : Int32)) / (100 : Int32))), (4, .int (gM σ 1 (qM_bytePlace (gM σ 8 f24_2.toNatClampNeg) v3).toNatClampNeg)), (0, .ref (gad X 0)), (2, .int f24_2)]) hx hb dX8_reaches_115 hl (k := 4) rfl rfl (by decide) rfl (fun ls hl => ?_)
    refine lv_goto (tgt := 24) hx hb dX8_reaches_118 (by decide) ?_
    exact ih (sI (sM σ 8 (gI σ 0 10).toNatClampNeg (((gM σ 1 (qM_bytePlace (gM σ 8 f24_2.toNatClampNeg) v3).toNatClampNeg) - (1000 : Int32)) / (100 : Int32))) 0 10 ((gI (sM σ 8 (gI σ 0 10).toNatClampNeg (((gM σ 1 (qM_bytePlace (gM σ 8 f24_2.toNatClampNeg) v3).toNatClampNeg) - (1000 : Int32)) / (100 : Int32))) 0 10) + (1 : Int32))) (v3 + 1) h _ _ _ P (lv_sub hl [3, 4, 0] rfl)
set_option maxHeartbeats 4000000 in
set_option maxRecDepth 100000 in
theorem kX8_reaches_14 {p : Program} {l : Launch} {e : Env} {s : State} {m : MethodId} {args : Array Value} {below : List Frame} {meth : Method} {c : Code} {X : gXt} (hJ : gJ X mL) (C : gC p s m args meth c RX8 cX8_reaches 6 none X mL) (k : gS → Option gS) (q : gS) (hk : ∀ (σ' : gS) (H : Heap) (locs : List Loc) (ls : Array Slot), k σ' = some q → gH X mL σ' s H locs → lv_has ls 6 [] → W p l e rmX8_reaches s m args below meth c H locs 0 0 (MQ below (gQv X mL q) args s 0 0 (gA X mL)) (F0 m 127 ls [])) : ∀ (n : Nat) (σ : gS) (v2 : Int32), qM_reaches_14 k n σ v2 = some q → ∀ (H : Heap) (locs : List Loc) (ls : Array Slot), gH X mL σ s H locs → lv_has ls 6 [(0, .ref (gad X 0)), (2, .int v2)] → W p l e rmX8_reaches s m args below meth c H locs 0 0 (MQ below (gQv X mL q) args s 0 0 (gA X mL)) (F0 m 14 ls []) := by
  have hx := C.1
  have hb := C.2.1
  have hK := C.2.2.2.2.2.2.2.1
  have hts := C.2.2.2.2.1
  intro n
  induction n with
  | zero => intro σ v2 h; cases h
  | succ n ih =>
    intro σ v2 h H locs ls P hl
    have h : (if (gI σ 0 10) ≤ v2 then k σ else qM_reaches_24 v2 (fun σ12 => qM_reaches_14 k n σ12 (v2 + 1)) 8192 σ (0 : Int32)) = some q := h
    refine lv_iload_n hx hb dX8_reaches_14 rfl (lv_at hl 1 rfl) ?_
    refine lv_aload_n hx hb dX8_reaches_15 rfl (lv_at hl 0 rfl) ?_
    refine g_getI C P ml0 rfl inlX8 10 (by decide) wd_289 rfl dX8_reaches_16 ?_
    refine lv_icmp_ge (tgt := 127) hx hb dX8_reaches_19 (by decide) (fun c1 => ?_) (fun c1 => ?_)
    · have h := g_ifp c1 h
      exact hk σ _ _ _ h P (lv_sub hl [] rfl)
    have h := g_ifn c1 h
    refine lv_iconst (v := 0) hx hb dX8_reaches_22 (by decide) ?_
    refine lv_istore_n (lv' := [(3, .int (0 : Int32)), (0, .ref (gad X 0)), (2, .int v2)]) hx hb dX8_reaches_23 rfl hl (by decide) rfl (fun ls hl => ?_)
    refine kX8_reaches_24 hJ C v2 _ _ ?_ _ _ _ h _ _ _ P (lv_sub hl [1, 2, 0] rfl)
    intro σ12 H locs ls h P hl
    refine lv_iinc (v := (v2 + 1)) (lv' := [(2, .int (v2 + 1)), (0, .ref (gad X 0))]) hx hb dX8_reaches_121 hl (k := 1) rfl rfl (by decide) rfl (fun ls hl => ?_)
    refine lv_goto (tgt := 14) hx hb dX8_reaches_124 (by decide) ?_
    exact ih σ12 (v2 + 1) h _ _ _ P (lv_sub hl [1, 0] rfl)
set_option maxHeartbeats 4000000 in
set_option maxRecDepth 100000 in
theorem kX8_reaches (l : Launch) (X : gXt) (hJ : gJ X mL) (σ : gS) (a1 : Int32) (q : gS) (h : qM_reaches σ a1 = some q) : gMv l yX8_reaches (gws yX8_reaches cX8_reaches 6 none) rmX8_reaches X mL [.ref (gad X 0), .int a1] σ q := by
  refine g_enter (cc := cX8_reaches) (nL := 6) (ret := none) hJ (plainFor_of_name (by decide)) (Nat.le_of_ble_eq_true rfl) ?_
  intro p e s m below meth c ls C P hl
  have C : gC p s m _ meth c RX8 cX8_reaches 6 none X mL := C
  have hx := C.1
  have hb := C.2.1
  have hK := C.2.2.2.2.2.2.2.1
  have hts := C.2.2.2.2.1
  have hl : lv_has ls 6 [(0, .ref (gad X 0)), (1, .int a1)] := hl
  unfold qM_reaches at h
  refine lv_aload_n hx hb dX8_reaches_0 rfl (lv_at hl 0 rfl) ?_
  refine g_getR C P ml0 rfl inlX8 9 (by decide) wd_102 rfl dX8_reaches_1 ?_
  refine lv_iconst (v := 0) hx hb dX8_reaches_4 (by decide) ?_
  refine lv_iload_n hx hb dX8_reaches_5 rfl (lv_at hl 1 rfl) ?_
  refine g_iast (j := 0) C P ml8 (vp_in_iff.mpr ⟨by decide, by decide⟩) (by decide) dX8_reaches_6 (fun H locs P => ?_)
  refine lv_aload_n hx hb dX8_reaches_7 rfl (lv_at hl 0 rfl) ?_
  refine lv_iconst (v := 1) hx hb dX8_reaches_8 (by decide) ?_
  refine g_putI C P ml0 rfl inlX8 tyX8 tyX8_ok nmX8 10 (by decide) wd_289 rfl rfl rfl rfl dX8_reaches_9 (fun H locs P => ?_)
  refine lv_iconst (v := 0) hx hb dX8_reaches_12 (by decide) ?_
  refine lv_istore_n (lv' := [(2, .int (0 : Int32)), (0, .ref (gad X 0)), (1, .int a1)]) hx hb dX8_reaches_13 rfl hl (by decide) rfl (fun ls hl => ?_)
  refine kX8_reaches_14 hJ C _ _ ?_ _ _ _ h _ _ _ P (lv_sub hl [1, 0] rfl)
  intro σ13 H locs ls h P hl
  have h := Option.some.inj h
  exact g_vret C P h dX8_reaches_127
abbrev rmX8_allLive : Room := { frames := 2, cells := 0, slots := 0, locals := 41 }
theorem kdX8_allLive : yX8_allLive.cls = RX8 ∧ yX8_allLive.cls ≠ "java/lang/invoke/MethodHandle" ∧ yX8_allLive.cls ≠ "java/lang/invoke/VarHandle" ∧ (parseMethodDescriptor yX8_allLive.desc).map (fun d => d.parameters.length) = some 0 := by decide +kernel
set_option maxHeartbeats 4000000 in
set_option maxRecDepth 100000 in
theorem kX8_allLive_4 {p : Program} {l : Launch} {e : Env} {s : State} {m : MethodId} {args : Array Value} {below : List Frame} {meth : Method} {c : Code} {X : gXt} (hJ : gJ X mL) (C : gC p s m args meth c RX8 cX8_allLive 3 (some .boolean) X mL) (σ : gS) (k : Int32 → Option Int32) (q : Int32) (hk : ∀ (x1 : Int32) (H : Heap) (locs : List Loc) (ls : Array Slot), k x1 = some q → gH X mL σ s H locs → lv_has ls 3 [(1, .int x1)] → W p l e rmX8_allLive s m args below meth c H locs 0 0 (MQ below (gQi X mL q σ) args s 0 0 (gA X mL)) (F0 m 41 ls [])) : ∀ (n : Nat) (v1 : Int32) (v2 : Int32), qM_allLive_4 σ k n v1 v2 = some q → ∀ (H : Heap) (locs : List Loc) (ls : Array Slot), gH X mL σ s H locs → lv_has ls 3 [(0, .ref (gad X 0)), (1, .int v1), (2, .int v2)] → W p l e rmX8_allLive s m args below meth c H locs 0 0 (MQ below (gQi X mL q σ) args s 0 0 (gA X mL)) (F0 m 4 ls []) := by
  have hx := C.1
  have hb := C.2.1
  have hK := C.2.2.2.2.2.2.2.1
  have hts := C.2.2.2.2.1
  intro n
  induction n with
  | zero => intro v1 v2 h; cases h
  | succ n ih =>
    intro v1 v2 h H locs ls P hl
    have h : (if (gI σ 0 10) ≤ v2 then k v1 else (if v1 = 0 then qM_allLive_4 σ k n (0 : Int32) (v2 + 1) else gob v2 10 ((qM_isLive σ (gM σ 8 v2.toNatClampNeg)).bind (fun r4 => (if r4 = 0 then qM_allLive_4 σ k n (0 : Int32) (v2 + 1) else qM_allLive_4 σ k n (1 : Int32) (v2 + 1)))))) = some q := h
    refine lv_iload_n hx hb dX8_allLive_4 rfl (lv_at hl 2 rfl) ?_
    refine lv_aload_n hx hb dX8_allLive_5 rfl (lv_at hl 0 rfl) ?_
    refine g_getI C P ml0 rfl inlX8 10 (by decide) wd_289 rfl dX8_allLive_6 ?_
    refine lv_icmp_ge (tgt := 41) hx hb dX8_allLive_9 (by decide) (fun c1 => ?_) (fun c1 => ?_)
    · have h := g_ifp c1 h
      exact hk v1 _ _ _ h P (lv_sub hl [1] rfl)
    have h := g_ifn c1 h
    refine lv_iload_n hx hb dX8_allLive_12 rfl (lv_at hl 1 rfl) ?_
    refine lv_if_eq (tgt := 33) hx hb dX8_allLive_13 (by decide) (fun c2 => ?_) (fun c2 => ?_)
    · have h := g_ifp c2 h
      refine lv_iconst (v := 0) hx hb dX8_allLive_33 (by decide) ?_
      refine lv_istore_n (lv' := [(1, .int (0 : Int32)), (0, .ref (gad X 0)), (2, .int v2)]) hx hb dX8_allLive_34 rfl hl (by decide) rfl (fun ls hl => ?_)
      refine lv_iinc (v := (v2 + 1)) (lv' := [(2, .int (v2 + 1)), (1, .int (0 : Int32)), (0, .ref (gad X 0))]) hx hb dX8_allLive_35 hl (k := 2) rfl rfl (by decide) rfl (fun ls hl => ?_)
      refine lv_goto (tgt := 4) hx hb dX8_allLive_38 (by decide) ?_
      exact ih (0 : Int32) (v2 + 1) h _ _ _ P (lv_sub hl [2, 1, 0] rfl)
    have h := g_ifn c2 h
    refine lv_aload_n hx hb dX8_allLive_16 rfl (lv_at hl 0 rfl) ?_
    refine lv_aload_n hx hb dX8_allLive_17 rfl (lv_at hl 0 rfl) ?_
    refine g_getR C P ml0 rfl inlX8 9 (by decide) wd_102 rfl dX8_allLive_18 ?_
    refine lv_iload_n hx hb dX8_allLive_21 rfl (lv_at hl 2 rfl) ?_
    obtain ⟨b3, h⟩ := g_ob h
    refine g_iald (j := v2.toNatClampNeg) C P ml8 b3 rfl dX8_allLive_22 ?_
    obtain ⟨r4, hr4, h⟩ := g_bind h
    refine g_callVi (n := 1) (As := [.int (gM σ 8 v2.toNatClampNeg)]) (rest := []) C P (kX8_isLive l X hJ σ (gM σ 8 v2.toNatClampNeg) _ hr4) wd_221 wd_222 wd_223 wd_5 wd_224 rfl rfl kdX8_isLive ⟨Nat.le_of_ble_eq_true rfl, Nat.le_of_ble_eq_true rfl⟩ ml0 rfl rfl rfl hl.1 (Nat.le_of_ble_eq_true rfl) dX8_allLive_23 (fun H locs P => ?_)
    refine lv_if_eq (tgt := 33) hx hb dX8_allLive_26 (by decide) (fun c5 => ?_) (fun c5 => ?_)
    · have h := g_ifp c5 h
      refine lv_iconst (v := 0) hx hb dX8_allLive_33 (by decide) ?_
      refine lv_istore_n (lv' := [(1, .int (0 : Int32)), (0, .ref (gad X 0)), (2, .int v2)]) hx hb dX8_allLive_34 rfl hl (by decide) rfl (fun ls hl => ?_)
      refine lv_iinc (v := (v2 + 1)) (lv' := [(2, .int (v2 + 1)), (1, .int (0 : Int32)), (0, .ref (gad X 0))]) hx hb dX8_allLive_35 hl (k := 2) rfl rfl (by decide) rfl (fun ls hl => ?_)
      refine lv_goto (tgt := 4) hx hb dX8_allLive_38 (by decide) ?_
      exact ih (0 : Int32) (v2 + 1) h _ _ _ P (lv_sub hl [2, 1, 0] rfl)
    have h := g_ifn c5 h
    refine lv_iconst (v := 1) hx hb dX8_allLive_29 (by decide) ?_
    refine lv_goto (tgt := 34) hx hb dX8_allLive_30 (by decide) ?_
    refine lv_istore_n (lv' := [(1, .int (1 : Int32)), (0, .ref (gad X 0)), (2, .int v2)]) hx hb dX8_allLive_34 rfl hl (by decide) rfl (fun ls hl => ?_)
    refine lv_iinc (v := (v2 + 1)) (lv' := [(2, .int (v2 + 1)), (1, .int (1 : Int32)), (0, .ref (gad X 0))]) hx hb dX8_allLive_35 hl (k := 2) rfl rfl (by decide) rfl (fun ls hl => ?_)
    refine lv_goto (tgt := 4) hx hb dX8_allLive_38 (by decide) ?_
    exact ih (1 : Int32) (v2 + 1) h _ _ _ P (lv_sub hl [2, 1, 0] rfl)
set_option maxHeartbeats 4000000 in
set_option maxRecDepth 100000 in
theorem kX8_allLive (l : Launch) (X : gXt) (hJ : gJ X mL) (σ : gS) (q : Int32) (h : qM_allLive σ = some q) : gMi l yX8_allLive (gws yX8_allLive cX8_allLive 3 (some .boolean)) rmX8_allLive X mL [.ref (gad X 0)] σ q σ := by
  refine g_enter (cc := cX8_allLive) (nL := 3) (ret := (some .boolean)) hJ (plainFor_of_name (by decide)) (Nat.le_of_ble_eq_true rfl) ?_
  intro p e s m below meth c ls C P hl
  have C : gC p s m _ meth c RX8 cX8_allLive 3 (some .boolean) X mL := C
  have hx := C.1
  have hb := C.2.1
  have hK := C.2.2.2.2.2.2.2.1
  have hts := C.2.2.2.2.1
  have hl : lv_has ls 3 [(0, .ref (gad X 0))] := hl
  unfold qM_allLive at h
  refine lv_iconst (v := 1) hx hb dX8_allLive_0 (by decide) ?_
  refine lv_istore_n (lv' := [(1, .int (1 : Int32)), (0, .ref (gad X 0))]) hx hb dX8_allLive_1 rfl hl (by decide) rfl (fun ls hl => ?_)
  refine lv_iconst (v := 0) hx hb dX8_allLive_2 (by decide) ?_
  refine lv_istore_n (lv' := [(2, .int (0 : Int32)), (1, .int (1 : Int32)), (0, .ref (gad X 0))]) hx hb dX8_allLive_3 rfl hl (by decide) rfl (fun ls hl => ?_)
  refine kX8_allLive_4 hJ C σ _ _ ?_ _ _ _ h _ _ _ P (lv_sub hl [2, 1, 0] rfl)
  intro x6 H locs ls h P hl
  refine lv_iload_n hx hb dX8_allLive_41 rfl (lv_at hl 0 rfl) ?_
  obtain ⟨b7, h⟩ := g_bo h
  have h := Option.some.inj h
  exact g_zret C P (g_bon b7) h rfl dX8_allLive_42
abbrev rmX8_laysImage : Room := { frames := 2, cells := 0, slots := 0, locals := 41 }
theorem kdX8_laysImage : yX8_laysImage.cls = RX8 ∧ yX8_laysImage.cls ≠ "java/lang/invoke/MethodHandle" ∧ yX8_laysImage.cls ≠ "java/lang/invoke/VarHandle" ∧ (parseMethodDescriptor yX8_laysImage.desc).map (fun d => d.parameters.length) = some 0 := by decide +kernel
set_option maxHeartbeats 4000000 in
set_option maxRecDepth 100000 in
theorem kX8_laysImage_2 {p : Program} {l : Launch} {e : Env} {s : State} {m : MethodId} {args : Array Value} {below : List Frame} {meth : Method} {c : Code} {X : gXt} (hJ : gJ X mL) (C : gC p s m args meth c RX8 cX8_laysImage 4 none X mL) (k : gS → Option gS) (q : gS) (hk : ∀ (σ' : gS) (H : Heap) (locs : List Loc) (ls : Array Slot), k σ' = some q → gH X mL σ' s H locs → lv_has ls 4 [(0, .ref (gad X 0))] → W p l e rmX8_laysImage s m args below meth c H locs 0 0 (MQ below (gQv X mL q) args s 0 0 (gA X mL)) (F0 m 22 ls [])) : ∀ (n : Nat) (σ : gS) (v1 : Int32), qM_laysImage_2 k n σ v1 = some q → ∀ (H : Heap) (locs : List Loc) (ls : Array Slot), gH X mL σ s H locs → lv_has ls 4 [(0, .ref (gad X 0)), (1, .int v1)] → W p l e rmX8_laysImage s m args below meth c H locs 0 0 (MQ below (gQv X mL q) args s 0 0 (gA X mL)) (F0 m 2 ls []) := by
  have hx := C.1
  have hb := C.2.1
  have hK := C.2.2.2.2.2.2.2.1
  have hts := C.2.2.2.2.1
  intro n
  induction n with
  | zero => intro σ v1 h; cases h
  | succ n ih =>
    intro σ v1 h H locs ls P hl
    have h : (if (131 : Int32) ≤ v1 then k σ else gob v1 131 (qM_laysImage_2 k n (sM σ 9 v1.toNatClampNeg (0 : Int32)) (v1 + 1))) = some q := h
    refine lv_iload_n hx hb dX8_laysImage_2 rfl (lv_at hl 1 rfl) ?_
    refine lv_sipush (v := 131) hx hb dX8_laysImage_3 (by decide) ?_
    refine lv_icmp_ge (tgt := 22) hx hb dX8_laysImage_6 (by decide) (fun c1 => ?_) (fun c1 => ?_)
    · have h := g_ifp c1 h
      exact hk σ _ _ _ h P (lv_sub hl [0] rfl)
    have h := g_ifn c1 h
    refine lv_aload_n hx hb dX8_laysImage_9 rfl (lv_at hl 0 rfl) ?_
    refine g_getR C P ml0 rfl inlX8 11 (by decide) wd_103 rfl dX8_laysImage_10 ?_
    refine lv_iload_n hx hb dX8_laysImage_13 rfl (lv_at hl 1 rfl) ?_
    refine lv_iconst (v := 0) hx hb dX8_laysImage_14 (by decide) ?_
    obtain ⟨b2, h⟩ := g_ob h
    refine g_iast (j := v1.toNatClampNeg) C P ml9 b2 rfl dX8_laysImage_15 (fun H locs P => ?_)
    refine lv_iinc (v := (v1 + 1)) (lv' := [(1, .int (v1 + 1)), (0, .ref (gad X 0))]) hx hb dX8_laysImage_16 hl (k := 1) rfl rfl (by decide) rfl (fun ls hl => ?_)
    refine lv_goto (tgt := 2) hx hb dX8_laysImage_19 (by decide) ?_
    exact ih (sM σ 9 v1.toNatClampNeg (0 : Int32)) (v1 + 1) h _ _ _ P (lv_sub hl [1, 0] rfl)
set_option maxHeartbeats 4000000 in
set_option maxRecDepth 100000 in
theorem kX8_laysImage_62 {p : Program} {l : Launch} {e : Env} {s : State} {m : MethodId} {args : Array Value} {below : List Frame} {meth : Method} {c : Code} {X : gXt} (hJ : gJ X mL) (C : gC p s m args meth c RX8 cX8_laysImage 4 none X mL) (f62_1 : Int32) (k : gS → Option gS) (q : gS) (hk : ∀ (σ' : gS) (H : Heap) (locs : List Loc) (ls : Array Slot), k σ' = some q → gH X mL σ' s H locs → lv_has ls 4 [(0, .ref (gad X 0)), (1, .int f62_1)] → W p l e rmX8_laysImage s m args below meth c H locs 0 0 (MQ below (gQv X mL q) args s 0 0 (gA X mL)) (F0 m 149 ls [])) : ∀ (n : Nat) (σ : gS) (v2 : Int32), qM_laysImage_62 f62_1 k n σ v2 = some q → ∀ (H : Heap) (locs : List Loc) (ls : Array Slot), gH X mL σ s H locs → lv_has ls 4 [(0, .ref (gad X 0)), (1, .int f62_1), (2, .int v2)] → W p l e rmX8_laysImage s m args below meth c H locs 0 0 (MQ below (gQv X mL q) args s 0 0 (gA X mL)) (F0 m 62 ls []) := by
  have hx := C.1
  have hb := C.2.1
  have hK := C.2.2.2.2.2.2.2.1
  have hts := C.2.2.2.2.1
  intro n
  induction n with
  | zero => intro σ v2 h; cases h
  | succ n ih =>
    intro σ v2 h H locs ls P hl
    have h : gob ((1 : Int32) + f62_1) 131 ((if (gM σ 9 ((1 : Int32) + f62_1).toNatClampNeg) ≤ v2 then k σ else gob f62_1 10 (gob (qM_bytePlace (gM σ 8 f62_1.toNatClampNeg) v2) 1219 ((if (gM σ 1 (qM_bytePlace (gM σ 8 f62_1.toNatClampNeg) v2).toNatClampNeg) < (1000 : Int32) then gob (((11 : Int32) + ((12 : Int32) * f62_1)) + v2) 131 (qM_laysImage_62 f62_1 k n (sM σ 9 (((11 : Int32) + ((12 : Int32) * f62_1)) + v2).toNatClampNeg (gM σ 1 (qM_bytePlace (gM σ 8 f62_1.toNatClampNeg) v2).toNatClampNeg)) (v2 + 1)) else (qM_nodeOf σ (((gM σ 1 (qM_bytePlace (gM σ 8 f62_1.toNatClampNeg) v2).toNatClampNeg) - (1000 : Int32)) / (100 : Int32))).bind (fun r14 => gob (((11 : Int32) + ((12 : Int32) * f62_1)) + v2) 131 (qM_laysImage_62 f62_1 k n (sM σ 9 (((11 : Int32) + ((12 : Int32) * f62_1)) + v2).toNatClampNeg (((1000 : Int32) + ((100 : Int32) * r14)) + (((gM σ 1 (qM_bytePlace (gM σ 8 f62_1.toNatClampNeg) v2).toNatClampNeg) - (1000 : Int32)) - ((gM σ 1 (qM_bytePlace (gM σ 8 f62_1.toNatClampNeg) v2).toNatClampNeg) - (1000 : Int32)) / (100 : Int32) * (100 : Int32)))) (v2 + 1)))))))) = some q := h
    refine lv_iload_n hx hb dX8_laysImage_62 rfl (lv_at hl 2 rfl) ?_
    refine lv_aload_n hx hb dX8_laysImage_63 rfl (lv_at hl 0 rfl) ?_
    refine g_getR C P ml0 rfl inlX8 11 (by decide) wd_103 rfl dX8_laysImage_64 ?_
    refine lv_iconst (v := 1) hx hb dX8_laysImage_67 (by decide) ?_
    refine lv_iload_n hx hb dX8_laysImage_68 rfl (lv_at hl 1 rfl) ?_
    refine lv_iadd hx hb dX8_laysImage_69 ?_
    obtain ⟨b8, h⟩ := g_ob h
    refine g_iald (j := ((1 : Int32) + f62_1).toNatClampNeg) C P ml9 b8 rfl dX8_laysImage_70 ?_
    refine lv_icmp_ge (tgt := 149) hx hb dX8_laysImage_71 (by decide) (fun c9 => ?_) (fun c9 => ?_)
    · have h := g_ifp c9 h
      exact hk σ _ _ _ h P (lv_sub hl [0, 1] rfl)
    have h := g_ifn c9 h
    refine lv_aload_n hx hb dX8_laysImage_74 rfl (lv_at hl 0 rfl) ?_
    refine g_getR C P ml0 rfl inlX8 0 (by decide) wd_95 rfl dX8_laysImage_75 ?_
    refine lv_aload_n hx hb dX8_laysImage_78 rfl (lv_at hl 0 rfl) ?_
    refine g_getR C P ml0 rfl inlX8 9 (by decide) wd_102 rfl dX8_laysImage_79 ?_
    refine lv_iload_n hx hb dX8_laysImage_82 rfl (lv_at hl 1 rfl) ?_
    obtain ⟨b10, h⟩ := g_ob h
    refine g_iald (j := f62_1.toNatClampNeg) C P ml8 b10 rfl dX8_laysImage_83 ?_
    refine lv_iload_n hx hb dX8_laysImage_84 rfl (lv_at hl 2 rfl) ?_
    refine g_callSi (n := 2) (As := [.int (gM σ 8 f62_1.toNatClampNeg), .int v2]) (rest := [.ref (gad X 1)]) C P (kX8_bytePlace l X hJ σ (gM σ 8 f62_1.toNatClampNeg) v2 _ rfl) wd_270 wd_271 wd_5 wd_272 rfl rfl kdX8_bytePlace.2 ⟨Nat.le_of_ble_eq_true rfl, Nat.le_of_ble_eq_true rfl⟩ rfl rfl hl.1 (Nat.le_of_ble_eq_true rfl) dX8_laysImage_85 (fun H locs P => ?_)
    obtain ⟨b11, h⟩ := g_ob h
    refine g_iald (j := (qM_bytePlace (gM σ 8 f62_1.toNatClampNeg) v2).toNatClampNeg) C P ml1 b11 rfl dX8_laysImage_88 ?_
    refine lv_istore_n (lv' := [(3, .int (gM σ 1 (qM_bytePlace (gM σ 8 f62_1.toNatClampNeg) v2).toNatClampNeg)), (0, .ref (gad X 0)), (1, .int f62_1), (2, .int v2)]) hx hb dX8_laysImage_89 rfl hl (by decide) rfl (fun ls hl => ?_)
    refine lv_aload_n hx hb dX8_laysImage_90 rfl (lv_at hl 1 rfl) ?_
    refine g_getR C P ml0 rfl inlX8 11 (by decide) wd_103 rfl dX8_laysImage_91 ?_
    refine lv_bipush (v := 11) hx hb dX8_laysImage_94 (by decide) ?_
    refine lv_bipush (v := 12) hx hb dX8_laysImage_96 (by decide) ?_
    refine lv_iload_n hx hb dX8_laysImage_98 rfl (lv_at hl 2 rfl) ?_
    refine lv_imul hx hb dX8_laysImage_99 ?_
    refine lv_iadd hx hb dX8_laysImage_100 ?_
    refine lv_iload_n hx hb dX8_laysImage_101 rfl (lv_at hl 3 rfl) ?_
    refine lv_iadd hx hb dX8_laysImage_102 ?_
    refine lv_iload_n hx hb dX8_laysImage_103 rfl (lv_at hl 0 rfl) ?_
    refine lv_sipush (v := 1000) hx hb dX8_laysImage_104 (by decide) ?_
    refine lv_icmp_lt (tgt := 141) hx hb dX8_laysImage_107 (by decide) (fun c12 => ?_) (fun c12 => ?_)
    · have h := g_ifp c12 h
      refine lv_iload_n hx hb dX8_laysImage_141 rfl (lv_at hl 0 rfl) ?_
      obtain ⟨b13, h⟩ := g_ob h
      refine g_iast (j := (((11 : Int32) + ((12 : Int32) * f62_1)) + v2).toNatClampNeg) C P ml9 b13 rfl dX8_laysImage_142 (fun H locs P => ?_)
      refine lv_iinc (v := (v2 + 1)) (lv' := [(2, .int (v2 + 1)), (3, .int (gM σ 1 (qM_bytePlace (gM σ 8 f62_1.toNatClampNeg) v2).toNatClampNeg)), (0, .ref (gad X 0)), (1, .int f62_1)]) hx hb dX8_laysImage_143 hl (k := 3) rfl rfl (by decide) rfl (fun ls hl => ?_)
      refine lv_goto (tgt := 62) hx hb dX8_laysImage_146 (by decide) ?_
      exact ih (sM σ 9 (((11 : Int32) + ((12 : Int32) * f62_1)) + v2).toNatClampNeg (gM σ 1 (qM_bytePlace (gM σ 8 f62_1.toNatClampNeg) v2).toNatClampNeg)) (v2 + 1) h _ _ _ P (lv_sub hl [2, 3, 0] rfl)
    have h := g_ifn c12 h
    refine lv_sipush (v := 1000) hx hb dX8_laysImage_110 (by decide) ?_
    refine lv_bipush (v := 100) hx hb dX8_laysImage_113 (by decide) ?_
    refine lv_aload_n hx hb dX8_laysImage_115 rfl (lv_at hl 1 rfl) ?_
    refine lv_iload_n hx hb dX8_laysImage_116 rfl (lv_at hl 0 rfl) ?_
    refine lv_sipush (v := 1000) hx hb dX8_laysImage_117 (by decide) ?_
    refine lv_isub hx hb dX8_laysImage_120 ?_
    refine lv_bipush (v := 100) hx hb dX8_laysImage_121 (by decide) ?_
    refine lv_idiv hx hb dX8_laysImage_123 (by decide) ?_
    obtain ⟨r14, hr14, h⟩ := g_bind h
    refine g_callVi (n := 1) (As := [.int (((gM σ 1 (qM_bytePlace (gM σ 8 f62_1.toNatClampNeg) v2).toNatClampNeg) - (1000 : Int32)) / (100 : Int32))]) (rest := [.int (100 : Int32), .int (1000 : Int32), .int (((11 : Int32) + ((12 : Int32) * f62_1)) + v2), .ref (gad X 9)]) C P (kX8_nodeOf l X hJ σ (((gM σ 1 (qM_bytePlace (gM σ 8 f62_1.toNatClampNeg) v2).toNatClampNeg) - (1000 : Int32)) / (100 : Int32)) _ hr14) wd_294 wd_295 wd_296 wd_5 wd_297 rfl rfl kdX8_nodeOf ⟨Nat.le_of_ble_eq_true rfl, Nat.le_of_ble_eq_true rfl⟩ ml0 rfl rfl rfl hl.1 (Nat.le_of_ble_eq_true rfl) dX8_laysImage_124 (fun H locs P => ?_)
    refine lv_imul hx hb dX8_laysImage_127 ?_
    refine lv_iadd hx hb dX8_laysImage_128 ?_
    refine lv_iload_n hx hb dX8_laysImage_129 rfl (lv_at hl 0 rfl) ?_
    refine lv_sipush (v := 1000) hx hb dX8_laysImage_130 (by decide) ?_
    refine lv_isub hx hb dX8_laysImage_133 ?_
    refine lv_bipush (v := 100) hx hb dX8_laysImage_134 (by decide) ?_
    refine lv_irem hx hb dX8_laysImage_136 (by decide) ?_
    refine lv_iadd hx hb dX8_laysImage_137 ?_
    refine lv_goto (tgt := 142) hx hb dX8_laysImage_138 (by decide) ?_
    obtain ⟨b15, h⟩ := g_ob h
    refine g_iast (j := (((11 : Int32) + ((12 : Int32) * f62_1)) + v2).toNatClampNeg) C P ml9 b15 rfl dX8_laysImage_142 (fun H locs P => ?_)
    refine lv_iinc (v := (v2 + 1)) (lv' := [(2, .int (v2 + 1)), (3, .int (gM σ 1 (qM_bytePlace (gM σ 8 f62_1.toNatClampNeg) v2).toNatClampNeg)), (0, .ref (gad X 0)), (1, .int f62_1)]) hx hb dX8_laysImage_143 hl (k := 3) rfl rfl (by decide) rfl (fun ls hl => ?_)
    refine lv_goto (tgt := 62) hx hb dX8_laysImage_146 (by decide) ?_
    exact ih (sM σ 9 (((11 : Int32) + ((12 : Int32) * f62_1)) + v2).toNatClampNeg (((1000 : Int32) + ((100 : Int32) * r14)) + (((gM σ 1 (qM_bytePlace (gM σ 8 f62_1.toNatClampNeg) v2).toNatClampNeg) - (1000 : Int32)) - ((gM σ 1 (qM_bytePlace (gM σ 8 f62_1.toNatClampNeg) v2).toNatClampNeg) - (1000 : Int32)) / (100 : Int32) * (100 : Int32)))) (v2 + 1) h _ _ _ P (lv_sub hl [2, 3, 0] rfl)
set_option maxHeartbeats 4000000 in
set_option maxRecDepth 100000 in
theorem kX8_laysImage_34 {p : Program} {l : Launch} {e : Env} {s : State} {m : MethodId} {args : Array Value} {below : List Frame} {meth : Method} {c : Code} {X : gXt} (hJ : gJ X mL) (C : gC p s m args meth c RX8 cX8_laysImage 4 none X mL) (k : gS → Option gS) (q : gS) (hk : ∀ (σ' : gS) (H : Heap) (locs : List Loc) (ls : Array Slot), k σ' = some q → gH X mL σ' s H locs → lv_has ls 4 [] → W p l e rmX8_laysImage s m args below meth c H locs 0 0 (MQ below (gQv X mL q) args s 0 0 (gA X mL)) (F0 m 155 ls [])) : ∀ (n : Nat) (σ : gS) (v1 : Int32), qM_laysImage_34 k n σ v1 = some q → ∀ (H : Heap) (locs : List Loc) (ls : Array Slot), gH X mL σ s H locs → lv_has ls 4 [(0, .ref (gad X 0)), (1, .int v1)] → W p l e rmX8_laysImage s m args below meth c H locs 0 0 (MQ below (gQv X mL q) args s 0 0 (gA X mL)) (F0 m 34 ls []) := by
  have hx := C.1
  have hb := C.2.1
  have hK := C.2.2.2.2.2.2.2.1
  have hts := C.2.2.2.2.1
  intro n
  induction n with
  | zero => intro σ v1 h; cases h
  | succ n ih =>
    intro σ v1 h H locs ls P hl
    have h : (if (gI σ 0 10) ≤ v1 then k σ else gob v1 10 ((qM_sizeOf σ (gM σ 8 v1.toNatClampNeg)).bind (fun r6 => gob ((1 : Int32) + v1) 131 (qM_laysImage_62 v1 (fun σ16 => qM_laysImage_34 k n σ16 (v1 + 1)) 8192 (sM σ 9 ((1 : Int32) + v1).toNatClampNeg r6) (0 : Int32))))) = some q := h
    refine lv_iload_n hx hb dX8_laysImage_34 rfl (lv_at hl 1 rfl) ?_
    refine lv_aload_n hx hb dX8_laysImage_35 rfl (lv_at hl 0 rfl) ?_
    refine g_getI C P ml0 rfl inlX8 10 (by decide) wd_289 rfl dX8_laysImage_36 ?_
    refine lv_icmp_ge (tgt := 155) hx hb dX8_laysImage_39 (by decide) (fun c4 => ?_) (fun c4 => ?_)
    · have h := g_ifp c4 h
      exact hk σ _ _ _ h P (lv_sub hl [] rfl)
    have h := g_ifn c4 h
    refine lv_aload_n hx hb dX8_laysImage_42 rfl (lv_at hl 0 rfl) ?_
    refine g_getR C P ml0 rfl inlX8 11 (by decide) wd_103 rfl dX8_laysImage_43 ?_
    refine lv_iconst (v := 1) hx hb dX8_laysImage_46 (by decide) ?_
    refine lv_iload_n hx hb dX8_laysImage_47 rfl (lv_at hl 1 rfl) ?_
    refine lv_iadd hx hb dX8_laysImage_48 ?_
    refine lv_aload_n hx hb dX8_laysImage_49 rfl (lv_at hl 0 rfl) ?_
    refine lv_aload_n hx hb dX8_laysImage_50 rfl (lv_at hl 0 rfl) ?_
    refine g_getR C P ml0 rfl inlX8 9 (by decide) wd_102 rfl dX8_laysImage_51 ?_
    refine lv_iload_n hx hb dX8_laysImage_54 rfl (lv_at hl 1 rfl) ?_
    obtain ⟨b5, h⟩ := g_ob h
    refine g_iald (j := v1.toNatClampNeg) C P ml8 b5 rfl dX8_laysImage_55 ?_
    obtain ⟨r6, hr6, h⟩ := g_bind h
    refine g_callVi (n := 1) (As := [.int (gM σ 8 v1.toNatClampNeg)]) (rest := [.int ((1 : Int32) + v1), .ref (gad X 9)]) C P (kX8_sizeOf l X hJ σ (gM σ 8 v1.toNatClampNeg) _ hr6) wd_250 wd_251 wd_252 wd_5 wd_253 rfl rfl kdX8_sizeOf ⟨Nat.le_of_ble_eq_true rfl, Nat.le_of_ble_eq_true rfl⟩ ml0 rfl rfl rfl hl.1 (Nat.le_of_ble_eq_true rfl) dX8_laysImage_56 (fun H locs P => ?_)
    obtain ⟨b7, h⟩ := g_ob h
    refine g_iast (j := ((1 : Int32) + v1).toNatClampNeg) C P ml9 b7 rfl dX8_laysImage_59 (fun H locs P => ?_)
    refine lv_iconst (v := 0) hx hb dX8_laysImage_60 (by decide) ?_
    refine lv_istore_n (lv' := [(2, .int (0 : Int32)), (0, .ref (gad X 0)), (1, .int v1)]) hx hb dX8_laysImage_61 rfl hl (by decide) rfl (fun ls hl => ?_)
    refine kX8_laysImage_62 hJ C v1 _ _ ?_ _ _ _ h _ _ _ P (lv_sub hl [1, 2, 0] rfl)
    intro σ16 H locs ls h P hl
    refine lv_iinc (v := (v1 + 1)) (lv' := [(1, .int (v1 + 1)), (0, .ref (gad X 0))]) hx hb dX8_laysImage_149 hl (k := 1) rfl rfl (by decide) rfl (fun ls hl => ?_)
    refine lv_goto (tgt := 34) hx hb dX8_laysImage_152 (by decide) ?_
    exact ih σ16 (v1 + 1) h _ _ _ P (lv_sub hl [1, 0] rfl)
set_option maxHeartbeats 4000000 in
set_option maxRecDepth 100000 in
theorem kX8_laysImage (l : Launch) (X : gXt) (hJ : gJ X mL) (σ : gS) (q : gS) (h : qM_laysImage σ = some q) : gMv l yX8_laysImage (gws yX8_laysImage cX8_laysImage 4 none) rmX8_laysImage X mL [.ref (gad X 0)] σ q := by
  refine g_enter (cc := cX8_laysImage) (nL := 4) (ret := none) hJ (plainFor_of_name (by decide)) (Nat.le_of_ble_eq_true rfl) ?_
  intro p e s m below meth c ls C P hl
  have C : gC p s m _ meth c RX8 cX8_laysImage 4 none X mL := C
  have hx := C.1
  have hb := C.2.1
  have hK := C.2.2.2.2.2.2.2.1
  have hts := C.2.2.2.2.1
  have hl : lv_has ls 4 [(0, .ref (gad X 0))] := hl
  unfold qM_laysImage at h
  refine lv_iconst (v := 0) hx hb dX8_laysImage_0 (by decide) ?_
  refine lv_istore_n (lv' := [(1, .int (0 : Int32)), (0, .ref (gad X 0))]) hx hb dX8_laysImage_1 rfl hl (by decide) rfl (fun ls hl => ?_)
  refine kX8_laysImage_2 hJ C _ _ ?_ _ _ _ h _ _ _ P (lv_sub hl [1, 0] rfl)
  intro σ3 H locs ls h P hl
  refine lv_aload_n hx hb dX8_laysImage_22 rfl (lv_at hl 0 rfl) ?_
  refine g_getR C P ml0 rfl inlX8 11 (by decide) wd_103 rfl dX8_laysImage_23 ?_
  refine lv_iconst (v := 0) hx hb dX8_laysImage_26 (by decide) ?_
  refine lv_aload_n hx hb dX8_laysImage_27 rfl (lv_at hl 0 rfl) ?_
  refine g_getI C P ml0 rfl inlX8 10 (by decide) wd_289 rfl dX8_laysImage_28 ?_
  refine g_iast (j := 0) C P ml9 (vp_in_iff.mpr ⟨by decide, by decide⟩) (by decide) dX8_laysImage_31 (fun H locs P => ?_)
  refine lv_iconst (v := 0) hx hb dX8_laysImage_32 (by decide) ?_
  refine lv_istore_n (lv' := [(1, .int (0 : Int32)), (0, .ref (gad X 0))]) hx hb dX8_laysImage_33 rfl hl (by decide) rfl (fun ls hl => ?_)
  refine kX8_laysImage_34 hJ C _ _ ?_ _ _ _ h _ _ _ P (lv_sub hl [1, 0] rfl)
  intro σ17 H locs ls h P hl
  have h := Option.some.inj h
  exact g_vret C P h dX8_laysImage_155
