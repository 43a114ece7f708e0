/-! WALKS, by program (wip/whole/gen.py): each method does what its mirror says -/
abbrev rmX8_imaged : Room := { frames := 2, cells := 0, slots := 0, locals := 43 }
theorem kdX8_imaged : yX8_imaged.cls = RX8 ∧ yX8_imaged.cls ≠ "java/lang/invoke/MethodHandle" ∧ yX8_imaged.cls ≠ "java/lang/invoke/VarHandle" ∧ (parseMethodDescriptor yX8_imaged.desc).map (fun d => d.parameters.length) = some 3 := by decide +kernel
set_option maxHeartbeats 4000000 in
set_option maxRecDepth 100000 in
theorem kX8_imaged (l : Launch) (X : gXt) (hJ : gJ X mL) (σ : gS) (a1 : Int32) (a2 : Int32) (a3 : Int32) (q : Int32 × gS) (h : qM_imaged σ a1 a2 a3 = some q) : gMi l yX8_imaged (gws yX8_imaged cX8_imaged 5 (some .int)) rmX8_imaged X mL [.ref (gad X 0), .int a1, .int a2, .int a3] σ q.1 q.2 := by
  refine g_enter (cc := cX8_imaged) (nL := 5) (ret := (some .int)) hJ (plainFor_of_name (by decide)) (Nat.le_of_ble_eq_true rfl) ?_
  intro p e s m below meth c ls C P hl
  have C : gC p s m _ meth c RX8 cX8_imaged 5 (some .int) X mL := C
  have hx := C.1
  have hb := C.2.1
  have hK := C.2.2.2.2.2.2.2.1
  have hts := C.2.2.2.2.1
  have hl : lv_has ls 5 [(0, .ref (gad X 0)), (1, .int a1), (2, .int a2), (3, .int a3)] := hl
  unfold qM_imaged at h
  refine lv_aload_n hx hb dX8_imaged_0 rfl (lv_at hl 0 rfl) ?_
  refine lv_iload_n hx hb dX8_imaged_1 rfl (lv_at hl 1 rfl) ?_
  refine g_callVi (n := 1) (As := [.int a1]) (rest := []) C P (kX8_isImage l X hJ σ a1 _ rfl) wd_713 wd_714 wd_715 wd_5 wd_716 rfl rfl kdX8_isImage ⟨Nat.le_of_ble_eq_true rfl, Nat.le_of_ble_eq_true rfl⟩ ml0 rfl rfl rfl hl.1 (Nat.le_of_ble_eq_true rfl) dX8_imaged_2 (fun H locs P => ?_)
  refine lv_if_eq (tgt := 36) hx hb dX8_imaged_5 (by decide) (fun c1 => ?_) (fun c1 => ?_)
  · have h := g_ifp c1 h
    refine lv_aload_n hx hb dX8_imaged_36 rfl (lv_at hl 0 rfl) ?_
    obtain ⟨r2, hr2, h⟩ := g_bind h
    refine g_callVi (n := 0) (As := []) (rest := []) C P (kX8_bad l X hJ σ _ hr2) wd_601 wd_602 wd_603 wd_5 wd_604 rfl rfl kdX8_bad ⟨Nat.le_of_ble_eq_true rfl, Nat.le_of_ble_eq_true rfl⟩ ml0 rfl rfl rfl hl.1 (Nat.le_of_ble_eq_true rfl) dX8_imaged_37 (fun H locs P => ?_)
    have h := Option.some.inj h
    exact g_iret C P (g_fst h) (g_snd h) dX8_imaged_40
  have h := g_ifn c1 h
  refine lv_iload_n hx hb dX8_imaged_8 rfl (lv_at hl 3 rfl) ?_
  refine lv_if_lt (tgt := 36) hx hb dX8_imaged_9 (by decide) (fun c3 => ?_) (fun c3 => ?_)
  · have h := g_ifp c3 h
    refine lv_aload_n hx hb dX8_imaged_36 rfl (lv_at hl 0 rfl) ?_
    obtain ⟨r4, hr4, h⟩ := g_bind h
    refine g_callVi (n := 0) (As := []) (rest := []) C P (kX8_bad l X hJ σ _ hr4) wd_601 wd_602 wd_603 wd_5 wd_604 rfl rfl kdX8_bad ⟨Nat.le_of_ble_eq_true rfl, Nat.le_of_ble_eq_true rfl⟩ ml0 rfl rfl rfl hl.1 (Nat.le_of_ble_eq_true rfl) dX8_imaged_37 (fun H locs P => ?_)
    have h := Option.some.inj h
    exact g_iret C P (g_fst h) (g_snd h) dX8_imaged_40
  have h := g_ifn c3 h
  refine lv_iload_n hx hb dX8_imaged_12 rfl (lv_at hl 2 rfl) ?_
  refine lv_iconst (v := 0) hx hb dX8_imaged_13 (by decide) ?_
  refine lv_aload_n hx hb dX8_imaged_14 rfl (lv_at hl 0 rfl) ?_
  refine g_getR C P ml0 rfl inlX8 0 (by decide) wd_95 rfl dX8_imaged_15 ?_
  refine lv_sipush (v := 171) hx hb dX8_imaged_18 (by decide) ?_
  refine lv_sipush (v := 131) hx hb dX8_imaged_21 (by decide) ?_
  refine lv_iload_n hx hb dX8_imaged_24 rfl (lv_at hl 1 rfl) ?_
  refine lv_imul hx hb dX8_imaged_25 ?_
  refine lv_iadd hx hb dX8_imaged_26 ?_
  obtain ⟨b5, h⟩ := g_ob h
  refine g_iald (j := ((171 : Int32) + ((131 : Int32) * a1)).toNatClampNeg) C P ml1 b5 rfl dX8_imaged_27 ?_
  refine lv_iconst (v := 1) hx hb dX8_imaged_28 (by decide) ?_
  refine lv_isub hx hb dX8_imaged_29 ?_
  refine g_callSi (n := 3) (As := [.int a2, .int (0 : Int32), .int ((gM σ 1 ((171 : Int32) + ((131 : Int32) * a1)).toNatClampNeg) - (1 : Int32))]) (rest := []) C P (kX8_in l X hJ σ a2 (0 : Int32) ((gM σ 1 ((171 : Int32) + ((131 : Int32) * a1)).toNatClampNeg) - (1 : Int32)) _ rfl) wd_195 wd_196 wd_5 wd_197 rfl rfl kdX8_in.2 ⟨Nat.le_of_ble_eq_true rfl, Nat.le_of_ble_eq_true rfl⟩ rfl rfl hl.1 (Nat.le_of_ble_eq_true rfl) dX8_imaged_30 (fun H locs P => ?_)
  refine lv_if_ne (tgt := 41) hx hb dX8_imaged_33 (by decide) (fun c6 => ?_) (fun c6 => ?_)
  · have h := g_ifn c6 h
    refine lv_sipush (v := 171) hx hb dX8_imaged_41 (by decide) ?_
    refine lv_sipush (v := 131) hx hb dX8_imaged_44 (by decide) ?_
    refine lv_iload_n hx hb dX8_imaged_47 rfl (lv_at hl 1 rfl) ?_
    refine lv_imul hx hb dX8_imaged_48 ?_
    refine lv_iadd hx hb dX8_imaged_49 ?_
    refine lv_istore (lv' := [(4, .int ((171 : Int32) + ((131 : Int32) * a1))), (0, .ref (gad X 0)), (1, .int a1), (2, .int a2), (3, .int a3)]) hx hb dX8_imaged_50 hl (by decide) rfl (fun ls hl => ?_)
    refine lv_iload_n hx hb dX8_imaged_52 rfl (lv_at hl 4 rfl) ?_
    refine lv_aload_n hx hb dX8_imaged_53 rfl (lv_at hl 1 rfl) ?_
    refine g_getR C P ml0 rfl inlX8 0 (by decide) wd_95 rfl dX8_imaged_54 ?_
    refine lv_iload hx hb dX8_imaged_57 (lv_at hl 0 rfl) ?_
    refine lv_iconst (v := 1) hx hb dX8_imaged_59 (by decide) ?_
    refine lv_iadd hx hb dX8_imaged_60 ?_
    refine lv_iload_n hx hb dX8_imaged_61 rfl (lv_at hl 3 rfl) ?_
    refine lv_iadd hx hb dX8_imaged_62 ?_
    obtain ⟨b7, h⟩ := g_ob h
    refine g_iald (j := ((((171 : Int32) + ((131 : Int32) * a1)) + (1 : Int32)) + a2).toNatClampNeg) C P ml1 b7 rfl dX8_imaged_63 ?_
    refine lv_icmp_ge (tgt := 87) hx hb dX8_imaged_64 (by decide) (fun c8 => ?_) (fun c8 => ?_)
    · have h := g_ifp c8 h
      refine lv_bipush (v := -5) hx hb dX8_imaged_87 (by decide) ?_
      have h := Option.some.inj h
      exact g_iret C P (g_fst h) (g_snd h) dX8_imaged_89
    have h := g_ifn c8 h
    refine lv_aload_n hx hb dX8_imaged_67 rfl (lv_at hl 1 rfl) ?_
    refine g_getR C P ml0 rfl inlX8 0 (by decide) wd_95 rfl dX8_imaged_68 ?_
    refine lv_iload hx hb dX8_imaged_71 (lv_at hl 0 rfl) ?_
    refine lv_bipush (v := 11) hx hb dX8_imaged_73 (by decide) ?_
    refine lv_iadd hx hb dX8_imaged_75 ?_
    refine lv_bipush (v := 12) hx hb dX8_imaged_76 (by decide) ?_
    refine lv_iload_n hx hb dX8_imaged_78 rfl (lv_at hl 3 rfl) ?_
    refine lv_imul hx hb dX8_imaged_79 ?_
    refine lv_iadd hx hb dX8_imaged_80 ?_
    refine lv_iload_n hx hb dX8_imaged_81 rfl (lv_at hl 4 rfl) ?_
    refine lv_iadd hx hb dX8_imaged_82 ?_
    obtain ⟨b9, h⟩ := g_ob h
    refine g_iald (j := (((((171 : Int32) + ((131 : Int32) * a1)) + (11 : Int32)) + ((12 : Int32) * a2)) + a3).toNatClampNeg) C P ml1 b9 rfl dX8_imaged_83 ?_
    refine lv_goto (tgt := 89) hx hb dX8_imaged_84 (by decide) ?_
    have h := Option.some.inj h
    exact g_iret C P (g_fst h) (g_snd h) dX8_imaged_89
  have h := g_ifp c6 h
  refine lv_aload_n hx hb dX8_imaged_36 rfl (lv_at hl 0 rfl) ?_
  obtain ⟨r10, hr10, h⟩ := g_bind h
  refine g_callVi (n := 0) (As := []) (rest := []) C P (kX8_bad l X hJ σ _ hr10) wd_601 wd_602 wd_603 wd_5 wd_604 rfl rfl kdX8_bad ⟨Nat.le_of_ble_eq_true rfl, Nat.le_of_ble_eq_true rfl⟩ ml0 rfl rfl rfl hl.1 (Nat.le_of_ble_eq_true rfl) dX8_imaged_37 (fun H locs P => ?_)
  have h := Option.some.inj h
  exact g_iret C P (g_fst h) (g_snd h) dX8_imaged_40
abbrev rmX8_like : Room := { frames := 3, cells := 0, slots := 0, locals := 66 }
theorem kdX8_like : yX8_like.cls = RX8 ∧ yX8_like.cls ≠ "java/lang/invoke/MethodHandle" ∧ yX8_like.cls ≠ "java/lang/invoke/VarHandle" ∧ (parseMethodDescriptor yX8_like.desc).map (fun d => d.parameters.length) = some 1 := by decide +kernel
set_option maxHeartbeats 4000000 in
set_option maxRecDepth 100000 in
theorem kX8_like (l : Launch) (X : gXt) (hJ : gJ X mL) (σ : gS) (a1 : Int32) (q : Int32 × gS) (h : qM_like σ a1 = some q) : gMi l yX8_like (gws yX8_like cX8_like 2 (some .int)) rmX8_like X mL [.ref (gad X 0), .int a1] σ q.1 q.2 := by
  refine g_enter (cc := cX8_like) (nL := 2) (ret := (some .int)) hJ (plainFor_of_name (by decide)) (Nat.le_of_ble_eq_true rfl) ?_
  intro p e s m below meth c ls C P hl
  have C : gC p s m _ meth c RX8 cX8_like 2 (some .int) X mL := C
  have hx := C.1
  have hb := C.2.1
  have hK := C.2.2.2.2.2.2.2.1
  have hts := C.2.2.2.2.1
  have hl : lv_has ls 2 [(0, .ref (gad X 0)), (1, .int a1)] := hl
  unfold qM_like at h
  refine lv_aload_n hx hb dX8_like_0 rfl (lv_at hl 0 rfl) ?_
  refine lv_iload_n hx hb dX8_like_1 rfl (lv_at hl 1 rfl) ?_
  refine g_callVi (n := 1) (As := [.int a1]) (rest := []) C P (kX8_isPiece l X hJ σ a1 _ rfl) wd_662 wd_663 wd_664 wd_5 wd_665 rfl rfl kdX8_isPiece ⟨Nat.le_of_ble_eq_true rfl, Nat.le_of_ble_eq_true rfl⟩ ml0 rfl rfl rfl hl.1 (Nat.le_of_ble_eq_true rfl) dX8_like_2 (fun H locs P => ?_)
  refine lv_if_ne (tgt := 13) hx hb dX8_like_5 (by decide) (fun c1 => ?_) (fun c1 => ?_)
  · have h := g_ifn c1 h
    refine lv_aload_n hx hb dX8_like_13 rfl (lv_at hl 0 rfl) ?_
    refine lv_iload_n hx hb dX8_like_14 rfl (lv_at hl 1 rfl) ?_
    obtain ⟨r2, hr2, h⟩ := g_bind h
    refine g_callVv (n := 1) (As := [.int a1]) (rest := []) C P (kX8_reaches l X hJ σ a1 _ hr2) wd_290 wd_291 wd_292 wd_5 wd_293 rfl rfl kdX8_reaches ⟨Nat.le_of_ble_eq_true rfl, Nat.le_of_ble_eq_true rfl⟩ ml0 rfl rfl rfl hl.1 (Nat.le_of_ble_eq_true rfl) dX8_like_15 (fun H locs P => ?_)
    refine lv_aload_n hx hb dX8_like_18 rfl (lv_at hl 0 rfl) ?_
    obtain ⟨r3, hr3, h⟩ := g_bind h
    refine g_callVi (n := 0) (As := []) (rest := []) C P (kX8_allLive l X hJ r2 _ hr3) wd_298 wd_299 wd_300 wd_5 wd_301 rfl rfl kdX8_allLive ⟨Nat.le_of_ble_eq_true rfl, Nat.le_of_ble_eq_true rfl⟩ ml0 rfl rfl rfl hl.1 (Nat.le_of_ble_eq_true rfl) dX8_like_19 (fun H locs P => ?_)
    refine lv_if_ne (tgt := 38) hx hb dX8_like_22 (by decide) (fun c4 => ?_) (fun c4 => ?_)
    · have h := g_ifn c4 h
      refine lv_aload_n hx hb dX8_like_38 rfl (lv_at hl 0 rfl) ?_
      obtain ⟨r5, hr5, h⟩ := g_bind h
      refine g_callVv (n := 0) (As := []) (rest := []) C P (kX8_laysImage l X hJ r2 _ hr5) wd_302 wd_303 wd_304 wd_5 wd_305 rfl rfl kdX8_laysImage ⟨Nat.le_of_ble_eq_true rfl, Nat.le_of_ble_eq_true rfl⟩ ml0 rfl rfl rfl hl.1 (Nat.le_of_ble_eq_true rfl) dX8_like_39 (fun H locs P => ?_)
      refine lv_aload_n hx hb dX8_like_42 rfl (lv_at hl 0 rfl) ?_
      obtain ⟨r6, hr6, h⟩ := g_bind h
      refine g_callVi (n := 0) (As := []) (rest := []) C P (kX8_imageLaid l X hJ r5 _ hr6) wd_306 wd_307 wd_308 wd_5 wd_309 rfl rfl kdX8_imageLaid ⟨Nat.le_of_ble_eq_true rfl, Nat.le_of_ble_eq_true rfl⟩ ml0 rfl rfl rfl hl.1 (Nat.le_of_ble_eq_true rfl) dX8_like_43 (fun H locs P => ?_)
      have h := Option.some.inj h
      exact g_iret C P (g_fst h) (g_snd h) dX8_like_46
    have h := g_ifp c4 h
    refine lv_aload_n hx hb dX8_like_25 rfl (lv_at hl 0 rfl) ?_
    refine g_getR C P ml0 rfl inlX8 4 (by decide) wd_98 rfl dX8_like_26 ?_
    refine lv_iconst (v := 1) hx hb dX8_like_29 (by decide) ?_
    refine lv_dup2_11 hx hb dX8_like_30 rfl rfl ?_
    refine g_iald (j := 1) C P ml4 (vp_in_iff.mpr ⟨by decide, by decide⟩) (by decide) dX8_like_31 ?_
    refine lv_iconst (v := 1) hx hb dX8_like_32 (by decide) ?_
    refine lv_iadd hx hb dX8_like_33 ?_
    refine g_iast (j := 1) C P ml4 (vp_in_iff.mpr ⟨by decide, by decide⟩) (by decide) dX8_like_34 (fun H locs P => ?_)
    refine lv_bipush (v := -3) hx hb dX8_like_35 (by decide) ?_
    have h := Option.some.inj h
    exact g_iret C P (g_fst h) (g_snd h) dX8_like_37
  have h := g_ifp c1 h
  refine lv_aload_n hx hb dX8_like_8 rfl (lv_at hl 0 rfl) ?_
  obtain ⟨r7, hr7, h⟩ := g_bind h
  refine g_callVi (n := 0) (As := []) (rest := []) C P (kX8_bad l X hJ σ _ hr7) wd_601 wd_602 wd_603 wd_5 wd_604 rfl rfl kdX8_bad ⟨Nat.le_of_ble_eq_true rfl, Nat.le_of_ble_eq_true rfl⟩ ml0 rfl rfl rfl hl.1 (Nat.le_of_ble_eq_true rfl) dX8_like_9 (fun H locs P => ?_)
  have h := Option.some.inj h
  exact g_iret C P (g_fst h) (g_snd h) dX8_like_12
abbrev rmX8_livePieces : Room := { frames := 2, cells := 0, slots := 0, locals := 41 }
theorem kdX8_livePieces : yX8_livePieces.cls = RX8 ∧ yX8_livePieces.cls ≠ "java/lang/invoke/MethodHandle" ∧ yX8_livePieces.cls ≠ "java/lang/invoke/VarHandle" ∧ (parseMethodDescriptor yX8_livePieces.desc).map (fun d => d.parameters.length) = some 0 := by decide +kernel
set_option maxHeartbeats 4000000 in
set_option maxRecDepth 100000 in
theorem kX8_livePieces_4 {p : Program} {l : Launch} {e : Env} {s : State} {m : MethodId} {args : Array Value} {below : List Frame} {meth : Method} {c : Code} {X : gXt} (hJ : gJ X mL) (C : gC p s m args meth c RX8 cX8_livePieces 3 (some .int) X mL) (σ : gS) (k : Int32 → Option Int32) (q : Int32) (hk : ∀ (x1 : Int32) (H : Heap) (locs : List Loc) (ls : Array Slot), k x1 = some q → gH X mL σ s H locs → lv_has ls 3 [(1, .int x1)] → W p l e rmX8_livePieces s m args below meth c H locs 0 0 (MQ below (gQi X mL q σ) args s 0 0 (gA X mL)) (F0 m 36 ls [])) : ∀ (n : Nat) (v1 : Int32) (v2 : Int32), qM_livePieces_4 σ k n v1 v2 = some q → ∀ (H : Heap) (locs : List Loc) (ls : Array Slot), gH X mL σ s H locs → lv_has ls 3 [(0, .ref (gad X 0)), (1, .int v1), (2, .int v2)] → W p l e rmX8_livePieces s m args below meth c H locs 0 0 (MQ below (gQi X mL q σ) args s 0 0 (gA X mL)) (F0 m 4 ls []) := by
  have hx := C.1
  have hb := C.2.1
  have hK := C.2.2.2.2.2.2.2.1
  have hts := C.2.2.2.2.1
  intro n
  induction n with
  | zero => intro v1 v2 h; cases h
  | succ n ih =>
    intro v1 v2 h H locs ls P hl
    have h : (if (gM σ 1 0) ≤ v2 then k v1 else (qM_isLive σ v2).bind (fun r2 => (if r2 = 0 then qM_livePieces_4 σ k n (v1 + (0 : Int32)) (v2 + 1) else qM_livePieces_4 σ k n (v1 + (1 : Int32)) (v2 + 1)))) = some q := h
    refine lv_iload_n hx hb dX8_livePieces_4 rfl (lv_at hl 2 rfl) ?_
    refine lv_aload_n hx hb dX8_livePieces_5 rfl (lv_at hl 0 rfl) ?_
    refine g_getR C P ml0 rfl inlX8 0 (by decide) wd_95 rfl dX8_livePieces_6 ?_
    refine lv_iconst (v := 0) hx hb dX8_livePieces_9 (by decide) ?_
    refine g_iald (j := 0) C P ml1 (vp_in_iff.mpr ⟨by decide, by decide⟩) (by decide) dX8_livePieces_10 ?_
    refine lv_icmp_ge (tgt := 36) hx hb dX8_livePieces_11 (by decide) (fun c1 => ?_) (fun c1 => ?_)
    · have h := g_ifp c1 h
      exact hk v1 _ _ _ h P (lv_sub hl [1] rfl)
    have h := g_ifn c1 h
    refine lv_iload_n hx hb dX8_livePieces_14 rfl (lv_at hl 1 rfl) ?_
    refine lv_aload_n hx hb dX8_livePieces_15 rfl (lv_at hl 0 rfl) ?_
    refine lv_iload_n hx hb dX8_livePieces_16 rfl (lv_at hl 2 rfl) ?_
    obtain ⟨r2, hr2, h⟩ := g_bind h
    refine g_callVi (n := 1) (As := [.int v2]) (rest := [.int v1]) C P (kX8_isLive l X hJ σ v2 _ hr2) wd_221 wd_222 wd_223 wd_5 wd_224 rfl rfl kdX8_isLive ⟨Nat.le_of_ble_eq_true rfl, Nat.le_of_ble_eq_true rfl⟩ ml0 rfl rfl rfl hl.1 (Nat.le_of_ble_eq_true rfl) dX8_livePieces_17 (fun H locs P => ?_)
    refine lv_if_eq (tgt := 27) hx hb dX8_livePieces_20 (by decide) (fun c3 => ?_) (fun c3 => ?_)
    · have h := g_ifp c3 h
      refine lv_iconst (v := 0) hx hb dX8_livePieces_27 (by decide) ?_
      refine lv_iadd hx hb dX8_livePieces_28 ?_
      refine lv_istore_n (lv' := [(1, .int (v1 + (0 : Int32))), (0, .ref (gad X 0)), (2, .int v2)]) hx hb dX8_livePieces_29 rfl hl (by decide) rfl (fun ls hl => ?_)
      refine lv_iinc (v := (v2 + 1)) (lv' := [(2, .int (v2 + 1)), (1, .int (v1 + (0 : Int32))), (0, .ref (gad X 0))]) hx hb dX8_livePieces_30 hl (k := 2) rfl rfl (by decide) rfl (fun ls hl => ?_)
      refine lv_goto (tgt := 4) hx hb dX8_livePieces_33 (by decide) ?_
      exact ih (v1 + (0 : Int32)) (v2 + 1) h _ _ _ P (lv_sub hl [2, 1, 0] rfl)
    have h := g_ifn c3 h
    refine lv_iconst (v := 1) hx hb dX8_livePieces_23 (by decide) ?_
    refine lv_goto (tgt := 28) hx hb dX8_livePieces_24 (by decide) ?_
    refine lv_iadd hx hb dX8_livePieces_28 ?_
    refine lv_istore_n (lv' := [(1, .int (v1 + (1 : Int32))), (0, .ref (gad X 0)), (2, .int v2)]) hx hb dX8_livePieces_29 rfl hl (by decide) rfl (fun ls hl => ?_)
    refine lv_iinc (v := (v2 + 1)) (lv' := [(2, .int (v2 + 1)), (1, .int (v1 + (1 : Int32))), (0, .ref (gad X 0))]) hx hb dX8_livePieces_30 hl (k := 2) rfl rfl (by decide) rfl (fun ls hl => ?_)
    refine lv_goto (tgt := 4) hx hb dX8_livePieces_33 (by decide) ?_
    exact ih (v1 + (1 : Int32)) (v2 + 1) h _ _ _ P (lv_sub hl [2, 1, 0] rfl)
set_option maxHeartbeats 4000000 in
set_option maxRecDepth 100000 in
theorem kX8_livePieces (l : Launch) (X : gXt) (hJ : gJ X mL) (σ : gS) (q : Int32) (h : qM_livePieces σ = some q) : gMi l yX8_livePieces (gws yX8_livePieces cX8_livePieces 3 (some .int)) rmX8_livePieces X mL [.ref (gad X 0)] σ q σ := by
  refine g_enter (cc := cX8_livePieces) (nL := 3) (ret := (some .int)) hJ (plainFor_of_name (by decide)) (Nat.le_of_ble_eq_true rfl) ?_
  intro p e s m below meth c ls C P hl
  have C : gC p s m _ meth c RX8 cX8_livePieces 3 (some .int) X mL := C
  have hx := C.1
  have hb := C.2.1
  have hK := C.2.2.2.2.2.2.2.1
  have hts := C.2.2.2.2.1
  have hl : lv_has ls 3 [(0, .ref (gad X 0))] := hl
  unfold qM_livePieces at h
  refine lv_iconst (v := 0) hx hb dX8_livePieces_0 (by decide) ?_
  refine lv_istore_n (lv' := [(1, .int (0 : Int32)), (0, .ref (gad X 0))]) hx hb dX8_livePieces_1 rfl hl (by decide) rfl (fun ls hl => ?_)
  refine lv_iconst (v := 0) hx hb dX8_livePieces_2 (by decide) ?_
  refine lv_istore_n (lv' := [(2, .int (0 : Int32)), (1, .int (0 : Int32)), (0, .ref (gad X 0))]) hx hb dX8_livePieces_3 rfl hl (by decide) rfl (fun ls hl => ?_)
  refine kX8_livePieces_4 hJ C σ _ _ ?_ _ _ _ h _ _ _ P (lv_sub hl [2, 1, 0] rfl)
  intro x4 H locs ls h P hl
  refine lv_iload_n hx hb dX8_livePieces_36 rfl (lv_at hl 0 rfl) ?_
  have h := Option.some.inj h
  exact g_iret C P h rfl dX8_livePieces_37
abbrev rmX8_countOf : Room := { frames := 3, cells := 0, slots := 0, locals := 63 }
theorem kdX8_countOf : yX8_countOf.cls = RX8 ∧ yX8_countOf.cls ≠ "java/lang/invoke/MethodHandle" ∧ yX8_countOf.cls ≠ "java/lang/invoke/VarHandle" ∧ (parseMethodDescriptor yX8_countOf.desc).map (fun d => d.parameters.length) = some 1 := by decide +kernel
set_option maxHeartbeats 4000000 in
set_option maxRecDepth 100000 in
theorem kX8_countOf (l : Launch) (X : gXt) (hJ : gJ X mL) (σ : gS) (a1 : Int32) (q : Int32) (h : qM_countOf σ a1 = some q) : gMi l yX8_countOf (gws yX8_countOf cX8_countOf 2 (some .int)) rmX8_countOf X mL [.ref (gad X 0), .int a1] σ q σ := by
  refine g_enter (cc := cX8_countOf) (nL := 2) (ret := (some .int)) hJ (plainFor_of_name (by decide)) (Nat.le_of_ble_eq_true rfl) ?_
  intro p e s m below meth c ls C P hl
  have C : gC p s m _ meth c RX8 cX8_countOf 2 (some .int) X mL := C
  have hx := C.1
  have hb := C.2.1
  have hK := C.2.2.2.2.2.2.2.1
  have hts := C.2.2.2.2.1
  have hl : lv_has ls 2 [(0, .ref (gad X 0)), (1, .int a1)] := hl
  unfold qM_countOf at h
  refine lv_iload_n hx hb dX8_countOf_0 rfl (lv_at hl 1 rfl) ?_
  by_cases cs0 : a1 = (0 : Int32)
  · have h := g_ifp cs0 h
    refine lv_tableIn (off := 55) (tgt := 56) hx hb dX8_countOf_1 (by rw [cs0]; decide) (by rw [cs0]; decide) (by rw [cs0]; rfl) (by decide) ?_
    refine lv_aload_n hx hb dX8_countOf_56 rfl (lv_at hl 0 rfl) ?_
    refine g_getR C P ml0 rfl inlX8 0 (by decide) wd_95 rfl dX8_countOf_57 ?_
    refine lv_iconst (v := 0) hx hb dX8_countOf_60 (by decide) ?_
    refine g_iald (j := 0) C P ml1 (vp_in_iff.mpr ⟨by decide, by decide⟩) (by decide) dX8_countOf_61 ?_
    have h := Option.some.inj h
    exact g_iret C P h rfl dX8_countOf_62
  have h := g_ifn cs0 h
  by_cases cs1 : a1 = (1 : Int32)
  · have h := g_ifp cs1 h
    refine lv_tableIn (off := 62) (tgt := 63) hx hb dX8_countOf_1 (by rw [cs1]; decide) (by rw [cs1]; decide) (by rw [cs1]; rfl) (by decide) ?_
    refine lv_aload_n hx hb dX8_countOf_63 rfl (lv_at hl 0 rfl) ?_
    refine g_getR C P ml0 rfl inlX8 0 (by decide) wd_95 rfl dX8_countOf_64 ?_
    refine lv_sipush (v := 170) hx hb dX8_countOf_67 (by decide) ?_
    refine g_iald (j := 170) C P ml1 (vp_in_iff.mpr ⟨by decide, by decide⟩) (by decide) dX8_countOf_70 ?_
    have h := Option.some.inj h
    exact g_iret C P h rfl dX8_countOf_71
  have h := g_ifn cs1 h
  by_cases cs2 : a1 = (2 : Int32)
  · have h := g_ifp cs2 h
    refine lv_tableIn (off := 71) (tgt := 72) hx hb dX8_countOf_1 (by rw [cs2]; decide) (by rw [cs2]; decide) (by rw [cs2]; rfl) (by decide) ?_
    refine lv_aload_n hx hb dX8_countOf_72 rfl (lv_at hl 0 rfl) ?_
    obtain ⟨r1, hr1, h⟩ := g_bind h
    refine g_callVi (n := 0) (As := []) (rest := []) C P (kX8_livePieces l X hJ σ _ hr1) wd_780 wd_781 wd_782 wd_5 wd_783 rfl rfl kdX8_livePieces ⟨Nat.le_of_ble_eq_true rfl, Nat.le_of_ble_eq_true rfl⟩ ml0 rfl rfl rfl hl.1 (Nat.le_of_ble_eq_true rfl) dX8_countOf_73 (fun H locs P => ?_)
    have h := Option.some.inj h
    exact g_iret C P h rfl dX8_countOf_76
  have h := g_ifn cs2 h
  by_cases cs3 : a1 = (3 : Int32)
  · have h := g_ifp cs3 h
    refine lv_tableIn (off := 76) (tgt := 77) hx hb dX8_countOf_1 (by rw [cs3]; decide) (by rw [cs3]; decide) (by rw [cs3]; rfl) (by decide) ?_
    refine lv_aload_n hx hb dX8_countOf_77 rfl (lv_at hl 0 rfl) ?_
    refine g_getR C P ml0 rfl inlX8 0 (by decide) wd_95 rfl dX8_countOf_78 ?_
    refine lv_sipush (v := 169) hx hb dX8_countOf_81 (by decide) ?_
    refine g_iald (j := 169) C P ml1 (vp_in_iff.mpr ⟨by decide, by decide⟩) (by decide) dX8_countOf_84 ?_
    have h := Option.some.inj h
    exact g_iret C P h rfl dX8_countOf_85
  have h := g_ifn cs3 h
  by_cases cs7 : a1 = (7 : Int32)
  · have h := g_ifp cs7 h
    refine lv_tableIn (off := 85) (tgt := 86) hx hb dX8_countOf_1 (by rw [cs7]; decide) (by rw [cs7]; decide) (by rw [cs7]; rfl) (by decide) ?_
    refine lv_aload_n hx hb dX8_countOf_86 rfl (lv_at hl 0 rfl) ?_
    refine g_getR C P ml0 rfl inlX8 5 (by decide) wd_99 rfl dX8_countOf_87 ?_
    refine lv_iconst (v := 0) hx hb dX8_countOf_90 (by decide) ?_
    refine g_iald (j := 0) C P ml5 (vp_in_iff.mpr ⟨by decide, by decide⟩) (by decide) dX8_countOf_91 ?_
    have h := Option.some.inj h
    exact g_iret C P h rfl dX8_countOf_92
  have h := g_ifn cs7 h
  by_cases cs8 : a1 = (8 : Int32)
  · have h := g_ifp cs8 h
    refine lv_tableIn (off := 92) (tgt := 93) hx hb dX8_countOf_1 (by rw [cs8]; decide) (by rw [cs8]; decide) (by rw [cs8]; rfl) (by decide) ?_
    refine lv_aload_n hx hb dX8_countOf_93 rfl (lv_at hl 0 rfl) ?_
    refine g_getI C P ml0 rfl inlX8 7 (by decide) wd_779 rfl dX8_countOf_94 ?_
    have h := Option.some.inj h
    exact g_iret C P h rfl dX8_countOf_97
  have h := g_ifn cs8 h
  by_cases cs9 : a1 = (9 : Int32)
  · have h := g_ifp cs9 h
    refine lv_tableIn (off := 97) (tgt := 98) hx hb dX8_countOf_1 (by rw [cs9]; decide) (by rw [cs9]; decide) (by rw [cs9]; rfl) (by decide) ?_
    refine lv_aload_n hx hb dX8_countOf_98 rfl (lv_at hl 0 rfl) ?_
    refine g_getI C P ml0 rfl inlX8 3 (by decide) wd_314 rfl dX8_countOf_99 ?_
    have h := Option.some.inj h
    exact g_iret C P h rfl dX8_countOf_102
  have h := g_ifn cs9 h
  by_cases cs4 : a1 = (4 : Int32)
  · refine lv_tableIn (off := 102) (tgt := 103) hx hb dX8_countOf_1 (by rw [cs4]; decide) (by rw [cs4]; decide) (by rw [cs4]; rfl) (by decide) ?_
    refine lv_aload_n hx hb dX8_countOf_103 rfl (lv_at hl 0 rfl) ?_
    refine g_getR C P ml0 rfl inlX8 4 (by decide) wd_98 rfl dX8_countOf_104 ?_
    refine lv_iload_n hx hb dX8_countOf_107 rfl (lv_at hl 1 rfl) ?_
    refine lv_iconst (v := 4) hx hb dX8_countOf_108 (by decide) ?_
    refine lv_isub hx hb dX8_countOf_109 ?_
    obtain ⟨b2, h⟩ := g_ob h
    refine g_iald (j := (a1 - (4 : Int32)).toNatClampNeg) C P ml4 b2 rfl dX8_countOf_110 ?_
    have h := Option.some.inj h
    exact g_iret C P h rfl dX8_countOf_111
  by_cases cs5 : a1 = (5 : Int32)
  · refine lv_tableIn (off := 102) (tgt := 103) hx hb dX8_countOf_1 (by rw [cs5]; decide) (by rw [cs5]; decide) (by rw [cs5]; rfl) (by decide) ?_
    refine lv_aload_n hx hb dX8_countOf_103 rfl (lv_at hl 0 rfl) ?_
    refine g_getR C P ml0 rfl inlX8 4 (by decide) wd_98 rfl dX8_countOf_104 ?_
    refine lv_iload_n hx hb dX8_countOf_107 rfl (lv_at hl 1 rfl) ?_
    refine lv_iconst (v := 4) hx hb dX8_countOf_108 (by decide) ?_
    refine lv_isub hx hb dX8_countOf_109 ?_
    obtain ⟨b2, h⟩ := g_ob h
    refine g_iald (j := (a1 - (4 : Int32)).toNatClampNeg) C P ml4 b2 rfl dX8_countOf_110 ?_
    have h := Option.some.inj h
    exact g_iret C P h rfl dX8_countOf_111
  by_cases cs6 : a1 = (6 : Int32)
  · refine lv_tableIn (off := 102) (tgt := 103) hx hb dX8_countOf_1 (by rw [cs6]; decide) (by rw [cs6]; decide) (by rw [cs6]; rfl) (by decide) ?_
    refine lv_aload_n hx hb dX8_countOf_103 rfl (lv_at hl 0 rfl) ?_
    refine g_getR C P ml0 rfl inlX8 4 (by decide) wd_98 rfl dX8_countOf_104 ?_
    refine lv_iload_n hx hb dX8_countOf_107 rfl (lv_at hl 1 rfl) ?_
    refine lv_iconst (v := 4) hx hb dX8_countOf_108 (by decide) ?_
    refine lv_isub hx hb dX8_countOf_109 ?_
    obtain ⟨b2, h⟩ := g_ob h
    refine g_iald (j := (a1 - (4 : Int32)).toNatClampNeg) C P ml4 b2 rfl dX8_countOf_110 ?_
    have h := Option.some.inj h
    exact g_iret C P h rfl dX8_countOf_111
  refine lv_tableOut (tgt := 103) hx hb dX8_countOf_1 (by have e0 := lv_neT cs0 (a := 0) rfl; have e1 := lv_neT cs1 (a := 1) rfl; have e2 := lv_neT cs2 (a := 2) rfl; have e3 := lv_neT cs3 (a := 3) rfl; have e4 := lv_neT cs7 (a := 7) rfl; have e5 := lv_neT cs8 (a := 8) rfl; have e6 := lv_neT cs9 (a := 9) rfl; have e7 := lv_neT cs4 (a := 4) rfl; have e8 := lv_neT cs5 (a := 5) rfl; have e9 := lv_neT cs6 (a := 6) rfl; omega) (by decide) ?_
  refine lv_aload_n hx hb dX8_countOf_103 rfl (lv_at hl 0 rfl) ?_
  refine g_getR C P ml0 rfl inlX8 4 (by decide) wd_98 rfl dX8_countOf_104 ?_
  refine lv_iload_n hx hb dX8_countOf_107 rfl (lv_at hl 1 rfl) ?_
  refine lv_iconst (v := 4) hx hb dX8_countOf_108 (by decide) ?_
  refine lv_isub hx hb dX8_countOf_109 ?_
  obtain ⟨b2, h⟩ := g_ob h
  refine g_iald (j := (a1 - (4 : Int32)).toNatClampNeg) C P ml4 b2 rfl dX8_countOf_110 ?_
  have h := Option.some.inj h
  exact g_iret C P h rfl dX8_countOf_111
abbrev rmX8_count : Room := { frames := 4, cells := 0, slots := 0, locals := 84 }
theorem kdX8_count : yX8_count.cls = RX8 ∧ yX8_count.cls ≠ "java/lang/invoke/MethodHandle" ∧ yX8_count.cls ≠ "java/lang/invoke/VarHandle" ∧ (parseMethodDescriptor yX8_count.desc).map (fun d => d.parameters.length) = some 1 := by decide +kernel
set_option maxHeartbeats 4000000 in
set_option maxRecDepth 100000 in
theorem kX8_count (l : Launch) (X : gXt) (hJ : gJ X mL) (σ : gS) (a1 : Int32) (q : Int32 × gS) (h : qM_count σ a1 = some q) : gMi l yX8_count (gws yX8_count cX8_count 2 (some .int)) rmX8_count X mL [.ref (gad X 0), .int a1] σ q.1 q.2 := by
  refine g_enter (cc := cX8_count) (nL := 2) (ret := (some .int)) hJ (plainFor_of_name (by decide)) (Nat.le_of_ble_eq_true rfl) ?_
  intro p e s m below meth c ls C P hl
  have C : gC p s m _ meth c RX8 cX8_count 2 (some .int) X mL := C
  have hx := C.1
  have hb := C.2.1
  have hK := C.2.2.2.2.2.2.2.1
  have hts := C.2.2.2.2.1
  have hl : lv_has ls 2 [(0, .ref (gad X 0)), (1, .int a1)] := hl
  unfold qM_count at h
  refine lv_iload_n hx hb dX8_count_0 rfl (lv_at hl 1 rfl) ?_
  refine lv_iconst (v := 0) hx hb dX8_count_1 (by decide) ?_
  refine lv_bipush (v := 9) hx hb dX8_count_2 (by decide) ?_
  refine g_callSi (n := 3) (As := [.int a1, .int (0 : Int32), .int (9 : Int32)]) (rest := []) C P (kX8_in l X hJ σ a1 (0 : Int32) (9 : Int32) _ rfl) wd_195 wd_196 wd_5 wd_197 rfl rfl kdX8_in.2 ⟨Nat.le_of_ble_eq_true rfl, Nat.le_of_ble_eq_true rfl⟩ rfl rfl hl.1 (Nat.le_of_ble_eq_true rfl) dX8_count_4 (fun H locs P => ?_)
  refine lv_if_eq (tgt := 18) hx hb dX8_count_7 (by decide) (fun c1 => ?_) (fun c1 => ?_)
  · have h := g_ifp c1 h
    refine lv_aload_n hx hb dX8_count_18 rfl (lv_at hl 0 rfl) ?_
    obtain ⟨r2, hr2, h⟩ := g_bind h
    refine g_callVi (n := 0) (As := []) (rest := []) C P (kX8_bad l X hJ σ _ hr2) wd_601 wd_602 wd_603 wd_5 wd_604 rfl rfl kdX8_bad ⟨Nat.le_of_ble_eq_true rfl, Nat.le_of_ble_eq_true rfl⟩ ml0 rfl rfl rfl hl.1 (Nat.le_of_ble_eq_true rfl) dX8_count_19 (fun H locs P => ?_)
    have h := Option.some.inj h
    exact g_iret C P (g_fst h) (g_snd h) dX8_count_22
  have h := g_ifn c1 h
  refine lv_aload_n hx hb dX8_count_10 rfl (lv_at hl 0 rfl) ?_
  refine lv_iload_n hx hb dX8_count_11 rfl (lv_at hl 1 rfl) ?_
  obtain ⟨r3, hr3, h⟩ := g_bind h
  refine g_callVi (n := 1) (As := [.int a1]) (rest := []) C P (kX8_countOf l X hJ σ a1 _ hr3) wd_775 wd_776 wd_777 wd_5 wd_778 rfl rfl kdX8_countOf ⟨Nat.le_of_ble_eq_true rfl, Nat.le_of_ble_eq_true rfl⟩ ml0 rfl rfl rfl hl.1 (Nat.le_of_ble_eq_true rfl) dX8_count_12 (fun H locs P => ?_)
  refine lv_goto (tgt := 22) hx hb dX8_count_15 (by decide) ?_
  have h := Option.some.inj h
  exact g_iret C P (g_fst h) (g_snd h) dX8_count_22
abbrev rmX8_undefined : Room := { frames := 1, cells := 0, slots := 0, locals := 22 }
theorem kdX8_undefined : yX8_undefined.cls = RX8 ∧ yX8_undefined.cls ≠ "java/lang/invoke/MethodHandle" ∧ yX8_undefined.cls ≠ "java/lang/invoke/VarHandle" ∧ (parseMethodDescriptor yX8_undefined.desc).map (fun d => d.parameters.length) = some 1 := by decide +kernel
set_option maxHeartbeats 4000000 in
set_option maxRecDepth 100000 in
theorem kX8_undefined (l : Launch) (X : gXt) (hJ : gJ X mL) (σ : gS) (a1 : Int32) (q : Int32 × gS) (h : qM_undefined σ a1 = some q) : gMi l yX8_undefined (gws yX8_undefined cX8_undefined 2 (some .int)) rmX8_undefined X mL [.ref (gad X 0), .int a1] σ q.1 q.2 := by
  refine g_enter (cc := cX8_undefined) (nL := 2) (ret := (some .int)) hJ (plainFor_of_name (by decide)) (Nat.le_of_ble_eq_true rfl) ?_
  intro p e s m below meth c ls C P hl
  have C : gC p s m _ meth c RX8 cX8_undefined 2 (some .int) X mL := C
  have hx := C.1
  have hb := C.2.1
  have hK := C.2.2.2.2.2.2.2.1
  have hts := C.2.2.2.2.1
  have hl : lv_has ls 2 [(0, .ref (gad X 0)), (1, .int a1)] := hl
  unfold qM_undefined at h
  refine lv_iload_n hx hb dX8_undefined_0 rfl (lv_at hl 1 rfl) ?_
  refine lv_iconst (v := 1) hx hb dX8_undefined_1 (by decide) ?_
  refine lv_bipush (v := 9) hx hb dX8_undefined_2 (by decide) ?_
  refine g_callSi (n := 3) (As := [.int a1, .int (1 : Int32), .int (9 : Int32)]) (rest := []) C P (kX8_in l X hJ σ a1 (1 : Int32) (9 : Int32) _ rfl) wd_195 wd_196 wd_5 wd_197 rfl rfl kdX8_in.2 ⟨Nat.le_of_ble_eq_true rfl, Nat.le_of_ble_eq_true rfl⟩ rfl rfl hl.1 (Nat.le_of_ble_eq_true rfl) dX8_undefined_4 (fun H locs P => ?_)
  refine lv_if_eq (tgt := 19) hx hb dX8_undefined_7 (by decide) (fun c1 => ?_) (fun c1 => ?_)
  · have h := g_ifp c1 h
    refine lv_aload_n hx hb dX8_undefined_19 rfl (lv_at hl 0 rfl) ?_
    obtain ⟨r2, hr2, h⟩ := g_bind h
    refine g_callVi (n := 0) (As := []) (rest := []) C P (kX8_bad l X hJ σ _ hr2) wd_601 wd_602 wd_603 wd_5 wd_604 rfl rfl kdX8_bad ⟨Nat.le_of_ble_eq_true rfl, Nat.le_of_ble_eq_true rfl⟩ ml0 rfl rfl rfl hl.1 (Nat.le_of_ble_eq_true rfl) dX8_undefined_20 (fun H locs P => ?_)
    have h := Option.some.inj h
    exact g_iret C P (g_fst h) (g_snd h) dX8_undefined_23
  have h := g_ifn c1 h
  refine lv_aload_n hx hb dX8_undefined_10 rfl (lv_at hl 0 rfl) ?_
  refine g_getR C P ml0 rfl inlX8 5 (by decide) wd_99 rfl dX8_undefined_11 ?_
  refine lv_iload_n hx hb dX8_undefined_14 rfl (lv_at hl 1 rfl) ?_
  obtain ⟨b3, h⟩ := g_ob h
  refine g_iald (j := a1.toNatClampNeg) C P ml5 b3 rfl dX8_undefined_15 ?_
  refine lv_goto (tgt := 23) hx hb dX8_undefined_16 (by decide) ?_
  have h := Option.some.inj h
  exact g_iret C P (g_fst h) (g_snd h) dX8_undefined_23
abbrev rmX8_type : Room := { frames := 1, cells := 0, slots := 0, locals := 22 }
theorem kdX8_type : yX8_type.cls = RX8 ∧ yX8_type.cls ≠ "java/lang/invoke/MethodHandle" ∧ yX8_type.cls ≠ "java/lang/invoke/VarHandle" ∧ (parseMethodDescriptor yX8_type.desc).map (fun d => d.parameters.length) = some 1 := by decide +kernel
set_option maxHeartbeats 4000000 in
set_option maxRecDepth 100000 in
theorem kX8_type (l : Launch) (X : gXt) (hJ : gJ X mL) (σ : gS) (a1 : Int32) (q : Int32 × gS) (h : qM_type σ a1 = some q) : gMi l yX8_type (gws yX8_type cX8_type 2 (some .int)) rmX8_type X mL [.ref (gad X 0), .int a1] σ q.1 q.2 := by
  refine g_enter (cc := cX8_type) (nL := 2) (ret := (some .int)) hJ (plainFor_of_name (by decide)) (Nat.le_of_ble_eq_true rfl) ?_
  intro p e s m below meth c ls C P hl
  have C : gC p s m _ meth c RX8 cX8_type 2 (some .int) X mL := C
  have hx := C.1
  have hb := C.2.1
  have hK := C.2.2.2.2.2.2.2.1
  have hts := C.2.2.2.2.1
  have hl : lv_has ls 2 [(0, .ref (gad X 0)), (1, .int a1)] := hl
  unfold qM_type at h
  refine lv_iload_n hx hb dX8_type_0 rfl (lv_at hl 1 rfl) ?_
  refine lv_iconst (v := 0) hx hb dX8_type_1 (by decide) ?_
  refine lv_bipush (v := 127) hx hb dX8_type_2 (by decide) ?_
  refine g_callSi (n := 3) (As := [.int a1, .int (0 : Int32), .int (127 : Int32)]) (rest := []) C P (kX8_in l X hJ σ a1 (0 : Int32) (127 : Int32) _ rfl) wd_195 wd_196 wd_5 wd_197 rfl rfl kdX8_in.2 ⟨Nat.le_of_ble_eq_true rfl, Nat.le_of_ble_eq_true rfl⟩ rfl rfl hl.1 (Nat.le_of_ble_eq_true rfl) dX8_type_4 (fun H locs P => ?_)
  refine lv_if_ne (tgt := 15) hx hb dX8_type_7 (by decide) (fun c1 => ?_) (fun c1 => ?_)
  · have h := g_ifn c1 h
    refine lv_aload_n hx hb dX8_type_15 rfl (lv_at hl 0 rfl) ?_
    refine g_getI C P ml0 rfl inlX8 7 (by decide) wd_779 rfl dX8_type_16 ?_
    refine lv_bipush (v := 120) hx hb dX8_type_19 (by decide) ?_
    refine lv_icmp_ne (tgt := 37) hx hb dX8_type_21 (by decide) (fun c2 => ?_) (fun c2 => ?_)
    · have h := g_ifn c2 h
      refine lv_aload_n hx hb dX8_type_37 rfl (lv_at hl 0 rfl) ?_
      refine g_getR C P ml0 rfl inlX8 6 (by decide) wd_100 rfl dX8_type_38 ?_
      refine lv_aload_n hx hb dX8_type_41 rfl (lv_at hl 0 rfl) ?_
      refine g_getI C P ml0 rfl inlX8 7 (by decide) wd_779 rfl dX8_type_42 ?_
      refine lv_iload_n hx hb dX8_type_45 rfl (lv_at hl 1 rfl) ?_
      obtain ⟨b3, h⟩ := g_ob h
      refine g_iast (j := (gI σ 0 7).toNatClampNeg) C P ml6 b3 rfl dX8_type_46 (fun H locs P => ?_)
      refine lv_aload_n hx hb dX8_type_47 rfl (lv_at hl 0 rfl) ?_
      refine lv_dup hx hb dX8_type_48 rfl ?_
      refine g_getI C P ml0 rfl inlX8 7 (by decide) wd_779 rfl dX8_type_49 ?_
      refine lv_iconst (v := 1) hx hb dX8_type_52 (by decide) ?_
      refine lv_iadd hx hb dX8_type_53 ?_
      refine g_putI C P ml0 rfl inlX8 tyX8 tyX8_ok nmX8 7 (by decide) wd_779 rfl rfl rfl rfl dX8_type_54 (fun H locs P => ?_)
      refine lv_aload_n hx hb dX8_type_57 rfl (lv_at hl 0 rfl) ?_
      refine g_getI C P ml0 rfl inlX8 7 (by decide) wd_779 rfl dX8_type_58 ?_
      have h := Option.some.inj h
      exact g_iret C P (g_fst h) (g_snd h) dX8_type_61
    have h := g_ifp c2 h
    refine lv_aload_n hx hb dX8_type_24 rfl (lv_at hl 0 rfl) ?_
    refine g_getR C P ml0 rfl inlX8 4 (by decide) wd_98 rfl dX8_type_25 ?_
    refine lv_iconst (v := 2) hx hb dX8_type_28 (by decide) ?_
    refine lv_dup2_11 hx hb dX8_type_29 rfl rfl ?_
    refine g_iald (j := 2) C P ml4 (vp_in_iff.mpr ⟨by decide, by decide⟩) (by decide) dX8_type_30 ?_
    refine lv_iconst (v := 1) hx hb dX8_type_31 (by decide) ?_
    refine lv_iadd hx hb dX8_type_32 ?_
    refine g_iast (j := 2) C P ml4 (vp_in_iff.mpr ⟨by decide, by decide⟩) (by decide) dX8_type_33 (fun H locs P => ?_)
    refine lv_bipush (v := -4) hx hb dX8_type_34 (by decide) ?_
    have h := Option.some.inj h
    exact g_iret C P (g_fst h) (g_snd h) dX8_type_36
  have h := g_ifp c1 h
  refine lv_aload_n hx hb dX8_type_10 rfl (lv_at hl 0 rfl) ?_
  obtain ⟨r4, hr4, h⟩ := g_bind h
  refine g_callVi (n := 0) (As := []) (rest := []) C P (kX8_bad l X hJ σ _ hr4) wd_601 wd_602 wd_603 wd_5 wd_604 rfl rfl kdX8_bad ⟨Nat.le_of_ble_eq_true rfl, Nat.le_of_ble_eq_true rfl⟩ ml0 rfl rfl rfl hl.1 (Nat.le_of_ble_eq_true rfl) dX8_type_11 (fun H locs P => ?_)
  have h := Option.some.inj h
  exact g_iret C P (g_fst h) (g_snd h) dX8_type_14
abbrev rmX8_clear : Room := { frames := 0, cells := 0, slots := 0, locals := 0 }
theorem kdX8_clear : yX8_clear.cls = RX8 ∧ yX8_clear.cls ≠ "java/lang/invoke/MethodHandle" ∧ yX8_clear.cls ≠ "java/lang/invoke/VarHandle" ∧ (parseMethodDescriptor yX8_clear.desc).map (fun d => d.parameters.length) = some 0 := by decide +kernel
set_option maxHeartbeats 4000000 in
set_option maxRecDepth 100000 in
theorem kX8_clear (l : Launch) (X : gXt) (hJ : gJ X mL) (σ : gS) (q : Int32 × gS) (h : qM_clear σ = some q) : gMi l yX8_clear (gws yX8_clear cX8_clear 2 (some .int)) rmX8_clear X mL [.ref (gad X 0)] σ q.1 q.2 := by
  refine g_enter (cc := cX8_clear) (nL := 2) (ret := (some .int)) hJ (plainFor_of_name (by decide)) (Nat.le_of_ble_eq_true rfl) ?_
  intro p e s m below meth c ls C P hl
  have C : gC p s m _ meth c RX8 cX8_clear 2 (some .int) X mL := C
  have hx := C.1
  have hb := C.2.1
  have hK := C.2.2.2.2.2.2.2.1
  have hts := C.2.2.2.2.1
  have hl : lv_has ls 2 [(0, .ref (gad X 0))] := hl
  unfold qM_clear at h
  refine lv_aload_n hx hb dX8_clear_0 rfl (lv_at hl 0 rfl) ?_
  refine g_getI C P ml0 rfl inlX8 7 (by decide) wd_779 rfl dX8_clear_1 ?_
  refine lv_istore_n (lv' := [(1, .int (gI σ 0 7)), (0, .ref (gad X 0))]) hx hb dX8_clear_4 rfl hl (by decide) rfl (fun ls hl => ?_)
  refine lv_aload_n hx hb dX8_clear_5 rfl (lv_at hl 1 rfl) ?_
  refine lv_iconst (v := 0) hx hb dX8_clear_6 (by decide) ?_
  refine g_putI C P ml0 rfl inlX8 tyX8 tyX8_ok nmX8 7 (by decide) wd_779 rfl rfl rfl rfl dX8_clear_7 (fun H locs P => ?_)
  refine lv_iload_n hx hb dX8_clear_10 rfl (lv_at hl 0 rfl) ?_
  have h := Option.some.inj h
  exact g_iret C P (g_fst h) (g_snd h) dX8_clear_11
abbrev rmX8_isAt : Room := { frames := 1, cells := 0, slots := 0, locals := 22 }
theorem kdX8_isAt : yX8_isAt.cls = RX8 ∧ yX8_isAt.cls ≠ "java/lang/invoke/MethodHandle" ∧ yX8_isAt.cls ≠ "java/lang/invoke/VarHandle" ∧ (parseMethodDescriptor yX8_isAt.desc).map (fun d => d.parameters.length) = some 2 := by decide +kernel
set_option maxHeartbeats 4000000 in
set_option maxRecDepth 100000 in
theorem kX8_isAt (l : Launch) (X : gXt) (hJ : gJ X mL) (σ : gS) (a1 : Int32) (a2 : Int32) (q : Int32) (h : qM_isAt σ a1 a2 = some q) : gMi l yX8_isAt (gws yX8_isAt cX8_isAt 3 (some .boolean)) rmX8_isAt X mL [.ref (gad X 0), .int a1, .int a2] σ q σ := by
  refine g_enter (cc := cX8_isAt) (nL := 3) (ret := (some .boolean)) hJ (plainFor_of_name (by decide)) (Nat.le_of_ble_eq_true rfl) ?_
  intro p e s m below meth c ls C P hl
  have C : gC p s m _ meth c RX8 cX8_isAt 3 (some .boolean) X mL := C
  have hx := C.1
  have hb := C.2.1
  have hK := C.2.2.2.2.2.2.2.1
  have hts := C.2.2.2.2.1
  have hl : lv_has ls 3 [(0, .ref (gad X 0)), (1, .int a1), (2, .int a2)] := hl
  unfold qM_isAt at h
  refine lv_aload_n hx hb dX8_isAt_0 rfl (lv_at hl 0 rfl) ?_
  refine g_getI C P ml0 rfl inlX8 15 (by decide) wd_912 rfl dX8_isAt_1 ?_
  refine lv_aload_n hx hb dX8_isAt_4 rfl (lv_at hl 0 rfl) ?_
  refine g_getI C P ml0 rfl inlX8 7 (by decide) wd_779 rfl dX8_isAt_5 ?_
  refine lv_icmp_ge (tgt := 32) hx hb dX8_isAt_8 (by decide) (fun c1 => ?_) (fun c1 => ?_)
  · have h := g_ifp c1 h
    refine lv_iconst (v := 0) hx hb dX8_isAt_32 (by decide) ?_
    have h := Option.some.inj h
    exact g_zret C P rfl h rfl dX8_isAt_33
  have h := g_ifn c1 h
  refine lv_aload_n hx hb dX8_isAt_11 rfl (lv_at hl 0 rfl) ?_
  refine g_getR C P ml0 rfl inlX8 6 (by decide) wd_100 rfl dX8_isAt_12 ?_
  refine lv_aload_n hx hb dX8_isAt_15 rfl (lv_at hl 0 rfl) ?_
  refine g_getI C P ml0 rfl inlX8 15 (by decide) wd_912 rfl dX8_isAt_16 ?_
  obtain ⟨b2, h⟩ := g_ob h
  refine g_iald (j := (gI σ 0 15).toNatClampNeg) C P ml6 b2 rfl dX8_isAt_19 ?_
  refine lv_iload_n hx hb dX8_isAt_20 rfl (lv_at hl 1 rfl) ?_
  refine lv_iload_n hx hb dX8_isAt_21 rfl (lv_at hl 2 rfl) ?_
  refine g_callSi (n := 3) (As := [.int (gM σ 6 (gI σ 0 15).toNatClampNeg), .int a1, .int a2]) (rest := []) C P (kX8_in l X hJ σ (gM σ 6 (gI σ 0 15).toNatClampNeg) a1 a2 _ rfl) wd_195 wd_196 wd_5 wd_197 rfl rfl kdX8_in.2 ⟨Nat.le_of_ble_eq_true rfl, Nat.le_of_ble_eq_true rfl⟩ rfl rfl hl.1 (Nat.le_of_ble_eq_true rfl) dX8_isAt_22 (fun H locs P => ?_)
  refine lv_if_eq (tgt := 32) hx hb dX8_isAt_25 (by decide) (fun c3 => ?_) (fun c3 => ?_)
  · have h := g_ifp c3 h
    refine lv_iconst (v := 0) hx hb dX8_isAt_32 (by decide) ?_
    have h := Option.some.inj h
    exact g_zret C P rfl h rfl dX8_isAt_33
  have h := g_ifn c3 h
  refine lv_iconst (v := 1) hx hb dX8_isAt_28 (by decide) ?_
  refine lv_goto (tgt := 33) hx hb dX8_isAt_29 (by decide) ?_
  have h := Option.some.inj h
  exact g_zret C P rfl h rfl dX8_isAt_33
abbrev rmX8_blanks : Room := { frames := 2, cells := 0, slots := 0, locals := 44 }
theorem kdX8_blanks : yX8_blanks.cls = RX8 ∧ yX8_blanks.cls ≠ "java/lang/invoke/MethodHandle" ∧ yX8_blanks.cls ≠ "java/lang/invoke/VarHandle" ∧ (parseMethodDescriptor yX8_blanks.desc).map (fun d => d.parameters.length) = some 0 := by decide +kernel
set_option maxHeartbeats 4000000 in
set_option maxRecDepth 100000 in
theorem kX8_blanks_0 {p : Program} {l : Launch} {e : Env} {s : State} {m : MethodId} {args : Array Value} {below : List Frame} {meth : Method} {c : Code} {X : gXt} (hJ : gJ X mL) (C : gC p s m args meth c RX8 cX8_blanks 1 none X mL) (k : gS → Option gS) (q : gS) (hk : ∀ (σ' : gS) (H : Heap) (locs : List Loc) (ls : Array Slot), k σ' = some q → gH X mL σ' s H locs → lv_has ls 1 [] → W p l e rmX8_blanks s m args below meth c H locs 0 0 (MQ below (gQv X mL q) args s 0 0 (gA X mL)) (F0 m 24 ls [])) : ∀ (n : Nat) (σ : gS), qM_blanks_0 k n σ = some q → ∀ (H : Heap) (locs : List Loc) (ls : Array Slot), gH X mL σ s H locs → lv_has ls 1 [(0, .ref (gad X 0))] → W p l e rmX8_blanks s m args below meth c H locs 0 0 (MQ below (gQv X mL q) args s 0 0 (gA X mL)) (F0 m 0 ls []) := by
  have hx := C.1
  have hb := C.2.1
  have hK := C.2.2.2.2.2.2.2.1
  have hts := C.2.2.2.2.1
  intro n
  induction n with
  | zero => intro σ h; cases h
  | succ n ih =>
    intro σ h H locs ls P hl
    have h : (qM_isAt σ (32 : Int32) (32 : Int32)).bind (fun r1 => (if r1 = 0 then k σ else qM_blanks_0 k n (sI σ 0 15 ((gI σ 0 15) + (1 : Int32))))) = some q := h
    refine lv_aload_n hx hb dX8_blanks_0 rfl (lv_at hl 0 rfl) ?_
    refine lv_bipush (v := 32) hx hb dX8_blanks_1 (by decide) ?_
    refine lv_bipush (v := 32) hx hb dX8_blanks_3 (by decide) ?_
    obtain ⟨r1, hr1, h⟩ := g_bind h
    refine g_callVi (n := 2) (As := [.int (32 : Int32), .int (32 : Int32)]) (rest := []) C P (kX8_isAt l X hJ σ (32 : Int32) (32 : Int32) _ hr1) wd_918 wd_919 wd_920 wd_5 wd_921 rfl rfl kdX8_isAt ⟨Nat.le_of_ble_eq_true rfl, Nat.le_of_ble_eq_true rfl⟩ ml0 rfl rfl rfl hl.1 (Nat.le_of_ble_eq_true rfl) dX8_blanks_5 (fun H locs P => ?_)
    refine lv_if_eq (tgt := 24) hx hb dX8_blanks_8 (by decide) (fun c2 => ?_) (fun c2 => ?_)
    · have h := g_ifp c2 h
      exact hk σ _ _ _ h P (lv_sub hl [] rfl)
    have h := g_ifn c2 h
    refine lv_aload_n hx hb dX8_blanks_11 rfl (lv_at hl 0 rfl) ?_
    refine lv_dup hx hb dX8_blanks_12 rfl ?_
    refine g_getI C P ml0 rfl inlX8 15 (by decide) wd_912 rfl dX8_blanks_13 ?_
    refine lv_iconst (v := 1) hx hb dX8_blanks_16 (by decide) ?_
    refine lv_iadd hx hb dX8_blanks_17 ?_
    refine g_putI C P ml0 rfl inlX8 tyX8 tyX8_ok nmX8 15 (by decide) wd_912 rfl rfl rfl rfl dX8_blanks_18 (fun H locs P => ?_)
    refine lv_goto (tgt := 0) hx hb dX8_blanks_21 (by decide) ?_
    exact ih (sI σ 0 15 ((gI σ 0 15) + (1 : Int32))) h _ _ _ P (lv_sub hl [0] rfl)
set_option maxHeartbeats 4000000 in
set_option maxRecDepth 100000 in
theorem kX8_blanks (l : Launch) (X : gXt) (hJ : gJ X mL) (σ : gS) (q : gS) (h : qM_blanks σ = some q) : gMv l yX8_blanks (gws yX8_blanks cX8_blanks 1 none) rmX8_blanks X mL [.ref (gad X 0)] σ q := by
  refine g_enter (cc := cX8_blanks) (nL := 1) (ret := none) hJ (plainFor_of_name (by decide)) (Nat.le_of_ble_eq_true rfl) ?_
  intro p e s m below meth c ls C P hl
  have C : gC p s m _ meth c RX8 cX8_blanks 1 none X mL := C
  have hx := C.1
  have hb := C.2.1
  have hK := C.2.2.2.2.2.2.2.1
  have hts := C.2.2.2.2.1
  have hl : lv_has ls 1 [(0, .ref (gad X 0))] := hl
  unfold qM_blanks at h
  refine kX8_blanks_0 hJ C _ _ ?_ _ _ h _ _ _ P (lv_sub hl [0] rfl)
  intro σ3 H locs ls h P hl
  have h := Option.some.inj h
  exact g_vret C P h dX8_blanks_24
abbrev rmX8_fails : Room := { frames := 0, cells := 0, slots := 0, locals := 0 }
theorem kdX8_fails : yX8_fails.cls = RX8 ∧ yX8_fails.cls ≠ "java/lang/invoke/MethodHandle" ∧ yX8_fails.cls ≠ "java/lang/invoke/VarHandle" ∧ (parseMethodDescriptor yX8_fails.desc).map (fun d => d.parameters.length) = some 1 := by decide +kernel
set_option maxHeartbeats 4000000 in
set_option maxRecDepth 100000 in
theorem kX8_fails (l : Launch) (X : gXt) (hJ : gJ X mL) (σ : gS) (a1 : Int32) (q : Int32 × gS) (h : qM_fails σ a1 = some q) : gMi l yX8_fails (gws yX8_fails cX8_fails 2 (some .boolean)) rmX8_fails X mL [.ref (gad X 0), .int a1] σ q.1 q.2 := by
  refine g_enter (cc := cX8_fails) (nL := 2) (ret := (some .boolean)) hJ (plainFor_of_name (by decide)) (Nat.le_of_ble_eq_true rfl) ?_
  intro p e s m below meth c ls C P hl
  have C : gC p s m _ meth c RX8 cX8_fails 2 (some .boolean) X mL := C
  have hx := C.1
  have hb := C.2.1
  have hK := C.2.2.2.2.2.2.2.1
  have hts := C.2.2.2.2.1
  have hl : lv_has ls 2 [(0, .ref (gad X 0)), (1, .int a1)] := hl
  unfold qM_fails at h
  refine lv_aload_n hx hb dX8_fails_0 rfl (lv_at hl 0 rfl) ?_
  refine lv_iload_n hx hb dX8_fails_1 rfl (lv_at hl 1 rfl) ?_
  refine g_putI C P ml0 rfl inlX8 tyX8 tyX8_ok nmX8 16 (by decide) wd_907 rfl rfl rfl rfl dX8_fails_2 (fun H locs P => ?_)
  refine lv_iconst (v := 0) hx hb dX8_fails_5 (by decide) ?_
  have h := Option.some.inj h
  exact g_zret C P rfl (g_fst h) (g_snd h) dX8_fails_6
abbrev rmX8_manyOf : Room := { frames := 0, cells := 0, slots := 0, locals := 0 }
theorem kdX8_manyOf : yX8_manyOf.cls = RX8 ∧ yX8_manyOf.cls ≠ "java/lang/invoke/MethodHandle" ∧ yX8_manyOf.cls ≠ "java/lang/invoke/VarHandle" ∧ (parseMethodDescriptor yX8_manyOf.desc).map (fun d => d.parameters.length) = some 1 := by decide +kernel
set_option maxHeartbeats 4000000 in
set_option maxRecDepth 100000 in
theorem kX8_manyOf (l : Launch) (X : gXt) (hJ : gJ X mL) (σ : gS) (a1 : Int32) (q : Int32) (h : qM_manyOf a1 = q) : gMi l yX8_manyOf (gws yX8_manyOf cX8_manyOf 1 (some .int)) rmX8_manyOf X mL [.int a1] σ q σ := by
  refine g_enter (cc := cX8_manyOf) (nL := 1) (ret := (some .int)) hJ (plainFor_of_name (by decide)) (Nat.le_of_ble_eq_true rfl) ?_
  intro p e s m below meth c ls C P hl
  have C : gC p s m _ meth c RX8 cX8_manyOf 1 (some .int) X mL := C
  have hx := C.1
  have hb := C.2.1
  have hK := C.2.2.2.2.2.2.2.1
  have hts := C.2.2.2.2.1
  have hl : lv_has ls 1 [(0, .int a1)] := hl
  unfold qM_manyOf at h
  refine lv_iload_n hx hb dX8_manyOf_0 rfl (lv_at hl 0 rfl) ?_
  by_cases cs98 : a1 = (98 : Int32)
  · have h := g_ifp cs98 h
    refine lv_tableIn (off := 119) (tgt := 120) hx hb dX8_manyOf_1 (by rw [cs98]; decide) (by rw [cs98]; decide) (by rw [cs98]; rfl) (by decide) ?_
    refine lv_iconst (v := 3) hx hb dX8_manyOf_120 (by decide) ?_
    exact g_iret C P h rfl dX8_manyOf_121
  have h := g_ifn cs98 h
  by_cases cs99 : a1 = (99 : Int32)
  · have h := g_ifp cs99 h
    refine lv_tableIn (off := 117) (tgt := 118) hx hb dX8_manyOf_1 (by rw [cs99]; decide) (by rw [cs99]; decide) (by rw [cs99]; rfl) (by decide) ?_
    refine lv_iconst (v := 2) hx hb dX8_manyOf_118 (by decide) ?_
    exact g_iret C P h rfl dX8_manyOf_119
  have h := g_ifn cs99 h
  by_cases cs100 : a1 = (100 : Int32)
  · have h := g_ifp cs100 h
    refine lv_tableIn (off := 119) (tgt := 120) hx hb dX8_manyOf_1 (by rw [cs100]; decide) (by rw [cs100]; decide) (by rw [cs100]; rfl) (by decide) ?_
    refine lv_iconst (v := 3) hx hb dX8_manyOf_120 (by decide) ?_
    exact g_iret C P h rfl dX8_manyOf_121
  have h := g_ifn cs100 h
  by_cases cs101 : a1 = (101 : Int32)
  · have h := g_ifp cs101 h
    refine lv_tableIn (off := 115) (tgt := 116) hx hb dX8_manyOf_1 (by rw [cs101]; decide) (by rw [cs101]; decide) (by rw [cs101]; rfl) (by decide) ?_
    refine lv_iconst (v := 1) hx hb dX8_manyOf_116 (by decide) ?_
    exact g_iret C P h rfl dX8_manyOf_117
  have h := g_ifn cs101 h
  by_cases cs106 : a1 = (106 : Int32)
  · have h := g_ifp cs106 h
    refine lv_tableIn (off := 117) (tgt := 118) hx hb dX8_manyOf_1 (by rw [cs106]; decide) (by rw [cs106]; decide) (by rw [cs106]; rfl) (by decide) ?_
    refine lv_iconst (v := 2) hx hb dX8_manyOf_118 (by decide) ?_
    exact g_iret C P h rfl dX8_manyOf_119
  have h := g_ifn cs106 h
  by_cases cs108 : a1 = (108 : Int32)
  · have h := g_ifp cs108 h
    refine lv_tableIn (off := 119) (tgt := 120) hx hb dX8_manyOf_1 (by rw [cs108]; decide) (by rw [cs108]; decide) (by rw [cs108]; rfl) (by decide) ?_
    refine lv_iconst (v := 3) hx hb dX8_manyOf_120 (by decide) ?_
    exact g_iret C P h rfl dX8_manyOf_121
  have h := g_ifn cs108 h
  by_cases cs109 : a1 = (109 : Int32)
  · have h := g_ifp cs109 h
    refine lv_tableIn (off := 117) (tgt := 118) hx hb dX8_manyOf_1 (by rw [cs109]; decide) (by rw [cs109]; decide) (by rw [cs109]; rfl) (by decide) ?_
    refine lv_iconst (v := 2) hx hb dX8_manyOf_118 (by decide) ?_
    exact g_iret C P h rfl dX8_manyOf_119
  have h := g_ifn cs109 h
  by_cases cs115 : a1 = (115 : Int32)
  · have h := g_ifp cs115 h
    refine lv_tableIn (off := 117) (tgt := 118) hx hb dX8_manyOf_1 (by rw [cs115]; decide) (by rw [cs115]; decide) (by rw [cs115]; rfl) (by decide) ?_
    refine lv_iconst (v := 2) hx hb dX8_manyOf_118 (by decide) ?_
    exact g_iret C P h rfl dX8_manyOf_119
  have h := g_ifn cs115 h
  by_cases cs118 : a1 = (118 : Int32)
  · have h := g_ifp cs118 h
    refine lv_tableIn (off := 117) (tgt := 118) hx hb dX8_manyOf_1 (by rw [cs118]; decide) (by rw [cs118]; decide) (by rw [cs118]; rfl) (by decide) ?_
    refine lv_iconst (v := 2) hx hb dX8_manyOf_118 (by decide) ?_
    exact g_iret C P h rfl dX8_manyOf_119
  have h := g_ifn cs118 h
  by_cases cs119 : a1 = (119 : Int32)
  · have h := g_ifp cs119 h
    refine lv_tableIn (off := 119) (tgt := 120) hx hb dX8_manyOf_1 (by rw [cs119]; decide) (by rw [cs119]; decide) (by rw [cs119]; rfl) (by decide) ?_
    refine lv_iconst (v := 3) hx hb dX8_manyOf_120 (by decide) ?_
    exact g_iret C P h rfl dX8_manyOf_121
  have h := g_ifn cs119 h
  by_cases cs122 : a1 = (122 : Int32)
  · have h := g_ifp cs122 h
    refine lv_tableIn (off := 115) (tgt := 116) hx hb dX8_manyOf_1 (by rw [cs122]; decide) (by rw [cs122]; decide) (by rw [cs122]; rfl) (by decide) ?_
    refine lv_iconst (v := 1) hx hb dX8_manyOf_116 (by decide) ?_
    exact g_iret C P h rfl dX8_manyOf_117
  have h := g_ifn cs122 h
  by_cases cs102 : a1 = (102 : Int32)
  · refine lv_tableIn (off := 121) (tgt := 122) hx hb dX8_manyOf_1 (by rw [cs102]; decide) (by rw [cs102]; decide) (by rw [cs102]; rfl) (by decide) ?_
    refine lv_iconst (v := -1) hx hb dX8_manyOf_122 (by decide) ?_
    exact g_iret C P h rfl dX8_manyOf_123
  by_cases cs103 : a1 = (103 : Int32)
  · refine lv_tableIn (off := 121) (tgt := 122) hx hb dX8_manyOf_1 (by rw [cs103]; decide) (by rw [cs103]; decide) (by rw [cs103]; rfl) (by decide) ?_
    refine lv_iconst (v := -1) hx hb dX8_manyOf_122 (by decide) ?_
    exact g_iret C P h rfl dX8_manyOf_123
  by_cases cs104 : a1 = (104 : Int32)
  · refine lv_tableIn (off := 121) (tgt := 122) hx hb dX8_manyOf_1 (by rw [cs104]; decide) (by rw [cs104]; decide) (by rw [cs104]; rfl) (by decide) ?_
    refine lv_iconst (v := -1) hx hb dX8_manyOf_122 (by decide) ?_
    exact g_iret C P h rfl dX8_manyOf_123
  by_cases cs105 : a1 = (105 : Int32)
  · refine lv_tableIn (off := 121) (tgt := 122) hx hb dX8_manyOf_1 (by rw [cs105]; decide) (by rw [cs105]; decide) (by rw [cs105]; rfl) (by decide) ?_
    refine lv_iconst (v := -1) hx hb dX8_manyOf_122 (by decide) ?_
    exact g_iret C P h rfl dX8_manyOf_123
  by_cases cs107 : a1 = (107 : Int32)
  · refine lv_tableIn (off := 121) (tgt := 122) hx hb dX8_manyOf_1 (by rw [cs107]; decide) (by rw [cs107]; decide) (by rw [cs107]; rfl) (by decide) ?_
    refine lv_iconst (v := -1) hx hb dX8_manyOf_122 (by decide) ?_
    exact g_iret C P h rfl dX8_manyOf_123
  by_cases cs110 : a1 = (110 : Int32)
  · refine lv_tableIn (off := 121) (tgt := 122) hx hb dX8_manyOf_1 (by rw [cs110]; decide) (by rw [cs110]; decide) (by rw [cs110]; rfl) (by decide) ?_
    refine lv_iconst (v := -1) hx hb dX8_manyOf_122 (by decide) ?_
    exact g_iret C P h rfl dX8_manyOf_123
  by_cases cs111 : a1 = (111 : Int32)
  · refine lv_tableIn (off := 121) (tgt := 122) hx hb dX8_manyOf_1 (by rw [cs111]; decide) (by rw [cs111]; decide) (by rw [cs111]; rfl) (by decide) ?_
    refine lv_iconst (v := -1) hx hb dX8_manyOf_122 (by decide) ?_
    exact g_iret C P h rfl dX8_manyOf_123
  by_cases cs112 : a1 = (112 : Int32)
  · refine lv_tableIn (off := 121) (tgt := 122) hx hb dX8_manyOf_1 (by rw [cs112]; decide) (by rw [cs112]; decide) (by rw [cs112]; rfl) (by decide) ?_
    refine lv_iconst (v := -1) hx hb dX8_manyOf_122 (by decide) ?_
    exact g_iret C P h rfl dX8_manyOf_123
  by_cases cs113 : a1 = (113 : Int32)
  · refine lv_tableIn (off := 121) (tgt := 122) hx hb dX8_manyOf_1 (by rw [cs113]; decide) (by rw [cs113]; decide) (by rw [cs113]; rfl) (by decide) ?_
    refine lv_iconst (v := -1) hx hb dX8_manyOf_122 (by decide) ?_
    exact g_iret C P h rfl dX8_manyOf_123
  by_cases cs114 : a1 = (114 : Int32)
  · refine lv_tableIn (off := 121) (tgt := 122) hx hb dX8_manyOf_1 (by rw [cs114]; decide) (by rw [cs114]; decide) (by rw [cs114]; rfl) (by decide) ?_
    refine lv_iconst (v := -1) hx hb dX8_manyOf_122 (by decide) ?_
    exact g_iret C P h rfl dX8_manyOf_123
  by_cases cs116 : a1 = (116 : Int32)
  · refine lv_tableIn (off := 121) (tgt := 122) hx hb dX8_manyOf_1 (by rw [cs116]; decide) (by rw [cs116]; decide) (by rw [cs116]; rfl) (by decide) ?_
    refine lv_iconst (v := -1) hx hb dX8_manyOf_122 (by decide) ?_
    exact g_iret C P h rfl dX8_manyOf_123
  by_cases cs117 : a1 = (117 : Int32)
  · refine lv_tableIn (off := 121) (tgt := 122) hx hb dX8_manyOf_1 (by rw [cs117]; decide) (by rw [cs117]; decide) (by rw [cs117]; rfl) (by decide) ?_
    refine lv_iconst (v := -1) hx hb dX8_manyOf_122 (by decide) ?_
    exact g_iret C P h rfl dX8_manyOf_123
  by_cases cs120 : a1 = (120 : Int32)
  · refine lv_tableIn (off := 121) (tgt := 122) hx hb dX8_manyOf_1 (by rw [cs120]; decide) (by rw [cs120]; decide) (by rw [cs120]; rfl) (by decide) ?_
    refine lv_iconst (v := -1) hx hb dX8_manyOf_122 (by decide) ?_
    exact g_iret C P h rfl dX8_manyOf_123
  by_cases cs121 : a1 = (121 : Int32)
  · refine lv_tableIn (off := 121) (tgt := 122) hx hb dX8_manyOf_1 (by rw [cs121]; decide) (by rw [cs121]; decide) (by rw [cs121]; rfl) (by decide) ?_
    refine lv_iconst (v := -1) hx hb dX8_manyOf_122 (by decide) ?_
    exact g_iret C P h rfl dX8_manyOf_123
  refine lv_tableOut (tgt := 122) hx hb dX8_manyOf_1 (by have e0 := lv_neT cs98 (a := 98) rfl; have e1 := lv_neT cs99 (a := 99) rfl; have e2 := lv_neT cs100 (a := 100) rfl; have e3 := lv_neT cs101 (a := 101) rfl; have e4 := lv_neT cs106 (a := 106) rfl; have e5 := lv_neT cs108 (a := 108) rfl; have e6 := lv_neT cs109 (a := 109) rfl; have e7 := lv_neT cs115 (a := 115) rfl; have e8 := lv_neT cs118 (a := 118) rfl; have e9 := lv_neT cs119 (a := 119) rfl; have e10 := lv_neT cs122 (a := 122) rfl; have e11 := lv_neT cs102 (a := 102) rfl; have e12 := lv_neT cs103 (a := 103) rfl; have e13 := lv_neT cs104 (a := 104) rfl; have e14 := lv_neT cs105 (a := 105) rfl; have e15 := lv_neT cs107 (a := 107) rfl; have e16 := lv_neT cs110 (a := 110) rfl; have e17 := lv_neT cs111 (a := 111) rfl; have e18 := lv_neT cs112 (a := 112) rfl; have e19 := lv_neT cs113 (a := 113) rfl; have e20 := lv_neT cs114 (a := 114) rfl; have e21 := lv_neT cs116 (a := 116) rfl; have e22 := lv_neT cs117 (a := 117) rfl; have e23 := lv_neT cs120 (a := 120) rfl; have e24 := lv_neT cs121 (a := 121) rfl; omega) (by decide) ?_
  refine lv_iconst (v := -1) hx hb dX8_manyOf_122 (by decide) ?_
  exact g_iret C P h rfl dX8_manyOf_123
abbrev rmX8_takesNumber : Room := { frames := 3, cells := 0, slots := 0, locals := 64 }
theorem kdX8_takesNumber : yX8_takesNumber.cls = RX8 ∧ yX8_takesNumber.cls ≠ "java/lang/invoke/MethodHandle" ∧ yX8_takesNumber.cls ≠ "java/lang/invoke/VarHandle" ∧ (parseMethodDescriptor yX8_takesNumber.desc).map (fun d => d.parameters.length) = some 2 := by decide +kernel
set_option maxHeartbeats 4000000 in
set_option maxRecDepth 100000 in
theorem kX8_takesNumber_52 {p : Program} {l : Launch} {e : Env} {s : State} {m : MethodId} {args : Array Value} {below : List Frame} {meth : Method} {c : Code} {X : gXt} (hJ : gJ X mL) (C : gC p s m args meth c RX8 cX8_takesNumber 6 (some .boolean) X mL) (f52_1 : Int32) (f52_3 : Int32) (f52_4 : Int32) (k : gS → Int32 → Option (Int32 × gS)) (q : Int32 × gS) (hk : ∀ (σ' : gS) (x5 : Int32) (H : Heap) (locs : List Loc) (ls : Array Slot), k σ' x5 = some q → gH X mL σ' s H locs → lv_has ls 6 [(0, .ref (gad X 0)), (1, .int f52_1), (3, .int f52_3), (4, .int f52_4), (5, .int x5)] → W p l e rmX8_takesNumber s m args below meth c H locs 0 0 (MQ below (gQi X mL q.1 q.2) args s 0 0 (gA X mL)) (F0 m 116 ls [])) : ∀ (n : Nat) (σ : gS) (v5 : Int32), qM_takesNumber_52 f52_1 f52_3 f52_4 k n σ v5 = some q → ∀ (H : Heap) (locs : List Loc) (ls : Array Slot), gH X mL σ s H locs → lv_has ls 6 [(0, .ref (gad X 0)), (1, .int f52_1), (3, .int f52_3), (4, .int f52_4), (5, .int v5)] → W p l e rmX8_takesNumber s m args below meth c H locs 0 0 (MQ below (gQi X mL q.1 q.2) args s 0 0 (gA X mL)) (F0 m 52 ls []) := by
  have hx := C.1
  have hb := C.2.1
  have hK := C.2.2.2.2.2.2.2.1
  have hts := C.2.2.2.2.1
  intro n
  induction n with
  | zero => intro σ v5 h; cases h
  | succ n ih =>
    intro σ v5 h H locs ls P hl
    have h : (qM_isAt σ (48 : Int32) (57 : Int32)).bind (fun r4 => (if r4 = 0 then k σ v5 else (if (gI σ 0 15) = (f52_4 + (5 : Int32)) then (qM_fails σ (gI σ 0 15)).bind (fun r8 => gbo r8.1 (some (r8.1, r8.2))) else gob (gI σ 0 15) 120 (qM_takesNumber_52 f52_1 f52_3 f52_4 k n (sI σ 0 15 ((gI σ 0 15) + (1 : Int32))) ((((10 : Int32) * v5) + (gM σ 6 (gI σ 0 15).toNatClampNeg)) - (48 : Int32)))))) = some q := h
    refine lv_aload_n hx hb dX8_takesNumber_52 rfl (lv_at hl 0 rfl) ?_
    refine lv_bipush (v := 48) hx hb dX8_takesNumber_53 (by decide) ?_
    refine lv_bipush (v := 57) hx hb dX8_takesNumber_55 (by decide) ?_
    obtain ⟨r4, hr4, h⟩ := g_bind h
    refine g_callVi (n := 2) (As := [.int (48 : Int32), .int (57 : Int32)]) (rest := []) C P (kX8_isAt l X hJ σ (48 : Int32) (57 : Int32) _ hr4) wd_918 wd_919 wd_920 wd_5 wd_921 rfl rfl kdX8_isAt ⟨Nat.le_of_ble_eq_true rfl, Nat.le_of_ble_eq_true rfl⟩ ml0 rfl rfl rfl hl.1 (Nat.le_of_ble_eq_true rfl) dX8_takesNumber_57 (fun H locs P => ?_)
    refine lv_if_eq (tgt := 116) hx hb dX8_takesNumber_60 (by decide) (fun c5 => ?_) (fun c5 => ?_)
    · have h := g_ifp c5 h
      exact hk σ v5 _ _ _ h P (lv_sub hl [0, 1, 2, 3, 4] rfl)
    have h := g_ifn c5 h
    refine lv_aload_n hx hb dX8_takesNumber_63 rfl (lv_at hl 0 rfl) ?_
    refine g_getI C P ml0 rfl inlX8 15 (by decide) wd_912 rfl dX8_takesNumber_64 ?_
    refine lv_iload hx hb dX8_takesNumber_67 (lv_at hl 3 rfl) ?_
    refine lv_iconst (v := 5) hx hb dX8_takesNumber_69 (by decide) ?_
    refine lv_iadd hx hb dX8_takesNumber_70 ?_
    refine lv_icmp_ne (tgt := 83) hx hb dX8_takesNumber_71 (by decide) (fun c6 => ?_) (fun c6 => ?_)
    · have h := g_ifn c6 h
      refine lv_bipush (v := 10) hx hb dX8_takesNumber_83 (by decide) ?_
      refine lv_iload hx hb dX8_takesNumber_85 (lv_at hl 4 rfl) ?_
      refine lv_imul hx hb dX8_takesNumber_87 ?_
      refine lv_aload_n hx hb dX8_takesNumber_88 rfl (lv_at hl 0 rfl) ?_
      refine g_getR C P ml0 rfl inlX8 6 (by decide) wd_100 rfl dX8_takesNumber_89 ?_
      refine lv_aload_n hx hb dX8_takesNumber_92 rfl (lv_at hl 0 rfl) ?_
      refine g_getI C P ml0 rfl inlX8 15 (by decide) wd_912 rfl dX8_takesNumber_93 ?_
      obtain ⟨b7, h⟩ := g_ob h
      refine g_iald (j := (gI σ 0 15).toNatClampNeg) C P ml6 b7 rfl dX8_takesNumber_96 ?_
      refine lv_iadd hx hb dX8_takesNumber_97 ?_
      refine lv_bipush (v := 48) hx hb dX8_takesNumber_98 (by decide) ?_
      refine lv_isub hx hb dX8_takesNumber_100 ?_
      refine lv_istore (lv' := [(5, .int ((((10 : Int32) * v5) + (gM σ 6 (gI σ 0 15).toNatClampNeg)) - (48 : Int32))), (0, .ref (gad X 0)), (1, .int f52_1), (3, .int f52_3), (4, .int f52_4)]) hx hb dX8_takesNumber_101 hl (by decide) rfl (fun ls hl => ?_)
      refine lv_aload_n hx hb dX8_takesNumber_103 rfl (lv_at hl 1 rfl) ?_
      refine lv_dup hx hb dX8_takesNumber_104 rfl ?_
      refine g_getI C P ml0 rfl inlX8 15 (by decide) wd_912 rfl dX8_takesNumber_105 ?_
      refine lv_iconst (v := 1) hx hb dX8_takesNumber_108 (by decide) ?_
      refine lv_iadd hx hb dX8_takesNumber_109 ?_
      refine g_putI C P ml0 rfl inlX8 tyX8 tyX8_ok nmX8 15 (by decide) wd_912 rfl rfl rfl rfl dX8_takesNumber_110 (fun H locs P => ?_)
      refine lv_goto (tgt := 52) hx hb dX8_takesNumber_113 (by decide) ?_
      exact ih (sI σ 0 15 ((gI σ 0 15) + (1 : Int32))) ((((10 : Int32) * v5) + (gM σ 6 (gI σ 0 15).toNatClampNeg)) - (48 : Int32)) h _ _ _ P (lv_sub hl [1, 2, 3, 4, 0] rfl)
    have h := g_ifp c6 h
    refine lv_aload_n hx hb dX8_takesNumber_74 rfl (lv_at hl 0 rfl) ?_
    refine lv_aload_n hx hb dX8_takesNumber_75 rfl (lv_at hl 0 rfl) ?_
    refine g_getI C P ml0 rfl inlX8 15 (by decide) wd_912 rfl dX8_takesNumber_76 ?_
    obtain ⟨r8, hr8, h⟩ := g_bind h
    refine g_callVi (n := 1) (As := [.int (gI σ 0 15)]) (rest := []) C P (kX8_fails l X hJ σ (gI σ 0 15) _ hr8) wd_929 wd_930 wd_931 wd_5 wd_932 rfl rfl kdX8_fails ⟨Nat.le_of_ble_eq_true rfl, Nat.le_of_ble_eq_true rfl⟩ ml0 rfl rfl rfl hl.1 (Nat.le_of_ble_eq_true rfl) dX8_takesNumber_79 (fun H locs P => ?_)
    obtain ⟨b9, h⟩ := g_bo h
    have h := Option.some.inj h
    exact g_zret C P (g_bon b9) (g_fst h) (g_snd h) dX8_takesNumber_82
set_option maxHeartbeats 4000000 in
set_option maxRecDepth 100000 in
theorem kX8_takesNumber (l : Launch) (X : gXt) (hJ : gJ X mL) (σ : gS) (a1 : Int32) (a2 : Int32) (q : Int32 × gS) (h : qM_takesNumber σ a1 a2 = some q) : gMi l yX8_takesNumber (gws yX8_takesNumber cX8_takesNumber 6 (some .boolean)) rmX8_takesNumber X mL [.ref (gad X 0), .int a1, .int a2] σ q.1 q.2 := by
  refine g_enter (cc := cX8_takesNumber) (nL := 6) (ret := (some .boolean)) hJ (plainFor_of_name (by decide)) (Nat.le_of_ble_eq_true rfl) ?_
  intro p e s m below meth c ls C P hl
  have C : gC p s m _ meth c RX8 cX8_takesNumber 6 (some .boolean) X mL := C
  have hx := C.1
  have hb := C.2.1
  have hK := C.2.2.2.2.2.2.2.1
  have hts := C.2.2.2.2.1
  have hl : lv_has ls 6 [(0, .ref (gad X 0)), (1, .int a1), (2, .int a2)] := hl
  unfold qM_takesNumber at h
  refine lv_aload_n hx hb dX8_takesNumber_0 rfl (lv_at hl 0 rfl) ?_
  obtain ⟨r1, hr1, h⟩ := g_bind h
  refine g_callVv (n := 0) (As := []) (rest := []) C P (kX8_blanks l X hJ σ _ hr1) wd_914 wd_915 wd_916 wd_5 wd_917 rfl rfl kdX8_blanks ⟨Nat.le_of_ble_eq_true rfl, Nat.le_of_ble_eq_true rfl⟩ ml0 rfl rfl rfl hl.1 (Nat.le_of_ble_eq_true rfl) dX8_takesNumber_1 (fun H locs P => ?_)
  refine lv_iload_n hx hb dX8_takesNumber_4 rfl (lv_at hl 2 rfl) ?_
  refine lv_if_eq (tgt := 23) hx hb dX8_takesNumber_5 (by decide) (fun c2 => ?_) (fun c2 => ?_)
  · have h := g_ifp c2 h
    refine lv_iconst (v := 0) hx hb dX8_takesNumber_23 (by decide) ?_
    refine lv_istore_n (lv' := [(3, .int (0 : Int32)), (0, .ref (gad X 0)), (1, .int a1), (2, .int a2)]) hx hb dX8_takesNumber_24 rfl hl (by decide) rfl (fun ls hl => ?_)
    refine lv_aload_n hx hb dX8_takesNumber_25 rfl (lv_at hl 1 rfl) ?_
    refine lv_dup hx hb dX8_takesNumber_26 rfl ?_
    refine g_getI C P ml0 rfl inlX8 15 (by decide) wd_912 rfl dX8_takesNumber_27 ?_
    refine lv_iload_n hx hb dX8_takesNumber_30 rfl (lv_at hl 0 rfl) ?_
    refine lv_if_eq (tgt := 38) hx hb dX8_takesNumber_31 (by decide) (fun c3 => ?_) (fun c3 => ?_)
    rotate_left
    · exact absurd (by decide) c3
    refine lv_iconst (v := 0) hx hb dX8_takesNumber_38 (by decide) ?_
    refine lv_iadd hx hb dX8_takesNumber_39 ?_
    refine g_putI C P ml0 rfl inlX8 tyX8 tyX8_ok nmX8 15 (by decide) wd_912 rfl rfl rfl rfl dX8_takesNumber_40 (fun H locs P => ?_)
    refine lv_aload_n hx hb dX8_takesNumber_43 rfl (lv_at hl 1 rfl) ?_
    refine g_getI C P ml0 rfl inlX8 15 (by decide) wd_912 rfl dX8_takesNumber_44 ?_
    refine lv_istore (lv' := [(4, .int (gI (sI r1 0 15 ((gI r1 0 15) + (0 : Int32))) 0 15)), (3, .int (0 : Int32)), (0, .ref (gad X 0)), (1, .int a1), (2, .int a2)]) hx hb dX8_takesNumber_47 hl (by decide) rfl (fun ls hl => ?_)
    refine lv_iconst (v := 0) hx hb dX8_takesNumber_49 (by decide) ?_
    refine lv_istore (lv' := [(5, .int (0 : Int32)), (4, .int (gI (sI r1 0 15 ((gI r1 0 15) + (0 : Int32))) 0 15)), (3, .int (0 : Int32)), (0, .ref (gad X 0)), (1, .int a1), (2, .int a2)]) hx hb dX8_takesNumber_50 hl (by decide) rfl (fun ls hl => ?_)
    refine kX8_takesNumber_52 hJ C a1 (0 : Int32) (gI (sI r1 0 15 ((gI r1 0 15) + (0 : Int32))) 0 15) _ _ ?_ _ _ _ h _ _ _ P (lv_sub hl [3, 4, 2, 1, 0] rfl)
    intro σ10 x11 H locs ls h P hl
    refine lv_aload_n hx hb dX8_takesNumber_116 rfl (lv_at hl 0 rfl) ?_
    refine g_getR C P ml0 rfl inlX8 13 (by decide) wd_105 rfl dX8_takesNumber_117 ?_
    refine lv_iload_n hx hb dX8_takesNumber_120 rfl (lv_at hl 1 rfl) ?_
    refine lv_iload_n hx hb dX8_takesNumber_121 rfl (lv_at hl 2 rfl) ?_
    refine lv_if_eq (tgt := 131) hx hb dX8_takesNumber_122 (by decide) (fun c12 => ?_) (fun c12 => ?_)
    rotate_left
    · exact absurd (by decide) c12
    refine lv_iload hx hb dX8_takesNumber_131 (lv_at hl 4 rfl) ?_
    obtain ⟨b13, h⟩ := g_ob h
    refine g_iast (j := a1.toNatClampNeg) C P ml11 b13 rfl dX8_takesNumber_133 (fun H locs P => ?_)
    refine lv_aload_n hx hb dX8_takesNumber_134 rfl (lv_at hl 0 rfl) ?_
    refine g_getI C P ml0 rfl inlX8 15 (by decide) wd_912 rfl dX8_takesNumber_135 ?_
    refine lv_iload hx hb dX8_takesNumber_138 (lv_at hl 3 rfl) ?_
    refine lv_icmp_gt (tgt := 154) hx hb dX8_takesNumber_140 (by decide) (fun c14 => ?_) (fun c14 => ?_)
    · have h := g_ifp c14 h
      refine lv_iconst (v := 1) hx hb dX8_takesNumber_154 (by decide) ?_
      refine lv_goto (tgt := 159) hx hb dX8_takesNumber_155 (by decide) ?_
      have h := Option.some.inj h
      exact g_zret C P rfl (g_fst h) (g_snd h) dX8_takesNumber_159
    have h := g_ifn c14 h
    refine lv_aload_n hx hb dX8_takesNumber_143 rfl (lv_at hl 0 rfl) ?_
    refine lv_aload_n hx hb dX8_takesNumber_144 rfl (lv_at hl 0 rfl) ?_
    refine g_getI C P ml0 rfl inlX8 15 (by decide) wd_912 rfl dX8_takesNumber_145 ?_
    obtain ⟨r15, hr15, h⟩ := g_bind h
    refine g_callVi (n := 1) (As := [.int (gI (sM σ10 11 a1.toNatClampNeg x11) 0 15)]) (rest := []) C P (kX8_fails l X hJ (sM σ10 11 a1.toNatClampNeg x11) (gI (sM σ10 11 a1.toNatClampNeg x11) 0 15) _ hr15) wd_929 wd_930 wd_931 wd_5 wd_932 rfl rfl kdX8_fails ⟨Nat.le_of_ble_eq_true rfl, Nat.le_of_ble_eq_true rfl⟩ ml0 rfl rfl rfl hl.1 (Nat.le_of_ble_eq_true rfl) dX8_takesNumber_148 (fun H locs P => ?_)
    refine lv_if_eq (tgt := 158) hx hb dX8_takesNumber_151 (by decide) (fun c16 => ?_) (fun c16 => ?_)
    · have h := g_ifp c16 h
      refine lv_iconst (v := 0) hx hb dX8_takesNumber_158 (by decide) ?_
      have h := Option.some.inj h
      exact g_zret C P rfl (g_fst h) (g_snd h) dX8_takesNumber_159
    have h := g_ifn c16 h
    refine lv_iconst (v := 1) hx hb dX8_takesNumber_154 (by decide) ?_
    refine lv_goto (tgt := 159) hx hb dX8_takesNumber_155 (by decide) ?_
    have h := Option.some.inj h
    exact g_zret C P rfl (g_fst h) (g_snd h) dX8_takesNumber_159
  have h := g_ifn c2 h
  refine lv_aload_n hx hb dX8_takesNumber_8 rfl (lv_at hl 0 rfl) ?_
  refine lv_bipush (v := 45) hx hb dX8_takesNumber_9 (by decide) ?_
  refine lv_bipush (v := 45) hx hb dX8_takesNumber_11 (by decide) ?_
  obtain ⟨r17, hr17, h⟩ := g_bind h
  refine g_callVi (n := 2) (As := [.int (45 : Int32), .int (45 : Int32)]) (rest := []) C P (kX8_isAt l X hJ r1 (45 : Int32) (45 : Int32) _ hr17) wd_918 wd_919 wd_920 wd_5 wd_921 rfl rfl kdX8_isAt ⟨Nat.le_of_ble_eq_true rfl, Nat.le_of_ble_eq_true rfl⟩ ml0 rfl rfl rfl hl.1 (Nat.le_of_ble_eq_true rfl) dX8_takesNumber_13 (fun H locs P => ?_)
  refine lv_if_eq (tgt := 23) hx hb dX8_takesNumber_16 (by decide) (fun c18 => ?_) (fun c18 => ?_)
  · have h := g_ifp c18 h
    refine lv_iconst (v := 0) hx hb dX8_takesNumber_23 (by decide) ?_
    refine lv_istore_n (lv' := [(3, .int (0 : Int32)), (0, .ref (gad X 0)), (1, .int a1), (2, .int a2)]) hx hb dX8_takesNumber_24 rfl hl (by decide) rfl (fun ls hl => ?_)
    refine lv_aload_n hx hb dX8_takesNumber_25 rfl (lv_at hl 1 rfl) ?_
    refine lv_dup hx hb dX8_takesNumber_26 rfl ?_
    refine g_getI C P ml0 rfl inlX8 15 (by decide) wd_912 rfl dX8_takesNumber_27 ?_
    refine lv_iload_n hx hb dX8_takesNumber_30 rfl (lv_at hl 0 rfl) ?_
    refine lv_if_eq (tgt := 38) hx hb dX8_takesNumber_31 (by decide) (fun c19 => ?_) (fun c19 => ?_)
    rotate_left
    · exact absurd (by decide) c19
    refine lv_iconst (v := 0) hx hb dX8_takesNumber_38 (by decide) ?_
    refine lv_iadd hx hb dX8_takesNumber_39 ?_
    refine g_putI C P ml0 rfl inlX8 tyX8 tyX8_ok nmX8 15 (by decide) wd_912 rfl rfl rfl rfl dX8_takesNumber_40 (fun H locs P => ?_)
    refine lv_aload_n hx hb dX8_takesNumber_43 rfl (lv_at hl 1 rfl) ?_
    refine g_getI C P ml0 rfl inlX8 15 (by decide) wd_912 rfl dX8_takesNumber_44 ?_
    refine lv_istore (lv' := [(4, .int (gI (sI r1 0 15 ((gI r1 0 15) + (0 : Int32))) 0 15)), (3, .int (0 : Int32)), (0, .ref (gad X 0)), (1, .int a1), (2, .int a2)]) hx hb dX8_takesNumber_47 hl (by decide) rfl (fun ls hl => ?_)
    refine lv_iconst (v := 0) hx hb dX8_takesNumber_49 (by decide) ?_
    refine lv_istore (lv' := [(5, .int (0 : Int32)), (4, .int (gI (sI r1 0 15 ((gI r1 0 15) + (0 : Int32))) 0 15)), (3, .int (0 : Int32)), (0, .ref (gad X 0)), (1, .int a1), (2, .int a2)]) hx hb dX8_takesNumber_50 hl (by decide) rfl (fun ls hl => ?_)
    refine kX8_takesNumber_52 hJ C a1 (0 : Int32) (gI (sI r1 0 15 ((gI r1 0 15) + (0 : Int32))) 0 15) _ _ ?_ _ _ _ h _ _ _ P (lv_sub hl [3, 4, 2, 1, 0] rfl)
    intro σ20 x21 H locs ls h P hl
    refine lv_aload_n hx hb dX8_takesNumber_116 rfl (lv_at hl 0 rfl) ?_
    refine g_getR C P ml0 rfl inlX8 13 (by decide) wd_105 rfl dX8_takesNumber_117 ?_
    refine lv_iload_n hx hb dX8_takesNumber_120 rfl (lv_at hl 1 rfl) ?_
    refine lv_iload_n hx hb dX8_takesNumber_121 rfl (lv_at hl 2 rfl) ?_
    refine lv_if_eq (tgt := 131) hx hb dX8_takesNumber_122 (by decide) (fun c22 => ?_) (fun c22 => ?_)
    rotate_left
    · exact absurd (by decide) c22
    refine lv_iload hx hb dX8_takesNumber_131 (lv_at hl 4 rfl) ?_
    obtain ⟨b23, h⟩ := g_ob h
    refine g_iast (j := a1.toNatClampNeg) C P ml11 b23 rfl dX8_takesNumber_133 (fun H locs P => ?_)
    refine lv_aload_n hx hb dX8_takesNumber_134 rfl (lv_at hl 0 rfl) ?_
    refine g_getI C P ml0 rfl inlX8 15 (by decide) wd_912 rfl dX8_takesNumber_135 ?_
    refine lv_iload hx hb dX8_takesNumber_138 (lv_at hl 3 rfl) ?_
    refine lv_icmp_gt (tgt := 154) hx hb dX8_takesNumber_140 (by decide) (fun c24 => ?_) (fun c24 => ?_)
    · have h := g_ifp c24 h
      refine lv_iconst (v := 1) hx hb dX8_takesNumber_154 (by decide) ?_
      refine lv_goto (tgt := 159) hx hb dX8_takesNumber_155 (by decide) ?_
      have h := Option.some.inj h
      exact g_zret C P rfl (g_fst h) (g_snd h) dX8_takesNumber_159
    have h := g_ifn c24 h
    refine lv_aload_n hx hb dX8_takesNumber_143 rfl (lv_at hl 0 rfl) ?_
    refine lv_aload_n hx hb dX8_takesNumber_144 rfl (lv_at hl 0 rfl) ?_
    refine g_getI C P ml0 rfl inlX8 15 (by decide) wd_912 rfl dX8_takesNumber_145 ?_
    obtain ⟨r25, hr25, h⟩ := g_bind h
    refine g_callVi (n := 1) (As := [.int (gI (sM σ20 11 a1.toNatClampNeg x21) 0 15)]) (rest := []) C P (kX8_fails l X hJ (sM σ20 11 a1.toNatClampNeg x21) (gI (sM σ20 11 a1.toNatClampNeg x21) 0 15) _ hr25) wd_929 wd_930 wd_931 wd_5 wd_932 rfl rfl kdX8_fails ⟨Nat.le_of_ble_eq_true rfl, Nat.le_of_ble_eq_true rfl⟩ ml0 rfl rfl rfl hl.1 (Nat.le_of_ble_eq_true rfl) dX8_takesNumber_148 (fun H locs P => ?_)
    refine lv_if_eq (tgt := 158) hx hb dX8_takesNumber_151 (by decide) (fun c26 => ?_) (fun c26 => ?_)
    · have h := g_ifp c26 h
      refine lv_iconst (v := 0) hx hb dX8_takesNumber_158 (by decide) ?_
      have h := Option.some.inj h
      exact g_zret C P rfl (g_fst h) (g_snd h) dX8_takesNumber_159
    have h := g_ifn c26 h
    refine lv_iconst (v := 1) hx hb dX8_takesNumber_154 (by decide) ?_
    refine lv_goto (tgt := 159) hx hb dX8_takesNumber_155 (by decide) ?_
    have h := Option.some.inj h
    exact g_zret C P rfl (g_fst h) (g_snd h) dX8_takesNumber_159
  have h := g_ifn c18 h
  refine lv_iconst (v := 1) hx hb dX8_takesNumber_19 (by decide) ?_
  refine lv_goto (tgt := 24) hx hb dX8_takesNumber_20 (by decide) ?_
  refine lv_istore_n (lv' := [(3, .int (1 : Int32)), (0, .ref (gad X 0)), (1, .int a1), (2, .int a2)]) hx hb dX8_takesNumber_24 rfl hl (by decide) rfl (fun ls hl => ?_)
  refine lv_aload_n hx hb dX8_takesNumber_25 rfl (lv_at hl 1 rfl) ?_
  refine lv_dup hx hb dX8_takesNumber_26 rfl ?_
  refine g_getI C P ml0 rfl inlX8 15 (by decide) wd_912 rfl dX8_takesNumber_27 ?_
  refine lv_iload_n hx hb dX8_takesNumber_30 rfl (lv_at hl 0 rfl) ?_
  refine lv_if_eq (tgt := 38) hx hb dX8_takesNumber_31 (by decide) (fun c27 => ?_) (fun c27 => ?_)
  · exact absurd c27 (by decide)
  refine lv_iconst (v := 1) hx hb dX8_takesNumber_34 (by decide) ?_
  refine lv_goto (tgt := 39) hx hb dX8_takesNumber_35 (by decide) ?_
  refine lv_iadd hx hb dX8_takesNumber_39 ?_
  refine g_putI C P ml0 rfl inlX8 tyX8 tyX8_ok nmX8 15 (by decide) wd_912 rfl rfl rfl rfl dX8_takesNumber_40 (fun H locs P => ?_)
  refine lv_aload_n hx hb dX8_takesNumber_43 rfl (lv_at hl 1 rfl) ?_
  refine g_getI C P ml0 rfl inlX8 15 (by decide) wd_912 rfl dX8_takesNumber_44 ?_
  refine lv_istore (lv' := [(4, .int (gI (sI r1 0 15 ((gI r1 0 15) + (1 : Int32))) 0 15)), (3, .int (1 : Int32)), (0, .ref (gad X 0)), (1, .int a1), (2, .int a2)]) hx hb dX8_takesNumber_47 hl (by decide) rfl (fun ls hl => ?_)
  refine lv_iconst (v := 0) hx hb dX8_takesNumber_49 (by decide) ?_
  refine lv_istore (lv' := [(5, .int (0 : Int32)), (4, .int (gI (sI r1 0 15 ((gI r1 0 15) + (1 : Int32))) 0 15)), (3, .int (1 : Int32)), (0, .ref (gad X 0)), (1, .int a1), (2, .int a2)]) hx hb dX8_takesNumber_50 hl (by decide) rfl (fun ls hl => ?_)
  refine kX8_takesNumber_52 hJ C a1 (1 : Int32) (gI (sI r1 0 15 ((gI r1 0 15) + (1 : Int32))) 0 15) _ _ ?_ _ _ _ h _ _ _ P (lv_sub hl [3, 4, 2, 1, 0] rfl)
  intro σ28 x29 H locs ls h P hl
  refine lv_aload_n hx hb dX8_takesNumber_116 rfl (lv_at hl 0 rfl) ?_
  refine g_getR C P ml0 rfl inlX8 13 (by decide) wd_105 rfl dX8_takesNumber_117 ?_
  refine lv_iload_n hx hb dX8_takesNumber_120 rfl (lv_at hl 1 rfl) ?_
  refine lv_iload_n hx hb dX8_takesNumber_121 rfl (lv_at hl 2 rfl) ?_
  refine lv_if_eq (tgt := 131) hx hb dX8_takesNumber_122 (by decide) (fun c30 => ?_) (fun c30 => ?_)
  · exact absurd c30 (by decide)
  refine lv_iload hx hb dX8_takesNumber_125 (lv_at hl 4 rfl) ?_
  refine lv_ineg hx hb dX8_takesNumber_127 ?_
  refine lv_goto (tgt := 133) hx hb dX8_takesNumber_128 (by decide) ?_
  obtain ⟨b31, h⟩ := g_ob h
  refine g_iast (j := a1.toNatClampNeg) C P ml11 b31 rfl dX8_takesNumber_133 (fun H locs P => ?_)
  refine lv_aload_n hx hb dX8_takesNumber_134 rfl (lv_at hl 0 rfl) ?_
  refine g_getI C P ml0 rfl inlX8 15 (by decide) wd_912 rfl dX8_takesNumber_135 ?_
  refine lv_iload hx hb dX8_takesNumber_138 (lv_at hl 3 rfl) ?_
  refine lv_icmp_gt (tgt := 154) hx hb dX8_takesNumber_140 (by decide) (fun c32 => ?_) (fun c32 => ?_)
  · have h := g_ifp c32 h
    refine lv_iconst (v := 1) hx hb dX8_takesNumber_154 (by decide) ?_
    refine lv_goto (tgt := 159) hx hb dX8_takesNumber_155 (by decide) ?_
    have h := Option.some.inj h
    exact g_zret C P rfl (g_fst h) (g_snd h) dX8_takesNumber_159
  have h := g_ifn c32 h
  refine lv_aload_n hx hb dX8_takesNumber_143 rfl (lv_at hl 0 rfl) ?_
  refine lv_aload_n hx hb dX8_takesNumber_144 rfl (lv_at hl 0 rfl) ?_
  refine g_getI C P ml0 rfl inlX8 15 (by decide) wd_912 rfl dX8_takesNumber_145 ?_
  obtain ⟨r33, hr33, h⟩ := g_bind h
  refine g_callVi (n := 1) (As := [.int (gI (sM σ28 11 a1.toNatClampNeg (-x29)) 0 15)]) (rest := []) C P (kX8_fails l X hJ (sM σ28 11 a1.toNatClampNeg (-x29)) (gI (sM σ28 11 a1.toNatClampNeg (-x29)) 0 15) _ hr33) wd_929 wd_930 wd_931 wd_5 wd_932 rfl rfl kdX8_fails ⟨Nat.le_of_ble_eq_true rfl, Nat.le_of_ble_eq_true rfl⟩ ml0 rfl rfl rfl hl.1 (Nat.le_of_ble_eq_true rfl) dX8_takesNumber_148 (fun H locs P => ?_)
  refine lv_if_eq (tgt := 158) hx hb dX8_takesNumber_151 (by decide) (fun c34 => ?_) (fun c34 => ?_)
  · have h := g_ifp c34 h
    refine lv_iconst (v := 0) hx hb dX8_takesNumber_158 (by decide) ?_
    have h := Option.some.inj h
    exact g_zret C P rfl (g_fst h) (g_snd h) dX8_takesNumber_159
  have h := g_ifn c34 h
  refine lv_iconst (v := 1) hx hb dX8_takesNumber_154 (by decide) ?_
  refine lv_goto (tgt := 159) hx hb dX8_takesNumber_155 (by decide) ?_
  have h := Option.some.inj h
  exact g_zret C P rfl (g_fst h) (g_snd h) dX8_takesNumber_159
abbrev rmX8_takesOrder : Room := { frames := 4, cells := 0, slots := 0, locals := 89 }
theorem kdX8_takesOrder : yX8_takesOrder.cls = RX8 ∧ yX8_takesOrder.cls ≠ "java/lang/invoke/MethodHandle" ∧ yX8_takesOrder.cls ≠ "java/lang/invoke/VarHandle" ∧ (parseMethodDescriptor yX8_takesOrder.desc).map (fun d => d.parameters.length) = some 0 := by decide +kernel
set_option maxHeartbeats 4000000 in
set_option maxRecDepth 100000 in
theorem kX8_takesOrder_50 {p : Program} {l : Launch} {e : Env} {s : State} {m : MethodId} {args : Array Value} {below : List Frame} {meth : Method} {c : Code} {X : gXt} (hJ : gJ X mL) (C : gC p s m args meth c RX8 cX8_takesOrder 4 (some .boolean) X mL) (f50_1 : Int32) (f50_2 : Int32) (k : gS → Option (Int32 × gS)) (q : Int32 × gS) (hk : ∀ (σ' : gS) (H : Heap) (locs : List Loc) (ls : Array Slot), k σ' = some q → gH X mL σ' s H locs → lv_has ls 4 [(0, .ref (gad X 0))] → W p l e rmX8_takesOrder s m args below meth c H locs 0 0 (MQ below (gQi X mL q.1 q.2) args s 0 0 (gA X mL)) (F0 m 94 ls [])) : ∀ (n : Nat) (σ : gS) (v3 : Int32), qM_takesOrder_50 f50_1 f50_2 k n σ v3 = some q → ∀ (H : Heap) (locs : List Loc) (ls : Array Slot), gH X mL σ s H locs → lv_has ls 4 [(0, .ref (gad X 0)), (1, .int f50_1), (2, .int f50_2), (3, .int v3)] → W p l e rmX8_takesOrder s m args below meth c H locs 0 0 (MQ below (gQi X mL q.1 q.2) args s 0 0 (gA X mL)) (F0 m 50 ls []) := by
  have hx := C.1
  have hb := C.2.1
  have hK := C.2.2.2.2.2.2.2.1
  have hts := C.2.2.2.2.1
  intro n
  induction n with
  | zero => intro σ v3 h; cases h
  | succ n ih =>
    intro σ v3 h H locs ls P hl
    have h : (if f50_2 ≤ v3 then k σ else (if f50_1 = (118 : Int32) then (if v3 = (1 : Int32) then (qM_takesNumber σ (((3 : Int32) * (gI σ 0 14)) + v3) (1 : Int32)).bind (fun r11 => (if r11.1 = 0 then some ((0 : Int32), r11.2) else qM_takesOrder_50 f50_1 f50_2 k n r11.2 (v3 + 1))) else (qM_takesNumber σ (((3 : Int32) * (gI σ 0 14)) + v3) (0 : Int32)).bind (fun r9 => (if r9.1 = 0 then some ((0 : Int32), r9.2) else qM_takesOrder_50 f50_1 f50_2 k n r9.2 (v3 + 1)))) else (qM_takesNumber σ (((3 : Int32) * (gI σ 0 14)) + v3) (0 : Int32)).bind (fun r6 => (if r6.1 = 0 then some ((0 : Int32), r6.2) else qM_takesOrder_50 f50_1 f50_2 k n r6.2 (v3 + 1))))) = some q := h
    refine lv_iload_n hx hb dX8_takesOrder_50 rfl (lv_at hl 3 rfl) ?_
    refine lv_iload_n hx hb dX8_takesOrder_51 rfl (lv_at hl 2 rfl) ?_
    refine lv_icmp_ge (tgt := 94) hx hb dX8_takesOrder_52 (by decide) (fun c4 => ?_) (fun c4 => ?_)
    · have h := g_ifp c4 h
      exact hk σ _ _ _ h P (lv_sub hl [0] rfl)
    have h := g_ifn c4 h
    refine lv_aload_n hx hb dX8_takesOrder_55 rfl (lv_at hl 0 rfl) ?_
    refine lv_iconst (v := 3) hx hb dX8_takesOrder_56 (by decide) ?_
    refine lv_aload_n hx hb dX8_takesOrder_57 rfl (lv_at hl 0 rfl) ?_
    refine g_getI C P ml0 rfl inlX8 14 (by decide) wd_913 rfl dX8_takesOrder_58 ?_
    refine lv_imul hx hb dX8_takesOrder_61 ?_
    refine lv_iload_n hx hb dX8_takesOrder_62 rfl (lv_at hl 3 rfl) ?_
    refine lv_iadd hx hb dX8_takesOrder_63 ?_
    refine lv_iload_n hx hb dX8_takesOrder_64 rfl (lv_at hl 1 rfl) ?_
    refine lv_bipush (v := 118) hx hb dX8_takesOrder_65 (by decide) ?_
    refine lv_icmp_ne (tgt := 79) hx hb dX8_takesOrder_67 (by decide) (fun c5 => ?_) (fun c5 => ?_)
    · have h := g_ifn c5 h
      refine lv_iconst (v := 0) hx hb dX8_takesOrder_79 (by decide) ?_
      obtain ⟨r6, hr6, h⟩ := g_bind h
      refine g_callVi (n := 2) (As := [.int (((3 : Int32) * (gI σ 0 14)) + v3), .int (0 : Int32)]) (rest := []) C P (kX8_takesNumber l X hJ σ (((3 : Int32) * (gI σ 0 14)) + v3) (0 : Int32) _ hr6) wd_933 wd_934 wd_935 wd_5 wd_936 rfl rfl kdX8_takesNumber ⟨Nat.le_of_ble_eq_true rfl, Nat.le_of_ble_eq_true rfl⟩ ml0 rfl rfl rfl hl.1 (Nat.le_of_ble_eq_true rfl) dX8_takesOrder_80 (fun H locs P => ?_)
      refine lv_if_ne (tgt := 88) hx hb dX8_takesOrder_83 (by decide) (fun c7 => ?_) (fun c7 => ?_)
      · have h := g_ifn c7 h
        refine lv_iinc (v := (v3 + 1)) (lv' := [(3, .int (v3 + 1)), (0, .ref (gad X 0)), (1, .int f50_1), (2, .int f50_2)]) hx hb dX8_takesOrder_88 hl (k := 3) rfl rfl (by decide) rfl (fun ls hl => ?_)
        refine lv_goto (tgt := 50) hx hb dX8_takesOrder_91 (by decide) ?_
        exact ih r6.2 (v3 + 1) h _ _ _ P (lv_sub hl [1, 2, 3, 0] rfl)
      have h := g_ifp c7 h
      refine lv_iconst (v := 0) hx hb dX8_takesOrder_86 (by decide) ?_
      have h := Option.some.inj h
      exact g_zret C P rfl (g_fst h) (g_snd h) dX8_takesOrder_87
    have h := g_ifp c5 h
    refine lv_iload_n hx hb dX8_takesOrder_70 rfl (lv_at hl 3 rfl) ?_
    refine lv_iconst (v := 1) hx hb dX8_takesOrder_71 (by decide) ?_
    refine lv_icmp_ne (tgt := 79) hx hb dX8_takesOrder_72 (by decide) (fun c8 => ?_) (fun c8 => ?_)
    · have h := g_ifn c8 h
      refine lv_iconst (v := 0) hx hb dX8_takesOrder_79 (by decide) ?_
      obtain ⟨r9, hr9, h⟩ := g_bind h
      refine g_callVi (n := 2) (As := [.int (((3 : Int32) * (gI σ 0 14)) + v3), .int (0 : Int32)]) (rest := []) C P (kX8_takesNumber l X hJ σ (((3 : Int32) * (gI σ 0 14)) + v3) (0 : Int32) _ hr9) wd_933 wd_934 wd_935 wd_5 wd_936 rfl rfl kdX8_takesNumber ⟨Nat.le_of_ble_eq_true rfl, Nat.le_of_ble_eq_true rfl⟩ ml0 rfl rfl rfl hl.1 (Nat.le_of_ble_eq_true rfl) dX8_takesOrder_80 (fun H locs P => ?_)
      refine lv_if_ne (tgt := 88) hx hb dX8_takesOrder_83 (by decide) (fun c10 => ?_) (fun c10 => ?_)
      · have h := g_ifn c10 h
        refine lv_iinc (v := (v3 + 1)) (lv' := [(3, .int (v3 + 1)), (0, .ref (gad X 0)), (1, .int f50_1), (2, .int f50_2)]) hx hb dX8_takesOrder_88 hl (k := 3) rfl rfl (by decide) rfl (fun ls hl => ?_)
        refine lv_goto (tgt := 50) hx hb dX8_takesOrder_91 (by decide) ?_
        exact ih r9.2 (v3 + 1) h _ _ _ P (lv_sub hl [1, 2, 3, 0] rfl)
      have h := g_ifp c10 h
      refine lv_iconst (v := 0) hx hb dX8_takesOrder_86 (by decide) ?_
      have h := Option.some.inj h
      exact g_zret C P rfl (g_fst h) (g_snd h) dX8_takesOrder_87
    have h := g_ifp c8 h
    refine lv_iconst (v := 1) hx hb dX8_takesOrder_75 (by decide) ?_
    refine lv_goto (tgt := 80) hx hb dX8_takesOrder_76 (by decide) ?_
    obtain ⟨r11, hr11, h⟩ := g_bind h
    refine g_callVi (n := 2) (As := [.int (((3 : Int32) * (gI σ 0 14)) + v3), .int (1 : Int32)]) (rest := []) C P (kX8_takesNumber l X hJ σ (((3 : Int32) * (gI σ 0 14)) + v3) (1 : Int32) _ hr11) wd_933 wd_934 wd_935 wd_5 wd_936 rfl rfl kdX8_takesNumber ⟨Nat.le_of_ble_eq_true rfl, Nat.le_of_ble_eq_true rfl⟩ ml0 rfl rfl rfl hl.1 (Nat.le_of_ble_eq_true rfl) dX8_takesOrder_80 (fun H locs P => ?_)
    refine lv_if_ne (tgt := 88) hx hb dX8_takesOrder_83 (by decide) (fun c12 => ?_) (fun c12 => ?_)
    · have h := g_ifn c12 h
      refine lv_iinc (v := (v3 + 1)) (lv' := [(3, .int (v3 + 1)), (0, .ref (gad X 0)), (1, .int f50_1), (2, .int f50_2)]) hx hb dX8_takesOrder_88 hl (k := 3) rfl rfl (by decide) rfl (fun ls hl => ?_)
      refine lv_goto (tgt := 50) hx hb dX8_takesOrder_91 (by decide) ?_
      exact ih r11.2 (v3 + 1) h _ _ _ P (lv_sub hl [1, 2, 3, 0] rfl)
    have h := g_ifp c12 h
    refine lv_iconst (v := 0) hx hb dX8_takesOrder_86 (by decide) ?_
    have h := Option.some.inj h
    exact g_zret C P rfl (g_fst h) (g_snd h) dX8_takesOrder_87
set_option maxHeartbeats 4000000 in
set_option maxRecDepth 100000 in
theorem kX8_takesOrder (l : Launch) (X : gXt) (hJ : gJ X mL) (σ : gS) (q : Int32 × gS) (h : qM_takesOrder σ = some q) : gMi l yX8_takesOrder (gws yX8_takesOrder cX8_takesOrder 4 (some .boolean)) rmX8_takesOrder X mL [.ref (gad X 0)] σ q.1 q.2 := by
  refine g_enter (cc := cX8_takesOrder) (nL := 4) (ret := (some .boolean)) hJ (plainFor_of_name (by decide)) (Nat.le_of_ble_eq_true rfl) ?_
  intro p e s m below meth c ls C P hl
  have C : gC p s m _ meth c RX8 cX8_takesOrder 4 (some .boolean) X mL := C
  have hx := C.1
  have hb := C.2.1
  have hK := C.2.2.2.2.2.2.2.1
  have hts := C.2.2.2.2.1
  have hl : lv_has ls 4 [(0, .ref (gad X 0))] := hl
  unfold qM_takesOrder at h
  refine lv_aload_n hx hb dX8_takesOrder_0 rfl (lv_at hl 0 rfl) ?_
  refine g_getR C P ml0 rfl inlX8 6 (by decide) wd_100 rfl dX8_takesOrder_1 ?_
  refine lv_aload_n hx hb dX8_takesOrder_4 rfl (lv_at hl 0 rfl) ?_
  refine g_getI C P ml0 rfl inlX8 15 (by decide) wd_912 rfl dX8_takesOrder_5 ?_
  obtain ⟨b1, h⟩ := g_ob h
  refine g_iald (j := (gI σ 0 15).toNatClampNeg) C P ml6 b1 rfl dX8_takesOrder_8 ?_
  refine lv_istore_n (lv' := [(1, .int (gM σ 6 (gI σ 0 15).toNatClampNeg)), (0, .ref (gad X 0))]) hx hb dX8_takesOrder_9 rfl hl (by decide) rfl (fun ls hl => ?_)
  refine lv_iload_n hx hb dX8_takesOrder_10 rfl (lv_at hl 0 rfl) ?_
  refine g_callSi (n := 1) (As := [.int (gM σ 6 (gI σ 0 15).toNatClampNeg)]) (rest := []) C P (kX8_manyOf l X hJ σ (gM σ 6 (gI σ 0 15).toNatClampNeg) _ rfl) wd_926 wd_927 wd_5 wd_928 rfl rfl kdX8_manyOf.2 ⟨Nat.le_of_ble_eq_true rfl, Nat.le_of_ble_eq_true rfl⟩ rfl rfl hl.1 (Nat.le_of_ble_eq_true rfl) dX8_takesOrder_11 (fun H locs P => ?_)
  refine lv_istore_n (lv' := [(2, .int (qM_manyOf (gM σ 6 (gI σ 0 15).toNatClampNeg))), (1, .int (gM σ 6 (gI σ 0 15).toNatClampNeg)), (0, .ref (gad X 0))]) hx hb dX8_takesOrder_14 rfl hl (by decide) rfl (fun ls hl => ?_)
  refine lv_iload_n hx hb dX8_takesOrder_15 rfl (lv_at hl 0 rfl) ?_
  refine lv_if_ge (tgt := 28) hx hb dX8_takesOrder_16 (by decide) (fun c2 => ?_) (fun c2 => ?_)
  · have h := g_ifp c2 h
    refine lv_aload_n hx hb dX8_takesOrder_28 rfl (lv_at hl 2 rfl) ?_
    refine g_getR C P ml0 rfl inlX8 12 (by decide) wd_104 rfl dX8_takesOrder_29 ?_
    refine lv_aload_n hx hb dX8_takesOrder_32 rfl (lv_at hl 2 rfl) ?_
    refine g_getI C P ml0 rfl inlX8 14 (by decide) wd_913 rfl dX8_takesOrder_33 ?_
    refine lv_iload_n hx hb dX8_takesOrder_36 rfl (lv_at hl 1 rfl) ?_
    obtain ⟨b3, h⟩ := g_ob h
    refine g_iast (j := (gI σ 0 14).toNatClampNeg) C P ml10 b3 rfl dX8_takesOrder_37 (fun H locs P => ?_)
    refine lv_aload_n hx hb dX8_takesOrder_38 rfl (lv_at hl 2 rfl) ?_
    refine lv_dup hx hb dX8_takesOrder_39 rfl ?_
    refine g_getI C P ml0 rfl inlX8 15 (by decide) wd_912 rfl dX8_takesOrder_40 ?_
    refine lv_iconst (v := 1) hx hb dX8_takesOrder_43 (by decide) ?_
    refine lv_iadd hx hb dX8_takesOrder_44 ?_
    refine g_putI C P ml0 rfl inlX8 tyX8 tyX8_ok nmX8 15 (by decide) wd_912 rfl rfl rfl rfl dX8_takesOrder_45 (fun H locs P => ?_)
    refine lv_iconst (v := 0) hx hb dX8_takesOrder_48 (by decide) ?_
    refine lv_istore_n (lv' := [(3, .int (0 : Int32)), (2, .int (qM_manyOf (gM σ 6 (gI σ 0 15).toNatClampNeg))), (1, .int (gM σ 6 (gI σ 0 15).toNatClampNeg)), (0, .ref (gad X 0))]) hx hb dX8_takesOrder_49 rfl hl (by decide) rfl (fun ls hl => ?_)
    refine kX8_takesOrder_50 hJ C (gM σ 6 (gI σ 0 15).toNatClampNeg) (qM_manyOf (gM σ 6 (gI σ 0 15).toNatClampNeg)) _ _ ?_ _ _ _ h _ _ _ P (lv_sub hl [3, 2, 1, 0] rfl)
    intro σ13 H locs ls h P hl
    refine lv_aload_n hx hb dX8_takesOrder_94 rfl (lv_at hl 0 rfl) ?_
    obtain ⟨r14, hr14, h⟩ := g_bind h
    refine g_callVv (n := 0) (As := []) (rest := []) C P (kX8_blanks l X hJ σ13 _ hr14) wd_914 wd_915 wd_916 wd_5 wd_917 rfl rfl kdX8_blanks ⟨Nat.le_of_ble_eq_true rfl, Nat.le_of_ble_eq_true rfl⟩ ml0 rfl rfl rfl hl.1 (Nat.le_of_ble_eq_true rfl) dX8_takesOrder_95 (fun H locs P => ?_)
    refine lv_aload_n hx hb dX8_takesOrder_98 rfl (lv_at hl 0 rfl) ?_
    refine lv_bipush (v := 59) hx hb dX8_takesOrder_99 (by decide) ?_
    refine lv_bipush (v := 59) hx hb dX8_takesOrder_101 (by decide) ?_
    obtain ⟨r15, hr15, h⟩ := g_bind h
    refine g_callVi (n := 2) (As := [.int (59 : Int32), .int (59 : Int32)]) (rest := []) C P (kX8_isAt l X hJ r14 (59 : Int32) (59 : Int32) _ hr15) wd_918 wd_919 wd_920 wd_5 wd_921 rfl rfl kdX8_isAt ⟨Nat.le_of_ble_eq_true rfl, Nat.le_of_ble_eq_true rfl⟩ ml0 rfl rfl rfl hl.1 (Nat.le_of_ble_eq_true rfl) dX8_takesOrder_103 (fun H locs P => ?_)
    refine lv_if_ne (tgt := 118) hx hb dX8_takesOrder_106 (by decide) (fun c16 => ?_) (fun c16 => ?_)
    · have h := g_ifn c16 h
      refine lv_aload_n hx hb dX8_takesOrder_118 rfl (lv_at hl 0 rfl) ?_
      refine lv_dup hx hb dX8_takesOrder_119 rfl ?_
      refine g_getI C P ml0 rfl inlX8 15 (by decide) wd_912 rfl dX8_takesOrder_120 ?_
      refine lv_iconst (v := 1) hx hb dX8_takesOrder_123 (by decide) ?_
      refine lv_iadd hx hb dX8_takesOrder_124 ?_
      refine g_putI C P ml0 rfl inlX8 tyX8 tyX8_ok nmX8 15 (by decide) wd_912 rfl rfl rfl rfl dX8_takesOrder_125 (fun H locs P => ?_)
      refine lv_aload_n hx hb dX8_takesOrder_128 rfl (lv_at hl 0 rfl) ?_
      refine lv_dup hx hb dX8_takesOrder_129 rfl ?_
      refine g_getI C P ml0 rfl inlX8 14 (by decide) wd_913 rfl dX8_takesOrder_130 ?_
      refine lv_iconst (v := 1) hx hb dX8_takesOrder_133 (by decide) ?_
      refine lv_iadd hx hb dX8_takesOrder_134 ?_
      refine g_putI C P ml0 rfl inlX8 tyX8 tyX8_ok nmX8 14 (by decide) wd_913 rfl rfl rfl rfl dX8_takesOrder_135 (fun H locs P => ?_)
      refine lv_iconst (v := 1) hx hb dX8_takesOrder_138 (by decide) ?_
      have h := Option.some.inj h
      exact g_zret C P rfl (g_fst h) (g_snd h) dX8_takesOrder_139
    have h := g_ifp c16 h
    refine lv_aload_n hx hb dX8_takesOrder_109 rfl (lv_at hl 0 rfl) ?_
    refine lv_aload_n hx hb dX8_takesOrder_110 rfl (lv_at hl 0 rfl) ?_
    refine g_getI C P ml0 rfl inlX8 15 (by decide) wd_912 rfl dX8_takesOrder_111 ?_
    obtain ⟨r17, hr17, h⟩ := g_bind h
    refine g_callVi (n := 1) (As := [.int (gI r14 0 15)]) (rest := []) C P (kX8_fails l X hJ r14 (gI r14 0 15) _ hr17) wd_929 wd_930 wd_931 wd_5 wd_932 rfl rfl kdX8_fails ⟨Nat.le_of_ble_eq_true rfl, Nat.le_of_ble_eq_true rfl⟩ ml0 rfl rfl rfl hl.1 (Nat.le_of_ble_eq_true rfl) dX8_takesOrder_114 (fun H locs P => ?_)
    obtain ⟨b18, h⟩ := g_bo h
    have h := Option.some.inj h
    exact g_zret C P (g_bon b18) (g_fst h) (g_snd h) dX8_takesOrder_117
  have h := g_ifn c2 h
  refine lv_aload_n hx hb dX8_takesOrder_19 rfl (lv_at hl 2 rfl) ?_
  refine lv_aload_n hx hb dX8_takesOrder_20 rfl (lv_at hl 2 rfl) ?_
  refine g_getI C P ml0 rfl inlX8 15 (by decide) wd_912 rfl dX8_takesOrder_21 ?_
  obtain ⟨r19, hr19, h⟩ := g_bind h
  refine g_callVi (n := 1) (As := [.int (gI σ 0 15)]) (rest := []) C P (kX8_fails l X hJ σ (gI σ 0 15) _ hr19) wd_929 wd_930 wd_931 wd_5 wd_932 rfl rfl kdX8_fails ⟨Nat.le_of_ble_eq_true rfl, Nat.le_of_ble_eq_true rfl⟩ ml0 rfl rfl rfl hl.1 (Nat.le_of_ble_eq_true rfl) dX8_takesOrder_24 (fun H locs P => ?_)
  obtain ⟨b20, h⟩ := g_bo h
  have h := Option.some.inj h
  exact g_zret C P (g_bon b20) (g_fst h) (g_snd h) dX8_takesOrder_27
abbrev rmX8_isRead : Room := { frames := 5, cells := 0, slots := 0, locals := 112 }
theorem kdX8_isRead : yX8_isRead.cls = RX8 ∧ yX8_isRead.cls ≠ "java/lang/invoke/MethodHandle" ∧ yX8_isRead.cls ≠ "java/lang/invoke/VarHandle" ∧ (parseMethodDescriptor yX8_isRead.desc).map (fun d => d.parameters.length) = some 0 := by decide +kernel
set_option maxHeartbeats 4000000 in
set_option maxRecDepth 100000 in
theorem kX8_isRead_14 {p : Program} {l : Launch} {e : Env} {s : State} {m : MethodId} {args : Array Value} {below : List Frame} {meth : Method} {c : Code} {X : gXt} (hJ : gJ X mL) (C : gC p s m args meth c RX8 cX8_isRead 1 (some .boolean) X mL) (k : gS → Option (Int32 × gS)) (q : Int32 × gS) (hk : ∀ (σ' : gS) (H : Heap) (locs : List Loc) (ls : Array Slot), k σ' = some q → gH X mL σ' s H locs → lv_has ls 1 [(0, .ref (gad X 0))] → W p l e rmX8_isRead s m args below meth c H locs 0 0 (MQ below (gQi X mL q.1 q.2) args s 0 0 (gA X mL)) (F0 m 41 ls [])) : ∀ (n : Nat) (σ : gS), qM_isRead_14 k n σ = some q → ∀ (H : Heap) (locs : List Loc) (ls : Array Slot), gH X mL σ s H locs → lv_has ls 1 [(0, .ref (gad X 0))] → W p l e rmX8_isRead s m args below meth c H locs 0 0 (MQ below (gQi X mL q.1 q.2) args s 0 0 (gA X mL)) (F0 m 14 ls []) := by
  have hx := C.1
  have hb := C.2.1
  have hK := C.2.2.2.2.2.2.2.1
  have hts := C.2.2.2.2.1
  intro n
  induction n with
  | zero => intro σ h; cases h
  | succ n ih =>
    intro σ h H locs ls P hl
    have h : (if (gI σ 0 7) ≤ (gI σ 0 15) then k σ else (qM_takesOrder σ).bind (fun r3 => (if r3.1 = 0 then some ((0 : Int32), r3.2) else (qM_blanks r3.2).bind (fun r5 => qM_isRead_14 k n r5)))) = some q := h
    refine lv_aload_n hx hb dX8_isRead_14 rfl (lv_at hl 0 rfl) ?_
    refine g_getI C P ml0 rfl inlX8 15 (by decide) wd_912 rfl dX8_isRead_15 ?_
    refine lv_aload_n hx hb dX8_isRead_18 rfl (lv_at hl 0 rfl) ?_
    refine g_getI C P ml0 rfl inlX8 7 (by decide) wd_779 rfl dX8_isRead_19 ?_
    refine lv_icmp_ge (tgt := 41) hx hb dX8_isRead_22 (by decide) (fun c2 => ?_) (fun c2 => ?_)
    · have h := g_ifp c2 h
      exact hk σ _ _ _ h P (lv_sub hl [0] rfl)
    have h := g_ifn c2 h
    refine lv_aload_n hx hb dX8_isRead_25 rfl (lv_at hl 0 rfl) ?_
    obtain ⟨r3, hr3, h⟩ := g_bind h
    refine g_callVi (n := 0) (As := []) (rest := []) C P (kX8_takesOrder l X hJ σ _ hr3) wd_922 wd_923 wd_924 wd_5 wd_925 rfl rfl kdX8_takesOrder ⟨Nat.le_of_ble_eq_true rfl, Nat.le_of_ble_eq_true rfl⟩ ml0 rfl rfl rfl hl.1 (Nat.le_of_ble_eq_true rfl) dX8_isRead_26 (fun H locs P => ?_)
    refine lv_if_ne (tgt := 34) hx hb dX8_isRead_29 (by decide) (fun c4 => ?_) (fun c4 => ?_)
    · have h := g_ifn c4 h
      refine lv_aload_n hx hb dX8_isRead_34 rfl (lv_at hl 0 rfl) ?_
      obtain ⟨r5, hr5, h⟩ := g_bind h
      refine g_callVv (n := 0) (As := []) (rest := []) C P (kX8_blanks l X hJ r3.2 _ hr5) wd_914 wd_915 wd_916 wd_5 wd_917 rfl rfl kdX8_blanks ⟨Nat.le_of_ble_eq_true rfl, Nat.le_of_ble_eq_true rfl⟩ ml0 rfl rfl rfl hl.1 (Nat.le_of_ble_eq_true rfl) dX8_isRead_35 (fun H locs P => ?_)
      refine lv_goto (tgt := 14) hx hb dX8_isRead_38 (by decide) ?_
      exact ih r5 h _ _ _ P (lv_sub hl [0] rfl)
    have h := g_ifp c4 h
    refine lv_iconst (v := 0) hx hb dX8_isRead_32 (by decide) ?_
    have h := Option.some.inj h
    exact g_zret C P rfl (g_fst h) (g_snd h) dX8_isRead_33
set_option maxHeartbeats 4000000 in
set_option maxRecDepth 100000 in
theorem kX8_isRead (l : Launch) (X : gXt) (hJ : gJ X mL) (σ : gS) (q : Int32 × gS) (h : qM_isRead σ = some q) : gMi l yX8_isRead (gws yX8_isRead cX8_isRead 1 (some .boolean)) rmX8_isRead X mL [.ref (gad X 0)] σ q.1 q.2 := by
  refine g_enter (cc := cX8_isRead) (nL := 1) (ret := (some .boolean)) hJ (plainFor_of_name (by decide)) (Nat.le_of_ble_eq_true rfl) ?_
  intro p e s m below meth c ls C P hl
  have C : gC p s m _ meth c RX8 cX8_isRead 1 (some .boolean) X mL := C
  have hx := C.1
  have hb := C.2.1
  have hK := C.2.2.2.2.2.2.2.1
  have hts := C.2.2.2.2.1
  have hl : lv_has ls 1 [(0, .ref (gad X 0))] := hl
  unfold qM_isRead at h
  refine lv_aload_n hx hb dX8_isRead_0 rfl (lv_at hl 0 rfl) ?_
  refine lv_iconst (v := 0) hx hb dX8_isRead_1 (by decide) ?_
  refine g_putI C P ml0 rfl inlX8 tyX8 tyX8_ok nmX8 15 (by decide) wd_912 rfl rfl rfl rfl dX8_isRead_2 (fun H locs P => ?_)
  refine lv_aload_n hx hb dX8_isRead_5 rfl (lv_at hl 0 rfl) ?_
  refine lv_iconst (v := 0) hx hb dX8_isRead_6 (by decide) ?_
  refine g_putI C P ml0 rfl inlX8 tyX8 tyX8_ok nmX8 14 (by decide) wd_913 rfl rfl rfl rfl dX8_isRead_7 (fun H locs P => ?_)
  refine lv_aload_n hx hb dX8_isRead_10 rfl (lv_at hl 0 rfl) ?_
  obtain ⟨r1, hr1, h⟩ := g_bind h
  refine g_callVv (n := 0) (As := []) (rest := []) C P (kX8_blanks l X hJ (sI (sI σ 0 15 (0 : Int32)) 0 14 (0 : Int32)) _ hr1) wd_914 wd_915 wd_916 wd_5 wd_917 rfl rfl kdX8_blanks ⟨Nat.le_of_ble_eq_true rfl, Nat.le_of_ble_eq_true rfl⟩ ml0 rfl rfl rfl hl.1 (Nat.le_of_ble_eq_true rfl) dX8_isRead_11 (fun H locs P => ?_)
  refine kX8_isRead_14 hJ C _ _ ?_ _ _ h _ _ _ P (lv_sub hl [0] rfl)
  intro σ6 H locs ls h P hl
  refine lv_aload_n hx hb dX8_isRead_41 rfl (lv_at hl 0 rfl) ?_
  refine g_getI C P ml0 rfl inlX8 14 (by decide) wd_913 rfl dX8_isRead_42 ?_
  refine lv_if_gt (tgt := 59) hx hb dX8_isRead_45 (by decide) (fun c7 => ?_) (fun c7 => ?_)
  · have h := g_ifp c7 h
    refine lv_iconst (v := 1) hx hb dX8_isRead_59 (by decide) ?_
    refine lv_goto (tgt := 64) hx hb dX8_isRead_60 (by decide) ?_
    have h := Option.some.inj h
    exact g_zret C P rfl (g_fst h) (g_snd h) dX8_isRead_64
  have h := g_ifn c7 h
  refine lv_aload_n hx hb dX8_isRead_48 rfl (lv_at hl 0 rfl) ?_
  refine lv_aload_n hx hb dX8_isRead_49 rfl (lv_at hl 0 rfl) ?_
  refine g_getI C P ml0 rfl inlX8 7 (by decide) wd_779 rfl dX8_isRead_50 ?_
  obtain ⟨r8, hr8, h⟩ := g_bind h
  refine g_callVi (n := 1) (As := [.int (gI σ6 0 7)]) (rest := []) C P (kX8_fails l X hJ σ6 (gI σ6 0 7) _ hr8) wd_929 wd_930 wd_931 wd_5 wd_932 rfl rfl kdX8_fails ⟨Nat.le_of_ble_eq_true rfl, Nat.le_of_ble_eq_true rfl⟩ ml0 rfl rfl rfl hl.1 (Nat.le_of_ble_eq_true rfl) dX8_isRead_53 (fun H locs P => ?_)
  refine lv_if_eq (tgt := 63) hx hb dX8_isRead_56 (by decide) (fun c9 => ?_) (fun c9 => ?_)
  · have h := g_ifp c9 h
    refine lv_iconst (v := 0) hx hb dX8_isRead_63 (by decide) ?_
    have h := Option.some.inj h
    exact g_zret C P rfl (g_fst h) (g_snd h) dX8_isRead_64
  have h := g_ifn c9 h
  refine lv_iconst (v := 1) hx hb dX8_isRead_59 (by decide) ?_
  refine lv_goto (tgt := 64) hx hb dX8_isRead_60 (by decide) ?_
  have h := Option.some.inj h
  exact g_zret C P rfl (g_fst h) (g_snd h) dX8_isRead_64
abbrev rmX8_jumps : Room := { frames := 2, cells := 0, slots := 0, locals := 42 }
theorem kdX8_jumps : yX8_jumps.cls = RX8 ∧ yX8_jumps.cls ≠ "java/lang/invoke/MethodHandle" ∧ yX8_jumps.cls ≠ "java/lang/invoke/VarHandle" ∧ (parseMethodDescriptor yX8_jumps.desc).map (fun d => d.parameters.length) = some 2 := by decide +kernel
set_option maxHeartbeats 4000000 in
set_option maxRecDepth 100000 in
theorem kX8_jumps (l : Launch) (X : gXt) (hJ : gJ X mL) (σ : gS) (a1 : Int32) (a2 : Int32) (q : Int32 × gS) (h : qM_jumps σ a1 a2 = some q) : gMi l yX8_jumps (gws yX8_jumps cX8_jumps 3 (some .int)) rmX8_jumps X mL [.ref (gad X 0), .int a1, .int a2] σ q.1 q.2 := by
  refine g_enter (cc := cX8_jumps) (nL := 3) (ret := (some .int)) hJ (plainFor_of_name (by decide)) (Nat.le_of_ble_eq_true rfl) ?_
  intro p e s m below meth c ls C P hl
  have C : gC p s m _ meth c RX8 cX8_jumps 3 (some .int) X mL := C
  have hx := C.1
  have hb := C.2.1
  have hK := C.2.2.2.2.2.2.2.1
  have hts := C.2.2.2.2.1
  have hl : lv_has ls 3 [(0, .ref (gad X 0)), (1, .int a1), (2, .int a2)] := hl
  unfold qM_jumps at h
  refine lv_iload_n hx hb dX8_jumps_0 rfl (lv_at hl 1 rfl) ?_
  refine g_callSi (n := 1) (As := [.int a1]) (rest := []) C P (kX8_isRegister l X hJ σ a1 _ rfl) wd_192 wd_193 wd_5 wd_194 rfl rfl kdX8_isRegister.2 ⟨Nat.le_of_ble_eq_true rfl, Nat.le_of_ble_eq_true rfl⟩ rfl rfl hl.1 (Nat.le_of_ble_eq_true rfl) dX8_jumps_1 (fun H locs P => ?_)
  refine lv_if_ne (tgt := 10) hx hb dX8_jumps_4 (by decide) (fun c1 => ?_) (fun c1 => ?_)
  · have h := g_ifn c1 h
    refine lv_aload_n hx hb dX8_jumps_10 rfl (lv_at hl 0 rfl) ?_
    refine lv_iload_n hx hb dX8_jumps_11 rfl (lv_at hl 1 rfl) ?_
    obtain ⟨r2, hr2, h⟩ := g_bind h
    refine g_callVi (n := 1) (As := [.int a1]) (rest := []) C P (kX8_kindOf l X hJ σ a1 _ hr2) wd_213 wd_214 wd_215 wd_5 wd_216 rfl rfl kdX8_kindOf ⟨Nat.le_of_ble_eq_true rfl, Nat.le_of_ble_eq_true rfl⟩ ml0 rfl rfl rfl hl.1 (Nat.le_of_ble_eq_true rfl) dX8_jumps_12 (fun H locs P => ?_)
    refine lv_iconst (v := 1) hx hb dX8_jumps_15 (by decide) ?_
    refine lv_icmp_eq (tgt := 37) hx hb dX8_jumps_16 (by decide) (fun c3 => ?_) (fun c3 => ?_)
    · have h := g_ifp c3 h
      refine lv_aload_n hx hb dX8_jumps_37 rfl (lv_at hl 0 rfl) ?_
      refine lv_aload_n hx hb dX8_jumps_38 rfl (lv_at hl 0 rfl) ?_
      refine lv_iload_n hx hb dX8_jumps_39 rfl (lv_at hl 1 rfl) ?_
      obtain ⟨r4, hr4, h⟩ := g_bind h
      refine g_callVi (n := 1) (As := [.int a1]) (rest := [.ref (gad X 0)]) C P (kX8_valueOf l X hJ σ a1 _ hr4) wd_217 wd_218 wd_219 wd_5 wd_220 rfl rfl kdX8_valueOf ⟨Nat.le_of_ble_eq_true rfl, Nat.le_of_ble_eq_true rfl⟩ ml0 rfl rfl rfl hl.1 (Nat.le_of_ble_eq_true rfl) dX8_jumps_40 (fun H locs P => ?_)
      refine lv_if_ne (tgt := 53) hx hb dX8_jumps_43 (by decide) (fun c5 => ?_) (fun c5 => ?_)
      · have h := g_ifn c5 h
        refine lv_iload_n hx hb dX8_jumps_53 rfl (lv_at hl 2 rfl) ?_
        refine g_putI C P ml0 rfl inlX8 tyX8 tyX8_ok nmX8 17 (by decide) wd_941 rfl rfl rfl rfl dX8_jumps_54 (fun H locs P => ?_)
        refine lv_iconst (v := 0) hx hb dX8_jumps_57 (by decide) ?_
        have h := Option.some.inj h
        exact g_iret C P (g_fst h) (g_snd h) dX8_jumps_58
      have h := g_ifp c5 h
      refine lv_aload_n hx hb dX8_jumps_46 rfl (lv_at hl 0 rfl) ?_
      refine g_getI C P ml0 rfl inlX8 17 (by decide) wd_941 rfl dX8_jumps_47 ?_
      refine lv_goto (tgt := 54) hx hb dX8_jumps_50 (by decide) ?_
      refine g_putI C P ml0 rfl inlX8 tyX8 tyX8_ok nmX8 17 (by decide) wd_941 rfl rfl rfl rfl dX8_jumps_54 (fun H locs P => ?_)
      refine lv_iconst (v := 0) hx hb dX8_jumps_57 (by decide) ?_
      have h := Option.some.inj h
      exact g_iret C P (g_fst h) (g_snd h) dX8_jumps_58
    have h := g_ifn c3 h
    refine lv_aload_n hx hb dX8_jumps_19 rfl (lv_at hl 0 rfl) ?_
    refine lv_iload_n hx hb dX8_jumps_20 rfl (lv_at hl 1 rfl) ?_
    obtain ⟨r6, hr6, h⟩ := g_bind h
    refine g_callVi (n := 1) (As := [.int a1]) (rest := []) C P (kX8_kindOf l X hJ σ a1 _ hr6) wd_213 wd_214 wd_215 wd_5 wd_216 rfl rfl kdX8_kindOf ⟨Nat.le_of_ble_eq_true rfl, Nat.le_of_ble_eq_true rfl⟩ ml0 rfl rfl rfl hl.1 (Nat.le_of_ble_eq_true rfl) dX8_jumps_21 (fun H locs P => ?_)
    refine lv_if_ne (tgt := 31) hx hb dX8_jumps_24 (by decide) (fun c7 => ?_) (fun c7 => ?_)
    · have h := g_ifn c7 h
      refine lv_bipush (v := 7) hx hb dX8_jumps_31 (by decide) ?_
      refine g_callSi (n := 1) (As := [.int (7 : Int32)]) (rest := []) C P (kX8_undefinedAs l X hJ σ (7 : Int32) _ rfl) wd_233 wd_234 wd_5 wd_235 rfl rfl kdX8_undefinedAs.2 ⟨Nat.le_of_ble_eq_true rfl, Nat.le_of_ble_eq_true rfl⟩ rfl rfl hl.1 (Nat.le_of_ble_eq_true rfl) dX8_jumps_33 (fun H locs P => ?_)
      have h := Option.some.inj h
      exact g_iret C P (g_fst h) (g_snd h) dX8_jumps_36
    have h := g_ifp c7 h
    refine lv_iconst (v := 1) hx hb dX8_jumps_27 (by decide) ?_
    refine lv_goto (tgt := 33) hx hb dX8_jumps_28 (by decide) ?_
    refine g_callSi (n := 1) (As := [.int (1 : Int32)]) (rest := []) C P (kX8_undefinedAs l X hJ σ (1 : Int32) _ rfl) wd_233 wd_234 wd_5 wd_235 rfl rfl kdX8_undefinedAs.2 ⟨Nat.le_of_ble_eq_true rfl, Nat.le_of_ble_eq_true rfl⟩ rfl rfl hl.1 (Nat.le_of_ble_eq_true rfl) dX8_jumps_33 (fun H locs P => ?_)
    have h := Option.some.inj h
    exact g_iret C P (g_fst h) (g_snd h) dX8_jumps_36
  have h := g_ifp c1 h
  refine lv_bipush (v := -2) hx hb dX8_jumps_7 (by decide) ?_
  have h := Option.some.inj h
  exact g_iret C P (g_fst h) (g_snd h) dX8_jumps_9
abbrev rmX8_steps : Room := { frames := 6, cells := 0, slots := 0, locals := 138 }
theorem kdX8_steps : yX8_steps.cls = RX8 ∧ yX8_steps.cls ≠ "java/lang/invoke/MethodHandle" ∧ yX8_steps.cls ≠ "java/lang/invoke/VarHandle" ∧ (parseMethodDescriptor yX8_steps.desc).map (fun d => d.parameters.length) = some 1 := by decide +kernel
set_option maxHeartbeats 4000000 in
set_option maxRecDepth 100000 in
theorem kX8_steps (l : Launch) (X : gXt) (hJ : gJ X mL) (σ : gS) (a1 : Int32) (q : Int32 × gS) (h : qM_steps σ a1 = some q) : gMi l yX8_steps (gws yX8_steps cX8_steps 6 (some .int)) rmX8_steps X mL [.ref (gad X 0), .int a1] σ q.1 q.2 := by
  refine g_enter (cc := cX8_steps) (nL := 6) (ret := (some .int)) hJ (plainFor_of_name (by decide)) (Nat.le_of_ble_eq_true rfl) ?_
  intro p e s m below meth c ls C P hl
  have C : gC p s m _ meth c RX8 cX8_steps 6 (some .int) X mL := C
  have hx := C.1
  have hb := C.2.1
  have hK := C.2.2.2.2.2.2.2.1
  have hts := C.2.2.2.2.1
  have hl : lv_has ls 6 [(0, .ref (gad X 0)), (1, .int a1)] := hl
  unfold qM_steps at h
  refine lv_aload_n hx hb dX8_steps_0 rfl (lv_at hl 0 rfl) ?_
  refine g_getR C P ml0 rfl inlX8 13 (by decide) wd_105 rfl dX8_steps_1 ?_
  refine lv_iconst (v := 3) hx hb dX8_steps_4 (by decide) ?_
  refine lv_iload_n hx hb dX8_steps_5 rfl (lv_at hl 1 rfl) ?_
  refine lv_imul hx hb dX8_steps_6 ?_
  obtain ⟨b1, h⟩ := g_ob h
  refine g_iald (j := ((3 : Int32) * a1).toNatClampNeg) C P ml11 b1 rfl dX8_steps_7 ?_
  refine lv_istore_n (lv' := [(2, .int (gM σ 11 ((3 : Int32) * a1).toNatClampNeg)), (0, .ref (gad X 0)), (1, .int a1)]) hx hb dX8_steps_8 rfl hl (by decide) rfl (fun ls hl => ?_)
  refine lv_aload_n hx hb dX8_steps_9 rfl (lv_at hl 1 rfl) ?_
  refine g_getR C P ml0 rfl inlX8 13 (by decide) wd_105 rfl dX8_steps_10 ?_
  refine lv_iconst (v := 3) hx hb dX8_steps_13 (by decide) ?_
  refine lv_iload_n hx hb dX8_steps_14 rfl (lv_at hl 2 rfl) ?_
  refine lv_imul hx hb dX8_steps_15 ?_
  refine lv_iconst (v := 1) hx hb dX8_steps_16 (by decide) ?_
  refine lv_iadd hx hb dX8_steps_17 ?_
  obtain ⟨b2, h⟩ := g_ob h
  refine g_iald (j := (((3 : Int32) * a1) + (1 : Int32)).toNatClampNeg) C P ml11 b2 rfl dX8_steps_18 ?_
  refine lv_istore_n (lv' := [(3, .int (gM σ 11 (((3 : Int32) * a1) + (1 : Int32)).toNatClampNeg)), (2, .int (gM σ 11 ((3 : Int32) * a1).toNatClampNeg)), (0, .ref (gad X 0)), (1, .int a1)]) hx hb dX8_steps_19 rfl hl (by decide) rfl (fun ls hl => ?_)
  refine lv_aload_n hx hb dX8_steps_20 rfl (lv_at hl 2 rfl) ?_
  refine g_getR C P ml0 rfl inlX8 13 (by decide) wd_105 rfl dX8_steps_21 ?_
  refine lv_iconst (v := 3) hx hb dX8_steps_24 (by decide) ?_
  refine lv_iload_n hx hb dX8_steps_25 rfl (lv_at hl 3 rfl) ?_
  refine lv_imul hx hb dX8_steps_26 ?_
  refine lv_iconst (v := 2) hx hb dX8_steps_27 (by decide) ?_
  refine lv_iadd hx hb dX8_steps_28 ?_
  obtain ⟨b3, h⟩ := g_ob h
  refine g_iald (j := (((3 : Int32) * a1) + (2 : Int32)).toNatClampNeg) C P ml11 b3 rfl dX8_steps_29 ?_
  refine lv_istore (lv' := [(4, .int (gM σ 11 (((3 : Int32) * a1) + (2 : Int32)).toNatClampNeg)), (3, .int (gM σ 11 (((3 : Int32) * a1) + (1 : Int32)).toNatClampNeg)), (2, .int (gM σ 11 ((3 : Int32) * a1).toNatClampNeg)), (0, .ref (gad X 0)), (1, .int a1)]) hx hb dX8_steps_30 hl (by decide) rfl (fun ls hl => ?_)
  refine lv_aload_n hx hb dX8_steps_32 rfl (lv_at hl 3 rfl) ?_
  refine lv_iload_n hx hb dX8_steps_33 rfl (lv_at hl 4 rfl) ?_
  refine lv_iconst (v := 1) hx hb dX8_steps_34 (by decide) ?_
  refine lv_iadd hx hb dX8_steps_35 ?_
  refine g_putI C P ml0 rfl inlX8 tyX8 tyX8_ok nmX8 17 (by decide) wd_941 rfl rfl rfl rfl dX8_steps_36 (fun H locs P => ?_)
  refine lv_aload_n hx hb dX8_steps_39 rfl (lv_at hl 3 rfl) ?_
  refine g_getR C P ml0 rfl inlX8 12 (by decide) wd_104 rfl dX8_steps_40 ?_
  refine lv_iload_n hx hb dX8_steps_43 rfl (lv_at hl 4 rfl) ?_
  obtain ⟨b4, h⟩ := g_ob h
  refine g_iald (j := a1.toNatClampNeg) C P ml10 b4 rfl dX8_steps_44 ?_
  refine lv_bipush (v := 106) hx hb dX8_steps_45 (by decide) ?_
  refine lv_icmp_ne (tgt := 57) hx hb dX8_steps_47 (by decide) (fun c5 => ?_) (fun c5 => ?_)
  · have h := g_ifn c5 h
    refine lv_aload_n hx hb dX8_steps_57 rfl (lv_at hl 3 rfl) ?_
    refine g_getR C P ml0 rfl inlX8 12 (by decide) wd_104 rfl dX8_steps_58 ?_
    refine lv_iload_n hx hb dX8_steps_61 rfl (lv_at hl 4 rfl) ?_
    refine g_iald (j := a1.toNatClampNeg) C P ml10 b4 rfl dX8_steps_62 ?_
    refine lv_bipush (v := 100) hx hb dX8_steps_63 (by decide) ?_
    refine lv_icmp_eq (tgt := 83) hx hb dX8_steps_65 (by decide) (fun c6 => ?_) (fun c6 => ?_)
    · have h := g_ifp c6 h
      refine lv_iload hx hb dX8_steps_83 (lv_at hl 0 rfl) ?_
      refine g_callSi (n := 1) (As := [.int (gM σ 11 (((3 : Int32) * a1) + (2 : Int32)).toNatClampNeg)]) (rest := []) C P (kX8_isRegister l X hJ (sI σ 0 17 (a1 + (1 : Int32))) (gM σ 11 (((3 : Int32) * a1) + (2 : Int32)).toNatClampNeg) _ rfl) wd_192 wd_193 wd_5 wd_194 rfl rfl kdX8_isRegister.2 ⟨Nat.le_of_ble_eq_true rfl, Nat.le_of_ble_eq_true rfl⟩ rfl rfl hl.1 (Nat.le_of_ble_eq_true rfl) dX8_steps_85 (fun H locs P => ?_)
      refine lv_if_eq (tgt := 100) hx hb dX8_steps_88 (by decide) (fun c7 => ?_) (fun c7 => ?_)
      · have h := g_ifp c7 h
        refine lv_bipush (v := -2) hx hb dX8_steps_100 (by decide) ?_
        refine lv_istore (lv' := [(5, .int (-2 : Int32)), (4, .int (gM σ 11 (((3 : Int32) * a1) + (2 : Int32)).toNatClampNeg)), (3, .int (gM σ 11 (((3 : Int32) * a1) + (1 : Int32)).toNatClampNeg)), (2, .int (gM σ 11 ((3 : Int32) * a1).toNatClampNeg)), (0, .ref (gad X 0)), (1, .int a1)]) hx hb dX8_steps_102 hl (by decide) rfl (fun ls hl => ?_)
        refine lv_iload hx hb dX8_steps_104 (lv_at hl 0 rfl) ?_
        refine lv_if_ge (tgt := 114) hx hb dX8_steps_106 (by decide) (fun c8 => ?_) (fun c8 => ?_)
        · exact absurd c8 (by decide)
        refine lv_iload hx hb dX8_steps_109 (lv_at hl 0 rfl) ?_
        refine lv_goto (tgt := 124) hx hb dX8_steps_111 (by decide) ?_
        have h := Option.some.inj h
        exact g_iret C P (g_fst h) (g_snd h) dX8_steps_124
      have h := g_ifn c7 h
      refine lv_aload_n hx hb dX8_steps_91 rfl (lv_at hl 3 rfl) ?_
      refine lv_iload_n hx hb dX8_steps_92 rfl (lv_at hl 2 rfl) ?_
      refine lv_iload_n hx hb dX8_steps_93 rfl (lv_at hl 1 rfl) ?_
      obtain ⟨r9, hr9, h⟩ := g_bind h
      refine g_callVi (n := 2) (As := [.int (gM σ 11 ((3 : Int32) * a1).toNatClampNeg), .int (gM σ 11 (((3 : Int32) * a1) + (1 : Int32)).toNatClampNeg)]) (rest := []) C P (kX8_comparesTo l X hJ (sI σ 0 17 (a1 + (1 : Int32))) (gM σ 11 ((3 : Int32) * a1).toNatClampNeg) (gM σ 11 (((3 : Int32) * a1) + (1 : Int32)).toNatClampNeg) _ hr9) wd_490 wd_491 wd_492 wd_5 wd_493 rfl rfl kdX8_comparesTo ⟨Nat.le_of_ble_eq_true rfl, Nat.le_of_ble_eq_true rfl⟩ ml0 rfl rfl rfl hl.1 (Nat.le_of_ble_eq_true rfl) dX8_steps_94 (fun H locs P => ?_)
      refine lv_goto (tgt := 102) hx hb dX8_steps_97 (by decide) ?_
      refine lv_istore (lv' := [(5, .int r9), (4, .int (gM σ 11 (((3 : Int32) * a1) + (2 : Int32)).toNatClampNeg)), (3, .int (gM σ 11 (((3 : Int32) * a1) + (1 : Int32)).toNatClampNeg)), (2, .int (gM σ 11 ((3 : Int32) * a1).toNatClampNeg)), (0, .ref (gad X 0)), (1, .int a1)]) hx hb dX8_steps_102 hl (by decide) rfl (fun ls hl => ?_)
      refine lv_iload hx hb dX8_steps_104 (lv_at hl 0 rfl) ?_
      refine lv_if_ge (tgt := 114) hx hb dX8_steps_106 (by decide) (fun c10 => ?_) (fun c10 => ?_)
      · have h := g_ifp c10 h
        refine lv_aload_n hx hb dX8_steps_114 rfl (lv_at hl 4 rfl) ?_
        refine lv_iload hx hb dX8_steps_115 (lv_at hl 1 rfl) ?_
        refine lv_iconst (v := 1) hx hb dX8_steps_117 (by decide) ?_
        refine lv_iload hx hb dX8_steps_118 (lv_at hl 0 rfl) ?_
        refine lv_iconst (v := 0) hx hb dX8_steps_120 (by decide) ?_
        obtain ⟨r11, hr11, h⟩ := g_bind h
        refine g_callVi (n := 4) (As := [.int (gM σ 11 (((3 : Int32) * a1) + (2 : Int32)).toNatClampNeg), .int (1 : Int32), .int r9, .int (0 : Int32)]) (rest := []) C P (kX8_tells l X hJ (sI σ 0 17 (a1 + (1 : Int32))) (gM σ 11 (((3 : Int32) * a1) + (2 : Int32)).toNatClampNeg) (1 : Int32) r9 (0 : Int32) _ hr11) wd_201 wd_202 wd_203 wd_5 wd_204 rfl rfl kdX8_tells ⟨Nat.le_of_ble_eq_true rfl, Nat.le_of_ble_eq_true rfl⟩ ml0 rfl rfl rfl hl.1 (Nat.le_of_ble_eq_true rfl) dX8_steps_121 (fun H locs P => ?_)
        have h := Option.some.inj h
        exact g_iret C P (g_fst h) (g_snd h) dX8_steps_124
      have h := g_ifn c10 h
      refine lv_iload hx hb dX8_steps_109 (lv_at hl 0 rfl) ?_
      refine lv_goto (tgt := 124) hx hb dX8_steps_111 (by decide) ?_
      have h := Option.some.inj h
      exact g_iret C P (g_fst h) (g_snd h) dX8_steps_124
    have h := g_ifn c6 h
    refine lv_aload_n hx hb dX8_steps_68 rfl (lv_at hl 3 rfl) ?_
    refine lv_aload_n hx hb dX8_steps_69 rfl (lv_at hl 3 rfl) ?_
    refine g_getR C P ml0 rfl inlX8 12 (by decide) wd_104 rfl dX8_steps_70 ?_
    refine lv_iload_n hx hb dX8_steps_73 rfl (lv_at hl 4 rfl) ?_
    refine g_iald (j := a1.toNatClampNeg) C P ml10 b4 rfl dX8_steps_74 ?_
    refine lv_iload_n hx hb dX8_steps_75 rfl (lv_at hl 2 rfl) ?_
    refine lv_iload_n hx hb dX8_steps_76 rfl (lv_at hl 1 rfl) ?_
    refine lv_iload hx hb dX8_steps_77 (lv_at hl 0 rfl) ?_
    obtain ⟨r12, hr12, h⟩ := g_bind h
    refine g_callVi (n := 4) (As := [.int (gM (sI σ 0 17 (a1 + (1 : Int32))) 10 a1.toNatClampNeg), .int (gM σ 11 ((3 : Int32) * a1).toNatClampNeg), .int (gM σ 11 (((3 : Int32) * a1) + (1 : Int32)).toNatClampNeg), .int (gM σ 11 (((3 : Int32) * a1) + (2 : Int32)).toNatClampNeg)]) (rest := []) C P (kX8_acts l X hJ (sI σ 0 17 (a1 + (1 : Int32))) (gM (sI σ 0 17 (a1 + (1 : Int32))) 10 a1.toNatClampNeg) (gM σ 11 ((3 : Int32) * a1).toNatClampNeg) (gM σ 11 (((3 : Int32) * a1) + (1 : Int32)).toNatClampNeg) (gM σ 11 (((3 : Int32) * a1) + (2 : Int32)).toNatClampNeg) _ hr12) wd_184 wd_185 wd_186 wd_5 wd_187 rfl rfl kdX8_acts ⟨Nat.le_of_ble_eq_true rfl, Nat.le_of_ble_eq_true rfl⟩ ml0 rfl rfl rfl hl.1 (Nat.le_of_ble_eq_true rfl) dX8_steps_79 (fun H locs P => ?_)
    have h := Option.some.inj h
    exact g_iret C P (g_fst h) (g_snd h) dX8_steps_82
  have h := g_ifp c5 h
  refine lv_aload_n hx hb dX8_steps_50 rfl (lv_at hl 3 rfl) ?_
  refine lv_iload_n hx hb dX8_steps_51 rfl (lv_at hl 2 rfl) ?_
  refine lv_iload_n hx hb dX8_steps_52 rfl (lv_at hl 1 rfl) ?_
  obtain ⟨r13, hr13, h⟩ := g_bind h
  refine g_callVi (n := 2) (As := [.int (gM σ 11 ((3 : Int32) * a1).toNatClampNeg), .int (gM σ 11 (((3 : Int32) * a1) + (1 : Int32)).toNatClampNeg)]) (rest := []) C P (kX8_jumps l X hJ (sI σ 0 17 (a1 + (1 : Int32))) (gM σ 11 ((3 : Int32) * a1).toNatClampNeg) (gM σ 11 (((3 : Int32) * a1) + (1 : Int32)).toNatClampNeg) _ hr13) wd_946 wd_947 wd_948 wd_5 wd_949 rfl rfl kdX8_jumps ⟨Nat.le_of_ble_eq_true rfl, Nat.le_of_ble_eq_true rfl⟩ ml0 rfl rfl rfl hl.1 (Nat.le_of_ble_eq_true rfl) dX8_steps_53 (fun H locs P => ?_)
  have h := Option.some.inj h
  exact g_iret C P (g_fst h) (g_snd h) dX8_steps_56
abbrev rmX8_toldAs : Room := { frames := 0, cells := 0, slots := 0, locals := 0 }
theorem kdX8_toldAs : yX8_toldAs.cls = RX8 ∧ yX8_toldAs.cls ≠ "java/lang/invoke/MethodHandle" ∧ yX8_toldAs.cls ≠ "java/lang/invoke/VarHandle" ∧ (parseMethodDescriptor yX8_toldAs.desc).map (fun d => d.parameters.length) = some 2 := by decide +kernel
set_option maxHeartbeats 4000000 in
set_option maxRecDepth 100000 in
theorem kX8_toldAs (l : Launch) (X : gXt) (hJ : gJ X mL) (σ : gS) (a1 : Int32) (a2 : Int32) (q : Int32) (h : qM_toldAs a1 a2 = q) : gMi l yX8_toldAs (gws yX8_toldAs cX8_toldAs 2 (some .int)) rmX8_toldAs X mL [.int a1, .int a2] σ q σ := by
  refine g_enter (cc := cX8_toldAs) (nL := 2) (ret := (some .int)) hJ (plainFor_of_name (by decide)) (Nat.le_of_ble_eq_true rfl) ?_
  intro p e s m below meth c ls C P hl
  have C : gC p s m _ meth c RX8 cX8_toldAs 2 (some .int) X mL := C
  have hx := C.1
  have hb := C.2.1
  have hK := C.2.2.2.2.2.2.2.1
  have hts := C.2.2.2.2.1
  have hl : lv_has ls 2 [(0, .int a1), (1, .int a2)] := hl
  unfold qM_toldAs at h
  refine lv_iload_n hx hb dX8_toldAs_0 rfl (lv_at hl 0 rfl) ?_
  refine lv_bipush (v := -2) hx hb dX8_toldAs_1 (by decide) ?_
  refine lv_icmp_ne (tgt := 14) hx hb dX8_toldAs_3 (by decide) (fun c1 => ?_) (fun c1 => ?_)
  · have h := g_ifn c1 h
    refine lv_iload_n hx hb dX8_toldAs_14 rfl (lv_at hl 0 rfl) ?_
    refine lv_bipush (v := -4) hx hb dX8_toldAs_15 (by decide) ?_
    refine lv_icmp_ne (tgt := 28) hx hb dX8_toldAs_17 (by decide) (fun c2 => ?_) (fun c2 => ?_)
    · have h := g_ifn c2 h
      refine lv_sipush (v := -4000) hx hb dX8_toldAs_28 (by decide) ?_
      refine lv_sipush (v := 1000) hx hb dX8_toldAs_31 (by decide) ?_
      refine lv_bipush (v := -10) hx hb dX8_toldAs_34 (by decide) ?_
      refine lv_iload_n hx hb dX8_toldAs_36 rfl (lv_at hl 0 rfl) ?_
      refine lv_isub hx hb dX8_toldAs_37 ?_
      refine lv_imul hx hb dX8_toldAs_38 ?_
      refine lv_isub hx hb dX8_toldAs_39 ?_
      refine lv_iload_n hx hb dX8_toldAs_40 rfl (lv_at hl 1 rfl) ?_
      refine lv_isub hx hb dX8_toldAs_41 ?_
      exact g_iret C P h rfl dX8_toldAs_42
    have h := g_ifp c2 h
    refine lv_sipush (v := -3000) hx hb dX8_toldAs_20 (by decide) ?_
    refine lv_iload_n hx hb dX8_toldAs_23 rfl (lv_at hl 1 rfl) ?_
    refine lv_isub hx hb dX8_toldAs_24 ?_
    refine lv_goto (tgt := 42) hx hb dX8_toldAs_25 (by decide) ?_
    exact g_iret C P h rfl dX8_toldAs_42
  have h := g_ifp c1 h
  refine lv_sipush (v := -2000) hx hb dX8_toldAs_6 (by decide) ?_
  refine lv_iload_n hx hb dX8_toldAs_9 rfl (lv_at hl 1 rfl) ?_
  refine lv_isub hx hb dX8_toldAs_10 ?_
  refine lv_goto (tgt := 42) hx hb dX8_toldAs_11 (by decide) ?_
  exact g_iret C P h rfl dX8_toldAs_42
abbrev rmX8_goes : Room := { frames := 7, cells := 0, slots := 0, locals := 163 }
theorem kdX8_goes : yX8_goes.cls = RX8 ∧ yX8_goes.cls ≠ "java/lang/invoke/MethodHandle" ∧ yX8_goes.cls ≠ "java/lang/invoke/VarHandle" ∧ (parseMethodDescriptor yX8_goes.desc).map (fun d => d.parameters.length) = some 0 := by decide +kernel
set_option maxHeartbeats 4000000 in
set_option maxRecDepth 100000 in
theorem kX8_goes_4 {p : Program} {l : Launch} {e : Env} {s : State} {m : MethodId} {args : Array Value} {below : List Frame} {meth : Method} {c : Code} {X : gXt} (hJ : gJ X mL) (C : gC p s m args meth c RX8 cX8_goes 4 (some .int) X mL) (k : gS → Int32 → Option (Int32 × gS)) (q : Int32 × gS) (hk : ∀ (σ' : gS) (x1 : Int32) (H : Heap) (locs : List Loc) (ls : Array Slot), k σ' x1 = some q → gH X mL σ' s H locs → lv_has ls 4 [(1, .int x1)] → W p l e rmX8_goes s m args below meth c H locs 0 0 (MQ below (gQi X mL q.1 q.2) args s 0 0 (gA X mL)) (F0 m 55 ls [])) : ∀ (n : Nat) (σ : gS) (v1 : Int32) (v2 : Int32), qM_goes_4 k n σ v1 v2 = some q → ∀ (H : Heap) (locs : List Loc) (ls : Array Slot), gH X mL σ s H locs → lv_has ls 4 [(0, .ref (gad X 0)), (1, .int v1), (2, .int v2)] → W p l e rmX8_goes s m args below meth c H locs 0 0 (MQ below (gQi X mL q.1 q.2) args s 0 0 (gA X mL)) (F0 m 4 ls []) := by
  have hx := C.1
  have hb := C.2.1
  have hK := C.2.2.2.2.2.2.2.1
  have hts := C.2.2.2.2.1
  intro n
  induction n with
  | zero => intro σ v1 v2 h; cases h
  | succ n ih =>
    intro σ v1 v2 h H locs ls P hl
    have h : (if (gI σ 0 14) ≤ v2 then k σ v1 else (if v1 = (gM σ 1 169) then some ((-500 : Int32), σ) else (qM_steps σ v2).bind (fun r3 => (if 0 ≤ r3.1 then qM_goes_4 k n r3.2 (v1 + 1) (gI r3.2 0 17) else some ((qM_toldAs r3.1 v2), r3.2))))) = some q := h
    refine lv_iload_n hx hb dX8_goes_4 rfl (lv_at hl 2 rfl) ?_
    refine lv_aload_n hx hb dX8_goes_5 rfl (lv_at hl 0 rfl) ?_
    refine g_getI C P ml0 rfl inlX8 14 (by decide) wd_913 rfl dX8_goes_6 ?_
    refine lv_icmp_ge (tgt := 55) hx hb dX8_goes_9 (by decide) (fun c1 => ?_) (fun c1 => ?_)
    · have h := g_ifp c1 h
      exact hk σ v1 _ _ _ h P (lv_sub hl [1] rfl)
    have h := g_ifn c1 h
    refine lv_iload_n hx hb dX8_goes_12 rfl (lv_at hl 1 rfl) ?_
    refine lv_aload_n hx hb dX8_goes_13 rfl (lv_at hl 0 rfl) ?_
    refine g_getR C P ml0 rfl inlX8 0 (by decide) wd_95 rfl dX8_goes_14 ?_
    refine lv_sipush (v := 169) hx hb dX8_goes_17 (by decide) ?_
    refine g_iald (j := 169) C P ml1 (vp_in_iff.mpr ⟨by decide, by decide⟩) (by decide) dX8_goes_20 ?_
    refine lv_icmp_ne (tgt := 28) hx hb dX8_goes_21 (by decide) (fun c2 => ?_) (fun c2 => ?_)
    · have h := g_ifn c2 h
      refine lv_aload_n hx hb dX8_goes_28 rfl (lv_at hl 0 rfl) ?_
      refine lv_iload_n hx hb dX8_goes_29 rfl (lv_at hl 2 rfl) ?_
      obtain ⟨r3, hr3, h⟩ := g_bind h
      refine g_callVi (n := 1) (As := [.int v2]) (rest := []) C P (kX8_steps l X hJ σ v2 _ hr3) wd_942 wd_943 wd_944 wd_5 wd_945 rfl rfl kdX8_steps ⟨Nat.le_of_ble_eq_true rfl, Nat.le_of_ble_eq_true rfl⟩ ml0 rfl rfl rfl hl.1 (Nat.le_of_ble_eq_true rfl) dX8_goes_30 (fun H locs P => ?_)
      refine lv_istore_n (lv' := [(3, .int r3.1), (0, .ref (gad X 0)), (1, .int v1), (2, .int v2)]) hx hb dX8_goes_33 rfl hl (by decide) rfl (fun ls hl => ?_)
      refine lv_iload_n hx hb dX8_goes_34 rfl (lv_at hl 0 rfl) ?_
      refine lv_if_ge (tgt := 44) hx hb dX8_goes_35 (by decide) (fun c4 => ?_) (fun c4 => ?_)
      · have h := g_ifp c4 h
        refine lv_iinc (v := (v1 + 1)) (lv' := [(1, .int (v1 + 1)), (3, .int r3.1), (0, .ref (gad X 0)), (2, .int v2)]) hx hb dX8_goes_44 hl (k := 2) rfl rfl (by decide) rfl (fun ls hl => ?_)
        refine lv_aload_n hx hb dX8_goes_47 rfl (lv_at hl 2 rfl) ?_
        refine g_getI C P ml0 rfl inlX8 17 (by decide) wd_941 rfl dX8_goes_48 ?_
        refine lv_istore_n (lv' := [(2, .int (gI r3.2 0 17)), (1, .int (v1 + 1)), (3, .int r3.1), (0, .ref (gad X 0))]) hx hb dX8_goes_51 rfl hl (by decide) rfl (fun ls hl => ?_)
        refine lv_goto (tgt := 4) hx hb dX8_goes_52 (by decide) ?_
        exact ih r3.2 (v1 + 1) (gI r3.2 0 17) h _ _ _ P (lv_sub hl [3, 1, 0] rfl)
      have h := g_ifn c4 h
      refine lv_iload_n hx hb dX8_goes_38 rfl (lv_at hl 0 rfl) ?_
      refine lv_iload_n hx hb dX8_goes_39 rfl (lv_at hl 3 rfl) ?_
      refine g_callSi (n := 2) (As := [.int r3.1, .int v2]) (rest := []) C P (kX8_toldAs l X hJ r3.2 r3.1 v2 _ rfl) wd_950 wd_951 wd_5 wd_952 rfl rfl kdX8_toldAs.2 ⟨Nat.le_of_ble_eq_true rfl, Nat.le_of_ble_eq_true rfl⟩ rfl rfl hl.1 (Nat.le_of_ble_eq_true rfl) dX8_goes_40 (fun H locs P => ?_)
      have h := Option.some.inj h
      exact g_iret C P (g_fst h) (g_snd h) dX8_goes_43
    have h := g_ifp c2 h
    refine lv_sipush (v := -500) hx hb dX8_goes_24 (by decide) ?_
    have h := Option.some.inj h
    exact g_iret C P (g_fst h) (g_snd h) dX8_goes_27
set_option maxHeartbeats 4000000 in
set_option maxRecDepth 100000 in
theorem kX8_goes (l : Launch) (X : gXt) (hJ : gJ X mL) (σ : gS) (q : Int32 × gS) (h : qM_goes σ = some q) : gMi l yX8_goes (gws yX8_goes cX8_goes 4 (some .int)) rmX8_goes X mL [.ref (gad X 0)] σ q.1 q.2 := by
  refine g_enter (cc := cX8_goes) (nL := 4) (ret := (some .int)) hJ (plainFor_of_name (by decide)) (Nat.le_of_ble_eq_true rfl) ?_
  intro p e s m below meth c ls C P hl
  have C : gC p s m _ meth c RX8 cX8_goes 4 (some .int) X mL := C
  have hx := C.1
  have hb := C.2.1
  have hK := C.2.2.2.2.2.2.2.1
  have hts := C.2.2.2.2.1
  have hl : lv_has ls 4 [(0, .ref (gad X 0))] := hl
  unfold qM_goes at h
  refine lv_iconst (v := 0) hx hb dX8_goes_0 (by decide) ?_
  refine lv_istore_n (lv' := [(1, .int (0 : Int32)), (0, .ref (gad X 0))]) hx hb dX8_goes_1 rfl hl (by decide) rfl (fun ls hl => ?_)
  refine lv_iconst (v := 0) hx hb dX8_goes_2 (by decide) ?_
  refine lv_istore_n (lv' := [(2, .int (0 : Int32)), (1, .int (0 : Int32)), (0, .ref (gad X 0))]) hx hb dX8_goes_3 rfl hl (by decide) rfl (fun ls hl => ?_)
  refine kX8_goes_4 hJ C _ _ ?_ _ _ _ _ h _ _ _ P (lv_sub hl [2, 1, 0] rfl)
  intro σ5 x6 H locs ls h P hl
  refine lv_iload_n hx hb dX8_goes_55 rfl (lv_at hl 0 rfl) ?_
  have h := Option.some.inj h
  exact g_iret C P (g_fst h) (g_snd h) dX8_goes_56
