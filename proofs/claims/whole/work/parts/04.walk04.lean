/-! WALKS, by program (wip/whole/gen.py): each method does what its mirror says -/
abbrev rmX7_end : Room := { frames := 4, cells := 0, slots := 0, locals := 88 }
theorem kdX7_end : yX7_end.cls = RX7 ∧ yX7_end.cls ≠ "java/lang/invoke/MethodHandle" ∧ yX7_end.cls ≠ "java/lang/invoke/VarHandle" ∧ (parseMethodDescriptor yX7_end.desc).map (fun d => d.parameters.length) = some 1 := by decide +kernel
set_option maxHeartbeats 4000000 in
set_option maxRecDepth 100000 in
theorem kX7_end (l : Launch) (X : gXt) (hJ : gJ X xL) (σ : gS) (a1 : Int32) (q : Int32 × gS) (h : qF_end σ a1 = some q) : gMi l yX7_end (gws yX7_end cX7_end 2 (some .int)) rmX7_end X xL [.ref (gad X 0), .int a1] σ q.1 q.2 := by
  refine g_enter (cc := cX7_end) (nL := 2) (ret := (some .int)) hJ (plainFor_of_name (by decide)) (Nat.le_of_ble_eq_true rfl) ?_
  intro p e s m below meth c ls C P hl
  have C : gC p s m _ meth c RX7 cX7_end 2 (some .int) X xL := C
  have hx := C.1
  have hb := C.2.1
  have hK := C.2.2.2.2.2.2.2.1
  have hts := C.2.2.2.2.1
  have hl : lv_has ls 2 [(0, .ref (gad X 0)), (1, .int a1)] := hl
  unfold qF_end at h
  refine lv_aload_n hx hb dX7_end_0 rfl (lv_at hl 0 rfl) ?_
  refine g_getR C P xl0 rfl inlX7 4 (by decide) wd_31 rfl dX7_end_1 ?_
  refine lv_aload_n hx hb dX7_end_4 rfl (lv_at hl 0 rfl) ?_
  refine g_getR C P xl0 rfl inlX7 0 (by decide) wd_15 rfl dX7_end_5 ?_
  obtain ⟨r1, hr1, h⟩ := g_bind h
  refine g_callVv (n := 1) (As := [.ref (gad X 1)]) (rest := []) C P (kX3_stage l X hJ σ _ hr1) wd_110 wd_111 wd_112 wd_30 wd_113 rfl rfl kdX3_stage ⟨Nat.le_of_ble_eq_true rfl, Nat.le_of_ble_eq_true rfl⟩ xl46 rfl rfl rfl hl.1 (Nat.le_of_ble_eq_true rfl) dX7_end_8 (fun H locs P => ?_)
  refine lv_aload_n hx hb dX7_end_11 rfl (lv_at hl 0 rfl) ?_
  refine lv_aload_n hx hb dX7_end_12 rfl (lv_at hl 0 rfl) ?_
  refine g_getR C P xl0 rfl inlX7 2 (by decide) wd_23 rfl dX7_end_13 ?_
  refine lv_iload_n hx hb dX7_end_16 rfl (lv_at hl 1 rfl) ?_
  obtain ⟨r2, hr2, h⟩ := g_bind h
  refine g_callVi (n := 1) (As := [.int a1]) (rest := [.ref (gad X 0)]) C P (kX2_endBlock l X hJ r1 a1 _ hr2) wd_323 wd_324 wd_325 wd_22 wd_326 rfl rfl kdX2_endBlock ⟨Nat.le_of_ble_eq_true rfl, Nat.le_of_ble_eq_true rfl⟩ xl40 rfl rfl rfl hl.1 (Nat.le_of_ble_eq_true rfl) dX7_end_17 (fun H locs P => ?_)
  obtain ⟨r3, hr3, h⟩ := g_bind h
  refine g_callVi (n := 1) (As := [.int r2.1]) (rest := []) C P (kX7_settled l X hJ r2.2 r2.1 _ hr3) wd_156 wd_157 wd_158 wd_2 wd_159 rfl rfl kdX7_settled ⟨Nat.le_of_ble_eq_true rfl, Nat.le_of_ble_eq_true rfl⟩ xl0 rfl rfl rfl hl.1 (Nat.le_of_ble_eq_true rfl) dX7_end_20 (fun H locs P => ?_)
  have h := Option.some.inj h
  exact g_iret C P (g_fst h) (g_snd h) dX7_end_23
abbrev rmX7_set : Room := { frames := 3, cells := 0, slots := 0, locals := 68 }
theorem kdX7_set : yX7_set.cls = RX7 ∧ yX7_set.cls ≠ "java/lang/invoke/MethodHandle" ∧ yX7_set.cls ≠ "java/lang/invoke/VarHandle" ∧ (parseMethodDescriptor yX7_set.desc).map (fun d => d.parameters.length) = some 2 := by decide +kernel
set_option maxHeartbeats 4000000 in
set_option maxRecDepth 100000 in
theorem kX7_set (l : Launch) (X : gXt) (hJ : gJ X xL) (σ : gS) (a1 : Int32) (a2 : Int32) (q : Int32 × gS) (h : qF_set σ a1 a2 = some q) : gMi l yX7_set (gws yX7_set cX7_set 3 (some .int)) rmX7_set X xL [.ref (gad X 0), .int a1, .int a2] σ q.1 q.2 := by
  refine g_enter (cc := cX7_set) (nL := 3) (ret := (some .int)) hJ (plainFor_of_name (by decide)) (Nat.le_of_ble_eq_true rfl) ?_
  intro p e s m below meth c ls C P hl
  have C : gC p s m _ meth c RX7 cX7_set 3 (some .int) X xL := C
  have hx := C.1
  have hb := C.2.1
  have hK := C.2.2.2.2.2.2.2.1
  have hts := C.2.2.2.2.1
  have hl : lv_has ls 3 [(0, .ref (gad X 0)), (1, .int a1), (2, .int a2)] := hl
  unfold qF_set at h
  refine lv_aload_n hx hb dX7_set_0 rfl (lv_at hl 0 rfl) ?_
  refine g_getR C P xl0 rfl inlX7 4 (by decide) wd_31 rfl dX7_set_1 ?_
  refine lv_aload_n hx hb dX7_set_4 rfl (lv_at hl 0 rfl) ?_
  refine g_getR C P xl0 rfl inlX7 0 (by decide) wd_15 rfl dX7_set_5 ?_
  obtain ⟨r1, hr1, h⟩ := g_bind h
  refine g_callVv (n := 1) (As := [.ref (gad X 1)]) (rest := []) C P (kX3_stage l X hJ σ _ hr1) wd_110 wd_111 wd_112 wd_30 wd_113 rfl rfl kdX3_stage ⟨Nat.le_of_ble_eq_true rfl, Nat.le_of_ble_eq_true rfl⟩ xl46 rfl rfl rfl hl.1 (Nat.le_of_ble_eq_true rfl) dX7_set_8 (fun H locs P => ?_)
  refine lv_aload_n hx hb dX7_set_11 rfl (lv_at hl 0 rfl) ?_
  refine lv_aload_n hx hb dX7_set_12 rfl (lv_at hl 0 rfl) ?_
  refine g_getR C P xl0 rfl inlX7 2 (by decide) wd_23 rfl dX7_set_13 ?_
  refine lv_iload_n hx hb dX7_set_16 rfl (lv_at hl 1 rfl) ?_
  refine lv_iload_n hx hb dX7_set_17 rfl (lv_at hl 2 rfl) ?_
  obtain ⟨r2, hr2, h⟩ := g_bind h
  refine g_callVi (n := 2) (As := [.int a1, .int a2]) (rest := [.ref (gad X 0)]) C P (kX2_setNumber l X hJ r1 a1 a2 _ hr2) wd_367 wd_368 wd_369 wd_22 wd_370 rfl rfl kdX2_setNumber ⟨Nat.le_of_ble_eq_true rfl, Nat.le_of_ble_eq_true rfl⟩ xl40 rfl rfl rfl hl.1 (Nat.le_of_ble_eq_true rfl) dX7_set_18 (fun H locs P => ?_)
  obtain ⟨r3, hr3, h⟩ := g_bind h
  refine g_callVi (n := 1) (As := [.int r2.1]) (rest := []) C P (kX7_settled l X hJ r2.2 r2.1 _ hr3) wd_156 wd_157 wd_158 wd_2 wd_159 rfl rfl kdX7_settled ⟨Nat.le_of_ble_eq_true rfl, Nat.le_of_ble_eq_true rfl⟩ xl0 rfl rfl rfl hl.1 (Nat.le_of_ble_eq_true rfl) dX7_set_21 (fun H locs P => ?_)
  have h := Option.some.inj h
  exact g_iret C P (g_fst h) (g_snd h) dX7_set_24
abbrev rmX7_copy : Room := { frames := 3, cells := 0, slots := 0, locals := 63 }
theorem kdX7_copy : yX7_copy.cls = RX7 ∧ yX7_copy.cls ≠ "java/lang/invoke/MethodHandle" ∧ yX7_copy.cls ≠ "java/lang/invoke/VarHandle" ∧ (parseMethodDescriptor yX7_copy.desc).map (fun d => d.parameters.length) = some 2 := by decide +kernel
set_option maxHeartbeats 4000000 in
set_option maxRecDepth 100000 in
theorem kX7_copy (l : Launch) (X : gXt) (hJ : gJ X xL) (σ : gS) (a1 : Int32) (a2 : Int32) (q : Int32 × gS) (h : qF_copy σ a1 a2 = some q) : gMi l yX7_copy (gws yX7_copy cX7_copy 3 (some .int)) rmX7_copy X xL [.ref (gad X 0), .int a1, .int a2] σ q.1 q.2 := by
  refine g_enter (cc := cX7_copy) (nL := 3) (ret := (some .int)) hJ (plainFor_of_name (by decide)) (Nat.le_of_ble_eq_true rfl) ?_
  intro p e s m below meth c ls C P hl
  have C : gC p s m _ meth c RX7 cX7_copy 3 (some .int) X xL := C
  have hx := C.1
  have hb := C.2.1
  have hK := C.2.2.2.2.2.2.2.1
  have hts := C.2.2.2.2.1
  have hl : lv_has ls 3 [(0, .ref (gad X 0)), (1, .int a1), (2, .int a2)] := hl
  unfold qF_copy at h
  refine lv_aload_n hx hb dX7_copy_0 rfl (lv_at hl 0 rfl) ?_
  refine g_getR C P xl0 rfl inlX7 4 (by decide) wd_31 rfl dX7_copy_1 ?_
  refine lv_aload_n hx hb dX7_copy_4 rfl (lv_at hl 0 rfl) ?_
  refine g_getR C P xl0 rfl inlX7 0 (by decide) wd_15 rfl dX7_copy_5 ?_
  obtain ⟨r1, hr1, h⟩ := g_bind h
  refine g_callVv (n := 1) (As := [.ref (gad X 1)]) (rest := []) C P (kX3_stage l X hJ σ _ hr1) wd_110 wd_111 wd_112 wd_30 wd_113 rfl rfl kdX3_stage ⟨Nat.le_of_ble_eq_true rfl, Nat.le_of_ble_eq_true rfl⟩ xl46 rfl rfl rfl hl.1 (Nat.le_of_ble_eq_true rfl) dX7_copy_8 (fun H locs P => ?_)
  refine lv_aload_n hx hb dX7_copy_11 rfl (lv_at hl 0 rfl) ?_
  refine lv_aload_n hx hb dX7_copy_12 rfl (lv_at hl 0 rfl) ?_
  refine g_getR C P xl0 rfl inlX7 2 (by decide) wd_23 rfl dX7_copy_13 ?_
  refine lv_iload_n hx hb dX7_copy_16 rfl (lv_at hl 1 rfl) ?_
  refine lv_iload_n hx hb dX7_copy_17 rfl (lv_at hl 2 rfl) ?_
  obtain ⟨r2, hr2, h⟩ := g_bind h
  refine g_callVi (n := 2) (As := [.int a1, .int a2]) (rest := [.ref (gad X 0)]) C P (kX2_copyRegister l X hJ r1 a1 a2 _ hr2) wd_384 wd_385 wd_386 wd_22 wd_387 rfl rfl kdX2_copyRegister ⟨Nat.le_of_ble_eq_true rfl, Nat.le_of_ble_eq_true rfl⟩ xl40 rfl rfl rfl hl.1 (Nat.le_of_ble_eq_true rfl) dX7_copy_18 (fun H locs P => ?_)
  obtain ⟨r3, hr3, h⟩ := g_bind h
  refine g_callVi (n := 1) (As := [.int r2.1]) (rest := []) C P (kX7_settled l X hJ r2.2 r2.1 _ hr3) wd_156 wd_157 wd_158 wd_2 wd_159 rfl rfl kdX7_settled ⟨Nat.le_of_ble_eq_true rfl, Nat.le_of_ble_eq_true rfl⟩ xl0 rfl rfl rfl hl.1 (Nat.le_of_ble_eq_true rfl) dX7_copy_21 (fun H locs P => ?_)
  have h := Option.some.inj h
  exact g_iret C P (g_fst h) (g_snd h) dX7_copy_24
abbrev rmX7_move : Room := { frames := 4, cells := 0, slots := 0, locals := 94 }
theorem kdX7_move : yX7_move.cls = RX7 ∧ yX7_move.cls ≠ "java/lang/invoke/MethodHandle" ∧ yX7_move.cls ≠ "java/lang/invoke/VarHandle" ∧ (parseMethodDescriptor yX7_move.desc).map (fun d => d.parameters.length) = some 2 := by decide +kernel
set_option maxHeartbeats 4000000 in
set_option maxRecDepth 100000 in
theorem kX7_move (l : Launch) (X : gXt) (hJ : gJ X xL) (σ : gS) (a1 : Int32) (a2 : Int32) (q : Int32 × gS) (h : qF_move σ a1 a2 = some q) : gMi l yX7_move (gws yX7_move cX7_move 3 (some .int)) rmX7_move X xL [.ref (gad X 0), .int a1, .int a2] σ q.1 q.2 := by
  refine g_enter (cc := cX7_move) (nL := 3) (ret := (some .int)) hJ (plainFor_of_name (by decide)) (Nat.le_of_ble_eq_true rfl) ?_
  intro p e s m below meth c ls C P hl
  have C : gC p s m _ meth c RX7 cX7_move 3 (some .int) X xL := C
  have hx := C.1
  have hb := C.2.1
  have hK := C.2.2.2.2.2.2.2.1
  have hts := C.2.2.2.2.1
  have hl : lv_has ls 3 [(0, .ref (gad X 0)), (1, .int a1), (2, .int a2)] := hl
  unfold qF_move at h
  refine lv_aload_n hx hb dX7_move_0 rfl (lv_at hl 0 rfl) ?_
  refine g_getR C P xl0 rfl inlX7 4 (by decide) wd_31 rfl dX7_move_1 ?_
  refine lv_aload_n hx hb dX7_move_4 rfl (lv_at hl 0 rfl) ?_
  refine g_getR C P xl0 rfl inlX7 0 (by decide) wd_15 rfl dX7_move_5 ?_
  obtain ⟨r1, hr1, h⟩ := g_bind h
  refine g_callVv (n := 1) (As := [.ref (gad X 1)]) (rest := []) C P (kX3_stage l X hJ σ _ hr1) wd_110 wd_111 wd_112 wd_30 wd_113 rfl rfl kdX3_stage ⟨Nat.le_of_ble_eq_true rfl, Nat.le_of_ble_eq_true rfl⟩ xl46 rfl rfl rfl hl.1 (Nat.le_of_ble_eq_true rfl) dX7_move_8 (fun H locs P => ?_)
  refine lv_aload_n hx hb dX7_move_11 rfl (lv_at hl 0 rfl) ?_
  refine lv_aload_n hx hb dX7_move_12 rfl (lv_at hl 0 rfl) ?_
  refine g_getR C P xl0 rfl inlX7 2 (by decide) wd_23 rfl dX7_move_13 ?_
  refine lv_iload_n hx hb dX7_move_16 rfl (lv_at hl 1 rfl) ?_
  refine lv_iload_n hx hb dX7_move_17 rfl (lv_at hl 2 rfl) ?_
  obtain ⟨r2, hr2, h⟩ := g_bind h
  refine g_callVi (n := 2) (As := [.int a1, .int a2]) (rest := [.ref (gad X 0)]) C P (kX2_moveRegister l X hJ r1 a1 a2 _ hr2) wd_397 wd_398 wd_399 wd_22 wd_400 rfl rfl kdX2_moveRegister ⟨Nat.le_of_ble_eq_true rfl, Nat.le_of_ble_eq_true rfl⟩ xl40 rfl rfl rfl hl.1 (Nat.le_of_ble_eq_true rfl) dX7_move_18 (fun H locs P => ?_)
  obtain ⟨r3, hr3, h⟩ := g_bind h
  refine g_callVi (n := 1) (As := [.int r2.1]) (rest := []) C P (kX7_settled l X hJ r2.2 r2.1 _ hr3) wd_156 wd_157 wd_158 wd_2 wd_159 rfl rfl kdX7_settled ⟨Nat.le_of_ble_eq_true rfl, Nat.le_of_ble_eq_true rfl⟩ xl0 rfl rfl rfl hl.1 (Nat.le_of_ble_eq_true rfl) dX7_move_21 (fun H locs P => ?_)
  have h := Option.some.inj h
  exact g_iret C P (g_fst h) (g_snd h) dX7_move_24
abbrev rmX7_store : Room := { frames := 4, cells := 0, slots := 0, locals := 93 }
theorem kdX7_store : yX7_store.cls = RX7 ∧ yX7_store.cls ≠ "java/lang/invoke/MethodHandle" ∧ yX7_store.cls ≠ "java/lang/invoke/VarHandle" ∧ (parseMethodDescriptor yX7_store.desc).map (fun d => d.parameters.length) = some 3 := by decide +kernel
set_option maxHeartbeats 4000000 in
set_option maxRecDepth 100000 in
theorem kX7_store (l : Launch) (X : gXt) (hJ : gJ X xL) (σ : gS) (a1 : Int32) (a2 : Int32) (a3 : Int32) (q : Int32 × gS) (h : qF_store σ a1 a2 a3 = some q) : gMi l yX7_store (gws yX7_store cX7_store 4 (some .int)) rmX7_store X xL [.ref (gad X 0), .int a1, .int a2, .int a3] σ q.1 q.2 := by
  refine g_enter (cc := cX7_store) (nL := 4) (ret := (some .int)) hJ (plainFor_of_name (by decide)) (Nat.le_of_ble_eq_true rfl) ?_
  intro p e s m below meth c ls C P hl
  have C : gC p s m _ meth c RX7 cX7_store 4 (some .int) X xL := C
  have hx := C.1
  have hb := C.2.1
  have hK := C.2.2.2.2.2.2.2.1
  have hts := C.2.2.2.2.1
  have hl : lv_has ls 4 [(0, .ref (gad X 0)), (1, .int a1), (2, .int a2), (3, .int a3)] := hl
  unfold qF_store at h
  refine lv_aload_n hx hb dX7_store_0 rfl (lv_at hl 0 rfl) ?_
  refine g_getR C P xl0 rfl inlX7 4 (by decide) wd_31 rfl dX7_store_1 ?_
  refine lv_aload_n hx hb dX7_store_4 rfl (lv_at hl 0 rfl) ?_
  refine g_getR C P xl0 rfl inlX7 0 (by decide) wd_15 rfl dX7_store_5 ?_
  obtain ⟨r1, hr1, h⟩ := g_bind h
  refine g_callVv (n := 1) (As := [.ref (gad X 1)]) (rest := []) C P (kX3_stage l X hJ σ _ hr1) wd_110 wd_111 wd_112 wd_30 wd_113 rfl rfl kdX3_stage ⟨Nat.le_of_ble_eq_true rfl, Nat.le_of_ble_eq_true rfl⟩ xl46 rfl rfl rfl hl.1 (Nat.le_of_ble_eq_true rfl) dX7_store_8 (fun H locs P => ?_)
  refine lv_aload_n hx hb dX7_store_11 rfl (lv_at hl 0 rfl) ?_
  refine lv_aload_n hx hb dX7_store_12 rfl (lv_at hl 0 rfl) ?_
  refine g_getR C P xl0 rfl inlX7 2 (by decide) wd_23 rfl dX7_store_13 ?_
  refine lv_iload_n hx hb dX7_store_16 rfl (lv_at hl 1 rfl) ?_
  refine lv_iload_n hx hb dX7_store_17 rfl (lv_at hl 2 rfl) ?_
  refine lv_iload_n hx hb dX7_store_18 rfl (lv_at hl 3 rfl) ?_
  obtain ⟨r2, hr2, h⟩ := g_bind h
  refine g_callVi (n := 3) (As := [.int a1, .int a2, .int a3]) (rest := [.ref (gad X 0)]) C P (kX2_storeBytes l X hJ r1 a1 a2 a3 _ hr2) wd_422 wd_423 wd_424 wd_22 wd_425 rfl rfl kdX2_storeBytes ⟨Nat.le_of_ble_eq_true rfl, Nat.le_of_ble_eq_true rfl⟩ xl40 rfl rfl rfl hl.1 (Nat.le_of_ble_eq_true rfl) dX7_store_19 (fun H locs P => ?_)
  obtain ⟨r3, hr3, h⟩ := g_bind h
  refine g_callVi (n := 1) (As := [.int r2.1]) (rest := []) C P (kX7_settled l X hJ r2.2 r2.1 _ hr3) wd_156 wd_157 wd_158 wd_2 wd_159 rfl rfl kdX7_settled ⟨Nat.le_of_ble_eq_true rfl, Nat.le_of_ble_eq_true rfl⟩ xl0 rfl rfl rfl hl.1 (Nat.le_of_ble_eq_true rfl) dX7_store_22 (fun H locs P => ?_)
  have h := Option.some.inj h
  exact g_iret C P (g_fst h) (g_snd h) dX7_store_25
abbrev rmX7_load : Room := { frames := 4, cells := 0, slots := 0, locals := 92 }
theorem kdX7_load : yX7_load.cls = RX7 ∧ yX7_load.cls ≠ "java/lang/invoke/MethodHandle" ∧ yX7_load.cls ≠ "java/lang/invoke/VarHandle" ∧ (parseMethodDescriptor yX7_load.desc).map (fun d => d.parameters.length) = some 3 := by decide +kernel
set_option maxHeartbeats 4000000 in
set_option maxRecDepth 100000 in
theorem kX7_load (l : Launch) (X : gXt) (hJ : gJ X xL) (σ : gS) (a1 : Int32) (a2 : Int32) (a3 : Int32) (q : Int32 × gS) (h : qF_load σ a1 a2 a3 = some q) : gMi l yX7_load (gws yX7_load cX7_load 4 (some .int)) rmX7_load X xL [.ref (gad X 0), .int a1, .int a2, .int a3] σ q.1 q.2 := by
  refine g_enter (cc := cX7_load) (nL := 4) (ret := (some .int)) hJ (plainFor_of_name (by decide)) (Nat.le_of_ble_eq_true rfl) ?_
  intro p e s m below meth c ls C P hl
  have C : gC p s m _ meth c RX7 cX7_load 4 (some .int) X xL := C
  have hx := C.1
  have hb := C.2.1
  have hK := C.2.2.2.2.2.2.2.1
  have hts := C.2.2.2.2.1
  have hl : lv_has ls 4 [(0, .ref (gad X 0)), (1, .int a1), (2, .int a2), (3, .int a3)] := hl
  unfold qF_load at h
  refine lv_aload_n hx hb dX7_load_0 rfl (lv_at hl 0 rfl) ?_
  refine g_getR C P xl0 rfl inlX7 4 (by decide) wd_31 rfl dX7_load_1 ?_
  refine lv_aload_n hx hb dX7_load_4 rfl (lv_at hl 0 rfl) ?_
  refine g_getR C P xl0 rfl inlX7 0 (by decide) wd_15 rfl dX7_load_5 ?_
  obtain ⟨r1, hr1, h⟩ := g_bind h
  refine g_callVv (n := 1) (As := [.ref (gad X 1)]) (rest := []) C P (kX3_stage l X hJ σ _ hr1) wd_110 wd_111 wd_112 wd_30 wd_113 rfl rfl kdX3_stage ⟨Nat.le_of_ble_eq_true rfl, Nat.le_of_ble_eq_true rfl⟩ xl46 rfl rfl rfl hl.1 (Nat.le_of_ble_eq_true rfl) dX7_load_8 (fun H locs P => ?_)
  refine lv_aload_n hx hb dX7_load_11 rfl (lv_at hl 0 rfl) ?_
  refine lv_aload_n hx hb dX7_load_12 rfl (lv_at hl 0 rfl) ?_
  refine g_getR C P xl0 rfl inlX7 2 (by decide) wd_23 rfl dX7_load_13 ?_
  refine lv_iload_n hx hb dX7_load_16 rfl (lv_at hl 1 rfl) ?_
  refine lv_iload_n hx hb dX7_load_17 rfl (lv_at hl 2 rfl) ?_
  refine lv_iload_n hx hb dX7_load_18 rfl (lv_at hl 3 rfl) ?_
  obtain ⟨r2, hr2, h⟩ := g_bind h
  refine g_callVi (n := 3) (As := [.int a1, .int a2, .int a3]) (rest := [.ref (gad X 0)]) C P (kX2_loadBytes l X hJ r1 a1 a2 a3 _ hr2) wd_459 wd_460 wd_461 wd_22 wd_462 rfl rfl kdX2_loadBytes ⟨Nat.le_of_ble_eq_true rfl, Nat.le_of_ble_eq_true rfl⟩ xl40 rfl rfl rfl hl.1 (Nat.le_of_ble_eq_true rfl) dX7_load_19 (fun H locs P => ?_)
  obtain ⟨r3, hr3, h⟩ := g_bind h
  refine g_callVi (n := 1) (As := [.int r2.1]) (rest := []) C P (kX7_settled l X hJ r2.2 r2.1 _ hr3) wd_156 wd_157 wd_158 wd_2 wd_159 rfl rfl kdX7_settled ⟨Nat.le_of_ble_eq_true rfl, Nat.le_of_ble_eq_true rfl⟩ xl0 rfl rfl rfl hl.1 (Nat.le_of_ble_eq_true rfl) dX7_load_22 (fun H locs P => ?_)
  have h := Option.some.inj h
  exact g_iret C P (g_fst h) (g_snd h) dX7_load_25
abbrev rmX7_compare : Room := { frames := 2, cells := 0, slots := 0, locals := 44 }
theorem kdX7_compare : yX7_compare.cls = RX7 ∧ yX7_compare.cls ≠ "java/lang/invoke/MethodHandle" ∧ yX7_compare.cls ≠ "java/lang/invoke/VarHandle" ∧ (parseMethodDescriptor yX7_compare.desc).map (fun d => d.parameters.length) = some 2 := by decide +kernel
set_option maxHeartbeats 4000000 in
set_option maxRecDepth 100000 in
theorem kX7_compare (l : Launch) (X : gXt) (hJ : gJ X xL) (σ : gS) (a1 : Int32) (a2 : Int32) (q : Int32 × gS) (h : qF_compare σ a1 a2 = some q) : gMi l yX7_compare (gws yX7_compare cX7_compare 3 (some .int)) rmX7_compare X xL [.ref (gad X 0), .int a1, .int a2] σ q.1 q.2 := by
  refine g_enter (cc := cX7_compare) (nL := 3) (ret := (some .int)) hJ (plainFor_of_name (by decide)) (Nat.le_of_ble_eq_true rfl) ?_
  intro p e s m below meth c ls C P hl
  have C : gC p s m _ meth c RX7 cX7_compare 3 (some .int) X xL := C
  have hx := C.1
  have hb := C.2.1
  have hK := C.2.2.2.2.2.2.2.1
  have hts := C.2.2.2.2.1
  have hl : lv_has ls 3 [(0, .ref (gad X 0)), (1, .int a1), (2, .int a2)] := hl
  unfold qF_compare at h
  refine lv_aload_n hx hb dX7_compare_0 rfl (lv_at hl 0 rfl) ?_
  refine g_getR C P xl0 rfl inlX7 5 (by decide) wd_35 rfl dX7_compare_1 ?_
  refine lv_aload_n hx hb dX7_compare_4 rfl (lv_at hl 0 rfl) ?_
  refine g_getR C P xl0 rfl inlX7 2 (by decide) wd_23 rfl dX7_compare_5 ?_
  refine lv_iload_n hx hb dX7_compare_8 rfl (lv_at hl 1 rfl) ?_
  refine lv_iload_n hx hb dX7_compare_9 rfl (lv_at hl 2 rfl) ?_
  obtain ⟨r1, hr1, h⟩ := g_bind h
  refine g_callVi (n := 2) (As := [.int a1, .int a2]) (rest := [.ref (gad X 96)]) C P (kX2_compareRegisters l X hJ σ a1 a2 _ hr1) wd_479 wd_480 wd_481 wd_22 wd_482 rfl rfl kdX2_compareRegisters ⟨Nat.le_of_ble_eq_true rfl, Nat.le_of_ble_eq_true rfl⟩ xl40 rfl rfl rfl hl.1 (Nat.le_of_ble_eq_true rfl) dX7_compare_10 (fun H locs P => ?_)
  obtain ⟨r2, hr2, h⟩ := g_bind h
  refine g_callVi (n := 1) (As := [.int r1]) (rest := []) C P (kX6_noted l X hJ σ r1 _ hr2) wd_165 wd_166 wd_167 wd_34 wd_168 rfl rfl kdX6_noted ⟨Nat.le_of_ble_eq_true rfl, Nat.le_of_ble_eq_true rfl⟩ xl96 rfl rfl rfl hl.1 (Nat.le_of_ble_eq_true rfl) dX7_compare_13 (fun H locs P => ?_)
  have h := Option.some.inj h
  exact g_iret C P (g_fst h) (g_snd h) dX7_compare_16
abbrev rmX7_blit : Room := { frames := 4, cells := 0, slots := 0, locals := 96 }
theorem kdX7_blit : yX7_blit.cls = RX7 ∧ yX7_blit.cls ≠ "java/lang/invoke/MethodHandle" ∧ yX7_blit.cls ≠ "java/lang/invoke/VarHandle" ∧ (parseMethodDescriptor yX7_blit.desc).map (fun d => d.parameters.length) = some 3 := by decide +kernel
set_option maxHeartbeats 4000000 in
set_option maxRecDepth 100000 in
theorem kX7_blit (l : Launch) (X : gXt) (hJ : gJ X xL) (σ : gS) (a1 : Int32) (a2 : Int32) (a3 : Int32) (q : Int32 × gS) (h : qF_blit σ a1 a2 a3 = some q) : gMi l yX7_blit (gws yX7_blit cX7_blit 4 (some .int)) rmX7_blit X xL [.ref (gad X 0), .int a1, .int a2, .int a3] σ q.1 q.2 := by
  refine g_enter (cc := cX7_blit) (nL := 4) (ret := (some .int)) hJ (plainFor_of_name (by decide)) (Nat.le_of_ble_eq_true rfl) ?_
  intro p e s m below meth c ls C P hl
  have C : gC p s m _ meth c RX7 cX7_blit 4 (some .int) X xL := C
  have hx := C.1
  have hb := C.2.1
  have hK := C.2.2.2.2.2.2.2.1
  have hts := C.2.2.2.2.1
  have hl : lv_has ls 4 [(0, .ref (gad X 0)), (1, .int a1), (2, .int a2), (3, .int a3)] := hl
  unfold qF_blit at h
  refine lv_aload_n hx hb dX7_blit_0 rfl (lv_at hl 0 rfl) ?_
  refine g_getR C P xl0 rfl inlX7 4 (by decide) wd_31 rfl dX7_blit_1 ?_
  refine lv_aload_n hx hb dX7_blit_4 rfl (lv_at hl 0 rfl) ?_
  refine g_getR C P xl0 rfl inlX7 0 (by decide) wd_15 rfl dX7_blit_5 ?_
  obtain ⟨r1, hr1, h⟩ := g_bind h
  refine g_callVv (n := 1) (As := [.ref (gad X 1)]) (rest := []) C P (kX3_stage l X hJ σ _ hr1) wd_110 wd_111 wd_112 wd_30 wd_113 rfl rfl kdX3_stage ⟨Nat.le_of_ble_eq_true rfl, Nat.le_of_ble_eq_true rfl⟩ xl46 rfl rfl rfl hl.1 (Nat.le_of_ble_eq_true rfl) dX7_blit_8 (fun H locs P => ?_)
  refine lv_aload_n hx hb dX7_blit_11 rfl (lv_at hl 0 rfl) ?_
  refine lv_aload_n hx hb dX7_blit_12 rfl (lv_at hl 0 rfl) ?_
  refine g_getR C P xl0 rfl inlX7 2 (by decide) wd_23 rfl dX7_blit_13 ?_
  refine lv_iload_n hx hb dX7_blit_16 rfl (lv_at hl 1 rfl) ?_
  refine lv_iload_n hx hb dX7_blit_17 rfl (lv_at hl 2 rfl) ?_
  refine lv_iload_n hx hb dX7_blit_18 rfl (lv_at hl 3 rfl) ?_
  obtain ⟨r2, hr2, h⟩ := g_bind h
  refine g_callVi (n := 3) (As := [.int a1, .int a2, .int a3]) (rest := [.ref (gad X 0)]) C P (kX2_blitBytes l X hJ r1 a1 a2 a3 _ hr2) wd_498 wd_499 wd_500 wd_22 wd_501 rfl rfl kdX2_blitBytes ⟨Nat.le_of_ble_eq_true rfl, Nat.le_of_ble_eq_true rfl⟩ xl40 rfl rfl rfl hl.1 (Nat.le_of_ble_eq_true rfl) dX7_blit_19 (fun H locs P => ?_)
  obtain ⟨r3, hr3, h⟩ := g_bind h
  refine g_callVi (n := 1) (As := [.int r2.1]) (rest := []) C P (kX7_settled l X hJ r2.2 r2.1 _ hr3) wd_156 wd_157 wd_158 wd_2 wd_159 rfl rfl kdX7_settled ⟨Nat.le_of_ble_eq_true rfl, Nat.le_of_ble_eq_true rfl⟩ xl0 rfl rfl rfl hl.1 (Nat.le_of_ble_eq_true rfl) dX7_blit_22 (fun H locs P => ?_)
  have h := Option.some.inj h
  exact g_iret C P (g_fst h) (g_snd h) dX7_blit_25
abbrev rmX7_freeze : Room := { frames := 4, cells := 0, slots := 0, locals := 92 }
theorem kdX7_freeze : yX7_freeze.cls = RX7 ∧ yX7_freeze.cls ≠ "java/lang/invoke/MethodHandle" ∧ yX7_freeze.cls ≠ "java/lang/invoke/VarHandle" ∧ (parseMethodDescriptor yX7_freeze.desc).map (fun d => d.parameters.length) = some 1 := by decide +kernel
set_option maxHeartbeats 4000000 in
set_option maxRecDepth 100000 in
theorem kX7_freeze (l : Launch) (X : gXt) (hJ : gJ X xL) (σ : gS) (a1 : Int32) (q : Int32 × gS) (h : qF_freeze σ a1 = some q) : gMi l yX7_freeze (gws yX7_freeze cX7_freeze 2 (some .int)) rmX7_freeze X xL [.ref (gad X 0), .int a1] σ q.1 q.2 := by
  refine g_enter (cc := cX7_freeze) (nL := 2) (ret := (some .int)) hJ (plainFor_of_name (by decide)) (Nat.le_of_ble_eq_true rfl) ?_
  intro p e s m below meth c ls C P hl
  have C : gC p s m _ meth c RX7 cX7_freeze 2 (some .int) X xL := C
  have hx := C.1
  have hb := C.2.1
  have hK := C.2.2.2.2.2.2.2.1
  have hts := C.2.2.2.2.1
  have hl : lv_has ls 2 [(0, .ref (gad X 0)), (1, .int a1)] := hl
  unfold qF_freeze at h
  refine lv_aload_n hx hb dX7_freeze_0 rfl (lv_at hl 0 rfl) ?_
  refine g_getR C P xl0 rfl inlX7 4 (by decide) wd_31 rfl dX7_freeze_1 ?_
  refine lv_aload_n hx hb dX7_freeze_4 rfl (lv_at hl 0 rfl) ?_
  refine g_getR C P xl0 rfl inlX7 0 (by decide) wd_15 rfl dX7_freeze_5 ?_
  obtain ⟨r1, hr1, h⟩ := g_bind h
  refine g_callVv (n := 1) (As := [.ref (gad X 1)]) (rest := []) C P (kX3_stage l X hJ σ _ hr1) wd_110 wd_111 wd_112 wd_30 wd_113 rfl rfl kdX3_stage ⟨Nat.le_of_ble_eq_true rfl, Nat.le_of_ble_eq_true rfl⟩ xl46 rfl rfl rfl hl.1 (Nat.le_of_ble_eq_true rfl) dX7_freeze_8 (fun H locs P => ?_)
  refine lv_aload_n hx hb dX7_freeze_11 rfl (lv_at hl 0 rfl) ?_
  refine lv_aload_n hx hb dX7_freeze_12 rfl (lv_at hl 0 rfl) ?_
  refine g_getR C P xl0 rfl inlX7 2 (by decide) wd_23 rfl dX7_freeze_13 ?_
  refine lv_iload_n hx hb dX7_freeze_16 rfl (lv_at hl 1 rfl) ?_
  obtain ⟨r2, hr2, h⟩ := g_bind h
  refine g_callVi (n := 1) (As := [.int a1]) (rest := [.ref (gad X 0)]) C P (kX2_freezeBlocks l X hJ r1 a1 _ hr2) wd_518 wd_519 wd_520 wd_22 wd_521 rfl rfl kdX2_freezeBlocks ⟨Nat.le_of_ble_eq_true rfl, Nat.le_of_ble_eq_true rfl⟩ xl40 rfl rfl rfl hl.1 (Nat.le_of_ble_eq_true rfl) dX7_freeze_17 (fun H locs P => ?_)
  obtain ⟨r3, hr3, h⟩ := g_bind h
  refine g_callVi (n := 1) (As := [.int r2.1]) (rest := []) C P (kX7_settled l X hJ r2.2 r2.1 _ hr3) wd_156 wd_157 wd_158 wd_2 wd_159 rfl rfl kdX7_settled ⟨Nat.le_of_ble_eq_true rfl, Nat.le_of_ble_eq_true rfl⟩ xl0 rfl rfl rfl hl.1 (Nat.le_of_ble_eq_true rfl) dX7_freeze_20 (fun H locs P => ?_)
  have h := Option.some.inj h
  exact g_iret C P (g_fst h) (g_snd h) dX7_freeze_23
abbrev rmX7_forget : Room := { frames := 3, cells := 0, slots := 0, locals := 63 }
theorem kdX7_forget : yX7_forget.cls = RX7 ∧ yX7_forget.cls ≠ "java/lang/invoke/MethodHandle" ∧ yX7_forget.cls ≠ "java/lang/invoke/VarHandle" ∧ (parseMethodDescriptor yX7_forget.desc).map (fun d => d.parameters.length) = some 1 := by decide +kernel
set_option maxHeartbeats 4000000 in
set_option maxRecDepth 100000 in
theorem kX7_forget (l : Launch) (X : gXt) (hJ : gJ X xL) (σ : gS) (a1 : Int32) (q : Int32 × gS) (h : qF_forget σ a1 = some q) : gMi l yX7_forget (gws yX7_forget cX7_forget 2 (some .int)) rmX7_forget X xL [.ref (gad X 0), .int a1] σ q.1 q.2 := by
  refine g_enter (cc := cX7_forget) (nL := 2) (ret := (some .int)) hJ (plainFor_of_name (by decide)) (Nat.le_of_ble_eq_true rfl) ?_
  intro p e s m below meth c ls C P hl
  have C : gC p s m _ meth c RX7 cX7_forget 2 (some .int) X xL := C
  have hx := C.1
  have hb := C.2.1
  have hK := C.2.2.2.2.2.2.2.1
  have hts := C.2.2.2.2.1
  have hl : lv_has ls 2 [(0, .ref (gad X 0)), (1, .int a1)] := hl
  unfold qF_forget at h
  refine lv_aload_n hx hb dX7_forget_0 rfl (lv_at hl 0 rfl) ?_
  refine g_getR C P xl0 rfl inlX7 4 (by decide) wd_31 rfl dX7_forget_1 ?_
  refine lv_aload_n hx hb dX7_forget_4 rfl (lv_at hl 0 rfl) ?_
  refine g_getR C P xl0 rfl inlX7 0 (by decide) wd_15 rfl dX7_forget_5 ?_
  obtain ⟨r1, hr1, h⟩ := g_bind h
  refine g_callVv (n := 1) (As := [.ref (gad X 1)]) (rest := []) C P (kX3_stage l X hJ σ _ hr1) wd_110 wd_111 wd_112 wd_30 wd_113 rfl rfl kdX3_stage ⟨Nat.le_of_ble_eq_true rfl, Nat.le_of_ble_eq_true rfl⟩ xl46 rfl rfl rfl hl.1 (Nat.le_of_ble_eq_true rfl) dX7_forget_8 (fun H locs P => ?_)
  refine lv_aload_n hx hb dX7_forget_11 rfl (lv_at hl 0 rfl) ?_
  refine lv_aload_n hx hb dX7_forget_12 rfl (lv_at hl 0 rfl) ?_
  refine g_getR C P xl0 rfl inlX7 2 (by decide) wd_23 rfl dX7_forget_13 ?_
  refine lv_iload_n hx hb dX7_forget_16 rfl (lv_at hl 1 rfl) ?_
  obtain ⟨r2, hr2, h⟩ := g_bind h
  refine g_callVi (n := 1) (As := [.int a1]) (rest := [.ref (gad X 0)]) C P (kX2_forgetRegister l X hJ r1 a1 _ hr2) wd_593 wd_594 wd_595 wd_22 wd_596 rfl rfl kdX2_forgetRegister ⟨Nat.le_of_ble_eq_true rfl, Nat.le_of_ble_eq_true rfl⟩ xl40 rfl rfl rfl hl.1 (Nat.le_of_ble_eq_true rfl) dX7_forget_17 (fun H locs P => ?_)
  obtain ⟨r3, hr3, h⟩ := g_bind h
  refine g_callVi (n := 1) (As := [.int r2.1]) (rest := []) C P (kX7_settled l X hJ r2.2 r2.1 _ hr3) wd_156 wd_157 wd_158 wd_2 wd_159 rfl rfl kdX7_settled ⟨Nat.le_of_ble_eq_true rfl, Nat.le_of_ble_eq_true rfl⟩ xl0 rfl rfl rfl hl.1 (Nat.le_of_ble_eq_true rfl) dX7_forget_20 (fun H locs P => ?_)
  have h := Option.some.inj h
  exact g_iret C P (g_fst h) (g_snd h) dX7_forget_23
abbrev rmX7_budget : Room := { frames := 3, cells := 0, slots := 0, locals := 63 }
theorem kdX7_budget : yX7_budget.cls = RX7 ∧ yX7_budget.cls ≠ "java/lang/invoke/MethodHandle" ∧ yX7_budget.cls ≠ "java/lang/invoke/VarHandle" ∧ (parseMethodDescriptor yX7_budget.desc).map (fun d => d.parameters.length) = some 1 := by decide +kernel
set_option maxHeartbeats 4000000 in
set_option maxRecDepth 100000 in
theorem kX7_budget (l : Launch) (X : gXt) (hJ : gJ X xL) (σ : gS) (a1 : Int32) (q : Int32 × gS) (h : qF_budget σ a1 = some q) : gMi l yX7_budget (gws yX7_budget cX7_budget 2 (some .int)) rmX7_budget X xL [.ref (gad X 0), .int a1] σ q.1 q.2 := by
  refine g_enter (cc := cX7_budget) (nL := 2) (ret := (some .int)) hJ (plainFor_of_name (by decide)) (Nat.le_of_ble_eq_true rfl) ?_
  intro p e s m below meth c ls C P hl
  have C : gC p s m _ meth c RX7 cX7_budget 2 (some .int) X xL := C
  have hx := C.1
  have hb := C.2.1
  have hK := C.2.2.2.2.2.2.2.1
  have hts := C.2.2.2.2.1
  have hl : lv_has ls 2 [(0, .ref (gad X 0)), (1, .int a1)] := hl
  unfold qF_budget at h
  refine lv_aload_n hx hb dX7_budget_0 rfl (lv_at hl 0 rfl) ?_
  refine g_getR C P xl0 rfl inlX7 4 (by decide) wd_31 rfl dX7_budget_1 ?_
  refine lv_aload_n hx hb dX7_budget_4 rfl (lv_at hl 0 rfl) ?_
  refine g_getR C P xl0 rfl inlX7 0 (by decide) wd_15 rfl dX7_budget_5 ?_
  obtain ⟨r1, hr1, h⟩ := g_bind h
  refine g_callVv (n := 1) (As := [.ref (gad X 1)]) (rest := []) C P (kX3_stage l X hJ σ _ hr1) wd_110 wd_111 wd_112 wd_30 wd_113 rfl rfl kdX3_stage ⟨Nat.le_of_ble_eq_true rfl, Nat.le_of_ble_eq_true rfl⟩ xl46 rfl rfl rfl hl.1 (Nat.le_of_ble_eq_true rfl) dX7_budget_8 (fun H locs P => ?_)
  refine lv_aload_n hx hb dX7_budget_11 rfl (lv_at hl 0 rfl) ?_
  refine lv_aload_n hx hb dX7_budget_12 rfl (lv_at hl 0 rfl) ?_
  refine g_getR C P xl0 rfl inlX7 2 (by decide) wd_23 rfl dX7_budget_13 ?_
  refine lv_iload_n hx hb dX7_budget_16 rfl (lv_at hl 1 rfl) ?_
  obtain ⟨r2, hr2, h⟩ := g_bind h
  refine g_callVi (n := 1) (As := [.int a1]) (rest := [.ref (gad X 0)]) C P (kX2_changeBudget l X hJ r1 a1 _ hr2) wd_609 wd_610 wd_611 wd_22 wd_612 rfl rfl kdX2_changeBudget ⟨Nat.le_of_ble_eq_true rfl, Nat.le_of_ble_eq_true rfl⟩ xl40 rfl rfl rfl hl.1 (Nat.le_of_ble_eq_true rfl) dX7_budget_17 (fun H locs P => ?_)
  obtain ⟨r3, hr3, h⟩ := g_bind h
  refine g_callVi (n := 1) (As := [.int r2.1]) (rest := []) C P (kX7_settled l X hJ r2.2 r2.1 _ hr3) wd_156 wd_157 wd_158 wd_2 wd_159 rfl rfl kdX7_settled ⟨Nat.le_of_ble_eq_true rfl, Nat.le_of_ble_eq_true rfl⟩ xl0 rfl rfl rfl hl.1 (Nat.le_of_ble_eq_true rfl) dX7_budget_20 (fun H locs P => ?_)
  have h := Option.some.inj h
  exact g_iret C P (g_fst h) (g_snd h) dX7_budget_23
abbrev rmX7_register : Room := { frames := 2, cells := 0, slots := 0, locals := 42 }
theorem kdX7_register : yX7_register.cls = RX7 ∧ yX7_register.cls ≠ "java/lang/invoke/MethodHandle" ∧ yX7_register.cls ≠ "java/lang/invoke/VarHandle" ∧ (parseMethodDescriptor yX7_register.desc).map (fun d => d.parameters.length) = some 2 := by decide +kernel
set_option maxHeartbeats 4000000 in
set_option maxRecDepth 100000 in
theorem kX7_register (l : Launch) (X : gXt) (hJ : gJ X xL) (σ : gS) (a1 : Int32) (a2 : Int32) (q : Int32 × gS) (h : qF_register σ a1 a2 = some q) : gMi l yX7_register (gws yX7_register cX7_register 3 (some .int)) rmX7_register X xL [.ref (gad X 0), .int a1, .int a2] σ q.1 q.2 := by
  refine g_enter (cc := cX7_register) (nL := 3) (ret := (some .int)) hJ (plainFor_of_name (by decide)) (Nat.le_of_ble_eq_true rfl) ?_
  intro p e s m below meth c ls C P hl
  have C : gC p s m _ meth c RX7 cX7_register 3 (some .int) X xL := C
  have hx := C.1
  have hb := C.2.1
  have hK := C.2.2.2.2.2.2.2.1
  have hts := C.2.2.2.2.1
  have hl : lv_has ls 3 [(0, .ref (gad X 0)), (1, .int a1), (2, .int a2)] := hl
  unfold qF_register at h
  refine lv_aload_n hx hb dX7_register_0 rfl (lv_at hl 0 rfl) ?_
  refine g_getR C P xl0 rfl inlX7 5 (by decide) wd_35 rfl dX7_register_1 ?_
  refine lv_aload_n hx hb dX7_register_4 rfl (lv_at hl 0 rfl) ?_
  refine g_getR C P xl0 rfl inlX7 0 (by decide) wd_15 rfl dX7_register_5 ?_
  refine lv_iload_n hx hb dX7_register_8 rfl (lv_at hl 1 rfl) ?_
  refine lv_iload_n hx hb dX7_register_9 rfl (lv_at hl 2 rfl) ?_
  obtain ⟨r1, hr1, h⟩ := g_bind h
  refine g_callVi (n := 2) (As := [.int a1, .int a2]) (rest := [.ref (gad X 96)]) C P (kX5_registerProperty l X hJ σ a1 a2 _ hr1) wd_622 wd_623 wd_624 wd_14 wd_625 rfl rfl kdX5_registerProperty ⟨Nat.le_of_ble_eq_true rfl, Nat.le_of_ble_eq_true rfl⟩ xl1 rfl rfl rfl hl.1 (Nat.le_of_ble_eq_true rfl) dX7_register_10 (fun H locs P => ?_)
  obtain ⟨r2, hr2, h⟩ := g_bind h
  refine g_callVi (n := 1) (As := [.int r1]) (rest := []) C P (kX6_noted l X hJ σ r1 _ hr2) wd_165 wd_166 wd_167 wd_34 wd_168 rfl rfl kdX6_noted ⟨Nat.le_of_ble_eq_true rfl, Nat.le_of_ble_eq_true rfl⟩ xl96 rfl rfl rfl hl.1 (Nat.le_of_ble_eq_true rfl) dX7_register_13 (fun H locs P => ?_)
  have h := Option.some.inj h
  exact g_iret C P (g_fst h) (g_snd h) dX7_register_16
abbrev rmX7_piece : Room := { frames := 3, cells := 0, slots := 0, locals := 69 }
theorem kdX7_piece : yX7_piece.cls = RX7 ∧ yX7_piece.cls ≠ "java/lang/invoke/MethodHandle" ∧ yX7_piece.cls ≠ "java/lang/invoke/VarHandle" ∧ (parseMethodDescriptor yX7_piece.desc).map (fun d => d.parameters.length) = some 2 := by decide +kernel
set_option maxHeartbeats 4000000 in
set_option maxRecDepth 100000 in
theorem kX7_piece (l : Launch) (X : gXt) (hJ : gJ X xL) (σ : gS) (a1 : Int32) (a2 : Int32) (q : Int32 × gS) (h : qF_piece σ a1 a2 = some q) : gMi l yX7_piece (gws yX7_piece cX7_piece 3 (some .int)) rmX7_piece X xL [.ref (gad X 0), .int a1, .int a2] σ q.1 q.2 := by
  refine g_enter (cc := cX7_piece) (nL := 3) (ret := (some .int)) hJ (plainFor_of_name (by decide)) (Nat.le_of_ble_eq_true rfl) ?_
  intro p e s m below meth c ls C P hl
  have C : gC p s m _ meth c RX7 cX7_piece 3 (some .int) X xL := C
  have hx := C.1
  have hb := C.2.1
  have hK := C.2.2.2.2.2.2.2.1
  have hts := C.2.2.2.2.1
  have hl : lv_has ls 3 [(0, .ref (gad X 0)), (1, .int a1), (2, .int a2)] := hl
  unfold qF_piece at h
  refine lv_aload_n hx hb dX7_piece_0 rfl (lv_at hl 0 rfl) ?_
  refine g_getR C P xl0 rfl inlX7 0 (by decide) wd_15 rfl dX7_piece_1 ?_
  refine lv_iload_n hx hb dX7_piece_4 rfl (lv_at hl 1 rfl) ?_
  refine g_callVi (n := 1) (As := [.int a1]) (rest := []) C P (kX5_isBlock l X hJ σ a1 _ rfl) wd_638 wd_639 wd_640 wd_14 wd_641 rfl rfl kdX5_isBlock ⟨Nat.le_of_ble_eq_true rfl, Nat.le_of_ble_eq_true rfl⟩ xl1 rfl rfl rfl hl.1 (Nat.le_of_ble_eq_true rfl) dX7_piece_5 (fun H locs P => ?_)
  refine lv_if_eq (tgt := 29) hx hb dX7_piece_8 (by decide) (fun c1 => ?_) (fun c1 => ?_)
  · have h := g_ifp c1 h
    refine lv_aload_n hx hb dX7_piece_29 rfl (lv_at hl 0 rfl) ?_
    refine g_getR C P xl0 rfl inlX7 5 (by decide) wd_35 rfl dX7_piece_30 ?_
    refine lv_aload_n hx hb dX7_piece_33 rfl (lv_at hl 0 rfl) ?_
    refine g_getR C P xl0 rfl inlX7 0 (by decide) wd_15 rfl dX7_piece_34 ?_
    refine lv_iload_n hx hb dX7_piece_37 rfl (lv_at hl 1 rfl) ?_
    refine lv_iload_n hx hb dX7_piece_38 rfl (lv_at hl 2 rfl) ?_
    obtain ⟨r2, hr2, h⟩ := g_bind h
    refine g_callVi (n := 2) (As := [.int a1, .int a2]) (rest := [.ref (gad X 96)]) C P (kX5_blockProperty l X hJ σ a1 a2 _ hr2) wd_643 wd_644 wd_645 wd_14 wd_646 rfl rfl kdX5_blockProperty ⟨Nat.le_of_ble_eq_true rfl, Nat.le_of_ble_eq_true rfl⟩ xl1 rfl rfl rfl hl.1 (Nat.le_of_ble_eq_true rfl) dX7_piece_39 (fun H locs P => ?_)
    obtain ⟨r3, hr3, h⟩ := g_bind h
    refine g_callVi (n := 1) (As := [.int r2]) (rest := []) C P (kX6_noted l X hJ σ r2 _ hr3) wd_165 wd_166 wd_167 wd_34 wd_168 rfl rfl kdX6_noted ⟨Nat.le_of_ble_eq_true rfl, Nat.le_of_ble_eq_true rfl⟩ xl96 rfl rfl rfl hl.1 (Nat.le_of_ble_eq_true rfl) dX7_piece_42 (fun H locs P => ?_)
    have h := Option.some.inj h
    exact g_iret C P (g_fst h) (g_snd h) dX7_piece_45
  have h := g_ifn c1 h
  refine lv_iload_n hx hb dX7_piece_11 rfl (lv_at hl 2 rfl) ?_
  refine lv_iconst (v := 5) hx hb dX7_piece_12 (by decide) ?_
  refine lv_icmp_ne (tgt := 29) hx hb dX7_piece_13 (by decide) (fun c4 => ?_) (fun c4 => ?_)
  · have h := g_ifn c4 h
    refine lv_aload_n hx hb dX7_piece_29 rfl (lv_at hl 0 rfl) ?_
    refine g_getR C P xl0 rfl inlX7 5 (by decide) wd_35 rfl dX7_piece_30 ?_
    refine lv_aload_n hx hb dX7_piece_33 rfl (lv_at hl 0 rfl) ?_
    refine g_getR C P xl0 rfl inlX7 0 (by decide) wd_15 rfl dX7_piece_34 ?_
    refine lv_iload_n hx hb dX7_piece_37 rfl (lv_at hl 1 rfl) ?_
    refine lv_iload_n hx hb dX7_piece_38 rfl (lv_at hl 2 rfl) ?_
    obtain ⟨r5, hr5, h⟩ := g_bind h
    refine g_callVi (n := 2) (As := [.int a1, .int a2]) (rest := [.ref (gad X 96)]) C P (kX5_blockProperty l X hJ σ a1 a2 _ hr5) wd_643 wd_644 wd_645 wd_14 wd_646 rfl rfl kdX5_blockProperty ⟨Nat.le_of_ble_eq_true rfl, Nat.le_of_ble_eq_true rfl⟩ xl1 rfl rfl rfl hl.1 (Nat.le_of_ble_eq_true rfl) dX7_piece_39 (fun H locs P => ?_)
    obtain ⟨r6, hr6, h⟩ := g_bind h
    refine g_callVi (n := 1) (As := [.int r5]) (rest := []) C P (kX6_noted l X hJ σ r5 _ hr6) wd_165 wd_166 wd_167 wd_34 wd_168 rfl rfl kdX6_noted ⟨Nat.le_of_ble_eq_true rfl, Nat.le_of_ble_eq_true rfl⟩ xl96 rfl rfl rfl hl.1 (Nat.le_of_ble_eq_true rfl) dX7_piece_42 (fun H locs P => ?_)
    have h := Option.some.inj h
    exact g_iret C P (g_fst h) (g_snd h) dX7_piece_45
  have h := g_ifp c4 h
  refine lv_aload_n hx hb dX7_piece_16 rfl (lv_at hl 0 rfl) ?_
  refine g_getR C P xl0 rfl inlX7 1 (by decide) wd_19 rfl dX7_piece_17 ?_
  refine lv_aload_n hx hb dX7_piece_20 rfl (lv_at hl 0 rfl) ?_
  refine g_getR C P xl0 rfl inlX7 0 (by decide) wd_15 rfl dX7_piece_21 ?_
  refine lv_iload_n hx hb dX7_piece_24 rfl (lv_at hl 1 rfl) ?_
  obtain ⟨r7, hr7, h⟩ := g_bind h
  refine g_callVi (n := 2) (As := [.ref (gad X 1), .int a1]) (rest := []) C P (kX0_reach l X hJ σ a1 _ hr7) wd_642 wd_524 wd_525 wd_18 wd_526 rfl rfl kdX0_reach ⟨Nat.le_of_ble_eq_true rfl, Nat.le_of_ble_eq_true rfl⟩ xl9 rfl rfl rfl hl.1 (Nat.le_of_ble_eq_true rfl) dX7_piece_25 (fun H locs P => ?_)
  have h := Option.some.inj h
  exact g_iret C P (g_fst h) (g_snd h) dX7_piece_28
abbrev rmX7_at : Room := { frames := 1, cells := 0, slots := 0, locals := 22 }
theorem kdX7_at : yX7_at.cls = RX7 ∧ yX7_at.cls ≠ "java/lang/invoke/MethodHandle" ∧ yX7_at.cls ≠ "java/lang/invoke/VarHandle" ∧ (parseMethodDescriptor yX7_at.desc).map (fun d => d.parameters.length) = some 2 := by decide +kernel
set_option maxHeartbeats 4000000 in
set_option maxRecDepth 100000 in
theorem kX7_at (l : Launch) (X : gXt) (hJ : gJ X xL) (σ : gS) (a1 : Int32) (a2 : Int32) (q : Int32 × gS) (h : qF_at σ a1 a2 = some q) : gMi l yX7_at (gws yX7_at cX7_at 4 (some .int)) rmX7_at X xL [.ref (gad X 0), .int a1, .int a2] σ q.1 q.2 := by
  refine g_enter (cc := cX7_at) (nL := 4) (ret := (some .int)) hJ (plainFor_of_name (by decide)) (Nat.le_of_ble_eq_true rfl) ?_
  intro p e s m below meth c ls C P hl
  have C : gC p s m _ meth c RX7 cX7_at 4 (some .int) X xL := C
  have hx := C.1
  have hb := C.2.1
  have hK := C.2.2.2.2.2.2.2.1
  have hts := C.2.2.2.2.1
  have hl : lv_has ls 4 [(0, .ref (gad X 0)), (1, .int a1), (2, .int a2)] := hl
  unfold qF_at at h
  refine lv_aload_n hx hb dX7_at_0 rfl (lv_at hl 0 rfl) ?_
  refine g_getR C P xl0 rfl inlX7 0 (by decide) wd_15 rfl dX7_at_1 ?_
  refine lv_iload_n hx hb dX7_at_4 rfl (lv_at hl 1 rfl) ?_
  refine g_callVi (n := 1) (As := [.int a1]) (rest := []) C P (kX5_isBlock l X hJ σ a1 _ rfl) wd_638 wd_639 wd_640 wd_14 wd_641 rfl rfl kdX5_isBlock ⟨Nat.le_of_ble_eq_true rfl, Nat.le_of_ble_eq_true rfl⟩ xl1 rfl rfl rfl hl.1 (Nat.le_of_ble_eq_true rfl) dX7_at_5 (fun H locs P => ?_)
  refine lv_if_eq (tgt := 31) hx hb dX7_at_8 (by decide) (fun c1 => ?_) (fun c1 => ?_)
  · have h := g_ifp c1 h
    refine lv_iconst (v := 0) hx hb dX7_at_31 (by decide) ?_
    refine lv_istore_n (lv' := [(3, .int (0 : Int32)), (0, .ref (gad X 0)), (1, .int a1), (2, .int a2)]) hx hb dX7_at_32 rfl hl (by decide) rfl (fun ls hl => ?_)
    refine lv_aload_n hx hb dX7_at_33 rfl (lv_at hl 1 rfl) ?_
    refine g_getR C P xl0 rfl inlX7 5 (by decide) wd_35 rfl dX7_at_34 ?_
    refine lv_iload_n hx hb dX7_at_37 rfl (lv_at hl 0 rfl) ?_
    refine lv_if_eq (tgt := 53) hx hb dX7_at_38 (by decide) (fun c2 => ?_) (fun c2 => ?_)
    rotate_left
    · exact absurd (by decide) c2
    refine lv_bipush (v := -2) hx hb dX7_at_53 (by decide) ?_
    obtain ⟨r3, hr3, h⟩ := g_bind h
    refine g_callVi (n := 1) (As := [.int (-2 : Int32)]) (rest := []) C P (kX6_noted l X hJ σ (-2 : Int32) _ hr3) wd_165 wd_166 wd_167 wd_34 wd_168 rfl rfl kdX6_noted ⟨Nat.le_of_ble_eq_true rfl, Nat.le_of_ble_eq_true rfl⟩ xl96 rfl rfl rfl hl.1 (Nat.le_of_ble_eq_true rfl) dX7_at_55 (fun H locs P => ?_)
    have h := Option.some.inj h
    exact g_iret C P (g_fst h) (g_snd h) dX7_at_58
  have h := g_ifn c1 h
  refine lv_iload_n hx hb dX7_at_11 rfl (lv_at hl 2 rfl) ?_
  refine lv_if_lt (tgt := 31) hx hb dX7_at_12 (by decide) (fun c4 => ?_) (fun c4 => ?_)
  · have h := g_ifp c4 h
    refine lv_iconst (v := 0) hx hb dX7_at_31 (by decide) ?_
    refine lv_istore_n (lv' := [(3, .int (0 : Int32)), (0, .ref (gad X 0)), (1, .int a1), (2, .int a2)]) hx hb dX7_at_32 rfl hl (by decide) rfl (fun ls hl => ?_)
    refine lv_aload_n hx hb dX7_at_33 rfl (lv_at hl 1 rfl) ?_
    refine g_getR C P xl0 rfl inlX7 5 (by decide) wd_35 rfl dX7_at_34 ?_
    refine lv_iload_n hx hb dX7_at_37 rfl (lv_at hl 0 rfl) ?_
    refine lv_if_eq (tgt := 53) hx hb dX7_at_38 (by decide) (fun c5 => ?_) (fun c5 => ?_)
    rotate_left
    · exact absurd (by decide) c5
    refine lv_bipush (v := -2) hx hb dX7_at_53 (by decide) ?_
    obtain ⟨r6, hr6, h⟩ := g_bind h
    refine g_callVi (n := 1) (As := [.int (-2 : Int32)]) (rest := []) C P (kX6_noted l X hJ σ (-2 : Int32) _ hr6) wd_165 wd_166 wd_167 wd_34 wd_168 rfl rfl kdX6_noted ⟨Nat.le_of_ble_eq_true rfl, Nat.le_of_ble_eq_true rfl⟩ xl96 rfl rfl rfl hl.1 (Nat.le_of_ble_eq_true rfl) dX7_at_55 (fun H locs P => ?_)
    have h := Option.some.inj h
    exact g_iret C P (g_fst h) (g_snd h) dX7_at_58
  have h := g_ifn c4 h
  refine lv_iload_n hx hb dX7_at_15 rfl (lv_at hl 2 rfl) ?_
  refine lv_aload_n hx hb dX7_at_16 rfl (lv_at hl 0 rfl) ?_
  refine g_getR C P xl0 rfl inlX7 0 (by decide) wd_15 rfl dX7_at_17 ?_
  refine lv_iload_n hx hb dX7_at_20 rfl (lv_at hl 1 rfl) ?_
  obtain ⟨r7, hr7, h⟩ := g_bind h
  refine g_callVi (n := 1) (As := [.int a1]) (rest := [.int a2]) C P (kX5_sizeOf l X hJ σ a1 _ hr7) wd_682 wd_411 wd_412 wd_14 wd_413 rfl rfl kdX5_sizeOf ⟨Nat.le_of_ble_eq_true rfl, Nat.le_of_ble_eq_true rfl⟩ xl1 rfl rfl rfl hl.1 (Nat.le_of_ble_eq_true rfl) dX7_at_21 (fun H locs P => ?_)
  refine lv_icmp_ge (tgt := 31) hx hb dX7_at_24 (by decide) (fun c8 => ?_) (fun c8 => ?_)
  · have h := g_ifp c8 h
    refine lv_iconst (v := 0) hx hb dX7_at_31 (by decide) ?_
    refine lv_istore_n (lv' := [(3, .int (0 : Int32)), (0, .ref (gad X 0)), (1, .int a1), (2, .int a2)]) hx hb dX7_at_32 rfl hl (by decide) rfl (fun ls hl => ?_)
    refine lv_aload_n hx hb dX7_at_33 rfl (lv_at hl 1 rfl) ?_
    refine g_getR C P xl0 rfl inlX7 5 (by decide) wd_35 rfl dX7_at_34 ?_
    refine lv_iload_n hx hb dX7_at_37 rfl (lv_at hl 0 rfl) ?_
    refine lv_if_eq (tgt := 53) hx hb dX7_at_38 (by decide) (fun c9 => ?_) (fun c9 => ?_)
    rotate_left
    · exact absurd (by decide) c9
    refine lv_bipush (v := -2) hx hb dX7_at_53 (by decide) ?_
    obtain ⟨r10, hr10, h⟩ := g_bind h
    refine g_callVi (n := 1) (As := [.int (-2 : Int32)]) (rest := []) C P (kX6_noted l X hJ σ (-2 : Int32) _ hr10) wd_165 wd_166 wd_167 wd_34 wd_168 rfl rfl kdX6_noted ⟨Nat.le_of_ble_eq_true rfl, Nat.le_of_ble_eq_true rfl⟩ xl96 rfl rfl rfl hl.1 (Nat.le_of_ble_eq_true rfl) dX7_at_55 (fun H locs P => ?_)
    have h := Option.some.inj h
    exact g_iret C P (g_fst h) (g_snd h) dX7_at_58
  have h := g_ifn c8 h
  refine lv_iconst (v := 1) hx hb dX7_at_27 (by decide) ?_
  refine lv_goto (tgt := 32) hx hb dX7_at_28 (by decide) ?_
  refine lv_istore_n (lv' := [(3, .int (1 : Int32)), (0, .ref (gad X 0)), (1, .int a1), (2, .int a2)]) hx hb dX7_at_32 rfl hl (by decide) rfl (fun ls hl => ?_)
  refine lv_aload_n hx hb dX7_at_33 rfl (lv_at hl 1 rfl) ?_
  refine g_getR C P xl0 rfl inlX7 5 (by decide) wd_35 rfl dX7_at_34 ?_
  refine lv_iload_n hx hb dX7_at_37 rfl (lv_at hl 0 rfl) ?_
  refine lv_if_eq (tgt := 53) hx hb dX7_at_38 (by decide) (fun c11 => ?_) (fun c11 => ?_)
  · exact absurd c11 (by decide)
  refine lv_aload_n hx hb dX7_at_41 rfl (lv_at hl 1 rfl) ?_
  refine g_getR C P xl0 rfl inlX7 0 (by decide) wd_15 rfl dX7_at_42 ?_
  refine lv_iload_n hx hb dX7_at_45 rfl (lv_at hl 2 rfl) ?_
  refine lv_iload_n hx hb dX7_at_46 rfl (lv_at hl 3 rfl) ?_
  obtain ⟨r12, hr12, h⟩ := g_bind h
  refine g_callVi (n := 2) (As := [.int a1, .int a2]) (rest := [.ref (gad X 96)]) C P (kX5_cellAt l X hJ σ a1 a2 _ hr12) wd_683 wd_439 wd_440 wd_14 wd_441 rfl rfl kdX5_cellAt ⟨Nat.le_of_ble_eq_true rfl, Nat.le_of_ble_eq_true rfl⟩ xl1 rfl rfl rfl hl.1 (Nat.le_of_ble_eq_true rfl) dX7_at_47 (fun H locs P => ?_)
  refine lv_goto (tgt := 55) hx hb dX7_at_50 (by decide) ?_
  obtain ⟨r13, hr13, h⟩ := g_bind h
  refine g_callVi (n := 1) (As := [.int r12]) (rest := []) C P (kX6_noted l X hJ σ r12 _ hr13) wd_165 wd_166 wd_167 wd_34 wd_168 rfl rfl kdX6_noted ⟨Nat.le_of_ble_eq_true rfl, Nat.le_of_ble_eq_true rfl⟩ xl96 rfl rfl rfl hl.1 (Nat.le_of_ble_eq_true rfl) dX7_at_55 (fun H locs P => ?_)
  have h := Option.some.inj h
  exact g_iret C P (g_fst h) (g_snd h) dX7_at_58
abbrev rmX7_image : Room := { frames := 2, cells := 0, slots := 0, locals := 47 }
theorem kdX7_image : yX7_image.cls = RX7 ∧ yX7_image.cls ≠ "java/lang/invoke/MethodHandle" ∧ yX7_image.cls ≠ "java/lang/invoke/VarHandle" ∧ (parseMethodDescriptor yX7_image.desc).map (fun d => d.parameters.length) = some 2 := by decide +kernel
set_option maxHeartbeats 4000000 in
set_option maxRecDepth 100000 in
theorem kX7_image (l : Launch) (X : gXt) (hJ : gJ X xL) (σ : gS) (a1 : Int32) (a2 : Int32) (q : Int32 × gS) (h : qF_image σ a1 a2 = some q) : gMi l yX7_image (gws yX7_image cX7_image 3 (some .int)) rmX7_image X xL [.ref (gad X 0), .int a1, .int a2] σ q.1 q.2 := by
  refine g_enter (cc := cX7_image) (nL := 3) (ret := (some .int)) hJ (plainFor_of_name (by decide)) (Nat.le_of_ble_eq_true rfl) ?_
  intro p e s m below meth c ls C P hl
  have C : gC p s m _ meth c RX7 cX7_image 3 (some .int) X xL := C
  have hx := C.1
  have hb := C.2.1
  have hK := C.2.2.2.2.2.2.2.1
  have hts := C.2.2.2.2.1
  have hl : lv_has ls 3 [(0, .ref (gad X 0)), (1, .int a1), (2, .int a2)] := hl
  unfold qF_image at h
  refine lv_aload_n hx hb dX7_image_0 rfl (lv_at hl 0 rfl) ?_
  refine g_getR C P xl0 rfl inlX7 5 (by decide) wd_35 rfl dX7_image_1 ?_
  refine lv_aload_n hx hb dX7_image_4 rfl (lv_at hl 0 rfl) ?_
  refine g_getR C P xl0 rfl inlX7 0 (by decide) wd_15 rfl dX7_image_5 ?_
  refine lv_iload_n hx hb dX7_image_8 rfl (lv_at hl 1 rfl) ?_
  refine g_callVi (n := 1) (As := [.int a1]) (rest := [.ref (gad X 96)]) C P (kX5_isImage l X hJ σ a1 _ rfl) wd_692 wd_693 wd_694 wd_14 wd_695 rfl rfl kdX5_isImage ⟨Nat.le_of_ble_eq_true rfl, Nat.le_of_ble_eq_true rfl⟩ xl1 rfl rfl rfl hl.1 (Nat.le_of_ble_eq_true rfl) dX7_image_9 (fun H locs P => ?_)
  refine lv_if_eq (tgt := 30) hx hb dX7_image_12 (by decide) (fun c1 => ?_) (fun c1 => ?_)
  · have h := g_ifp c1 h
    refine lv_bipush (v := -2) hx hb dX7_image_30 (by decide) ?_
    obtain ⟨r2, hr2, h⟩ := g_bind h
    refine g_callVi (n := 1) (As := [.int (-2 : Int32)]) (rest := []) C P (kX6_noted l X hJ σ (-2 : Int32) _ hr2) wd_165 wd_166 wd_167 wd_34 wd_168 rfl rfl kdX6_noted ⟨Nat.le_of_ble_eq_true rfl, Nat.le_of_ble_eq_true rfl⟩ xl96 rfl rfl rfl hl.1 (Nat.le_of_ble_eq_true rfl) dX7_image_32 (fun H locs P => ?_)
    have h := Option.some.inj h
    exact g_iret C P (g_fst h) (g_snd h) dX7_image_35
  have h := g_ifn c1 h
  refine lv_aload_n hx hb dX7_image_15 rfl (lv_at hl 0 rfl) ?_
  refine g_getR C P xl0 rfl inlX7 1 (by decide) wd_19 rfl dX7_image_16 ?_
  refine lv_iload_n hx hb dX7_image_19 rfl (lv_at hl 1 rfl) ?_
  obtain ⟨r3, hr3, h⟩ := g_bind h
  refine g_callVr (n := 1) (As := [.int a1]) (rest := [.ref (gad X 96)]) C P (kX0_imageAt l X hJ σ a1 _ hr3) wd_696 wd_549 wd_550 wd_18 wd_551 rfl rfl kdX0_imageAt ⟨Nat.le_of_ble_eq_true rfl, Nat.le_of_ble_eq_true rfl⟩ xl9 rfl rfl rfl hl.1 (Nat.le_of_ble_eq_true rfl) dX7_image_20 (fun H locs P => ?_)
  obtain ⟨hk_r3, h⟩ := g_im h
  refine lv_iload_n hx hb dX7_image_23 rfl (lv_at hl 2 rfl) ?_
  obtain ⟨r4, hr4, h⟩ := g_bind h
  refine g_callVi (n := 1) (As := [.int a2]) (rest := [.ref (gad X 96)]) C P (kX1_property l X hJ σ r3 a2 hk_r3 _ hr4) wd_697 wd_698 wd_699 wd_56 wd_700 rfl rfl kdX1_property ⟨Nat.le_of_ble_eq_true rfl, Nat.le_of_ble_eq_true rfl⟩ hk_r3.1 rfl rfl rfl hl.1 (Nat.le_of_ble_eq_true rfl) dX7_image_24 (fun H locs P => ?_)
  refine lv_goto (tgt := 32) hx hb dX7_image_27 (by decide) ?_
  obtain ⟨r5, hr5, h⟩ := g_bind h
  refine g_callVi (n := 1) (As := [.int r4]) (rest := []) C P (kX6_noted l X hJ σ r4 _ hr5) wd_165 wd_166 wd_167 wd_34 wd_168 rfl rfl kdX6_noted ⟨Nat.le_of_ble_eq_true rfl, Nat.le_of_ble_eq_true rfl⟩ xl96 rfl rfl rfl hl.1 (Nat.le_of_ble_eq_true rfl) dX7_image_32 (fun H locs P => ?_)
  have h := Option.some.inj h
  exact g_iret C P (g_fst h) (g_snd h) dX7_image_35
abbrev rmX7_imaged : Room := { frames := 1, cells := 0, slots := 0, locals := 22 }
theorem kdX7_imaged : yX7_imaged.cls = RX7 ∧ yX7_imaged.cls ≠ "java/lang/invoke/MethodHandle" ∧ yX7_imaged.cls ≠ "java/lang/invoke/VarHandle" ∧ (parseMethodDescriptor yX7_imaged.desc).map (fun d => d.parameters.length) = some 3 := by decide +kernel
set_option maxHeartbeats 4000000 in
set_option maxRecDepth 100000 in
theorem kX7_imaged (l : Launch) (X : gXt) (hJ : gJ X xL) (σ : gS) (a1 : Int32) (a2 : Int32) (a3 : Int32) (q : Int32 × gS) (h : qF_imaged σ a1 a2 a3 = some q) : gMi l yX7_imaged (gws yX7_imaged cX7_imaged 5 (some .int)) rmX7_imaged X xL [.ref (gad X 0), .int a1, .int a2, .int a3] σ q.1 q.2 := by
  refine g_enter (cc := cX7_imaged) (nL := 5) (ret := (some .int)) hJ (plainFor_of_name (by decide)) (Nat.le_of_ble_eq_true rfl) ?_
  intro p e s m below meth c ls C P hl
  have C : gC p s m _ meth c RX7 cX7_imaged 5 (some .int) X xL := C
  have hx := C.1
  have hb := C.2.1
  have hK := C.2.2.2.2.2.2.2.1
  have hts := C.2.2.2.2.1
  have hl : lv_has ls 5 [(0, .ref (gad X 0)), (1, .int a1), (2, .int a2), (3, .int a3)] := hl
  unfold qF_imaged at h
  refine lv_aload_n hx hb dX7_imaged_0 rfl (lv_at hl 0 rfl) ?_
  refine g_getR C P xl0 rfl inlX7 0 (by decide) wd_15 rfl dX7_imaged_1 ?_
  refine lv_iload_n hx hb dX7_imaged_4 rfl (lv_at hl 1 rfl) ?_
  refine g_callVi (n := 1) (As := [.int a1]) (rest := []) C P (kX5_isImage l X hJ σ a1 _ rfl) wd_692 wd_693 wd_694 wd_14 wd_695 rfl rfl kdX5_isImage ⟨Nat.le_of_ble_eq_true rfl, Nat.le_of_ble_eq_true rfl⟩ xl1 rfl rfl rfl hl.1 (Nat.le_of_ble_eq_true rfl) dX7_imaged_5 (fun H locs P => ?_)
  refine lv_if_eq (tgt := 15) hx hb dX7_imaged_8 (by decide) (fun c1 => ?_) (fun c1 => ?_)
  · have h := g_ifp c1 h
    refine lv_aload_n hx hb dX7_imaged_15 rfl (lv_at hl 0 rfl) ?_
    refine g_getR C P xl0 rfl inlX7 5 (by decide) wd_35 rfl dX7_imaged_16 ?_
    refine lv_bipush (v := -2) hx hb dX7_imaged_19 (by decide) ?_
    obtain ⟨r2, hr2, h⟩ := g_bind h
    refine g_callVi (n := 1) (As := [.int (-2 : Int32)]) (rest := []) C P (kX6_noted l X hJ σ (-2 : Int32) _ hr2) wd_165 wd_166 wd_167 wd_34 wd_168 rfl rfl kdX6_noted ⟨Nat.le_of_ble_eq_true rfl, Nat.le_of_ble_eq_true rfl⟩ xl96 rfl rfl rfl hl.1 (Nat.le_of_ble_eq_true rfl) dX7_imaged_21 (fun H locs P => ?_)
    have h := Option.some.inj h
    exact g_iret C P (g_fst h) (g_snd h) dX7_imaged_24
  have h := g_ifn c1 h
  refine lv_iload_n hx hb dX7_imaged_11 rfl (lv_at hl 3 rfl) ?_
  refine lv_if_ge (tgt := 25) hx hb dX7_imaged_12 (by decide) (fun c3 => ?_) (fun c3 => ?_)
  · have h := g_ifp c3 h
    refine lv_aload_n hx hb dX7_imaged_25 rfl (lv_at hl 0 rfl) ?_
    refine g_getR C P xl0 rfl inlX7 1 (by decide) wd_19 rfl dX7_imaged_26 ?_
    refine lv_iload_n hx hb dX7_imaged_29 rfl (lv_at hl 1 rfl) ?_
    obtain ⟨r4, hr4, h⟩ := g_bind h
    refine g_callVr (n := 1) (As := [.int a1]) (rest := []) C P (kX0_imageAt l X hJ σ a1 _ hr4) wd_696 wd_549 wd_550 wd_18 wd_551 rfl rfl kdX0_imageAt ⟨Nat.le_of_ble_eq_true rfl, Nat.le_of_ble_eq_true rfl⟩ xl9 rfl rfl rfl hl.1 (Nat.le_of_ble_eq_true rfl) dX7_imaged_30 (fun H locs P => ?_)
    obtain ⟨hk_r4, h⟩ := g_im h
    refine lv_astore (lv' := [(4, .ref (gad X r4)), (0, .ref (gad X 0)), (1, .int a1), (2, .int a2), (3, .int a3)]) hx hb dX7_imaged_33 hl (by decide) rfl (fun ls hl => ?_)
    refine lv_aload hx hb dX7_imaged_35 (lv_at hl 0 rfl) ?_
    refine lv_iload_n hx hb dX7_imaged_37 rfl (lv_at hl 3 rfl) ?_
    refine g_callVi (n := 1) (As := [.int a2]) (rest := []) C P (kX1_isNode l X hJ σ r4 a2 hk_r4 _ rfl) wd_725 wd_726 wd_727 wd_56 wd_728 rfl rfl kdX1_isNode ⟨Nat.le_of_ble_eq_true rfl, Nat.le_of_ble_eq_true rfl⟩ hk_r4.1 rfl rfl rfl hl.1 (Nat.le_of_ble_eq_true rfl) dX7_imaged_38 (fun H locs P => ?_)
    refine lv_if_ne (tgt := 54) hx hb dX7_imaged_41 (by decide) (fun c5 => ?_) (fun c5 => ?_)
    · have h := g_ifn c5 h
      refine lv_iload_n hx hb dX7_imaged_54 rfl (lv_at hl 4 rfl) ?_
      refine lv_aload hx hb dX7_imaged_55 (lv_at hl 0 rfl) ?_
      refine lv_iload_n hx hb dX7_imaged_57 rfl (lv_at hl 3 rfl) ?_
      obtain ⟨r6, hr6, h⟩ := g_bind h
      refine g_callVi (n := 1) (As := [.int a2]) (rest := [.int a3]) C P (kX1_sizeOf l X hJ σ r4 a2 hk_r4 _ hr6) wd_729 wd_702 wd_703 wd_56 wd_704 rfl rfl kdX1_sizeOf ⟨Nat.le_of_ble_eq_true rfl, Nat.le_of_ble_eq_true rfl⟩ hk_r4.1 rfl rfl rfl hl.1 (Nat.le_of_ble_eq_true rfl) dX7_imaged_58 (fun H locs P => ?_)
      refine lv_icmp_ge (tgt := 74) hx hb dX7_imaged_61 (by decide) (fun c7 => ?_) (fun c7 => ?_)
      · have h := g_ifp c7 h
        refine lv_bipush (v := -5) hx hb dX7_imaged_74 (by decide) ?_
        have h := Option.some.inj h
        exact g_iret C P (g_fst h) (g_snd h) dX7_imaged_76
      have h := g_ifn c7 h
      refine lv_aload hx hb dX7_imaged_64 (lv_at hl 0 rfl) ?_
      refine lv_iload_n hx hb dX7_imaged_66 rfl (lv_at hl 3 rfl) ?_
      refine lv_iload_n hx hb dX7_imaged_67 rfl (lv_at hl 4 rfl) ?_
      obtain ⟨r8, hr8, h⟩ := g_bind h
      refine g_callVi (n := 2) (As := [.int a2, .int a3]) (rest := []) C P (kX1_cellAt l X hJ σ r4 a2 a3 hk_r4 _ hr8) wd_730 wd_706 wd_707 wd_56 wd_708 rfl rfl kdX1_cellAt ⟨Nat.le_of_ble_eq_true rfl, Nat.le_of_ble_eq_true rfl⟩ hk_r4.1 rfl rfl rfl hl.1 (Nat.le_of_ble_eq_true rfl) dX7_imaged_68 (fun H locs P => ?_)
      refine lv_goto (tgt := 76) hx hb dX7_imaged_71 (by decide) ?_
      have h := Option.some.inj h
      exact g_iret C P (g_fst h) (g_snd h) dX7_imaged_76
    have h := g_ifp c5 h
    refine lv_aload_n hx hb dX7_imaged_44 rfl (lv_at hl 1 rfl) ?_
    refine g_getR C P xl0 rfl inlX7 5 (by decide) wd_35 rfl dX7_imaged_45 ?_
    refine lv_bipush (v := -2) hx hb dX7_imaged_48 (by decide) ?_
    obtain ⟨r9, hr9, h⟩ := g_bind h
    refine g_callVi (n := 1) (As := [.int (-2 : Int32)]) (rest := []) C P (kX6_noted l X hJ σ (-2 : Int32) _ hr9) wd_165 wd_166 wd_167 wd_34 wd_168 rfl rfl kdX6_noted ⟨Nat.le_of_ble_eq_true rfl, Nat.le_of_ble_eq_true rfl⟩ xl96 rfl rfl rfl hl.1 (Nat.le_of_ble_eq_true rfl) dX7_imaged_50 (fun H locs P => ?_)
    have h := Option.some.inj h
    exact g_iret C P (g_fst h) (g_snd h) dX7_imaged_53
  have h := g_ifn c3 h
  refine lv_aload_n hx hb dX7_imaged_15 rfl (lv_at hl 0 rfl) ?_
  refine g_getR C P xl0 rfl inlX7 5 (by decide) wd_35 rfl dX7_imaged_16 ?_
  refine lv_bipush (v := -2) hx hb dX7_imaged_19 (by decide) ?_
  obtain ⟨r10, hr10, h⟩ := g_bind h
  refine g_callVi (n := 1) (As := [.int (-2 : Int32)]) (rest := []) C P (kX6_noted l X hJ σ (-2 : Int32) _ hr10) wd_165 wd_166 wd_167 wd_34 wd_168 rfl rfl kdX6_noted ⟨Nat.le_of_ble_eq_true rfl, Nat.le_of_ble_eq_true rfl⟩ xl96 rfl rfl rfl hl.1 (Nat.le_of_ble_eq_true rfl) dX7_imaged_21 (fun H locs P => ?_)
  have h := Option.some.inj h
  exact g_iret C P (g_fst h) (g_snd h) dX7_imaged_24
abbrev rmX7_like : Room := { frames := 3, cells := 0, slots := 0, locals := 69 }
theorem kdX7_like : yX7_like.cls = RX7 ∧ yX7_like.cls ≠ "java/lang/invoke/MethodHandle" ∧ yX7_like.cls ≠ "java/lang/invoke/VarHandle" ∧ (parseMethodDescriptor yX7_like.desc).map (fun d => d.parameters.length) = some 1 := by decide +kernel
set_option maxHeartbeats 4000000 in
set_option maxRecDepth 100000 in
theorem kX7_like (l : Launch) (X : gXt) (hJ : gJ X xL) (σ : gS) (a1 : Int32) (q : Int32 × gS) (h : qF_like σ a1 = some q) : gMi l yX7_like (gws yX7_like cX7_like 3 (some .int)) rmX7_like X xL [.ref (gad X 0), .int a1] σ q.1 q.2 := by
  refine g_enter (cc := cX7_like) (nL := 3) (ret := (some .int)) hJ (plainFor_of_name (by decide)) (Nat.le_of_ble_eq_true rfl) ?_
  intro p e s m below meth c ls C P hl
  have C : gC p s m _ meth c RX7 cX7_like 3 (some .int) X xL := C
  have hx := C.1
  have hb := C.2.1
  have hK := C.2.2.2.2.2.2.2.1
  have hts := C.2.2.2.2.1
  have hl : lv_has ls 3 [(0, .ref (gad X 0)), (1, .int a1)] := hl
  unfold qF_like at h
  refine lv_aload_n hx hb dX7_like_0 rfl (lv_at hl 0 rfl) ?_
  refine g_getR C P xl0 rfl inlX7 0 (by decide) wd_15 rfl dX7_like_1 ?_
  refine lv_iload_n hx hb dX7_like_4 rfl (lv_at hl 1 rfl) ?_
  refine g_callVi (n := 1) (As := [.int a1]) (rest := []) C P (kX5_isBlock l X hJ σ a1 _ rfl) wd_638 wd_639 wd_640 wd_14 wd_641 rfl rfl kdX5_isBlock ⟨Nat.le_of_ble_eq_true rfl, Nat.le_of_ble_eq_true rfl⟩ xl1 rfl rfl rfl hl.1 (Nat.le_of_ble_eq_true rfl) dX7_like_5 (fun H locs P => ?_)
  refine lv_if_ne (tgt := 21) hx hb dX7_like_8 (by decide) (fun c1 => ?_) (fun c1 => ?_)
  · have h := g_ifn c1 h
    refine lv_aload_n hx hb dX7_like_21 rfl (lv_at hl 0 rfl) ?_
    refine g_getR C P xl0 rfl inlX7 1 (by decide) wd_19 rfl dX7_like_22 ?_
    refine lv_aload_n hx hb dX7_like_25 rfl (lv_at hl 0 rfl) ?_
    refine g_getR C P xl0 rfl inlX7 0 (by decide) wd_15 rfl dX7_like_26 ?_
    refine lv_iload_n hx hb dX7_like_29 rfl (lv_at hl 1 rfl) ?_
    obtain ⟨r2, hr2, h⟩ := g_bind h
    refine g_callVi (n := 2) (As := [.ref (gad X 1), .int a1]) (rest := []) C P (kX0_reach l X hJ σ a1 _ hr2) wd_642 wd_524 wd_525 wd_18 wd_526 rfl rfl kdX0_reach ⟨Nat.le_of_ble_eq_true rfl, Nat.le_of_ble_eq_true rfl⟩ xl9 rfl rfl rfl hl.1 (Nat.le_of_ble_eq_true rfl) dX7_like_30 (fun H locs P => ?_)
    refine lv_pop hx hb dX7_like_33 rfl ?_
    refine lv_aload_n hx hb dX7_like_34 rfl (lv_at hl 0 rfl) ?_
    refine g_getR C P xl0 rfl inlX7 1 (by decide) wd_19 rfl dX7_like_35 ?_
    refine lv_aload_n hx hb dX7_like_38 rfl (lv_at hl 0 rfl) ?_
    refine g_getR C P xl0 rfl inlX7 0 (by decide) wd_15 rfl dX7_like_39 ?_
    obtain ⟨r3, hr3, h⟩ := g_bind h
    refine g_callVi (n := 1) (As := [.ref (gad X 1)]) (rest := []) C P (kX0_allReachedLive l X hJ r2.2 _ hr3) wd_740 wd_539 wd_540 wd_18 wd_541 rfl rfl kdX0_allReachedLive ⟨Nat.le_of_ble_eq_true rfl, Nat.le_of_ble_eq_true rfl⟩ xl9 rfl rfl rfl hl.1 (Nat.le_of_ble_eq_true rfl) dX7_like_42 (fun H locs P => ?_)
    refine lv_if_ne (tgt := 58) hx hb dX7_like_45 (by decide) (fun c4 => ?_) (fun c4 => ?_)
    · have h := g_ifn c4 h
      refine lv_aload_n hx hb dX7_like_58 rfl (lv_at hl 0 rfl) ?_
      refine g_getR C P xl0 rfl inlX7 1 (by decide) wd_19 rfl dX7_like_59 ?_
      refine lv_aload_n hx hb dX7_like_62 rfl (lv_at hl 0 rfl) ?_
      refine g_getR C P xl0 rfl inlX7 0 (by decide) wd_15 rfl dX7_like_63 ?_
      obtain ⟨r5, hr5, h⟩ := g_bind h
      refine g_callVv (n := 1) (As := [.ref (gad X 1)]) (rest := []) C P (kX0_draw l X hJ r2.2 _ hr5) wd_741 wd_544 wd_545 wd_18 wd_546 rfl rfl kdX0_draw ⟨Nat.le_of_ble_eq_true rfl, Nat.le_of_ble_eq_true rfl⟩ xl9 rfl rfl rfl hl.1 (Nat.le_of_ble_eq_true rfl) dX7_like_66 (fun H locs P => ?_)
      refine lv_aload_n hx hb dX7_like_69 rfl (lv_at hl 0 rfl) ?_
      refine g_getR C P xl0 rfl inlX7 1 (by decide) wd_19 rfl dX7_like_70 ?_
      refine lv_aload_n hx hb dX7_like_73 rfl (lv_at hl 0 rfl) ?_
      refine g_getR C P xl0 rfl inlX7 0 (by decide) wd_15 rfl dX7_like_74 ?_
      obtain ⟨r6, hr6, h⟩ := g_bind h
      refine g_callVi (n := 1) (As := [.ref (gad X 1)]) (rest := []) C P (kX0_indexOfDrawn l X hJ r5 _ hr6) wd_742 wd_570 wd_571 wd_18 wd_572 rfl rfl kdX0_indexOfDrawn ⟨Nat.le_of_ble_eq_true rfl, Nat.le_of_ble_eq_true rfl⟩ xl9 rfl rfl rfl hl.1 (Nat.le_of_ble_eq_true rfl) dX7_like_77 (fun H locs P => ?_)
      refine lv_istore_n (lv' := [(2, .int r6), (0, .ref (gad X 0)), (1, .int a1)]) hx hb dX7_like_80 rfl hl (by decide) rfl (fun ls hl => ?_)
      refine lv_iload_n hx hb dX7_like_81 rfl (lv_at hl 0 rfl) ?_
      refine lv_aload_n hx hb dX7_like_82 rfl (lv_at hl 1 rfl) ?_
      refine g_getR C P xl0 rfl inlX7 0 (by decide) wd_15 rfl dX7_like_83 ?_
      refine g_getI C P xl1 rfl inlX5 8 (by decide) wd_739 rfl dX7_like_86 ?_
      refine lv_icmp_ge (tgt := 96) hx hb dX7_like_89 (by decide) (fun c7 => ?_) (fun c7 => ?_)
      · have h := g_ifp c7 h
        refine lv_iconst (v := -1) hx hb dX7_like_96 (by decide) ?_
        have h := Option.some.inj h
        exact g_iret C P (g_fst h) (g_snd h) dX7_like_97
      have h := g_ifn c7 h
      refine lv_iload_n hx hb dX7_like_92 rfl (lv_at hl 0 rfl) ?_
      refine lv_goto (tgt := 97) hx hb dX7_like_93 (by decide) ?_
      have h := Option.some.inj h
      exact g_iret C P (g_fst h) (g_snd h) dX7_like_97
    have h := g_ifp c4 h
    refine lv_aload_n hx hb dX7_like_48 rfl (lv_at hl 0 rfl) ?_
    refine g_getR C P xl0 rfl inlX7 5 (by decide) wd_35 rfl dX7_like_49 ?_
    refine lv_bipush (v := -3) hx hb dX7_like_52 (by decide) ?_
    obtain ⟨r8, hr8, h⟩ := g_bind h
    refine g_callVi (n := 1) (As := [.int (-3 : Int32)]) (rest := []) C P (kX6_noted l X hJ r2.2 (-3 : Int32) _ hr8) wd_165 wd_166 wd_167 wd_34 wd_168 rfl rfl kdX6_noted ⟨Nat.le_of_ble_eq_true rfl, Nat.le_of_ble_eq_true rfl⟩ xl96 rfl rfl rfl hl.1 (Nat.le_of_ble_eq_true rfl) dX7_like_54 (fun H locs P => ?_)
    have h := Option.some.inj h
    exact g_iret C P (g_fst h) (g_snd h) dX7_like_57
  have h := g_ifp c1 h
  refine lv_aload_n hx hb dX7_like_11 rfl (lv_at hl 0 rfl) ?_
  refine g_getR C P xl0 rfl inlX7 5 (by decide) wd_35 rfl dX7_like_12 ?_
  refine lv_bipush (v := -2) hx hb dX7_like_15 (by decide) ?_
  obtain ⟨r9, hr9, h⟩ := g_bind h
  refine g_callVi (n := 1) (As := [.int (-2 : Int32)]) (rest := []) C P (kX6_noted l X hJ σ (-2 : Int32) _ hr9) wd_165 wd_166 wd_167 wd_34 wd_168 rfl rfl kdX6_noted ⟨Nat.le_of_ble_eq_true rfl, Nat.le_of_ble_eq_true rfl⟩ xl96 rfl rfl rfl hl.1 (Nat.le_of_ble_eq_true rfl) dX7_like_17 (fun H locs P => ?_)
  have h := Option.some.inj h
  exact g_iret C P (g_fst h) (g_snd h) dX7_like_20
abbrev rmX7_counted : Room := { frames := 2, cells := 0, slots := 0, locals := 43 }
theorem kdX7_counted : yX7_counted.cls = RX7 ∧ yX7_counted.cls ≠ "java/lang/invoke/MethodHandle" ∧ yX7_counted.cls ≠ "java/lang/invoke/VarHandle" ∧ (parseMethodDescriptor yX7_counted.desc).map (fun d => d.parameters.length) = some 1 := by decide +kernel
set_option maxHeartbeats 4000000 in
set_option maxRecDepth 100000 in
theorem kX7_counted (l : Launch) (X : gXt) (hJ : gJ X xL) (σ : gS) (a1 : Int32) (q : Int32) (h : qF_counted σ a1 = some q) : gMi l yX7_counted (gws yX7_counted cX7_counted 2 (some .int)) rmX7_counted X xL [.ref (gad X 0), .int a1] σ q σ := by
  refine g_enter (cc := cX7_counted) (nL := 2) (ret := (some .int)) hJ (plainFor_of_name (by decide)) (Nat.le_of_ble_eq_true rfl) ?_
  intro p e s m below meth c ls C P hl
  have C : gC p s m _ meth c RX7 cX7_counted 2 (some .int) X xL := C
  have hx := C.1
  have hb := C.2.1
  have hK := C.2.2.2.2.2.2.2.1
  have hts := C.2.2.2.2.1
  have hl : lv_has ls 2 [(0, .ref (gad X 0)), (1, .int a1)] := hl
  unfold qF_counted at h
  refine lv_iload_n hx hb dX7_counted_0 rfl (lv_at hl 1 rfl) ?_
  by_cases cs0 : a1 = (0 : Int32)
  · have h := g_ifp cs0 h
    refine lv_tableIn (off := 55) (tgt := 56) hx hb dX7_counted_1 (by rw [cs0]; decide) (by rw [cs0]; decide) (by rw [cs0]; rfl) (by decide) ?_
    refine lv_aload_n hx hb dX7_counted_56 rfl (lv_at hl 0 rfl) ?_
    refine g_getR C P xl0 rfl inlX7 0 (by decide) wd_15 rfl dX7_counted_57 ?_
    refine g_getI C P xl1 rfl inlX5 7 (by decide) wd_755 rfl dX7_counted_60 ?_
    have h := Option.some.inj h
    exact g_iret C P h rfl dX7_counted_63
  have h := g_ifn cs0 h
  by_cases cs1 : a1 = (1 : Int32)
  · have h := g_ifp cs1 h
    refine lv_tableIn (off := 63) (tgt := 64) hx hb dX7_counted_1 (by rw [cs1]; decide) (by rw [cs1]; decide) (by rw [cs1]; rfl) (by decide) ?_
    refine lv_aload_n hx hb dX7_counted_64 rfl (lv_at hl 0 rfl) ?_
    refine g_getR C P xl0 rfl inlX7 0 (by decide) wd_15 rfl dX7_counted_65 ?_
    refine g_getI C P xl1 rfl inlX5 8 (by decide) wd_739 rfl dX7_counted_68 ?_
    have h := Option.some.inj h
    exact g_iret C P h rfl dX7_counted_71
  have h := g_ifn cs1 h
  by_cases cs2 : a1 = (2 : Int32)
  · have h := g_ifp cs2 h
    refine lv_tableIn (off := 71) (tgt := 72) hx hb dX7_counted_1 (by rw [cs2]; decide) (by rw [cs2]; decide) (by rw [cs2]; rfl) (by decide) ?_
    refine lv_aload_n hx hb dX7_counted_72 rfl (lv_at hl 0 rfl) ?_
    refine g_getR C P xl0 rfl inlX7 0 (by decide) wd_15 rfl dX7_counted_73 ?_
    obtain ⟨r1, hr1, h⟩ := g_bind h
    refine g_callVi (n := 0) (As := []) (rest := []) C P (kX5_liveBlocks l X hJ σ _ hr1) wd_762 wd_763 wd_764 wd_14 wd_765 rfl rfl kdX5_liveBlocks ⟨Nat.le_of_ble_eq_true rfl, Nat.le_of_ble_eq_true rfl⟩ xl1 rfl rfl rfl hl.1 (Nat.le_of_ble_eq_true rfl) dX7_counted_76 (fun H locs P => ?_)
    have h := Option.some.inj h
    exact g_iret C P h rfl dX7_counted_79
  have h := g_ifn cs2 h
  by_cases cs3 : a1 = (3 : Int32)
  · have h := g_ifp cs3 h
    refine lv_tableIn (off := 79) (tgt := 80) hx hb dX7_counted_1 (by rw [cs3]; decide) (by rw [cs3]; decide) (by rw [cs3]; rfl) (by decide) ?_
    refine lv_aload_n hx hb dX7_counted_80 rfl (lv_at hl 0 rfl) ?_
    refine g_getR C P xl0 rfl inlX7 0 (by decide) wd_15 rfl dX7_counted_81 ?_
    refine g_getI C P xl1 rfl inlX5 9 (by decide) wd_756 rfl dX7_counted_84 ?_
    have h := Option.some.inj h
    exact g_iret C P h rfl dX7_counted_87
  have h := g_ifn cs3 h
  by_cases cs4 : a1 = (4 : Int32)
  · have h := g_ifp cs4 h
    refine lv_tableIn (off := 87) (tgt := 88) hx hb dX7_counted_1 (by rw [cs4]; decide) (by rw [cs4]; decide) (by rw [cs4]; rfl) (by decide) ?_
    refine lv_aload_n hx hb dX7_counted_88 rfl (lv_at hl 0 rfl) ?_
    refine g_getR C P xl0 rfl inlX7 5 (by decide) wd_35 rfl dX7_counted_89 ?_
    refine g_getI C P xl96 rfl inlX6 1 (by decide) wd_757 rfl dX7_counted_92 ?_
    have h := Option.some.inj h
    exact g_iret C P h rfl dX7_counted_95
  have h := g_ifn cs4 h
  by_cases cs5 : a1 = (5 : Int32)
  · have h := g_ifp cs5 h
    refine lv_tableIn (off := 95) (tgt := 96) hx hb dX7_counted_1 (by rw [cs5]; decide) (by rw [cs5]; decide) (by rw [cs5]; rfl) (by decide) ?_
    refine lv_aload_n hx hb dX7_counted_96 rfl (lv_at hl 0 rfl) ?_
    refine g_getR C P xl0 rfl inlX7 5 (by decide) wd_35 rfl dX7_counted_97 ?_
    refine g_getI C P xl96 rfl inlX6 2 (by decide) wd_758 rfl dX7_counted_100 ?_
    have h := Option.some.inj h
    exact g_iret C P h rfl dX7_counted_103
  have h := g_ifn cs5 h
  by_cases cs6 : a1 = (6 : Int32)
  · have h := g_ifp cs6 h
    refine lv_tableIn (off := 103) (tgt := 104) hx hb dX7_counted_1 (by rw [cs6]; decide) (by rw [cs6]; decide) (by rw [cs6]; rfl) (by decide) ?_
    refine lv_aload_n hx hb dX7_counted_104 rfl (lv_at hl 0 rfl) ?_
    refine g_getR C P xl0 rfl inlX7 5 (by decide) wd_35 rfl dX7_counted_105 ?_
    refine g_getI C P xl96 rfl inlX6 3 (by decide) wd_759 rfl dX7_counted_108 ?_
    have h := Option.some.inj h
    exact g_iret C P h rfl dX7_counted_111
  have h := g_ifn cs6 h
  by_cases cs7 : a1 = (7 : Int32)
  · have h := g_ifp cs7 h
    refine lv_tableIn (off := 111) (tgt := 112) hx hb dX7_counted_1 (by rw [cs7]; decide) (by rw [cs7]; decide) (by rw [cs7]; rfl) (by decide) ?_
    refine lv_aload_n hx hb dX7_counted_112 rfl (lv_at hl 0 rfl) ?_
    refine g_getR C P xl0 rfl inlX7 5 (by decide) wd_35 rfl dX7_counted_113 ?_
    obtain ⟨r2, hr2, h⟩ := g_bind h
    refine g_callVi (n := 0) (As := []) (rest := []) C P (kX6_ofAllReasons l X hJ σ _ hr2) wd_767 wd_768 wd_769 wd_34 wd_770 rfl rfl kdX6_ofAllReasons ⟨Nat.le_of_ble_eq_true rfl, Nat.le_of_ble_eq_true rfl⟩ xl96 rfl rfl rfl hl.1 (Nat.le_of_ble_eq_true rfl) dX7_counted_116 (fun H locs P => ?_)
    have h := Option.some.inj h
    exact g_iret C P h rfl dX7_counted_119
  have h := g_ifn cs7 h
  by_cases cs8 : a1 = (8 : Int32)
  · have h := g_ifp cs8 h
    refine lv_tableIn (off := 119) (tgt := 120) hx hb dX7_counted_1 (by rw [cs8]; decide) (by rw [cs8]; decide) (by rw [cs8]; rfl) (by decide) ?_
    refine lv_aload_n hx hb dX7_counted_120 rfl (lv_at hl 0 rfl) ?_
    refine g_getR C P xl0 rfl inlX7 3 (by decide) wd_27 rfl dX7_counted_121 ?_
    refine g_getI C P xl42 rfl inlX4 3 (by decide) wd_760 rfl dX7_counted_124 ?_
    have h := Option.some.inj h
    exact g_iret C P h rfl dX7_counted_127
  have h := g_ifn cs8 h
  by_cases cs9 : a1 = (9 : Int32)
  · have h := g_ifp cs9 h
    refine lv_tableIn (off := 127) (tgt := 128) hx hb dX7_counted_1 (by rw [cs9]; decide) (by rw [cs9]; decide) (by rw [cs9]; rfl) (by decide) ?_
    refine lv_aload_n hx hb dX7_counted_128 rfl (lv_at hl 0 rfl) ?_
    refine g_getR C P xl0 rfl inlX7 4 (by decide) wd_31 rfl dX7_counted_129 ?_
    refine g_getI C P xl46 rfl inlX3 2 (by decide) wd_761 rfl dX7_counted_132 ?_
    have h := Option.some.inj h
    exact g_iret C P h rfl dX7_counted_135
  have h := g_ifn cs9 h
  refine lv_tableOut (tgt := 136) hx hb dX7_counted_1 (by have e0 := lv_neT cs0 (a := 0) rfl; have e1 := lv_neT cs1 (a := 1) rfl; have e2 := lv_neT cs2 (a := 2) rfl; have e3 := lv_neT cs3 (a := 3) rfl; have e4 := lv_neT cs4 (a := 4) rfl; have e5 := lv_neT cs5 (a := 5) rfl; have e6 := lv_neT cs6 (a := 6) rfl; have e7 := lv_neT cs7 (a := 7) rfl; have e8 := lv_neT cs8 (a := 8) rfl; have e9 := lv_neT cs9 (a := 9) rfl; omega) (by decide) ?_
  refine lv_bipush (v := -2) hx hb dX7_counted_136 (by decide) ?_
  have h := Option.some.inj h
  exact g_iret C P h rfl dX7_counted_138
abbrev rmX7_count : Room := { frames := 3, cells := 0, slots := 0, locals := 64 }
theorem kdX7_count : yX7_count.cls = RX7 ∧ yX7_count.cls ≠ "java/lang/invoke/MethodHandle" ∧ yX7_count.cls ≠ "java/lang/invoke/VarHandle" ∧ (parseMethodDescriptor yX7_count.desc).map (fun d => d.parameters.length) = some 1 := by decide +kernel
set_option maxHeartbeats 4000000 in
set_option maxRecDepth 100000 in
theorem kX7_count (l : Launch) (X : gXt) (hJ : gJ X xL) (σ : gS) (a1 : Int32) (q : Int32 × gS) (h : qF_count σ a1 = some q) : gMi l yX7_count (gws yX7_count cX7_count 2 (some .int)) rmX7_count X xL [.ref (gad X 0), .int a1] σ q.1 q.2 := by
  refine g_enter (cc := cX7_count) (nL := 2) (ret := (some .int)) hJ (plainFor_of_name (by decide)) (Nat.le_of_ble_eq_true rfl) ?_
  intro p e s m below meth c ls C P hl
  have C : gC p s m _ meth c RX7 cX7_count 2 (some .int) X xL := C
  have hx := C.1
  have hb := C.2.1
  have hK := C.2.2.2.2.2.2.2.1
  have hts := C.2.2.2.2.1
  have hl : lv_has ls 2 [(0, .ref (gad X 0)), (1, .int a1)] := hl
  unfold qF_count at h
  refine lv_aload_n hx hb dX7_count_0 rfl (lv_at hl 0 rfl) ?_
  refine g_getR C P xl0 rfl inlX7 5 (by decide) wd_35 rfl dX7_count_1 ?_
  refine lv_aload_n hx hb dX7_count_4 rfl (lv_at hl 0 rfl) ?_
  refine lv_iload_n hx hb dX7_count_5 rfl (lv_at hl 1 rfl) ?_
  obtain ⟨r1, hr1, h⟩ := g_bind h
  refine g_callVi (n := 1) (As := [.int a1]) (rest := [.ref (gad X 96)]) C P (kX7_counted l X hJ σ a1 _ hr1) wd_751 wd_752 wd_753 wd_2 wd_754 rfl rfl kdX7_counted ⟨Nat.le_of_ble_eq_true rfl, Nat.le_of_ble_eq_true rfl⟩ xl0 rfl rfl rfl hl.1 (Nat.le_of_ble_eq_true rfl) dX7_count_6 (fun H locs P => ?_)
  obtain ⟨r2, hr2, h⟩ := g_bind h
  refine g_callVi (n := 1) (As := [.int r1]) (rest := []) C P (kX6_noted l X hJ σ r1 _ hr2) wd_165 wd_166 wd_167 wd_34 wd_168 rfl rfl kdX6_noted ⟨Nat.le_of_ble_eq_true rfl, Nat.le_of_ble_eq_true rfl⟩ xl96 rfl rfl rfl hl.1 (Nat.le_of_ble_eq_true rfl) dX7_count_9 (fun H locs P => ?_)
  have h := Option.some.inj h
  exact g_iret C P (g_fst h) (g_snd h) dX7_count_12
abbrev rmX7_undefined : Room := { frames := 1, cells := 0, slots := 0, locals := 22 }
theorem kdX7_undefined : yX7_undefined.cls = RX7 ∧ yX7_undefined.cls ≠ "java/lang/invoke/MethodHandle" ∧ yX7_undefined.cls ≠ "java/lang/invoke/VarHandle" ∧ (parseMethodDescriptor yX7_undefined.desc).map (fun d => d.parameters.length) = some 1 := by decide +kernel
set_option maxHeartbeats 4000000 in
set_option maxRecDepth 100000 in
theorem kX7_undefined (l : Launch) (X : gXt) (hJ : gJ X xL) (σ : gS) (a1 : Int32) (q : Int32 × gS) (h : qF_undefined σ a1 = some q) : gMi l yX7_undefined (gws yX7_undefined cX7_undefined 2 (some .int)) rmX7_undefined X xL [.ref (gad X 0), .int a1] σ q.1 q.2 := by
  refine g_enter (cc := cX7_undefined) (nL := 2) (ret := (some .int)) hJ (plainFor_of_name (by decide)) (Nat.le_of_ble_eq_true rfl) ?_
  intro p e s m below meth c ls C P hl
  have C : gC p s m _ meth c RX7 cX7_undefined 2 (some .int) X xL := C
  have hx := C.1
  have hb := C.2.1
  have hK := C.2.2.2.2.2.2.2.1
  have hts := C.2.2.2.2.1
  have hl : lv_has ls 2 [(0, .ref (gad X 0)), (1, .int a1)] := hl
  unfold qF_undefined at h
  refine lv_aload_n hx hb dX7_undefined_0 rfl (lv_at hl 0 rfl) ?_
  refine g_getR C P xl0 rfl inlX7 5 (by decide) wd_35 rfl dX7_undefined_1 ?_
  refine lv_aload_n hx hb dX7_undefined_4 rfl (lv_at hl 0 rfl) ?_
  refine g_getR C P xl0 rfl inlX7 5 (by decide) wd_35 rfl dX7_undefined_5 ?_
  refine lv_iload_n hx hb dX7_undefined_8 rfl (lv_at hl 1 rfl) ?_
  obtain ⟨r1, hr1, h⟩ := g_bind h
  refine g_callVi (n := 1) (As := [.int a1]) (rest := [.ref (gad X 96)]) C P (kX6_ofReason l X hJ σ a1 _ hr1) wd_788 wd_789 wd_790 wd_34 wd_791 rfl rfl kdX6_ofReason ⟨Nat.le_of_ble_eq_true rfl, Nat.le_of_ble_eq_true rfl⟩ xl96 rfl rfl rfl hl.1 (Nat.le_of_ble_eq_true rfl) dX7_undefined_9 (fun H locs P => ?_)
  obtain ⟨r2, hr2, h⟩ := g_bind h
  refine g_callVi (n := 1) (As := [.int r1]) (rest := []) C P (kX6_noted l X hJ σ r1 _ hr2) wd_165 wd_166 wd_167 wd_34 wd_168 rfl rfl kdX6_noted ⟨Nat.le_of_ble_eq_true rfl, Nat.le_of_ble_eq_true rfl⟩ xl96 rfl rfl rfl hl.1 (Nat.le_of_ble_eq_true rfl) dX7_undefined_12 (fun H locs P => ?_)
  have h := Option.some.inj h
  exact g_iret C P (g_fst h) (g_snd h) dX7_undefined_15
abbrev rmX7_type : Room := { frames := 1, cells := 0, slots := 0, locals := 22 }
theorem kdX7_type : yX7_type.cls = RX7 ∧ yX7_type.cls ≠ "java/lang/invoke/MethodHandle" ∧ yX7_type.cls ≠ "java/lang/invoke/VarHandle" ∧ (parseMethodDescriptor yX7_type.desc).map (fun d => d.parameters.length) = some 1 := by decide +kernel
set_option maxHeartbeats 4000000 in
set_option maxRecDepth 100000 in
theorem kX7_type (l : Launch) (X : gXt) (hJ : gJ X xL) (σ : gS) (a1 : Int32) (q : Int32 × gS) (h : qF_type σ a1 = some q) : gMi l yX7_type (gws yX7_type cX7_type 2 (some .int)) rmX7_type X xL [.ref (gad X 0), .int a1] σ q.1 q.2 := by
  refine g_enter (cc := cX7_type) (nL := 2) (ret := (some .int)) hJ (plainFor_of_name (by decide)) (Nat.le_of_ble_eq_true rfl) ?_
  intro p e s m below meth c ls C P hl
  have C : gC p s m _ meth c RX7 cX7_type 2 (some .int) X xL := C
  have hx := C.1
  have hb := C.2.1
  have hK := C.2.2.2.2.2.2.2.1
  have hts := C.2.2.2.2.1
  have hl : lv_has ls 2 [(0, .ref (gad X 0)), (1, .int a1)] := hl
  unfold qF_type at h
  refine lv_aload_n hx hb dX7_type_0 rfl (lv_at hl 0 rfl) ?_
  refine g_getR C P xl0 rfl inlX7 5 (by decide) wd_35 rfl dX7_type_1 ?_
  refine lv_aload_n hx hb dX7_type_4 rfl (lv_at hl 0 rfl) ?_
  refine g_getR C P xl0 rfl inlX7 3 (by decide) wd_27 rfl dX7_type_5 ?_
  refine lv_iload_n hx hb dX7_type_8 rfl (lv_at hl 1 rfl) ?_
  obtain ⟨r1, hr1, h⟩ := g_bind h
  refine g_callVi (n := 1) (As := [.int a1]) (rest := [.ref (gad X 96)]) C P (kX4_append l X hJ σ a1 _ hr1) wd_800 wd_801 wd_802 wd_26 wd_803 rfl rfl kdX4_append ⟨Nat.le_of_ble_eq_true rfl, Nat.le_of_ble_eq_true rfl⟩ xl42 rfl rfl rfl hl.1 (Nat.le_of_ble_eq_true rfl) dX7_type_9 (fun H locs P => ?_)
  obtain ⟨r2, hr2, h⟩ := g_bind h
  refine g_callVi (n := 1) (As := [.int r1.1]) (rest := []) C P (kX6_noted l X hJ r1.2 r1.1 _ hr2) wd_165 wd_166 wd_167 wd_34 wd_168 rfl rfl kdX6_noted ⟨Nat.le_of_ble_eq_true rfl, Nat.le_of_ble_eq_true rfl⟩ xl96 rfl rfl rfl hl.1 (Nat.le_of_ble_eq_true rfl) dX7_type_12 (fun H locs P => ?_)
  have h := Option.some.inj h
  exact g_iret C P (g_fst h) (g_snd h) dX7_type_15
abbrev rmX7_clear : Room := { frames := 1, cells := 0, slots := 0, locals := 21 }
theorem kdX7_clear : yX7_clear.cls = RX7 ∧ yX7_clear.cls ≠ "java/lang/invoke/MethodHandle" ∧ yX7_clear.cls ≠ "java/lang/invoke/VarHandle" ∧ (parseMethodDescriptor yX7_clear.desc).map (fun d => d.parameters.length) = some 0 := by decide +kernel
set_option maxHeartbeats 4000000 in
set_option maxRecDepth 100000 in
theorem kX7_clear (l : Launch) (X : gXt) (hJ : gJ X xL) (σ : gS) (q : Int32 × gS) (h : qF_clear σ = some q) : gMi l yX7_clear (gws yX7_clear cX7_clear 1 (some .int)) rmX7_clear X xL [.ref (gad X 0)] σ q.1 q.2 := by
  refine g_enter (cc := cX7_clear) (nL := 1) (ret := (some .int)) hJ (plainFor_of_name (by decide)) (Nat.le_of_ble_eq_true rfl) ?_
  intro p e s m below meth c ls C P hl
  have C : gC p s m _ meth c RX7 cX7_clear 1 (some .int) X xL := C
  have hx := C.1
  have hb := C.2.1
  have hK := C.2.2.2.2.2.2.2.1
  have hts := C.2.2.2.2.1
  have hl : lv_has ls 1 [(0, .ref (gad X 0))] := hl
  unfold qF_clear at h
  refine lv_aload_n hx hb dX7_clear_0 rfl (lv_at hl 0 rfl) ?_
  refine g_getR C P xl0 rfl inlX7 3 (by decide) wd_27 rfl dX7_clear_1 ?_
  obtain ⟨r1, hr1, h⟩ := g_bind h
  refine g_callVi (n := 0) (As := []) (rest := []) C P (kX4_empty l X hJ σ _ hr1) wd_813 wd_814 wd_815 wd_26 wd_816 rfl rfl kdX4_empty ⟨Nat.le_of_ble_eq_true rfl, Nat.le_of_ble_eq_true rfl⟩ xl42 rfl rfl rfl hl.1 (Nat.le_of_ble_eq_true rfl) dX7_clear_4 (fun H locs P => ?_)
  have h := Option.some.inj h
  exact g_iret C P (g_fst h) (g_snd h) dX7_clear_7
abbrev rmX7_does : Room := { frames := 6, cells := 0, slots := 0, locals := 146 }
theorem kdX7_does : yX7_does.cls = RX7 ∧ yX7_does.cls ≠ "java/lang/invoke/MethodHandle" ∧ yX7_does.cls ≠ "java/lang/invoke/VarHandle" ∧ (parseMethodDescriptor yX7_does.desc).map (fun d => d.parameters.length) = some 0 := by decide +kernel
set_option maxHeartbeats 4000000 in
set_option maxRecDepth 100000 in
theorem kX7_does (l : Launch) (X : gXt) (hJ : gJ X xL) (σ : gS) (q : Int32 × gS) (h : qF_does σ = some q) : gMi l yX7_does (gws yX7_does cX7_does 3 (some .int)) rmX7_does X xL [.ref (gad X 0)] σ q.1 q.2 := by
  refine g_enter (cc := cX7_does) (nL := 3) (ret := (some .int)) hJ (plainFor_of_name (by decide)) (Nat.le_of_ble_eq_true rfl) ?_
  intro p e s m below meth c ls C P hl
  have C : gC p s m _ meth c RX7 cX7_does 3 (some .int) X xL := C
  have hx := C.1
  have hb := C.2.1
  have hK := C.2.2.2.2.2.2.2.1
  have hts := C.2.2.2.2.1
  have hl : lv_has ls 3 [(0, .ref (gad X 0))] := hl
  unfold qF_does at h
  refine lv_aload_n hx hb dX7_does_0 rfl (lv_at hl 0 rfl) ?_
  refine g_getR C P xl0 rfl inlX7 3 (by decide) wd_27 rfl dX7_does_1 ?_
  obtain ⟨r1, hr1, h⟩ := g_bind h
  refine g_callVi (n := 0) (As := []) (rest := []) C P (kX4_parse l X hJ σ _ hr1) wd_825 wd_826 wd_827 wd_26 wd_828 rfl rfl kdX4_parse ⟨Nat.le_of_ble_eq_true rfl, Nat.le_of_ble_eq_true rfl⟩ xl42 rfl rfl rfl hl.1 (Nat.le_of_ble_eq_true rfl) dX7_does_4 (fun H locs P => ?_)
  refine lv_istore_n (lv' := [(1, .int r1.1), (0, .ref (gad X 0))]) hx hb dX7_does_7 rfl hl (by decide) rfl (fun ls hl => ?_)
  refine lv_iload_n hx hb dX7_does_8 rfl (lv_at hl 0 rfl) ?_
  refine lv_if_lt (tgt := 17) hx hb dX7_does_9 (by decide) (fun c2 => ?_) (fun c2 => ?_)
  · have h := g_ifp c2 h
    refine lv_aload_n hx hb dX7_does_17 rfl (lv_at hl 1 rfl) ?_
    refine g_getR C P xl0 rfl inlX7 4 (by decide) wd_31 rfl dX7_does_18 ?_
    refine lv_aload_n hx hb dX7_does_21 rfl (lv_at hl 1 rfl) ?_
    refine g_getR C P xl0 rfl inlX7 0 (by decide) wd_15 rfl dX7_does_22 ?_
    obtain ⟨r3, hr3, h⟩ := g_bind h
    refine g_callVv (n := 1) (As := [.ref (gad X 1)]) (rest := []) C P (kX3_stage l X hJ r1.2 _ hr3) wd_110 wd_111 wd_112 wd_30 wd_113 rfl rfl kdX3_stage ⟨Nat.le_of_ble_eq_true rfl, Nat.le_of_ble_eq_true rfl⟩ xl46 rfl rfl rfl hl.1 (Nat.le_of_ble_eq_true rfl) dX7_does_25 (fun H locs P => ?_)
    refine lv_aload_n hx hb dX7_does_28 rfl (lv_at hl 1 rfl) ?_
    refine g_getR C P xl0 rfl inlX7 3 (by decide) wd_27 rfl dX7_does_29 ?_
    refine lv_aload_n hx hb dX7_does_32 rfl (lv_at hl 1 rfl) ?_
    refine g_getR C P xl0 rfl inlX7 2 (by decide) wd_23 rfl dX7_does_33 ?_
    refine lv_aload_n hx hb dX7_does_36 rfl (lv_at hl 1 rfl) ?_
    refine g_getR C P xl0 rfl inlX7 0 (by decide) wd_15 rfl dX7_does_37 ?_
    refine g_getI C P xl1 rfl inlX5 9 (by decide) wd_756 rfl dX7_does_40 ?_
    obtain ⟨r4, hr4, h⟩ := g_bind h
    refine g_callVi (n := 2) (As := [.ref (gad X 40), .int (gI r3 1 9)]) (rest := []) C P (kX4_run l X hJ r3 (gI r3 1 9) _ hr4) wd_866 wd_867 wd_868 wd_26 wd_869 rfl rfl kdX4_run ⟨Nat.le_of_ble_eq_true rfl, Nat.le_of_ble_eq_true rfl⟩ xl42 rfl rfl rfl hl.1 (Nat.le_of_ble_eq_true rfl) dX7_does_43 (fun H locs P => ?_)
    refine lv_istore_n (lv' := [(2, .int r4.1), (1, .int r1.1), (0, .ref (gad X 0))]) hx hb dX7_does_46 rfl hl (by decide) rfl (fun ls hl => ?_)
    refine lv_iload_n hx hb dX7_does_47 rfl (lv_at hl 0 rfl) ?_
    refine lv_if_lt (tgt := 61) hx hb dX7_does_48 (by decide) (fun c5 => ?_) (fun c5 => ?_)
    · have h := g_ifp c5 h
      refine lv_aload_n hx hb dX7_does_61 rfl (lv_at hl 2 rfl) ?_
      refine g_getR C P xl0 rfl inlX7 4 (by decide) wd_31 rfl dX7_does_62 ?_
      refine lv_aload_n hx hb dX7_does_65 rfl (lv_at hl 2 rfl) ?_
      refine g_getR C P xl0 rfl inlX7 0 (by decide) wd_15 rfl dX7_does_66 ?_
      obtain ⟨r6, hr6, h⟩ := g_bind h
      refine g_callVv (n := 1) (As := [.ref (gad X 1)]) (rest := []) C P (kX3_undo l X hJ r4.2 _ hr6) wd_899 wd_900 wd_901 wd_30 wd_902 rfl rfl kdX3_undo ⟨Nat.le_of_ble_eq_true rfl, Nat.le_of_ble_eq_true rfl⟩ xl46 rfl rfl rfl hl.1 (Nat.le_of_ble_eq_true rfl) dX7_does_69 (fun H locs P => ?_)
      refine lv_iload_n hx hb dX7_does_72 rfl (lv_at hl 0 rfl) ?_
      have h := Option.some.inj h
      exact g_iret C P (g_fst h) (g_snd h) dX7_does_73
    have h := g_ifn c5 h
    refine lv_aload_n hx hb dX7_does_51 rfl (lv_at hl 2 rfl) ?_
    refine g_getR C P xl0 rfl inlX7 4 (by decide) wd_31 rfl dX7_does_52 ?_
    obtain ⟨r7, hr7, h⟩ := g_bind h
    refine g_callVv (n := 0) (As := []) (rest := []) C P (kX3_keep l X hJ r4.2 _ hr7) wd_160 wd_161 wd_162 wd_30 wd_163 rfl rfl kdX3_keep ⟨Nat.le_of_ble_eq_true rfl, Nat.le_of_ble_eq_true rfl⟩ xl46 rfl rfl rfl hl.1 (Nat.le_of_ble_eq_true rfl) dX7_does_55 (fun H locs P => ?_)
    refine lv_goto (tgt := 72) hx hb dX7_does_58 (by decide) ?_
    refine lv_iload_n hx hb dX7_does_72 rfl (lv_at hl 0 rfl) ?_
    have h := Option.some.inj h
    exact g_iret C P (g_fst h) (g_snd h) dX7_does_73
  have h := g_ifn c2 h
  refine lv_bipush (v := -10) hx hb dX7_does_12 (by decide) ?_
  refine lv_iload_n hx hb dX7_does_14 rfl (lv_at hl 0 rfl) ?_
  refine lv_isub hx hb dX7_does_15 ?_
  have h := Option.some.inj h
  exact g_iret C P (g_fst h) (g_snd h) dX7_does_16
abbrev rmX7_back : Room := { frames := 3, cells := 0, slots := 0, locals := 63 }
theorem kdX7_back : yX7_back.cls = RX7 ∧ yX7_back.cls ≠ "java/lang/invoke/MethodHandle" ∧ yX7_back.cls ≠ "java/lang/invoke/VarHandle" ∧ (parseMethodDescriptor yX7_back.desc).map (fun d => d.parameters.length) = some 0 := by decide +kernel
set_option maxHeartbeats 4000000 in
set_option maxRecDepth 100000 in
theorem kX7_back (l : Launch) (X : gXt) (hJ : gJ X xL) (σ : gS) (q : Int32 × gS) (h : qF_back σ = some q) : gMi l yX7_back (gws yX7_back cX7_back 1 (some .int)) rmX7_back X xL [.ref (gad X 0)] σ q.1 q.2 := by
  refine g_enter (cc := cX7_back) (nL := 1) (ret := (some .int)) hJ (plainFor_of_name (by decide)) (Nat.le_of_ble_eq_true rfl) ?_
  intro p e s m below meth c ls C P hl
  have C : gC p s m _ meth c RX7 cX7_back 1 (some .int) X xL := C
  have hx := C.1
  have hb := C.2.1
  have hK := C.2.2.2.2.2.2.2.1
  have hts := C.2.2.2.2.1
  have hl : lv_has ls 1 [(0, .ref (gad X 0))] := hl
  unfold qF_back at h
  refine lv_aload_n hx hb dX7_back_0 rfl (lv_at hl 0 rfl) ?_
  refine g_getR C P xl0 rfl inlX7 5 (by decide) wd_35 rfl dX7_back_1 ?_
  refine lv_aload_n hx hb dX7_back_4 rfl (lv_at hl 0 rfl) ?_
  refine g_getR C P xl0 rfl inlX7 4 (by decide) wd_31 rfl dX7_back_5 ?_
  refine lv_aload_n hx hb dX7_back_8 rfl (lv_at hl 0 rfl) ?_
  refine g_getR C P xl0 rfl inlX7 0 (by decide) wd_15 rfl dX7_back_9 ?_
  obtain ⟨r1, hr1, h⟩ := g_bind h
  refine g_callVi (n := 1) (As := [.ref (gad X 1)]) (rest := [.ref (gad X 96)]) C P (kX3_bringBack l X hJ σ _ hr1) wd_957 wd_958 wd_959 wd_30 wd_960 rfl rfl kdX3_bringBack ⟨Nat.le_of_ble_eq_true rfl, Nat.le_of_ble_eq_true rfl⟩ xl46 rfl rfl rfl hl.1 (Nat.le_of_ble_eq_true rfl) dX7_back_12 (fun H locs P => ?_)
  obtain ⟨r2, hr2, h⟩ := g_bind h
  refine g_callVi (n := 1) (As := [.int r1.1]) (rest := []) C P (kX6_noted l X hJ r1.2 r1.1 _ hr2) wd_165 wd_166 wd_167 wd_34 wd_168 rfl rfl kdX6_noted ⟨Nat.le_of_ble_eq_true rfl, Nat.le_of_ble_eq_true rfl⟩ xl96 rfl rfl rfl hl.1 (Nat.le_of_ble_eq_true rfl) dX7_back_15 (fun H locs P => ?_)
  have h := Option.some.inj h
  exact g_iret C P (g_fst h) (g_snd h) dX7_back_18
abbrev rmX7_mixed : Room := { frames := 0, cells := 0, slots := 0, locals := 0 }
theorem kdX7_mixed : yX7_mixed.cls = RX7 ∧ yX7_mixed.cls ≠ "java/lang/invoke/MethodHandle" ∧ yX7_mixed.cls ≠ "java/lang/invoke/VarHandle" ∧ (parseMethodDescriptor yX7_mixed.desc).map (fun d => d.parameters.length) = some 2 := by decide +kernel
set_option maxHeartbeats 4000000 in
set_option maxRecDepth 100000 in
theorem kX7_mixed (l : Launch) (X : gXt) (hJ : gJ X xL) (σ : gS) (a1 : Int64) (a2 : Int32) (q : Int64) (h : qF_mixed a1 a2 = q) : gMl l yX7_mixed (gws yX7_mixed cX7_mixed 3 (some .long)) rmX7_mixed X xL [.long a1, .int a2] σ q σ := by
  refine g_enter (cc := cX7_mixed) (nL := 3) (ret := (some .long)) hJ (plainFor_of_name (by decide)) (Nat.le_of_ble_eq_true rfl) ?_
  intro p e s m below meth c ls C P hl
  have C : gC p s m _ meth c RX7 cX7_mixed 3 (some .long) X xL := C
  have hx := C.1
  have hb := C.2.1
  have hK := C.2.2.2.2.2.2.2.1
  have hts := C.2.2.2.2.1
  have hl : lv_has ls 3 [(0, .long a1), (2, .int a2)] := hl
  unfold qF_mixed at h
  refine lv_ldc2 (v := 31) hx hb C.2.2.2.1 (hts _ wd_973) dX7_mixed_0 ?_
  refine lv_lload_n hx hb dX7_mixed_3 rfl (lv_at hl 0 rfl) ?_
  refine lv_lmul hx hb dX7_mixed_4 ?_
  refine lv_iload_n hx hb dX7_mixed_5 rfl (lv_at hl 1 rfl) ?_
  refine lv_i2l hx hb dX7_mixed_6 rfl ?_
  refine lv_ladd hx hb dX7_mixed_7 ?_
  exact g_lret C P h rfl dX7_mixed_8
abbrev rmX7_digestOfBlock : Room := { frames := 3, cells := 0, slots := 0, locals := 67 }
theorem kdX7_digestOfBlock : yX7_digestOfBlock.cls = RX7 ∧ yX7_digestOfBlock.cls ≠ "java/lang/invoke/MethodHandle" ∧ yX7_digestOfBlock.cls ≠ "java/lang/invoke/VarHandle" ∧ (parseMethodDescriptor yX7_digestOfBlock.desc).map (fun d => d.parameters.length) = some 2 := by decide +kernel
set_option maxHeartbeats 4000000 in
set_option maxRecDepth 100000 in
theorem kX7_digestOfBlock_6 {p : Program} {l : Launch} {e : Env} {s : State} {m : MethodId} {args : Array Value} {below : List Frame} {meth : Method} {c : Code} {X : gXt} (hJ : gJ X xL) (C : gC p s m args meth c RX7 cX7_digestOfBlock 7 (some .long) X xL) (σ : gS) (f6_3 : Int32) (k : Int64 → Option Int64) (q : Int64) (hk : ∀ (x4 : Int64) (H : Heap) (locs : List Loc) (ls : Array Slot), k x4 = some q → gH X xL σ s H locs → lv_has ls 7 [(0, .ref (gad X 0)), (3, .int f6_3), (4, .long x4)] → W p l e rmX7_digestOfBlock s m args below meth c H locs 0 0 (MQ below (gQl X xL q σ) args s 0 0 (gA X xL)) (F0 m 35 ls [])) : ∀ (n : Nat) (v4 : Int64) (v6 : Int32), qF_digestOfBlock_6 σ f6_3 k n v4 v6 = some q → ∀ (H : Heap) (locs : List Loc) (ls : Array Slot), gH X xL σ s H locs → lv_has ls 7 [(0, .ref (gad X 0)), (3, .int f6_3), (4, .long v4), (6, .int v6)] → W p l e rmX7_digestOfBlock s m args below meth c H locs 0 0 (MQ below (gQl X xL q σ) args s 0 0 (gA X xL)) (F0 m 6 ls []) := by
  have hx := C.1
  have hb := C.2.1
  have hK := C.2.2.2.2.2.2.2.1
  have hts := C.2.2.2.2.1
  intro n
  induction n with
  | zero => intro v4 v6 h; cases h
  | succ n ih =>
    intro v4 v6 h H locs ls P hl
    have h : (if (4 : Int32) < v6 then k v4 else (qS_blockProperty σ f6_3 v6).bind (fun r2 => qF_digestOfBlock_6 σ f6_3 k n (qF_mixed v4 r2) (v6 + 1))) = some q := h
    refine lv_iload hx hb dX7_digestOfBlock_6 (lv_at hl 3 rfl) ?_
    refine lv_iconst (v := 4) hx hb dX7_digestOfBlock_8 (by decide) ?_
    refine lv_icmp_gt (tgt := 35) hx hb dX7_digestOfBlock_9 (by decide) (fun c1 => ?_) (fun c1 => ?_)
    · have h := g_ifp c1 h
      exact hk v4 _ _ _ h P (lv_sub hl [0, 1, 2] rfl)
    have h := g_ifn c1 h
    refine lv_lload hx hb dX7_digestOfBlock_12 (lv_at hl 2 rfl) ?_
    refine lv_aload_n hx hb dX7_digestOfBlock_14 rfl (lv_at hl 0 rfl) ?_
    refine g_getR C P xl0 rfl inlX7 0 (by decide) wd_15 rfl dX7_digestOfBlock_15 ?_
    refine lv_iload_n hx hb dX7_digestOfBlock_18 rfl (lv_at hl 1 rfl) ?_
    refine lv_iload hx hb dX7_digestOfBlock_19 (lv_at hl 3 rfl) ?_
    obtain ⟨r2, hr2, h⟩ := g_bind h
    refine g_callVi (n := 2) (As := [.int f6_3, .int v6]) (rest := [.long v4]) C P (kX5_blockProperty l X hJ σ f6_3 v6 _ hr2) wd_643 wd_644 wd_645 wd_14 wd_646 rfl rfl kdX5_blockProperty ⟨Nat.le_of_ble_eq_true rfl, Nat.le_of_ble_eq_true rfl⟩ xl1 rfl rfl rfl hl.1 (Nat.le_of_ble_eq_true rfl) dX7_digestOfBlock_21 (fun H locs P => ?_)
    refine g_callSl (n := 2) (As := [.long v4, .int r2]) (rest := []) C P (kX7_mixed l X hJ σ v4 r2 _ rfl) wd_970 wd_971 wd_2 wd_972 rfl rfl kdX7_mixed.2 ⟨Nat.le_of_ble_eq_true rfl, Nat.le_of_ble_eq_true rfl⟩ rfl rfl hl.1 (Nat.le_of_ble_eq_true rfl) dX7_digestOfBlock_24 (fun H locs P => ?_)
    refine lv_lstore (lv' := [(4, .long (qF_mixed v4 r2)), (0, .ref (gad X 0)), (3, .int f6_3), (6, .int v6)]) hx hb dX7_digestOfBlock_27 hl (by decide) rfl (fun ls hl => ?_)
    refine lv_iinc (v := (v6 + 1)) (lv' := [(6, .int (v6 + 1)), (4, .long (qF_mixed v4 r2)), (0, .ref (gad X 0)), (3, .int f6_3)]) hx hb dX7_digestOfBlock_29 hl (k := 3) rfl rfl (by decide) rfl (fun ls hl => ?_)
    refine lv_goto (tgt := 6) hx hb dX7_digestOfBlock_32 (by decide) ?_
    exact ih (qF_mixed v4 r2) (v6 + 1) h _ _ _ P (lv_sub hl [2, 3, 1, 0] rfl)
set_option maxHeartbeats 4000000 in
set_option maxRecDepth 100000 in
theorem kX7_digestOfBlock_38 {p : Program} {l : Launch} {e : Env} {s : State} {m : MethodId} {args : Array Value} {below : List Frame} {meth : Method} {c : Code} {X : gXt} (hJ : gJ X xL) (C : gC p s m args meth c RX7 cX7_digestOfBlock 7 (some .long) X xL) (σ : gS) (f38_3 : Int32) (k : Int64 → Option Int64) (q : Int64) (hk : ∀ (x4 : Int64) (H : Heap) (locs : List Loc) (ls : Array Slot), k x4 = some q → gH X xL σ s H locs → lv_has ls 7 [(4, .long x4)] → W p l e rmX7_digestOfBlock s m args below meth c H locs 0 0 (MQ below (gQl X xL q σ) args s 0 0 (gA X xL)) (F0 m 74 ls [])) : ∀ (n : Nat) (v4 : Int64) (v6 : Int32), qF_digestOfBlock_38 σ f38_3 k n v4 v6 = some q → ∀ (H : Heap) (locs : List Loc) (ls : Array Slot), gH X xL σ s H locs → lv_has ls 7 [(0, .ref (gad X 0)), (3, .int f38_3), (4, .long v4), (6, .int v6)] → W p l e rmX7_digestOfBlock s m args below meth c H locs 0 0 (MQ below (gQl X xL q σ) args s 0 0 (gA X xL)) (F0 m 38 ls []) := by
  have hx := C.1
  have hb := C.2.1
  have hK := C.2.2.2.2.2.2.2.1
  have hts := C.2.2.2.2.1
  intro n
  induction n with
  | zero => intro v4 v6 h; cases h
  | succ n ih =>
    intro v4 v6 h H locs ls P hl
    have h : (qS_sizeOf σ f38_3).bind (fun r4 => (if r4 ≤ v6 then k v4 else (qS_cellAt σ f38_3 v6).bind (fun r6 => qF_digestOfBlock_38 σ f38_3 k n (qF_mixed v4 r6) (v6 + 1)))) = some q := h
    refine lv_iload hx hb dX7_digestOfBlock_38 (lv_at hl 3 rfl) ?_
    refine lv_aload_n hx hb dX7_digestOfBlock_40 rfl (lv_at hl 0 rfl) ?_
    refine g_getR C P xl0 rfl inlX7 0 (by decide) wd_15 rfl dX7_digestOfBlock_41 ?_
    refine lv_iload_n hx hb dX7_digestOfBlock_44 rfl (lv_at hl 1 rfl) ?_
    obtain ⟨r4, hr4, h⟩ := g_bind h
    refine g_callVi (n := 1) (As := [.int f38_3]) (rest := [.int v6]) C P (kX5_sizeOf l X hJ σ f38_3 _ hr4) wd_682 wd_411 wd_412 wd_14 wd_413 rfl rfl kdX5_sizeOf ⟨Nat.le_of_ble_eq_true rfl, Nat.le_of_ble_eq_true rfl⟩ xl1 rfl rfl rfl hl.1 (Nat.le_of_ble_eq_true rfl) dX7_digestOfBlock_45 (fun H locs P => ?_)
    refine lv_icmp_ge (tgt := 74) hx hb dX7_digestOfBlock_48 (by decide) (fun c5 => ?_) (fun c5 => ?_)
    · have h := g_ifp c5 h
      exact hk v4 _ _ _ h P (lv_sub hl [2] rfl)
    have h := g_ifn c5 h
    refine lv_lload hx hb dX7_digestOfBlock_51 (lv_at hl 2 rfl) ?_
    refine lv_aload_n hx hb dX7_digestOfBlock_53 rfl (lv_at hl 0 rfl) ?_
    refine g_getR C P xl0 rfl inlX7 0 (by decide) wd_15 rfl dX7_digestOfBlock_54 ?_
    refine lv_iload_n hx hb dX7_digestOfBlock_57 rfl (lv_at hl 1 rfl) ?_
    refine lv_iload hx hb dX7_digestOfBlock_58 (lv_at hl 3 rfl) ?_
    obtain ⟨r6, hr6, h⟩ := g_bind h
    refine g_callVi (n := 2) (As := [.int f38_3, .int v6]) (rest := [.long v4]) C P (kX5_cellAt l X hJ σ f38_3 v6 _ hr6) wd_683 wd_439 wd_440 wd_14 wd_441 rfl rfl kdX5_cellAt ⟨Nat.le_of_ble_eq_true rfl, Nat.le_of_ble_eq_true rfl⟩ xl1 rfl rfl rfl hl.1 (Nat.le_of_ble_eq_true rfl) dX7_digestOfBlock_60 (fun H locs P => ?_)
    refine g_callSl (n := 2) (As := [.long v4, .int r6]) (rest := []) C P (kX7_mixed l X hJ σ v4 r6 _ rfl) wd_970 wd_971 wd_2 wd_972 rfl rfl kdX7_mixed.2 ⟨Nat.le_of_ble_eq_true rfl, Nat.le_of_ble_eq_true rfl⟩ rfl rfl hl.1 (Nat.le_of_ble_eq_true rfl) dX7_digestOfBlock_63 (fun H locs P => ?_)
    refine lv_lstore (lv' := [(4, .long (qF_mixed v4 r6)), (0, .ref (gad X 0)), (3, .int f38_3), (6, .int v6)]) hx hb dX7_digestOfBlock_66 hl (by decide) rfl (fun ls hl => ?_)
    refine lv_iinc (v := (v6 + 1)) (lv' := [(6, .int (v6 + 1)), (4, .long (qF_mixed v4 r6)), (0, .ref (gad X 0)), (3, .int f38_3)]) hx hb dX7_digestOfBlock_68 hl (k := 3) rfl rfl (by decide) rfl (fun ls hl => ?_)
    refine lv_goto (tgt := 38) hx hb dX7_digestOfBlock_71 (by decide) ?_
    exact ih (qF_mixed v4 r6) (v6 + 1) h _ _ _ P (lv_sub hl [2, 3, 1, 0] rfl)
set_option maxHeartbeats 4000000 in
set_option maxRecDepth 100000 in
theorem kX7_digestOfBlock (l : Launch) (X : gXt) (hJ : gJ X xL) (σ : gS) (a1 : Int64) (a2 : Int32) (q : Int64) (h : qF_digestOfBlock σ a1 a2 = some q) : gMl l yX7_digestOfBlock (gws yX7_digestOfBlock cX7_digestOfBlock 7 (some .long)) rmX7_digestOfBlock X xL [.ref (gad X 0), .long a1, .int a2] σ q σ := by
  refine g_enter (cc := cX7_digestOfBlock) (nL := 7) (ret := (some .long)) hJ (plainFor_of_name (by decide)) (Nat.le_of_ble_eq_true rfl) ?_
  intro p e s m below meth c ls C P hl
  have C : gC p s m _ meth c RX7 cX7_digestOfBlock 7 (some .long) X xL := C
  have hx := C.1
  have hb := C.2.1
  have hK := C.2.2.2.2.2.2.2.1
  have hts := C.2.2.2.2.1
  have hl : lv_has ls 7 [(0, .ref (gad X 0)), (1, .long a1), (3, .int a2)] := hl
  unfold qF_digestOfBlock at h
  refine lv_lload_n hx hb dX7_digestOfBlock_0 rfl (lv_at hl 1 rfl) ?_
  refine lv_lstore (lv' := [(4, .long a1), (0, .ref (gad X 0)), (1, .long a1), (3, .int a2)]) hx hb dX7_digestOfBlock_1 hl (by decide) rfl (fun ls hl => ?_)
  refine lv_iconst (v := 0) hx hb dX7_digestOfBlock_3 (by decide) ?_
  refine lv_istore (lv' := [(6, .int (0 : Int32)), (4, .long a1), (0, .ref (gad X 0)), (1, .long a1), (3, .int a2)]) hx hb dX7_digestOfBlock_4 hl (by decide) rfl (fun ls hl => ?_)
  refine kX7_digestOfBlock_6 hJ C σ a2 _ _ ?_ _ _ _ h _ _ _ P (lv_sub hl [2, 4, 1, 0] rfl)
  intro x3 H locs ls h P hl
  refine lv_iconst (v := 0) hx hb dX7_digestOfBlock_35 (by decide) ?_
  refine lv_istore (lv' := [(6, .int (0 : Int32)), (0, .ref (gad X 0)), (3, .int a2), (4, .long x3)]) hx hb dX7_digestOfBlock_36 hl (by decide) rfl (fun ls hl => ?_)
  refine kX7_digestOfBlock_38 hJ C σ a2 _ _ ?_ _ _ _ h _ _ _ P (lv_sub hl [1, 2, 3, 0] rfl)
  intro x7 H locs ls h P hl
  refine lv_lload hx hb dX7_digestOfBlock_74 (lv_at hl 0 rfl) ?_
  have h := Option.some.inj h
  exact g_lret C P h rfl dX7_digestOfBlock_76
abbrev rmX7_digestOfImage : Room := { frames := 2, cells := 0, slots := 0, locals := 47 }
theorem kdX7_digestOfImage : yX7_digestOfImage.cls = RX7 ∧ yX7_digestOfImage.cls ≠ "java/lang/invoke/MethodHandle" ∧ yX7_digestOfImage.cls ≠ "java/lang/invoke/VarHandle" ∧ (parseMethodDescriptor yX7_digestOfImage.desc).map (fun d => d.parameters.length) = some 2 := by decide +kernel
set_option maxHeartbeats 4000000 in
set_option maxRecDepth 100000 in
theorem kX7_digestOfImage_16 {p : Program} {l : Launch} {e : Env} {s : State} {m : MethodId} {args : Array Value} {below : List Frame} {meth : Method} {c : Code} {X : gXt} (hJ : gJ X xL) (C : gC p s m args meth c RX7 cX7_digestOfImage 9 (some .long) X xL) (σ : gS) (k16_6 : Nat) (hk_k16_6 : gIm k16_6) (k : Int64 → Option Int64) (q : Int64) (hk : ∀ (x4 : Int64) (H : Heap) (locs : List Loc) (ls : Array Slot), k x4 = some q → gH X xL σ s H locs → lv_has ls 9 [(4, .long x4), (6, .ref (gad X k16_6))] → W p l e rmX7_digestOfImage s m args below meth c H locs 0 0 (MQ below (gQl X xL q σ) args s 0 0 (gA X xL)) (F0 m 42 ls [])) : ∀ (n : Nat) (v4 : Int64) (v7 : Int32), qF_digestOfImage_16 σ k16_6 k n v4 v7 = some q → ∀ (H : Heap) (locs : List Loc) (ls : Array Slot), gH X xL σ s H locs → lv_has ls 9 [(4, .long v4), (6, .ref (gad X k16_6)), (7, .int v7)] → W p l e rmX7_digestOfImage s m args below meth c H locs 0 0 (MQ below (gQl X xL q σ) args s 0 0 (gA X xL)) (F0 m 16 ls []) := by
  have hx := C.1
  have hb := C.2.1
  have hK := C.2.2.2.2.2.2.2.1
  have hts := C.2.2.2.2.1
  intro n
  induction n with
  | zero => intro v4 v7 h; cases h
  | succ n ih =>
    intro v4 v7 h H locs ls P hl
    have h : (if (2 : Int32) < v7 then k v4 else (qI_property σ k16_6 v7).bind (fun r3 => qF_digestOfImage_16 σ k16_6 k n (qF_mixed v4 r3) (v7 + 1))) = some q := h
    refine lv_iload hx hb dX7_digestOfImage_16 (lv_at hl 2 rfl) ?_
    refine lv_iconst (v := 2) hx hb dX7_digestOfImage_18 (by decide) ?_
    refine lv_icmp_gt (tgt := 42) hx hb dX7_digestOfImage_19 (by decide) (fun c2 => ?_) (fun c2 => ?_)
    · have h := g_ifp c2 h
      exact hk v4 _ _ _ h P (lv_sub hl [0, 1] rfl)
    have h := g_ifn c2 h
    refine lv_lload hx hb dX7_digestOfImage_22 (lv_at hl 0 rfl) ?_
    refine lv_aload hx hb dX7_digestOfImage_24 (lv_at hl 1 rfl) ?_
    refine lv_iload hx hb dX7_digestOfImage_26 (lv_at hl 2 rfl) ?_
    obtain ⟨r3, hr3, h⟩ := g_bind h
    refine g_callVi (n := 1) (As := [.int v7]) (rest := [.long v4]) C P (kX1_property l X hJ σ k16_6 v7 hk_k16_6 _ hr3) wd_697 wd_698 wd_699 wd_56 wd_700 rfl rfl kdX1_property ⟨Nat.le_of_ble_eq_true rfl, Nat.le_of_ble_eq_true rfl⟩ hk_k16_6.1 rfl rfl rfl hl.1 (Nat.le_of_ble_eq_true rfl) dX7_digestOfImage_28 (fun H locs P => ?_)
    refine g_callSl (n := 2) (As := [.long v4, .int r3]) (rest := []) C P (kX7_mixed l X hJ σ v4 r3 _ rfl) wd_970 wd_971 wd_2 wd_972 rfl rfl kdX7_mixed.2 ⟨Nat.le_of_ble_eq_true rfl, Nat.le_of_ble_eq_true rfl⟩ rfl rfl hl.1 (Nat.le_of_ble_eq_true rfl) dX7_digestOfImage_31 (fun H locs P => ?_)
    refine lv_lstore (lv' := [(4, .long (qF_mixed v4 r3)), (6, .ref (gad X k16_6)), (7, .int v7)]) hx hb dX7_digestOfImage_34 hl (by decide) rfl (fun ls hl => ?_)
    refine lv_iinc (v := (v7 + 1)) (lv' := [(7, .int (v7 + 1)), (4, .long (qF_mixed v4 r3)), (6, .ref (gad X k16_6))]) hx hb dX7_digestOfImage_36 hl (k := 2) rfl rfl (by decide) rfl (fun ls hl => ?_)
    refine lv_goto (tgt := 16) hx hb dX7_digestOfImage_39 (by decide) ?_
    exact ih (qF_mixed v4 r3) (v7 + 1) h _ _ _ P (lv_sub hl [1, 2, 0] rfl)
set_option maxHeartbeats 4000000 in
set_option maxRecDepth 100000 in
theorem kX7_digestOfImage_58 {p : Program} {l : Launch} {e : Env} {s : State} {m : MethodId} {args : Array Value} {below : List Frame} {meth : Method} {c : Code} {X : gXt} (hJ : gJ X xL) (C : gC p s m args meth c RX7 cX7_digestOfImage 9 (some .long) X xL) (σ : gS) (k58_6 : Nat) (f58_7 : Int32) (hk_k58_6 : gIm k58_6) (k : Int64 → Option Int64) (q : Int64) (hk : ∀ (x4 : Int64) (H : Heap) (locs : List Loc) (ls : Array Slot), k x4 = some q → gH X xL σ s H locs → lv_has ls 9 [(4, .long x4), (6, .ref (gad X k58_6)), (7, .int f58_7)] → W p l e rmX7_digestOfImage s m args below meth c H locs 0 0 (MQ below (gQl X xL q σ) args s 0 0 (gA X xL)) (F0 m 92 ls [])) : ∀ (n : Nat) (v4 : Int64) (v8 : Int32), qF_digestOfImage_58 σ k58_6 f58_7 k n v4 v8 = some q → ∀ (H : Heap) (locs : List Loc) (ls : Array Slot), gH X xL σ s H locs → lv_has ls 9 [(4, .long v4), (6, .ref (gad X k58_6)), (7, .int f58_7), (8, .int v8)] → W p l e rmX7_digestOfImage s m args below meth c H locs 0 0 (MQ below (gQl X xL q σ) args s 0 0 (gA X xL)) (F0 m 58 ls []) := by
  have hx := C.1
  have hb := C.2.1
  have hK := C.2.2.2.2.2.2.2.1
  have hts := C.2.2.2.2.1
  intro n
  induction n with
  | zero => intro v4 v8 h; cases h
  | succ n ih =>
    intro v4 v8 h H locs ls P hl
    have h : (qI_sizeOf σ k58_6 f58_7).bind (fun r6 => (if r6 ≤ v8 then k v4 else (qI_cellAt σ k58_6 f58_7 v8).bind (fun r8 => qF_digestOfImage_58 σ k58_6 f58_7 k n (qF_mixed v4 r8) (v8 + 1)))) = some q := h
    refine lv_iload hx hb dX7_digestOfImage_58 (lv_at hl 3 rfl) ?_
    refine lv_aload hx hb dX7_digestOfImage_60 (lv_at hl 1 rfl) ?_
    refine lv_iload hx hb dX7_digestOfImage_62 (lv_at hl 2 rfl) ?_
    obtain ⟨r6, hr6, h⟩ := g_bind h
    refine g_callVi (n := 1) (As := [.int f58_7]) (rest := [.int v8]) C P (kX1_sizeOf l X hJ σ k58_6 f58_7 hk_k58_6 _ hr6) wd_729 wd_702 wd_703 wd_56 wd_704 rfl rfl kdX1_sizeOf ⟨Nat.le_of_ble_eq_true rfl, Nat.le_of_ble_eq_true rfl⟩ hk_k58_6.1 rfl rfl rfl hl.1 (Nat.le_of_ble_eq_true rfl) dX7_digestOfImage_64 (fun H locs P => ?_)
    refine lv_icmp_ge (tgt := 92) hx hb dX7_digestOfImage_67 (by decide) (fun c7 => ?_) (fun c7 => ?_)
    · have h := g_ifp c7 h
      exact hk v4 _ _ _ h P (lv_sub hl [0, 1, 2] rfl)
    have h := g_ifn c7 h
    refine lv_lload hx hb dX7_digestOfImage_70 (lv_at hl 0 rfl) ?_
    refine lv_aload hx hb dX7_digestOfImage_72 (lv_at hl 1 rfl) ?_
    refine lv_iload hx hb dX7_digestOfImage_74 (lv_at hl 2 rfl) ?_
    refine lv_iload hx hb dX7_digestOfImage_76 (lv_at hl 3 rfl) ?_
    obtain ⟨r8, hr8, h⟩ := g_bind h
    refine g_callVi (n := 2) (As := [.int f58_7, .int v8]) (rest := [.long v4]) C P (kX1_cellAt l X hJ σ k58_6 f58_7 v8 hk_k58_6 _ hr8) wd_730 wd_706 wd_707 wd_56 wd_708 rfl rfl kdX1_cellAt ⟨Nat.le_of_ble_eq_true rfl, Nat.le_of_ble_eq_true rfl⟩ hk_k58_6.1 rfl rfl rfl hl.1 (Nat.le_of_ble_eq_true rfl) dX7_digestOfImage_78 (fun H locs P => ?_)
    refine g_callSl (n := 2) (As := [.long v4, .int r8]) (rest := []) C P (kX7_mixed l X hJ σ v4 r8 _ rfl) wd_970 wd_971 wd_2 wd_972 rfl rfl kdX7_mixed.2 ⟨Nat.le_of_ble_eq_true rfl, Nat.le_of_ble_eq_true rfl⟩ rfl rfl hl.1 (Nat.le_of_ble_eq_true rfl) dX7_digestOfImage_81 (fun H locs P => ?_)
    refine lv_lstore (lv' := [(4, .long (qF_mixed v4 r8)), (6, .ref (gad X k58_6)), (7, .int f58_7), (8, .int v8)]) hx hb dX7_digestOfImage_84 hl (by decide) rfl (fun ls hl => ?_)
    refine lv_iinc (v := (v8 + 1)) (lv' := [(8, .int (v8 + 1)), (4, .long (qF_mixed v4 r8)), (6, .ref (gad X k58_6)), (7, .int f58_7)]) hx hb dX7_digestOfImage_86 hl (k := 3) rfl rfl (by decide) rfl (fun ls hl => ?_)
    refine lv_goto (tgt := 58) hx hb dX7_digestOfImage_89 (by decide) ?_
    exact ih (qF_mixed v4 r8) (v8 + 1) h _ _ _ P (lv_sub hl [1, 2, 3, 0] rfl)
set_option maxHeartbeats 4000000 in
set_option maxRecDepth 100000 in
theorem kX7_digestOfImage_45 {p : Program} {l : Launch} {e : Env} {s : State} {m : MethodId} {args : Array Value} {below : List Frame} {meth : Method} {c : Code} {X : gXt} (hJ : gJ X xL) (C : gC p s m args meth c RX7 cX7_digestOfImage 9 (some .long) X xL) (σ : gS) (k45_6 : Nat) (hk_k45_6 : gIm k45_6) (k : Int64 → Option Int64) (q : Int64) (hk : ∀ (x4 : Int64) (H : Heap) (locs : List Loc) (ls : Array Slot), k x4 = some q → gH X xL σ s H locs → lv_has ls 9 [(4, .long x4)] → W p l e rmX7_digestOfImage s m args below meth c H locs 0 0 (MQ below (gQl X xL q σ) args s 0 0 (gA X xL)) (F0 m 98 ls [])) : ∀ (n : Nat) (v4 : Int64) (v7 : Int32), qF_digestOfImage_45 σ k45_6 k n v4 v7 = some q → ∀ (H : Heap) (locs : List Loc) (ls : Array Slot), gH X xL σ s H locs → lv_has ls 9 [(4, .long v4), (6, .ref (gad X k45_6)), (7, .int v7)] → W p l e rmX7_digestOfImage s m args below meth c H locs 0 0 (MQ below (gQl X xL q σ) args s 0 0 (gA X xL)) (F0 m 45 ls []) := by
  have hx := C.1
  have hb := C.2.1
  have hK := C.2.2.2.2.2.2.2.1
  have hts := C.2.2.2.2.1
  intro n
  induction n with
  | zero => intro v4 v7 h; cases h
  | succ n ih =>
    intro v4 v7 h H locs ls P hl
    have h : (if (gI σ k45_6 2) ≤ v7 then k v4 else qF_digestOfImage_58 σ k45_6 v7 (fun x9 => qF_digestOfImage_45 σ k45_6 k n x9 (v7 + 1)) 8192 v4 (0 : Int32)) = some q := h
    refine lv_iload hx hb dX7_digestOfImage_45 (lv_at hl 2 rfl) ?_
    refine lv_aload hx hb dX7_digestOfImage_47 (lv_at hl 1 rfl) ?_
    refine g_getI C P hk_k45_6.1 rfl inlX1 2 (by decide) wd_982 rfl dX7_digestOfImage_49 ?_
    refine lv_icmp_ge (tgt := 98) hx hb dX7_digestOfImage_52 (by decide) (fun c5 => ?_) (fun c5 => ?_)
    · have h := g_ifp c5 h
      exact hk v4 _ _ _ h P (lv_sub hl [0] rfl)
    have h := g_ifn c5 h
    refine lv_iconst (v := 0) hx hb dX7_digestOfImage_55 (by decide) ?_
    refine lv_istore (lv' := [(8, .int (0 : Int32)), (4, .long v4), (6, .ref (gad X k45_6)), (7, .int v7)]) hx hb dX7_digestOfImage_56 hl (by decide) rfl (fun ls hl => ?_)
    refine kX7_digestOfImage_58 hJ C σ k45_6 v7 hk_k45_6 _ _ ?_ _ _ _ h _ _ _ P (lv_sub hl [1, 2, 3, 0] rfl)
    intro x9 H locs ls h P hl
    refine lv_iinc (v := (v7 + 1)) (lv' := [(7, .int (v7 + 1)), (4, .long x9), (6, .ref (gad X k45_6))]) hx hb dX7_digestOfImage_92 hl (k := 2) rfl rfl (by decide) rfl (fun ls hl => ?_)
    refine lv_goto (tgt := 45) hx hb dX7_digestOfImage_95 (by decide) ?_
    exact ih x9 (v7 + 1) h _ _ _ P (lv_sub hl [1, 2, 0] rfl)
set_option maxHeartbeats 4000000 in
set_option maxRecDepth 100000 in
theorem kX7_digestOfImage (l : Launch) (X : gXt) (hJ : gJ X xL) (σ : gS) (a1 : Int64) (a2 : Int32) (q : Int64) (h : qF_digestOfImage σ a1 a2 = some q) : gMl l yX7_digestOfImage (gws yX7_digestOfImage cX7_digestOfImage 9 (some .long)) rmX7_digestOfImage X xL [.ref (gad X 0), .long a1, .int a2] σ q σ := by
  refine g_enter (cc := cX7_digestOfImage) (nL := 9) (ret := (some .long)) hJ (plainFor_of_name (by decide)) (Nat.le_of_ble_eq_true rfl) ?_
  intro p e s m below meth c ls C P hl
  have C : gC p s m _ meth c RX7 cX7_digestOfImage 9 (some .long) X xL := C
  have hx := C.1
  have hb := C.2.1
  have hK := C.2.2.2.2.2.2.2.1
  have hts := C.2.2.2.2.1
  have hl : lv_has ls 9 [(0, .ref (gad X 0)), (1, .long a1), (3, .int a2)] := hl
  unfold qF_digestOfImage at h
  refine lv_lload_n hx hb dX7_digestOfImage_0 rfl (lv_at hl 1 rfl) ?_
  refine lv_lstore (lv' := [(4, .long a1), (0, .ref (gad X 0)), (1, .long a1), (3, .int a2)]) hx hb dX7_digestOfImage_1 hl (by decide) rfl (fun ls hl => ?_)
  refine lv_aload_n hx hb dX7_digestOfImage_3 rfl (lv_at hl 1 rfl) ?_
  refine g_getR C P xl0 rfl inlX7 1 (by decide) wd_19 rfl dX7_digestOfImage_4 ?_
  refine lv_iload_n hx hb dX7_digestOfImage_7 rfl (lv_at hl 3 rfl) ?_
  obtain ⟨r1, hr1, h⟩ := g_bind h
  refine g_callVr (n := 1) (As := [.int a2]) (rest := []) C P (kX0_imageAt l X hJ σ a2 _ hr1) wd_696 wd_549 wd_550 wd_18 wd_551 rfl rfl kdX0_imageAt ⟨Nat.le_of_ble_eq_true rfl, Nat.le_of_ble_eq_true rfl⟩ xl9 rfl rfl rfl hl.1 (Nat.le_of_ble_eq_true rfl) dX7_digestOfImage_8 (fun H locs P => ?_)
  obtain ⟨hk_r1, h⟩ := g_im h
  refine lv_astore (lv' := [(6, .ref (gad X r1)), (4, .long a1), (0, .ref (gad X 0)), (1, .long a1), (3, .int a2)]) hx hb dX7_digestOfImage_11 hl (by decide) rfl (fun ls hl => ?_)
  refine lv_iconst (v := 0) hx hb dX7_digestOfImage_13 (by decide) ?_
  refine lv_istore (lv' := [(7, .int (0 : Int32)), (6, .ref (gad X r1)), (4, .long a1), (0, .ref (gad X 0)), (1, .long a1), (3, .int a2)]) hx hb dX7_digestOfImage_14 hl (by decide) rfl (fun ls hl => ?_)
  refine kX7_digestOfImage_16 hJ C σ r1 hk_r1 _ _ ?_ _ _ _ h _ _ _ P (lv_sub hl [2, 1, 0] rfl)
  intro x4 H locs ls h P hl
  refine lv_iconst (v := 0) hx hb dX7_digestOfImage_42 (by decide) ?_
  refine lv_istore (lv' := [(7, .int (0 : Int32)), (4, .long x4), (6, .ref (gad X r1))]) hx hb dX7_digestOfImage_43 hl (by decide) rfl (fun ls hl => ?_)
  refine kX7_digestOfImage_45 hJ C σ r1 hk_r1 _ _ ?_ _ _ _ h _ _ _ P (lv_sub hl [1, 2, 0] rfl)
  intro x10 H locs ls h P hl
  refine lv_lload hx hb dX7_digestOfImage_98 (lv_at hl 0 rfl) ?_
  have h := Option.some.inj h
  exact g_lret C P h rfl dX7_digestOfImage_100
abbrev rmX7_digest : Room := { frames := 4, cells := 0, slots := 0, locals := 93 }
theorem kdX7_digest : yX7_digest.cls = RX7 ∧ yX7_digest.cls ≠ "java/lang/invoke/MethodHandle" ∧ yX7_digest.cls ≠ "java/lang/invoke/VarHandle" ∧ (parseMethodDescriptor yX7_digest.desc).map (fun d => d.parameters.length) = some 0 := by decide +kernel
set_option maxHeartbeats 4000000 in
set_option maxRecDepth 100000 in
theorem kX7_digest_6 {p : Program} {l : Launch} {e : Env} {s : State} {m : MethodId} {args : Array Value} {below : List Frame} {meth : Method} {c : Code} {X : gXt} (hJ : gJ X xL) (C : gC p s m args meth c RX7 cX7_digest 5 (some .long) X xL) (σ : gS) (k : Int64 → Option Int64) (q : Int64) (hk : ∀ (x1 : Int64) (H : Heap) (locs : List Loc) (ls : Array Slot), k x1 = some q → gH X xL σ s H locs → lv_has ls 5 [(0, .ref (gad X 0)), (1, .long x1)] → W p l e rmX7_digest s m args below meth c H locs 0 0 (MQ below (gQl X xL q σ) args s 0 0 (gA X xL)) (F0 m 28 ls [])) : ∀ (n : Nat) (v1 : Int64) (v3 : Int32), qF_digest_6 σ k n v1 v3 = some q → ∀ (H : Heap) (locs : List Loc) (ls : Array Slot), gH X xL σ s H locs → lv_has ls 5 [(0, .ref (gad X 0)), (1, .long v1), (3, .int v3)] → W p l e rmX7_digest s m args below meth c H locs 0 0 (MQ below (gQl X xL q σ) args s 0 0 (gA X xL)) (F0 m 6 ls []) := by
  have hx := C.1
  have hb := C.2.1
  have hK := C.2.2.2.2.2.2.2.1
  have hts := C.2.2.2.2.1
  intro n
  induction n with
  | zero => intro v1 v3 h; cases h
  | succ n ih =>
    intro v1 v3 h H locs ls P hl
    have h : (if (9 : Int32) < v3 then k v1 else (qF_counted σ v3).bind (fun r2 => qF_digest_6 σ k n (qF_mixed v1 r2) (v3 + 1))) = some q := h
    refine lv_iload_n hx hb dX7_digest_6 rfl (lv_at hl 2 rfl) ?_
    refine lv_bipush (v := 9) hx hb dX7_digest_7 (by decide) ?_
    refine lv_icmp_gt (tgt := 28) hx hb dX7_digest_9 (by decide) (fun c1 => ?_) (fun c1 => ?_)
    · have h := g_ifp c1 h
      exact hk v1 _ _ _ h P (lv_sub hl [0, 1] rfl)
    have h := g_ifn c1 h
    refine lv_lload_n hx hb dX7_digest_12 rfl (lv_at hl 1 rfl) ?_
    refine lv_aload_n hx hb dX7_digest_13 rfl (lv_at hl 0 rfl) ?_
    refine lv_iload_n hx hb dX7_digest_14 rfl (lv_at hl 2 rfl) ?_
    obtain ⟨r2, hr2, h⟩ := g_bind h
    refine g_callVi (n := 1) (As := [.int v3]) (rest := [.long v1]) C P (kX7_counted l X hJ σ v3 _ hr2) wd_751 wd_752 wd_753 wd_2 wd_754 rfl rfl kdX7_counted ⟨Nat.le_of_ble_eq_true rfl, Nat.le_of_ble_eq_true rfl⟩ xl0 rfl rfl rfl hl.1 (Nat.le_of_ble_eq_true rfl) dX7_digest_15 (fun H locs P => ?_)
    refine g_callSl (n := 2) (As := [.long v1, .int r2]) (rest := []) C P (kX7_mixed l X hJ σ v1 r2 _ rfl) wd_970 wd_971 wd_2 wd_972 rfl rfl kdX7_mixed.2 ⟨Nat.le_of_ble_eq_true rfl, Nat.le_of_ble_eq_true rfl⟩ rfl rfl hl.1 (Nat.le_of_ble_eq_true rfl) dX7_digest_18 (fun H locs P => ?_)
    refine lv_lstore_n (lv' := [(1, .long (qF_mixed v1 r2)), (0, .ref (gad X 0)), (3, .int v3)]) hx hb dX7_digest_21 rfl hl (by decide) rfl (fun ls hl => ?_)
    refine lv_iinc (v := (v3 + 1)) (lv' := [(3, .int (v3 + 1)), (1, .long (qF_mixed v1 r2)), (0, .ref (gad X 0))]) hx hb dX7_digest_22 hl (k := 2) rfl rfl (by decide) rfl (fun ls hl => ?_)
    refine lv_goto (tgt := 6) hx hb dX7_digest_25 (by decide) ?_
    exact ih (qF_mixed v1 r2) (v3 + 1) h _ _ _ P (lv_sub hl [2, 1, 0] rfl)
set_option maxHeartbeats 4000000 in
set_option maxRecDepth 100000 in
theorem kX7_digest_30 {p : Program} {l : Launch} {e : Env} {s : State} {m : MethodId} {args : Array Value} {below : List Frame} {meth : Method} {c : Code} {X : gXt} (hJ : gJ X xL) (C : gC p s m args meth c RX7 cX7_digest 5 (some .long) X xL) (σ : gS) (k : Int64 → Option Int64) (q : Int64) (hk : ∀ (x1 : Int64) (H : Heap) (locs : List Loc) (ls : Array Slot), k x1 = some q → gH X xL σ s H locs → lv_has ls 5 [(0, .ref (gad X 0)), (1, .long x1)] → W p l e rmX7_digest s m args below meth c H locs 0 0 (MQ below (gQl X xL q σ) args s 0 0 (gA X xL)) (F0 m 55 ls [])) : ∀ (n : Nat) (v1 : Int64) (v3 : Int32), qF_digest_30 σ k n v1 v3 = some q → ∀ (H : Heap) (locs : List Loc) (ls : Array Slot), gH X xL σ s H locs → lv_has ls 5 [(0, .ref (gad X 0)), (1, .long v1), (3, .int v3)] → W p l e rmX7_digest s m args below meth c H locs 0 0 (MQ below (gQl X xL q σ) args s 0 0 (gA X xL)) (F0 m 30 ls []) := by
  have hx := C.1
  have hb := C.2.1
  have hK := C.2.2.2.2.2.2.2.1
  have hts := C.2.2.2.2.1
  intro n
  induction n with
  | zero => intro v1 v3 h; cases h
  | succ n ih =>
    intro v1 v3 h H locs ls P hl
    have h : (if (9 : Int32) < v3 then k v1 else (qT_ofReason σ v3).bind (fun r5 => qF_digest_30 σ k n (qF_mixed v1 r5) (v3 + 1))) = some q := h
    refine lv_iload_n hx hb dX7_digest_30 rfl (lv_at hl 2 rfl) ?_
    refine lv_bipush (v := 9) hx hb dX7_digest_31 (by decide) ?_
    refine lv_icmp_gt (tgt := 55) hx hb dX7_digest_33 (by decide) (fun c4 => ?_) (fun c4 => ?_)
    · have h := g_ifp c4 h
      exact hk v1 _ _ _ h P (lv_sub hl [0, 1] rfl)
    have h := g_ifn c4 h
    refine lv_lload_n hx hb dX7_digest_36 rfl (lv_at hl 1 rfl) ?_
    refine lv_aload_n hx hb dX7_digest_37 rfl (lv_at hl 0 rfl) ?_
    refine g_getR C P xl0 rfl inlX7 5 (by decide) wd_35 rfl dX7_digest_38 ?_
    refine lv_iload_n hx hb dX7_digest_41 rfl (lv_at hl 2 rfl) ?_
    obtain ⟨r5, hr5, h⟩ := g_bind h
    refine g_callVi (n := 1) (As := [.int v3]) (rest := [.long v1]) C P (kX6_ofReason l X hJ σ v3 _ hr5) wd_788 wd_789 wd_790 wd_34 wd_791 rfl rfl kdX6_ofReason ⟨Nat.le_of_ble_eq_true rfl, Nat.le_of_ble_eq_true rfl⟩ xl96 rfl rfl rfl hl.1 (Nat.le_of_ble_eq_true rfl) dX7_digest_42 (fun H locs P => ?_)
    refine g_callSl (n := 2) (As := [.long v1, .int r5]) (rest := []) C P (kX7_mixed l X hJ σ v1 r5 _ rfl) wd_970 wd_971 wd_2 wd_972 rfl rfl kdX7_mixed.2 ⟨Nat.le_of_ble_eq_true rfl, Nat.le_of_ble_eq_true rfl⟩ rfl rfl hl.1 (Nat.le_of_ble_eq_true rfl) dX7_digest_45 (fun H locs P => ?_)
    refine lv_lstore_n (lv' := [(1, .long (qF_mixed v1 r5)), (0, .ref (gad X 0)), (3, .int v3)]) hx hb dX7_digest_48 rfl hl (by decide) rfl (fun ls hl => ?_)
    refine lv_iinc (v := (v3 + 1)) (lv' := [(3, .int (v3 + 1)), (1, .long (qF_mixed v1 r5)), (0, .ref (gad X 0))]) hx hb dX7_digest_49 hl (k := 2) rfl rfl (by decide) rfl (fun ls hl => ?_)
    refine lv_goto (tgt := 30) hx hb dX7_digest_52 (by decide) ?_
    exact ih (qF_mixed v1 r5) (v3 + 1) h _ _ _ P (lv_sub hl [2, 1, 0] rfl)
set_option maxHeartbeats 4000000 in
set_option maxRecDepth 100000 in
theorem kX7_digest_66 {p : Program} {l : Launch} {e : Env} {s : State} {m : MethodId} {args : Array Value} {below : List Frame} {meth : Method} {c : Code} {X : gXt} (hJ : gJ X xL) (C : gC p s m args meth c RX7 cX7_digest 5 (some .long) X xL) (σ : gS) (f66_3 : Int32) (k : Int64 → Option Int64) (q : Int64) (hk : ∀ (x1 : Int64) (H : Heap) (locs : List Loc) (ls : Array Slot), k x1 = some q → gH X xL σ s H locs → lv_has ls 5 [(0, .ref (gad X 0)), (1, .long x1), (3, .int f66_3)] → W p l e rmX7_digest s m args below meth c H locs 0 0 (MQ below (gQl X xL q σ) args s 0 0 (gA X xL)) (F0 m 93 ls [])) : ∀ (n : Nat) (v1 : Int64) (v4 : Int32), qF_digest_66 σ f66_3 k n v1 v4 = some q → ∀ (H : Heap) (locs : List Loc) (ls : Array Slot), gH X xL σ s H locs → lv_has ls 5 [(0, .ref (gad X 0)), (1, .long v1), (3, .int f66_3), (4, .int v4)] → W p l e rmX7_digest s m args below meth c H locs 0 0 (MQ below (gQl X xL q σ) args s 0 0 (gA X xL)) (F0 m 66 ls []) := by
  have hx := C.1
  have hb := C.2.1
  have hK := C.2.2.2.2.2.2.2.1
  have hts := C.2.2.2.2.1
  intro n
  induction n with
  | zero => intro v1 v4 h; cases h
  | succ n ih =>
    intro v1 v4 h H locs ls P hl
    have h : (if (2 : Int32) < v4 then k v1 else (qS_registerProperty σ f66_3 v4).bind (fun r9 => qF_digest_66 σ f66_3 k n (qF_mixed v1 r9) (v4 + 1))) = some q := h
    refine lv_iload hx hb dX7_digest_66 (lv_at hl 3 rfl) ?_
    refine lv_iconst (v := 2) hx hb dX7_digest_68 (by decide) ?_
    refine lv_icmp_gt (tgt := 93) hx hb dX7_digest_69 (by decide) (fun c8 => ?_) (fun c8 => ?_)
    · have h := g_ifp c8 h
      exact hk v1 _ _ _ h P (lv_sub hl [0, 1, 2] rfl)
    have h := g_ifn c8 h
    refine lv_lload_n hx hb dX7_digest_72 rfl (lv_at hl 1 rfl) ?_
    refine lv_aload_n hx hb dX7_digest_73 rfl (lv_at hl 0 rfl) ?_
    refine g_getR C P xl0 rfl inlX7 0 (by decide) wd_15 rfl dX7_digest_74 ?_
    refine lv_iload_n hx hb dX7_digest_77 rfl (lv_at hl 2 rfl) ?_
    refine lv_iload hx hb dX7_digest_78 (lv_at hl 3 rfl) ?_
    obtain ⟨r9, hr9, h⟩ := g_bind h
    refine g_callVi (n := 2) (As := [.int f66_3, .int v4]) (rest := [.long v1]) C P (kX5_registerProperty l X hJ σ f66_3 v4 _ hr9) wd_622 wd_623 wd_624 wd_14 wd_625 rfl rfl kdX5_registerProperty ⟨Nat.le_of_ble_eq_true rfl, Nat.le_of_ble_eq_true rfl⟩ xl1 rfl rfl rfl hl.1 (Nat.le_of_ble_eq_true rfl) dX7_digest_80 (fun H locs P => ?_)
    refine g_callSl (n := 2) (As := [.long v1, .int r9]) (rest := []) C P (kX7_mixed l X hJ σ v1 r9 _ rfl) wd_970 wd_971 wd_2 wd_972 rfl rfl kdX7_mixed.2 ⟨Nat.le_of_ble_eq_true rfl, Nat.le_of_ble_eq_true rfl⟩ rfl rfl hl.1 (Nat.le_of_ble_eq_true rfl) dX7_digest_83 (fun H locs P => ?_)
    refine lv_lstore_n (lv' := [(1, .long (qF_mixed v1 r9)), (0, .ref (gad X 0)), (3, .int f66_3), (4, .int v4)]) hx hb dX7_digest_86 rfl hl (by decide) rfl (fun ls hl => ?_)
    refine lv_iinc (v := (v4 + 1)) (lv' := [(4, .int (v4 + 1)), (1, .long (qF_mixed v1 r9)), (0, .ref (gad X 0)), (3, .int f66_3)]) hx hb dX7_digest_87 hl (k := 3) rfl rfl (by decide) rfl (fun ls hl => ?_)
    refine lv_goto (tgt := 66) hx hb dX7_digest_90 (by decide) ?_
    exact ih (qF_mixed v1 r9) (v4 + 1) h _ _ _ P (lv_sub hl [2, 1, 3, 0] rfl)
set_option maxHeartbeats 4000000 in
set_option maxRecDepth 100000 in
theorem kX7_digest_57 {p : Program} {l : Launch} {e : Env} {s : State} {m : MethodId} {args : Array Value} {below : List Frame} {meth : Method} {c : Code} {X : gXt} (hJ : gJ X xL) (C : gC p s m args meth c RX7 cX7_digest 5 (some .long) X xL) (σ : gS) (k : Int64 → Option Int64) (q : Int64) (hk : ∀ (x1 : Int64) (H : Heap) (locs : List Loc) (ls : Array Slot), k x1 = some q → gH X xL σ s H locs → lv_has ls 5 [(0, .ref (gad X 0)), (1, .long x1)] → W p l e rmX7_digest s m args below meth c H locs 0 0 (MQ below (gQl X xL q σ) args s 0 0 (gA X xL)) (F0 m 99 ls [])) : ∀ (n : Nat) (v1 : Int64) (v3 : Int32), qF_digest_57 σ k n v1 v3 = some q → ∀ (H : Heap) (locs : List Loc) (ls : Array Slot), gH X xL σ s H locs → lv_has ls 5 [(0, .ref (gad X 0)), (1, .long v1), (3, .int v3)] → W p l e rmX7_digest s m args below meth c H locs 0 0 (MQ below (gQl X xL q σ) args s 0 0 (gA X xL)) (F0 m 57 ls []) := by
  have hx := C.1
  have hb := C.2.1
  have hK := C.2.2.2.2.2.2.2.1
  have hts := C.2.2.2.2.1
  intro n
  induction n with
  | zero => intro v1 v3 h; cases h
  | succ n ih =>
    intro v1 v3 h H locs ls P hl
    have h : (if (6 : Int32) ≤ v3 then k v1 else qF_digest_66 σ v3 (fun x10 => qF_digest_57 σ k n x10 (v3 + 1)) 8192 v1 (0 : Int32)) = some q := h
    refine lv_iload_n hx hb dX7_digest_57 rfl (lv_at hl 2 rfl) ?_
    refine lv_bipush (v := 6) hx hb dX7_digest_58 (by decide) ?_
    refine lv_icmp_ge (tgt := 99) hx hb dX7_digest_60 (by decide) (fun c7 => ?_) (fun c7 => ?_)
    · have h := g_ifp c7 h
      exact hk v1 _ _ _ h P (lv_sub hl [0, 1] rfl)
    have h := g_ifn c7 h
    refine lv_iconst (v := 0) hx hb dX7_digest_63 (by decide) ?_
    refine lv_istore (lv' := [(4, .int (0 : Int32)), (0, .ref (gad X 0)), (1, .long v1), (3, .int v3)]) hx hb dX7_digest_64 hl (by decide) rfl (fun ls hl => ?_)
    refine kX7_digest_66 hJ C σ v3 _ _ ?_ _ _ _ h _ _ _ P (lv_sub hl [1, 2, 3, 0] rfl)
    intro x10 H locs ls h P hl
    refine lv_iinc (v := (v3 + 1)) (lv' := [(3, .int (v3 + 1)), (0, .ref (gad X 0)), (1, .long x10)]) hx hb dX7_digest_93 hl (k := 2) rfl rfl (by decide) rfl (fun ls hl => ?_)
    refine lv_goto (tgt := 57) hx hb dX7_digest_96 (by decide) ?_
    exact ih x10 (v3 + 1) h _ _ _ P (lv_sub hl [1, 2, 0] rfl)
set_option maxHeartbeats 4000000 in
set_option maxRecDepth 100000 in
theorem kX7_digest_101 {p : Program} {l : Launch} {e : Env} {s : State} {m : MethodId} {args : Array Value} {below : List Frame} {meth : Method} {c : Code} {X : gXt} (hJ : gJ X xL) (C : gC p s m args meth c RX7 cX7_digest 5 (some .long) X xL) (σ : gS) (k : Int64 → Option Int64) (q : Int64) (hk : ∀ (x1 : Int64) (H : Heap) (locs : List Loc) (ls : Array Slot), k x1 = some q → gH X xL σ s H locs → lv_has ls 5 [(0, .ref (gad X 0)), (1, .long x1)] → W p l e rmX7_digest s m args below meth c H locs 0 0 (MQ below (gQl X xL q σ) args s 0 0 (gA X xL)) (F0 m 125 ls [])) : ∀ (n : Nat) (v1 : Int64) (v3 : Int32), qF_digest_101 σ k n v1 v3 = some q → ∀ (H : Heap) (locs : List Loc) (ls : Array Slot), gH X xL σ s H locs → lv_has ls 5 [(0, .ref (gad X 0)), (1, .long v1), (3, .int v3)] → W p l e rmX7_digest s m args below meth c H locs 0 0 (MQ below (gQl X xL q σ) args s 0 0 (gA X xL)) (F0 m 101 ls []) := by
  have hx := C.1
  have hb := C.2.1
  have hK := C.2.2.2.2.2.2.2.1
  have hts := C.2.2.2.2.1
  intro n
  induction n with
  | zero => intro v1 v3 h; cases h
  | succ n ih =>
    intro v1 v3 h H locs ls P hl
    have h : (if (gI σ 1 7) ≤ v3 then k v1 else (qF_digestOfBlock σ v1 v3).bind (fun r13 => qF_digest_101 σ k n r13 (v3 + 1))) = some q := h
    refine lv_iload_n hx hb dX7_digest_101 rfl (lv_at hl 2 rfl) ?_
    refine lv_aload_n hx hb dX7_digest_102 rfl (lv_at hl 0 rfl) ?_
    refine g_getR C P xl0 rfl inlX7 0 (by decide) wd_15 rfl dX7_digest_103 ?_
    refine g_getI C P xl1 rfl inlX5 7 (by decide) wd_755 rfl dX7_digest_106 ?_
    refine lv_icmp_ge (tgt := 125) hx hb dX7_digest_109 (by decide) (fun c12 => ?_) (fun c12 => ?_)
    · have h := g_ifp c12 h
      exact hk v1 _ _ _ h P (lv_sub hl [0, 1] rfl)
    have h := g_ifn c12 h
    refine lv_aload_n hx hb dX7_digest_112 rfl (lv_at hl 0 rfl) ?_
    refine lv_lload_n hx hb dX7_digest_113 rfl (lv_at hl 1 rfl) ?_
    refine lv_iload_n hx hb dX7_digest_114 rfl (lv_at hl 2 rfl) ?_
    obtain ⟨r13, hr13, h⟩ := g_bind h
    refine g_callVl (n := 2) (As := [.long v1, .int v3]) (rest := []) C P (kX7_digestOfBlock l X hJ σ v1 v3 _ hr13) wd_974 wd_975 wd_976 wd_2 wd_977 rfl rfl kdX7_digestOfBlock ⟨Nat.le_of_ble_eq_true rfl, Nat.le_of_ble_eq_true rfl⟩ xl0 rfl rfl rfl hl.1 (Nat.le_of_ble_eq_true rfl) dX7_digest_115 (fun H locs P => ?_)
    refine lv_lstore_n (lv' := [(1, .long r13), (0, .ref (gad X 0)), (3, .int v3)]) hx hb dX7_digest_118 rfl hl (by decide) rfl (fun ls hl => ?_)
    refine lv_iinc (v := (v3 + 1)) (lv' := [(3, .int (v3 + 1)), (1, .long r13), (0, .ref (gad X 0))]) hx hb dX7_digest_119 hl (k := 2) rfl rfl (by decide) rfl (fun ls hl => ?_)
    refine lv_goto (tgt := 101) hx hb dX7_digest_122 (by decide) ?_
    exact ih r13 (v3 + 1) h _ _ _ P (lv_sub hl [2, 1, 0] rfl)
set_option maxHeartbeats 4000000 in
set_option maxRecDepth 100000 in
theorem kX7_digest_127 {p : Program} {l : Launch} {e : Env} {s : State} {m : MethodId} {args : Array Value} {below : List Frame} {meth : Method} {c : Code} {X : gXt} (hJ : gJ X xL) (C : gC p s m args meth c RX7 cX7_digest 5 (some .long) X xL) (σ : gS) (k : Int64 → Option Int64) (q : Int64) (hk : ∀ (x1 : Int64) (H : Heap) (locs : List Loc) (ls : Array Slot), k x1 = some q → gH X xL σ s H locs → lv_has ls 5 [(1, .long x1)] → W p l e rmX7_digest s m args below meth c H locs 0 0 (MQ below (gQl X xL q σ) args s 0 0 (gA X xL)) (F0 m 151 ls [])) : ∀ (n : Nat) (v1 : Int64) (v3 : Int32), qF_digest_127 σ k n v1 v3 = some q → ∀ (H : Heap) (locs : List Loc) (ls : Array Slot), gH X xL σ s H locs → lv_has ls 5 [(0, .ref (gad X 0)), (1, .long v1), (3, .int v3)] → W p l e rmX7_digest s m args below meth c H locs 0 0 (MQ below (gQl X xL q σ) args s 0 0 (gA X xL)) (F0 m 127 ls []) := by
  have hx := C.1
  have hb := C.2.1
  have hK := C.2.2.2.2.2.2.2.1
  have hts := C.2.2.2.2.1
  intro n
  induction n with
  | zero => intro v1 v3 h; cases h
  | succ n ih =>
    intro v1 v3 h H locs ls P hl
    have h : (if (gI σ 1 8) ≤ v3 then k v1 else (qF_digestOfImage σ v1 v3).bind (fun r16 => qF_digest_127 σ k n r16 (v3 + 1))) = some q := h
    refine lv_iload_n hx hb dX7_digest_127 rfl (lv_at hl 2 rfl) ?_
    refine lv_aload_n hx hb dX7_digest_128 rfl (lv_at hl 0 rfl) ?_
    refine g_getR C P xl0 rfl inlX7 0 (by decide) wd_15 rfl dX7_digest_129 ?_
    refine g_getI C P xl1 rfl inlX5 8 (by decide) wd_739 rfl dX7_digest_132 ?_
    refine lv_icmp_ge (tgt := 151) hx hb dX7_digest_135 (by decide) (fun c15 => ?_) (fun c15 => ?_)
    · have h := g_ifp c15 h
      exact hk v1 _ _ _ h P (lv_sub hl [1] rfl)
    have h := g_ifn c15 h
    refine lv_aload_n hx hb dX7_digest_138 rfl (lv_at hl 0 rfl) ?_
    refine lv_lload_n hx hb dX7_digest_139 rfl (lv_at hl 1 rfl) ?_
    refine lv_iload_n hx hb dX7_digest_140 rfl (lv_at hl 2 rfl) ?_
    obtain ⟨r16, hr16, h⟩ := g_bind h
    refine g_callVl (n := 2) (As := [.long v1, .int v3]) (rest := []) C P (kX7_digestOfImage l X hJ σ v1 v3 _ hr16) wd_978 wd_979 wd_980 wd_2 wd_981 rfl rfl kdX7_digestOfImage ⟨Nat.le_of_ble_eq_true rfl, Nat.le_of_ble_eq_true rfl⟩ xl0 rfl rfl rfl hl.1 (Nat.le_of_ble_eq_true rfl) dX7_digest_141 (fun H locs P => ?_)
    refine lv_lstore_n (lv' := [(1, .long r16), (0, .ref (gad X 0)), (3, .int v3)]) hx hb dX7_digest_144 rfl hl (by decide) rfl (fun ls hl => ?_)
    refine lv_iinc (v := (v3 + 1)) (lv' := [(3, .int (v3 + 1)), (1, .long r16), (0, .ref (gad X 0))]) hx hb dX7_digest_145 hl (k := 2) rfl rfl (by decide) rfl (fun ls hl => ?_)
    refine lv_goto (tgt := 127) hx hb dX7_digest_148 (by decide) ?_
    exact ih r16 (v3 + 1) h _ _ _ P (lv_sub hl [2, 1, 0] rfl)
set_option maxHeartbeats 4000000 in
set_option maxRecDepth 100000 in
theorem kX7_digest (l : Launch) (X : gXt) (hJ : gJ X xL) (σ : gS) (q : Int64) (h : qF_digest σ = some q) : gMl l yX7_digest (gws yX7_digest cX7_digest 5 (some .long)) rmX7_digest X xL [.ref (gad X 0)] σ q σ := by
  refine g_enter (cc := cX7_digest) (nL := 5) (ret := (some .long)) hJ (plainFor_of_name (by decide)) (Nat.le_of_ble_eq_true rfl) ?_
  intro p e s m below meth c ls C P hl
  have C : gC p s m _ meth c RX7 cX7_digest 5 (some .long) X xL := C
  have hx := C.1
  have hb := C.2.1
  have hK := C.2.2.2.2.2.2.2.1
  have hts := C.2.2.2.2.1
  have hl : lv_has ls 5 [(0, .ref (gad X 0))] := hl
  unfold qF_digest at h
  refine lv_ldc2 (v := 2010) hx hb C.2.2.2.1 (hts _ wd_969) dX7_digest_0 ?_
  refine lv_lstore_n (lv' := [(1, .long (2010 : Int64)), (0, .ref (gad X 0))]) hx hb dX7_digest_3 rfl hl (by decide) rfl (fun ls hl => ?_)
  refine lv_iconst (v := 0) hx hb dX7_digest_4 (by decide) ?_
  refine lv_istore_n (lv' := [(3, .int (0 : Int32)), (1, .long (2010 : Int64)), (0, .ref (gad X 0))]) hx hb dX7_digest_5 rfl hl (by decide) rfl (fun ls hl => ?_)
  refine kX7_digest_6 hJ C σ _ _ ?_ _ _ _ h _ _ _ P (lv_sub hl [2, 1, 0] rfl)
  intro x3 H locs ls h P hl
  refine lv_iconst (v := 1) hx hb dX7_digest_28 (by decide) ?_
  refine lv_istore_n (lv' := [(3, .int (1 : Int32)), (0, .ref (gad X 0)), (1, .long x3)]) hx hb dX7_digest_29 rfl hl (by decide) rfl (fun ls hl => ?_)
  refine kX7_digest_30 hJ C σ _ _ ?_ _ _ _ h _ _ _ P (lv_sub hl [1, 2, 0] rfl)
  intro x6 H locs ls h P hl
  refine lv_iconst (v := 0) hx hb dX7_digest_55 (by decide) ?_
  refine lv_istore_n (lv' := [(3, .int (0 : Int32)), (0, .ref (gad X 0)), (1, .long x6)]) hx hb dX7_digest_56 rfl hl (by decide) rfl (fun ls hl => ?_)
  refine kX7_digest_57 hJ C σ _ _ ?_ _ _ _ h _ _ _ P (lv_sub hl [1, 2, 0] rfl)
  intro x11 H locs ls h P hl
  refine lv_iconst (v := 0) hx hb dX7_digest_99 (by decide) ?_
  refine lv_istore_n (lv' := [(3, .int (0 : Int32)), (0, .ref (gad X 0)), (1, .long x11)]) hx hb dX7_digest_100 rfl hl (by decide) rfl (fun ls hl => ?_)
  refine kX7_digest_101 hJ C σ _ _ ?_ _ _ _ h _ _ _ P (lv_sub hl [1, 2, 0] rfl)
  intro x14 H locs ls h P hl
  refine lv_iconst (v := 0) hx hb dX7_digest_125 (by decide) ?_
  refine lv_istore_n (lv' := [(3, .int (0 : Int32)), (0, .ref (gad X 0)), (1, .long x14)]) hx hb dX7_digest_126 rfl hl (by decide) rfl (fun ls hl => ?_)
  refine kX7_digest_127 hJ C σ _ _ ?_ _ _ _ h _ _ _ P (lv_sub hl [1, 2, 0] rfl)
  intro x17 H locs ls h P hl
  refine lv_lload_n hx hb dX7_digest_151 rfl (lv_at hl 0 rfl) ?_
  have h := Option.some.inj h
  exact g_lret C P h rfl dX7_digest_152
abbrev rmX8_in : Room := { frames := 0, cells := 0, slots := 0, locals := 0 }
theorem kdX8_in : yX8_in.cls = RX8 ∧ yX8_in.cls ≠ "java/lang/invoke/MethodHandle" ∧ yX8_in.cls ≠ "java/lang/invoke/VarHandle" ∧ (parseMethodDescriptor yX8_in.desc).map (fun d => d.parameters.length) = some 3 := by decide +kernel
set_option maxHeartbeats 4000000 in
set_option maxRecDepth 100000 in
theorem kX8_in (l : Launch) (X : gXt) (hJ : gJ X mL) (σ : gS) (a1 : Int32) (a2 : Int32) (a3 : Int32) (q : Int32) (h : qM_in a1 a2 a3 = q) : gMi l yX8_in (gws yX8_in cX8_in 3 (some .boolean)) rmX8_in X mL [.int a1, .int a2, .int a3] σ q σ := by
  refine g_enter (cc := cX8_in) (nL := 3) (ret := (some .boolean)) hJ (plainFor_of_name (by decide)) (Nat.le_of_ble_eq_true rfl) ?_
  intro p e s m below meth c ls C P hl
  have C : gC p s m _ meth c RX8 cX8_in 3 (some .boolean) X mL := C
  have hx := C.1
  have hb := C.2.1
  have hK := C.2.2.2.2.2.2.2.1
  have hts := C.2.2.2.2.1
  have hl : lv_has ls 3 [(0, .int a1), (1, .int a2), (2, .int a3)] := hl
  unfold qM_in at h
  refine lv_iload_n hx hb dX8_in_0 rfl (lv_at hl 0 rfl) ?_
  refine lv_iload_n hx hb dX8_in_1 rfl (lv_at hl 1 rfl) ?_
  refine lv_icmp_lt (tgt := 14) hx hb dX8_in_2 (by decide) (fun c1 => ?_) (fun c1 => ?_)
  · have h := g_ifp c1 h
    refine lv_iconst (v := 0) hx hb dX8_in_14 (by decide) ?_
    exact g_zret C P rfl h rfl dX8_in_15
  have h := g_ifn c1 h
  refine lv_iload_n hx hb dX8_in_5 rfl (lv_at hl 0 rfl) ?_
  refine lv_iload_n hx hb dX8_in_6 rfl (lv_at hl 2 rfl) ?_
  refine lv_icmp_gt (tgt := 14) hx hb dX8_in_7 (by decide) (fun c2 => ?_) (fun c2 => ?_)
  · have h := g_ifp c2 h
    refine lv_iconst (v := 0) hx hb dX8_in_14 (by decide) ?_
    exact g_zret C P rfl h rfl dX8_in_15
  have h := g_ifn c2 h
  refine lv_iconst (v := 1) hx hb dX8_in_10 (by decide) ?_
  refine lv_goto (tgt := 15) hx hb dX8_in_11 (by decide) ?_
  exact g_zret C P rfl h rfl dX8_in_15
abbrev rmX8_bad : Room := { frames := 0, cells := 0, slots := 0, locals := 0 }
theorem kdX8_bad : yX8_bad.cls = RX8 ∧ yX8_bad.cls ≠ "java/lang/invoke/MethodHandle" ∧ yX8_bad.cls ≠ "java/lang/invoke/VarHandle" ∧ (parseMethodDescriptor yX8_bad.desc).map (fun d => d.parameters.length) = some 0 := by decide +kernel
set_option maxHeartbeats 4000000 in
set_option maxRecDepth 100000 in
theorem kX8_bad (l : Launch) (X : gXt) (hJ : gJ X mL) (σ : gS) (q : Int32 × gS) (h : qM_bad σ = some q) : gMi l yX8_bad (gws yX8_bad cX8_bad 1 (some .int)) rmX8_bad X mL [.ref (gad X 0)] σ q.1 q.2 := by
  refine g_enter (cc := cX8_bad) (nL := 1) (ret := (some .int)) hJ (plainFor_of_name (by decide)) (Nat.le_of_ble_eq_true rfl) ?_
  intro p e s m below meth c ls C P hl
  have C : gC p s m _ meth c RX8 cX8_bad 1 (some .int) X mL := C
  have hx := C.1
  have hb := C.2.1
  have hK := C.2.2.2.2.2.2.2.1
  have hts := C.2.2.2.2.1
  have hl : lv_has ls 1 [(0, .ref (gad X 0))] := hl
  unfold qM_bad at h
  refine lv_aload_n hx hb dX8_bad_0 rfl (lv_at hl 0 rfl) ?_
  refine g_getR C P ml0 rfl inlX8 4 (by decide) wd_98 rfl dX8_bad_1 ?_
  refine lv_iconst (v := 0) hx hb dX8_bad_4 (by decide) ?_
  refine lv_dup2_11 hx hb dX8_bad_5 rfl rfl ?_
  refine g_iald (j := 0) C P ml4 (vp_in_iff.mpr ⟨by decide, by decide⟩) (by decide) dX8_bad_6 ?_
  refine lv_iconst (v := 1) hx hb dX8_bad_7 (by decide) ?_
  refine lv_iadd hx hb dX8_bad_8 ?_
  refine g_iast (j := 0) C P ml4 (vp_in_iff.mpr ⟨by decide, by decide⟩) (by decide) dX8_bad_9 (fun H locs P => ?_)
  refine lv_bipush (v := -2) hx hb dX8_bad_10 (by decide) ?_
  have h := Option.some.inj h
  exact g_iret C P (g_fst h) (g_snd h) dX8_bad_12
abbrev rmX8_copies : Room := { frames := 0, cells := 0, slots := 0, locals := 0 }
theorem kdX8_copies : yX8_copies.cls = RX8 ∧ yX8_copies.cls ≠ "java/lang/invoke/MethodHandle" ∧ yX8_copies.cls ≠ "java/lang/invoke/VarHandle" ∧ (parseMethodDescriptor yX8_copies.desc).map (fun d => d.parameters.length) = some 0 := by decide +kernel
set_option maxHeartbeats 4000000 in
set_option maxRecDepth 100000 in
theorem kX8_copies_2 {p : Program} {l : Launch} {e : Env} {s : State} {m : MethodId} {args : Array Value} {below : List Frame} {meth : Method} {c : Code} {X : gXt} (hJ : gJ X mL) (C : gC p s m args meth c RX8 cX8_copies 2 none X mL) (k : gS → Option gS) (q : gS) (hk : ∀ (σ' : gS) (H : Heap) (locs : List Loc) (ls : Array Slot), k σ' = some q → gH X mL σ' s H locs → lv_has ls 2 [] → W p l e rmX8_copies s m args below meth c H locs 0 0 (MQ below (gQv X mL q) args s 0 0 (gA X mL)) (F0 m 27 ls [])) : ∀ (n : Nat) (σ : gS) (v1 : Int32), qM_copies_2 k n σ v1 = some q → ∀ (H : Heap) (locs : List Loc) (ls : Array Slot), gH X mL σ s H locs → lv_has ls 2 [(0, .ref (gad X 0)), (1, .int v1)] → W p l e rmX8_copies s m args below meth c H locs 0 0 (MQ below (gQv X mL q) args s 0 0 (gA X mL)) (F0 m 2 ls []) := by
  have hx := C.1
  have hb := C.2.1
  have hK := C.2.2.2.2.2.2.2.1
  have hts := C.2.2.2.2.1
  intro n
  induction n with
  | zero => intro σ v1 h; cases h
  | succ n ih =>
    intro σ v1 h H locs ls P hl
    have h : (if (1219 : Int32) ≤ v1 then k σ else gob v1 1219 (qM_copies_2 k n (sM σ 2 v1.toNatClampNeg (gM σ 1 v1.toNatClampNeg)) (v1 + 1))) = some q := h
    refine lv_iload_n hx hb dX8_copies_2 rfl (lv_at hl 1 rfl) ?_
    refine lv_sipush (v := 1219) hx hb dX8_copies_3 (by decide) ?_
    refine lv_icmp_ge (tgt := 27) hx hb dX8_copies_6 (by decide) (fun c1 => ?_) (fun c1 => ?_)
    · have h := g_ifp c1 h
      exact hk σ _ _ _ h P (lv_sub hl [] rfl)
    have h := g_ifn c1 h
    refine lv_aload_n hx hb dX8_copies_9 rfl (lv_at hl 0 rfl) ?_
    refine g_getR C P ml0 rfl inlX8 1 (by decide) wd_96 rfl dX8_copies_10 ?_
    refine lv_iload_n hx hb dX8_copies_13 rfl (lv_at hl 1 rfl) ?_
    refine lv_aload_n hx hb dX8_copies_14 rfl (lv_at hl 0 rfl) ?_
    refine g_getR C P ml0 rfl inlX8 0 (by decide) wd_95 rfl dX8_copies_15 ?_
    refine lv_iload_n hx hb dX8_copies_18 rfl (lv_at hl 1 rfl) ?_
    obtain ⟨b2, h⟩ := g_ob h
    refine g_iald (j := v1.toNatClampNeg) C P ml1 b2 rfl dX8_copies_19 ?_
    refine g_iast (j := v1.toNatClampNeg) C P ml2 b2 rfl dX8_copies_20 (fun H locs P => ?_)
    refine lv_iinc (v := (v1 + 1)) (lv' := [(1, .int (v1 + 1)), (0, .ref (gad X 0))]) hx hb dX8_copies_21 hl (k := 1) rfl rfl (by decide) rfl (fun ls hl => ?_)
    refine lv_goto (tgt := 2) hx hb dX8_copies_24 (by decide) ?_
    exact ih (sM σ 2 v1.toNatClampNeg (gM σ 1 v1.toNatClampNeg)) (v1 + 1) h _ _ _ P (lv_sub hl [1, 0] rfl)
set_option maxHeartbeats 4000000 in
set_option maxRecDepth 100000 in
theorem kX8_copies (l : Launch) (X : gXt) (hJ : gJ X mL) (σ : gS) (q : gS) (h : qM_copies σ = some q) : gMv l yX8_copies (gws yX8_copies cX8_copies 2 none) rmX8_copies X mL [.ref (gad X 0)] σ q := by
  refine g_enter (cc := cX8_copies) (nL := 2) (ret := none) hJ (plainFor_of_name (by decide)) (Nat.le_of_ble_eq_true rfl) ?_
  intro p e s m below meth c ls C P hl
  have C : gC p s m _ meth c RX8 cX8_copies 2 none X mL := C
  have hx := C.1
  have hb := C.2.1
  have hK := C.2.2.2.2.2.2.2.1
  have hts := C.2.2.2.2.1
  have hl : lv_has ls 2 [(0, .ref (gad X 0))] := hl
  unfold qM_copies at h
  refine lv_iconst (v := 0) hx hb dX8_copies_0 (by decide) ?_
  refine lv_istore_n (lv' := [(1, .int (0 : Int32)), (0, .ref (gad X 0))]) hx hb dX8_copies_1 rfl hl (by decide) rfl (fun ls hl => ?_)
  refine kX8_copies_2 hJ C _ _ ?_ _ _ _ h _ _ _ P (lv_sub hl [1, 0] rfl)
  intro σ3 H locs ls h P hl
  have h := Option.some.inj h
  exact g_vret C P h dX8_copies_27
