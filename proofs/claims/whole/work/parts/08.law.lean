/-! THE LAW (cases by program: wip/whole/gen3.py) -/
/-- what holds all through the law's loop -/
def lawE (p : Program) (s : State) (m : MethodId) (meth : Method) (c : Code) (X Y : gXt) (b L : Nat) (xs : Nat → Int32) : Prop :=
  p.tables.exec = Jvm.exec ∧ c.code = code ∧ c.maxLocals = 4 ∧ s.vm.findClass RL = some m.cls ∧ (∀ w ∈ wsL_law, w.before #[Value.ref b] s = true) ∧ gK X s ∧ gK Y s ∧ gJ X xL ∧ gJ Y mL ∧ (∀ i j : Nat, i < xL.length → j < mL.length → gad X i ≠ gad Y j) ∧ (∀ i : Nat, i < xL.length → s.heap.size ≤ gad X i) ∧ (∀ i : Nat, i < mL.length → s.heap.size ≤ gad Y i) ∧ va_X b L xs s s.heap ∧ b < s.heap.size
theorem gP_kept {X Y : gXt} {L M : List gLy} {τ : gS} {H H1 : Heap} (hPy : gP Y M τ H) (hdis : ∀ i j : Nat, i < L.length → j < M.length → gad X i ≠ gad Y j) (hk : ∀ q : Nat, q < H.size → ¬ gA X L q → H1[q]? = H[q]?) : gP Y M τ H1 := by
  refine va_P.kept hPy (fun k q hq => hk q.1 (hPy k q hq).lt ?_)
  rintro ⟨i, hi, e⟩
  have hl : k < M.length := by
    have := (List.getElem?_eq_some_iff.mp hq).1
    simpa [gw, gmap_len] using this
  rw [gw_get (List.getElem?_eq_getElem hl)] at hq
  cases hq
  exact hdis i k hi hl e.symm
section LAWC
variable {p : Program} {l : Launch} {e : Env} {R : Room} {s : State} {m : MethodId} {args : Array Value} {below : List Frame} {meth : Method} {c : Code} {H : Heap} {locs : List Loc} {Q : State → Prop} {X Y : gXt} {L M : List gLy} {σ σ' τ : gS} {cells slots : Nat}
variable {own : String} {cc : ByteArray} {nL : Nat} {pc index k : Nat} {ls : Array Slot} {rest As st : List Value} {K : String} {T : u_T} {N ci : Nat} {fl : List (Nat ⊕ Bool)} {y : MethodName} {rm : Room} {bytes : ByteArray} {maxL n : Nat} {rty : Option FieldType} {A0 : Nat → Prop}
theorem g_lawi {r : Int32} (hx : p.tables.exec = Jvm.exec) (hb : c.code = cc) (hml : c.maxLocals = nL) (hown : s.vm.findClass own = some m.cls) (hts : ∀ w ∈ wsL_law, w.before args s = true) (hKX : gK X s) (hPx : gP X L σ H) (hPy : gP Y M τ H) (hdis : ∀ i j : Nat, i < L.length → j < M.length → gad X i ≠ gad Y j) (hS : va_S A0 s.heap H locs) (hA : ∀ i : Nat, i < L.length → A0 (gad X i))
    (hM : gMi l y (gws y bytes maxL rty) rm X L (.ref (gad X k) :: As) σ r σ') (h1 : Cond.methodLink own index y ∈ wsL_law) (h2 : Cond.instanceMethod y ∈ wsL_law) (h3 : Cond.selects K y y ∈ wsL_law) (h4 : Cond.initialized K ∈ wsL_law) (h5 : Cond.code y bytes maxL rty ∈ wsL_law) (hrc : rm.cells = 0) (hrs : rm.slots = 0)
    (hd : y.cls = K ∧ y.cls ≠ "java/lang/invoke/MethodHandle" ∧ y.cls ≠ "java/lang/invoke/VarHandle" ∧ (parseMethodDescriptor y.desc).map (fun d => d.parameters.length) = some n) (hR : rm.frames + 1 ≤ R.frames ∧ 8 + (maxL + 11) + rm.locals ≤ R.locals) (hf : cells ≤ R.cells ∧ slots ≤ R.slots) (hL : L[k]? = some (.inl (ci, fl))) (hc : vwCl[ci]? = some (K, T, N)) (hst : st = As.reverse ++ .ref (gad X k) :: rest) (hn : As.length = n) (hs : ls.size = nL) (hro : (rest.map fun v => v.category).sum ≤ 8) (hdg : decode cc pc = .ok (.invokevirtual index, 3))
    (kk : ∀ (H1 : Heap) (locs1 : List Loc), gP X L σ' H1 → gP Y M τ H1 → va_S A0 s.heap H1 locs1 → W p l e R s m args below meth c H1 locs1 cells slots Q (F0 m (pc + 3) ls (.int r :: rest))) : W p l e R s m args below meth c H locs cells slots Q (F0 m pc ls st) := by
  subst hst
  have hA' : ∀ q, gA X L q → A0 q := by
    rintro q ⟨i, hi, rfl⟩
    exact hA i hi
  refine va_calli (va_runV (As := As) (rest := rest) ⟨hx, hb, hml, hown, hts⟩ hM (cwV n hts (g_wsV h1 h2 h3 h4 h5) rfl hrc hrs hd hR) ⟨gPc_blind, va_recv hKX.1 hPx (q0 := k) hc (gw_get hL), fun U hU hW => ⟨rfl, by rw [hU]; exact hPx, hKX.warm hW⟩⟩ rfl hn hs rfl (lv_room hro) hdg hf) hS (fun q _ h => hA' q h) hA' (fun r0 u t H1 locs1 ht hvm hp hB hz hk hS => ?_)
  cases hp
  have hP1 : gP X L σ' H1 := by rw [← ht]; exact hB
  exact kk H1 locs1 hP1 (gP_kept hPy hdis hk) hS
theorem g_lawl {r : Int64} (hx : p.tables.exec = Jvm.exec) (hb : c.code = cc) (hml : c.maxLocals = nL) (hown : s.vm.findClass own = some m.cls) (hts : ∀ w ∈ wsL_law, w.before args s = true) (hKX : gK X s) (hPx : gP X L σ H) (hPy : gP Y M τ H) (hdis : ∀ i j : Nat, i < L.length → j < M.length → gad X i ≠ gad Y j) (hS : va_S A0 s.heap H locs) (hA : ∀ i : Nat, i < L.length → A0 (gad X i))
    (hM : gMl l y (gws y bytes maxL rty) rm X L (.ref (gad X k) :: As) σ r σ') (h1 : Cond.methodLink own index y ∈ wsL_law) (h2 : Cond.instanceMethod y ∈ wsL_law) (h3 : Cond.selects K y y ∈ wsL_law) (h4 : Cond.initialized K ∈ wsL_law) (h5 : Cond.code y bytes maxL rty ∈ wsL_law) (hrc : rm.cells = 0) (hrs : rm.slots = 0)
    (hd : y.cls = K ∧ y.cls ≠ "java/lang/invoke/MethodHandle" ∧ y.cls ≠ "java/lang/invoke/VarHandle" ∧ (parseMethodDescriptor y.desc).map (fun d => d.parameters.length) = some n) (hR : rm.frames + 1 ≤ R.frames ∧ 8 + (maxL + 11) + rm.locals ≤ R.locals) (hf : cells ≤ R.cells ∧ slots ≤ R.slots) (hL : L[k]? = some (.inl (ci, fl))) (hc : vwCl[ci]? = some (K, T, N)) (hst : st = As.reverse ++ .ref (gad X k) :: rest) (hn : As.length = n) (hs : ls.size = nL) (hro : (rest.map fun v => v.category).sum ≤ 8) (hdg : decode cc pc = .ok (.invokevirtual index, 3))
    (kk : ∀ (H1 : Heap) (locs1 : List Loc), gP X L σ' H1 → gP Y M τ H1 → va_S A0 s.heap H1 locs1 → W p l e R s m args below meth c H1 locs1 cells slots Q (F0 m (pc + 3) ls (.long r :: rest))) : W p l e R s m args below meth c H locs cells slots Q (F0 m pc ls st) := by
  subst hst
  have hA' : ∀ q, gA X L q → A0 q := by
    rintro q ⟨i, hi, rfl⟩
    exact hA i hi
  refine va_calll (va_runV (As := As) (rest := rest) ⟨hx, hb, hml, hown, hts⟩ hM (cwV n hts (g_wsV h1 h2 h3 h4 h5) rfl hrc hrs hd hR) ⟨gPc_blind, va_recv hKX.1 hPx (q0 := k) hc (gw_get hL), fun U hU hW => ⟨rfl, by rw [hU]; exact hPx, hKX.warm hW⟩⟩ rfl hn hs rfl (lv_room hro) hdg hf) hS (fun q _ h => hA' q h) hA' (fun r0 u t H1 locs1 ht hvm hp hB hz hk hS => ?_)
  cases hp
  have hP1 : gP X L σ' H1 := by rw [← ht]; exact hB
  exact kk H1 locs1 hP1 (gP_kept hPy hdis hk) hS
end LAWC

set_option maxHeartbeats 4000000 in
set_option maxRecDepth 100000 in
theorem lawcase_0 {p : Program} {l : Launch} {e : Env} {s : State} {m : MethodId} {below : List Frame} {meth : Method} {c : Code} {X Y : gXt} {b L : Nat} {xs : Nat → Int32} {Q : State → Prop} (E : lawE p s m meth c X Y b L xs) (i : Nat) (hi : i + 3 < L) (hL : L ≤ 2048) {σ τ : gS} {H : Heap} {locs : List Loc} {ls : Array Slot} (hR : Rel i σ τ) (Px : gP X xL σ H) (Py : gP Y mL τ H) (hS : va_S (fun q : Nat => s.heap.size ≤ q) s.heap H locs) (hl : lv_has ls 4 [(0, .ref b), (1, .ref (gad X 0)), (2, .ref (gad Y 0)), (3, .int (nI i))])
    (kk : ∀ (σ' τ' : gS) (H' : Heap) (locs' : List Loc), Rel (i + 1) σ' τ' → gP X xL σ' H' → gP Y mL τ' H' → va_S (fun q : Nat => s.heap.size ≤ q) s.heap H' locs' → W p l e room_1 s m #[Value.ref b] below meth c H' locs' 600000 7302250 Q (F0 m 854 ls [])) : W p l e room_1 s m #[Value.ref b] below meth c H locs 600000 7302250 Q (F0 m 148 ls []) := by
  obtain ⟨hx, hb, hml, hown, hts, hKX, hKY, hJX, hJY, hdis, hAX, hAY, hX, hbl⟩ := E
  have hbA : ¬ (fun q : Nat => s.heap.size ≤ q) b := Nat.not_le.mpr hbl
  have h_1 : vp_in (nI i + (1 : Int32)) L := by rw [show (nI i + (1 : Int32)) = nI (i + 1) from nI_add i 1]; exact vp_in_nI (by omega) (by omega)
  have h_2 : vp_in (nI i + (2 : Int32)) L := by rw [show (nI i + (2 : Int32)) = nI (i + 2) from nI_add i 2]; exact vp_in_nI (by omega) (by omega)
  refine lv_aload_n hx hb dL_law_148 rfl (lv_at hl 1 rfl) ?_
  refine lv_aload_n hx hb dL_law_149 rfl (lv_at hl 0 rfl) ?_
  refine lv_iload_n hx hb dL_law_150 rfl (lv_at hl 3 rfl) ?_
  refine lv_iconst (v := 1) hx hb dL_law_151 (by decide) ?_
  refine lv_iadd hx hb dL_law_152 ?_
  refine va_sld hx hb hX hbl hbA hS h_1 dL_law_153 ?_
  refine lv_aload_n hx hb dL_law_154 rfl (lv_at hl 0 rfl) ?_
  refine lv_iload_n hx hb dL_law_155 rfl (lv_at hl 3 rfl) ?_
  refine lv_iconst (v := 2) hx hb dL_law_156 (by decide) ?_
  refine lv_iadd hx hb dL_law_157 ?_
  refine va_sld hx hb hX hbl hbA hS h_2 dL_law_158 ?_
  obtain ⟨r, σ', τ', e1, e2, hR'⟩ := sim_make hR (xs (nI i + (1 : Int32)).toNatClampNeg) (xs (nI i + (2 : Int32)).toNatClampNeg)
  refine g_lawi (n := 2) (As := [.int (xs (nI i + (1 : Int32)).toNatClampNeg), .int (xs (nI i + (2 : Int32)).toNatClampNeg)]) (rest := []) hx hb hml hown hts hKX Px Py hdis hS hAX (kX7_make l X hJX σ (xs (nI i + (1 : Int32)).toNatClampNeg) (xs (nI i + (2 : Int32)).toNatClampNeg) (r, σ') e1) wd_106 wd_107 wd_108 wd_2 wd_109 rfl rfl kdX7_make ⟨Nat.le_of_ble_eq_true rfl, Nat.le_of_ble_eq_true rfl⟩ ⟨Nat.le_refl _, Nat.le_refl _⟩ xl0 rfl rfl rfl hl.1 (Nat.le_of_ble_eq_true rfl) dL_law_159 (fun H locs Px Py hS => ?_)
  refine lv_aload_n hx hb dL_law_162 rfl (lv_at hl 2 rfl) ?_
  refine lv_aload_n hx hb dL_law_163 rfl (lv_at hl 0 rfl) ?_
  refine lv_iload_n hx hb dL_law_164 rfl (lv_at hl 3 rfl) ?_
  refine lv_iconst (v := 1) hx hb dL_law_165 (by decide) ?_
  refine lv_iadd hx hb dL_law_166 ?_
  refine va_sld hx hb hX hbl hbA hS h_1 dL_law_167 ?_
  refine lv_aload_n hx hb dL_law_168 rfl (lv_at hl 0 rfl) ?_
  refine lv_iload_n hx hb dL_law_169 rfl (lv_at hl 3 rfl) ?_
  refine lv_iconst (v := 2) hx hb dL_law_170 (by decide) ?_
  refine lv_iadd hx hb dL_law_171 ?_
  refine va_sld hx hb hX hbl hbA hS h_2 dL_law_172 ?_
  refine g_lawi (n := 2) (As := [.int (xs (nI i + (1 : Int32)).toNatClampNeg), .int (xs (nI i + (2 : Int32)).toNatClampNeg)]) (rest := [.int r]) hx hb hml hown hts hKY Py Px (fun i j hi hj h => hdis j i hj hi h.symm) hS hAY (kX8_make l Y hJY τ (xs (nI i + (1 : Int32)).toNatClampNeg) (xs (nI i + (2 : Int32)).toNatClampNeg) (r, τ') e2) wd_172 wd_173 wd_174 wd_5 wd_175 rfl rfl kdX8_make ⟨Nat.le_of_ble_eq_true rfl, Nat.le_of_ble_eq_true rfl⟩ ⟨Nat.le_refl _, Nat.le_refl _⟩ ml0 rfl rfl rfl hl.1 (Nat.le_of_ble_eq_true rfl) dL_law_173 (fun H locs Py Px hS => ?_)
  refine lv_icmp_eq (tgt := 854) hx hb dL_law_176 (by decide) (fun _ => ?_) (fun h => absurd rfl h)
  exact kk σ' τ' H locs hR' Px Py hS

set_option maxHeartbeats 4000000 in
set_option maxRecDepth 100000 in
theorem lawcase_1 {p : Program} {l : Launch} {e : Env} {s : State} {m : MethodId} {below : List Frame} {meth : Method} {c : Code} {X Y : gXt} {b L : Nat} {xs : Nat → Int32} {Q : State → Prop} (E : lawE p s m meth c X Y b L xs) (i : Nat) (hi : i + 3 < L) (hL : L ≤ 2048) {σ τ : gS} {H : Heap} {locs : List Loc} {ls : Array Slot} (hR : Rel i σ τ) (Px : gP X xL σ H) (Py : gP Y mL τ H) (hS : va_S (fun q : Nat => s.heap.size ≤ q) s.heap H locs) (hl : lv_has ls 4 [(0, .ref b), (1, .ref (gad X 0)), (2, .ref (gad Y 0)), (3, .int (nI i))])
    (kk : ∀ (σ' τ' : gS) (H' : Heap) (locs' : List Loc), Rel (i + 1) σ' τ' → gP X xL σ' H' → gP Y mL τ' H' → va_S (fun q : Nat => s.heap.size ≤ q) s.heap H' locs' → W p l e room_1 s m #[Value.ref b] below meth c H' locs' 600000 7302250 Q (F0 m 854 ls [])) : W p l e room_1 s m #[Value.ref b] below meth c H locs 600000 7302250 Q (F0 m 181 ls []) := by
  obtain ⟨hx, hb, hml, hown, hts, hKX, hKY, hJX, hJY, hdis, hAX, hAY, hX, hbl⟩ := E
  have hbA : ¬ (fun q : Nat => s.heap.size ≤ q) b := Nat.not_le.mpr hbl
  have h_1 : vp_in (nI i + (1 : Int32)) L := by rw [show (nI i + (1 : Int32)) = nI (i + 1) from nI_add i 1]; exact vp_in_nI (by omega) (by omega)
  refine lv_aload_n hx hb dL_law_181 rfl (lv_at hl 1 rfl) ?_
  refine lv_aload_n hx hb dL_law_182 rfl (lv_at hl 0 rfl) ?_
  refine lv_iload_n hx hb dL_law_183 rfl (lv_at hl 3 rfl) ?_
  refine lv_iconst (v := 1) hx hb dL_law_184 (by decide) ?_
  refine lv_iadd hx hb dL_law_185 ?_
  refine va_sld hx hb hX hbl hbA hS h_1 dL_law_186 ?_
  obtain ⟨r, σ', τ', e1, e2, hR'⟩ := sim_end hR (xs (nI i + (1 : Int32)).toNatClampNeg)
  refine g_lawi (n := 1) (As := [.int (xs (nI i + (1 : Int32)).toNatClampNeg)]) (rest := []) hx hb hml hown hts hKX Px Py hdis hS hAX (kX7_end l X hJX σ (xs (nI i + (1 : Int32)).toNatClampNeg) (r, σ') e1) wd_319 wd_320 wd_321 wd_2 wd_322 rfl rfl kdX7_end ⟨Nat.le_of_ble_eq_true rfl, Nat.le_of_ble_eq_true rfl⟩ ⟨Nat.le_refl _, Nat.le_refl _⟩ xl0 rfl rfl rfl hl.1 (Nat.le_of_ble_eq_true rfl) dL_law_187 (fun H locs Px Py hS => ?_)
  refine lv_aload_n hx hb dL_law_190 rfl (lv_at hl 2 rfl) ?_
  refine lv_aload_n hx hb dL_law_191 rfl (lv_at hl 0 rfl) ?_
  refine lv_iload_n hx hb dL_law_192 rfl (lv_at hl 3 rfl) ?_
  refine lv_iconst (v := 1) hx hb dL_law_193 (by decide) ?_
  refine lv_iadd hx hb dL_law_194 ?_
  refine va_sld hx hb hX hbl hbA hS h_1 dL_law_195 ?_
  refine g_lawi (n := 1) (As := [.int (xs (nI i + (1 : Int32)).toNatClampNeg)]) (rest := [.int r]) hx hb hml hown hts hKY Py Px (fun i j hi hj h => hdis j i hj hi h.symm) hS hAY (kX8_end l Y hJY τ (xs (nI i + (1 : Int32)).toNatClampNeg) (r, τ') e2) wd_359 wd_360 wd_361 wd_5 wd_362 rfl rfl kdX8_end ⟨Nat.le_of_ble_eq_true rfl, Nat.le_of_ble_eq_true rfl⟩ ⟨Nat.le_refl _, Nat.le_refl _⟩ ml0 rfl rfl rfl hl.1 (Nat.le_of_ble_eq_true rfl) dL_law_196 (fun H locs Py Px hS => ?_)
  refine lv_icmp_eq (tgt := 854) hx hb dL_law_199 (by decide) (fun _ => ?_) (fun h => absurd rfl h)
  exact kk σ' τ' H locs hR' Px Py hS

set_option maxHeartbeats 4000000 in
set_option maxRecDepth 100000 in
theorem lawcase_2 {p : Program} {l : Launch} {e : Env} {s : State} {m : MethodId} {below : List Frame} {meth : Method} {c : Code} {X Y : gXt} {b L : Nat} {xs : Nat → Int32} {Q : State → Prop} (E : lawE p s m meth c X Y b L xs) (i : Nat) (hi : i + 3 < L) (hL : L ≤ 2048) {σ τ : gS} {H : Heap} {locs : List Loc} {ls : Array Slot} (hR : Rel i σ τ) (Px : gP X xL σ H) (Py : gP Y mL τ H) (hS : va_S (fun q : Nat => s.heap.size ≤ q) s.heap H locs) (hl : lv_has ls 4 [(0, .ref b), (1, .ref (gad X 0)), (2, .ref (gad Y 0)), (3, .int (nI i))])
    (kk : ∀ (σ' τ' : gS) (H' : Heap) (locs' : List Loc), Rel (i + 1) σ' τ' → gP X xL σ' H' → gP Y mL τ' H' → va_S (fun q : Nat => s.heap.size ≤ q) s.heap H' locs' → W p l e room_1 s m #[Value.ref b] below meth c H' locs' 600000 7302250 Q (F0 m 854 ls [])) : W p l e room_1 s m #[Value.ref b] below meth c H locs 600000 7302250 Q (F0 m 204 ls []) := by
  obtain ⟨hx, hb, hml, hown, hts, hKX, hKY, hJX, hJY, hdis, hAX, hAY, hX, hbl⟩ := E
  have hbA : ¬ (fun q : Nat => s.heap.size ≤ q) b := Nat.not_le.mpr hbl
  have h_1 : vp_in (nI i + (1 : Int32)) L := by rw [show (nI i + (1 : Int32)) = nI (i + 1) from nI_add i 1]; exact vp_in_nI (by omega) (by omega)
  have h_2 : vp_in (nI i + (2 : Int32)) L := by rw [show (nI i + (2 : Int32)) = nI (i + 2) from nI_add i 2]; exact vp_in_nI (by omega) (by omega)
  refine lv_aload_n hx hb dL_law_204 rfl (lv_at hl 1 rfl) ?_
  refine lv_aload_n hx hb dL_law_205 rfl (lv_at hl 0 rfl) ?_
  refine lv_iload_n hx hb dL_law_206 rfl (lv_at hl 3 rfl) ?_
  refine lv_iconst (v := 1) hx hb dL_law_207 (by decide) ?_
  refine lv_iadd hx hb dL_law_208 ?_
  refine va_sld hx hb hX hbl hbA hS h_1 dL_law_209 ?_
  refine lv_aload_n hx hb dL_law_210 rfl (lv_at hl 0 rfl) ?_
  refine lv_iload_n hx hb dL_law_211 rfl (lv_at hl 3 rfl) ?_
  refine lv_iconst (v := 2) hx hb dL_law_212 (by decide) ?_
  refine lv_iadd hx hb dL_law_213 ?_
  refine va_sld hx hb hX hbl hbA hS h_2 dL_law_214 ?_
  obtain ⟨r, σ', τ', e1, e2, hR'⟩ := sim_set hR (xs (nI i + (1 : Int32)).toNatClampNeg) (xs (nI i + (2 : Int32)).toNatClampNeg)
  refine g_lawi (n := 2) (As := [.int (xs (nI i + (1 : Int32)).toNatClampNeg), .int (xs (nI i + (2 : Int32)).toNatClampNeg)]) (rest := []) hx hb hml hown hts hKX Px Py hdis hS hAX (kX7_set l X hJX σ (xs (nI i + (1 : Int32)).toNatClampNeg) (xs (nI i + (2 : Int32)).toNatClampNeg) (r, σ') e1) wd_363 wd_364 wd_365 wd_2 wd_366 rfl rfl kdX7_set ⟨Nat.le_of_ble_eq_true rfl, Nat.le_of_ble_eq_true rfl⟩ ⟨Nat.le_refl _, Nat.le_refl _⟩ xl0 rfl rfl rfl hl.1 (Nat.le_of_ble_eq_true rfl) dL_law_215 (fun H locs Px Py hS => ?_)
  refine lv_aload_n hx hb dL_law_218 rfl (lv_at hl 2 rfl) ?_
  refine lv_aload_n hx hb dL_law_219 rfl (lv_at hl 0 rfl) ?_
  refine lv_iload_n hx hb dL_law_220 rfl (lv_at hl 3 rfl) ?_
  refine lv_iconst (v := 1) hx hb dL_law_221 (by decide) ?_
  refine lv_iadd hx hb dL_law_222 ?_
  refine va_sld hx hb hX hbl hbA hS h_1 dL_law_223 ?_
  refine lv_aload_n hx hb dL_law_224 rfl (lv_at hl 0 rfl) ?_
  refine lv_iload_n hx hb dL_law_225 rfl (lv_at hl 3 rfl) ?_
  refine lv_iconst (v := 2) hx hb dL_law_226 (by decide) ?_
  refine lv_iadd hx hb dL_law_227 ?_
  refine va_sld hx hb hX hbl hbA hS h_2 dL_law_228 ?_
  refine g_lawi (n := 2) (As := [.int (xs (nI i + (1 : Int32)).toNatClampNeg), .int (xs (nI i + (2 : Int32)).toNatClampNeg)]) (rest := [.int r]) hx hb hml hown hts hKY Py Px (fun i j hi hj h => hdis j i hj hi h.symm) hS hAY (kX8_set l Y hJY τ (xs (nI i + (1 : Int32)).toNatClampNeg) (xs (nI i + (2 : Int32)).toNatClampNeg) (r, τ') e2) wd_376 wd_377 wd_378 wd_5 wd_379 rfl rfl kdX8_set ⟨Nat.le_of_ble_eq_true rfl, Nat.le_of_ble_eq_true rfl⟩ ⟨Nat.le_refl _, Nat.le_refl _⟩ ml0 rfl rfl rfl hl.1 (Nat.le_of_ble_eq_true rfl) dL_law_229 (fun H locs Py Px hS => ?_)
  refine lv_icmp_eq (tgt := 854) hx hb dL_law_232 (by decide) (fun _ => ?_) (fun h => absurd rfl h)
  exact kk σ' τ' H locs hR' Px Py hS

set_option maxHeartbeats 4000000 in
set_option maxRecDepth 100000 in
theorem lawcase_3 {p : Program} {l : Launch} {e : Env} {s : State} {m : MethodId} {below : List Frame} {meth : Method} {c : Code} {X Y : gXt} {b L : Nat} {xs : Nat → Int32} {Q : State → Prop} (E : lawE p s m meth c X Y b L xs) (i : Nat) (hi : i + 3 < L) (hL : L ≤ 2048) {σ τ : gS} {H : Heap} {locs : List Loc} {ls : Array Slot} (hR : Rel i σ τ) (Px : gP X xL σ H) (Py : gP Y mL τ H) (hS : va_S (fun q : Nat => s.heap.size ≤ q) s.heap H locs) (hl : lv_has ls 4 [(0, .ref b), (1, .ref (gad X 0)), (2, .ref (gad Y 0)), (3, .int (nI i))])
    (kk : ∀ (σ' τ' : gS) (H' : Heap) (locs' : List Loc), Rel (i + 1) σ' τ' → gP X xL σ' H' → gP Y mL τ' H' → va_S (fun q : Nat => s.heap.size ≤ q) s.heap H' locs' → W p l e room_1 s m #[Value.ref b] below meth c H' locs' 600000 7302250 Q (F0 m 854 ls [])) : W p l e room_1 s m #[Value.ref b] below meth c H locs 600000 7302250 Q (F0 m 237 ls []) := by
  obtain ⟨hx, hb, hml, hown, hts, hKX, hKY, hJX, hJY, hdis, hAX, hAY, hX, hbl⟩ := E
  have hbA : ¬ (fun q : Nat => s.heap.size ≤ q) b := Nat.not_le.mpr hbl
  have h_1 : vp_in (nI i + (1 : Int32)) L := by rw [show (nI i + (1 : Int32)) = nI (i + 1) from nI_add i 1]; exact vp_in_nI (by omega) (by omega)
  have h_2 : vp_in (nI i + (2 : Int32)) L := by rw [show (nI i + (2 : Int32)) = nI (i + 2) from nI_add i 2]; exact vp_in_nI (by omega) (by omega)
  refine lv_aload_n hx hb dL_law_237 rfl (lv_at hl 1 rfl) ?_
  refine lv_aload_n hx hb dL_law_238 rfl (lv_at hl 0 rfl) ?_
  refine lv_iload_n hx hb dL_law_239 rfl (lv_at hl 3 rfl) ?_
  refine lv_iconst (v := 1) hx hb dL_law_240 (by decide) ?_
  refine lv_iadd hx hb dL_law_241 ?_
  refine va_sld hx hb hX hbl hbA hS h_1 dL_law_242 ?_
  refine lv_aload_n hx hb dL_law_243 rfl (lv_at hl 0 rfl) ?_
  refine lv_iload_n hx hb dL_law_244 rfl (lv_at hl 3 rfl) ?_
  refine lv_iconst (v := 2) hx hb dL_law_245 (by decide) ?_
  refine lv_iadd hx hb dL_law_246 ?_
  refine va_sld hx hb hX hbl hbA hS h_2 dL_law_247 ?_
  obtain ⟨r, σ', τ', e1, e2, hR'⟩ := sim_copy hR (xs (nI i + (1 : Int32)).toNatClampNeg) (xs (nI i + (2 : Int32)).toNatClampNeg)
  refine g_lawi (n := 2) (As := [.int (xs (nI i + (1 : Int32)).toNatClampNeg), .int (xs (nI i + (2 : Int32)).toNatClampNeg)]) (rest := []) hx hb hml hown hts hKX Px Py hdis hS hAX (kX7_copy l X hJX σ (xs (nI i + (1 : Int32)).toNatClampNeg) (xs (nI i + (2 : Int32)).toNatClampNeg) (r, σ') e1) wd_380 wd_381 wd_382 wd_2 wd_383 rfl rfl kdX7_copy ⟨Nat.le_of_ble_eq_true rfl, Nat.le_of_ble_eq_true rfl⟩ ⟨Nat.le_refl _, Nat.le_refl _⟩ xl0 rfl rfl rfl hl.1 (Nat.le_of_ble_eq_true rfl) dL_law_248 (fun H locs Px Py hS => ?_)
  refine lv_aload_n hx hb dL_law_251 rfl (lv_at hl 2 rfl) ?_
  refine lv_aload_n hx hb dL_law_252 rfl (lv_at hl 0 rfl) ?_
  refine lv_iload_n hx hb dL_law_253 rfl (lv_at hl 3 rfl) ?_
  refine lv_iconst (v := 1) hx hb dL_law_254 (by decide) ?_
  refine lv_iadd hx hb dL_law_255 ?_
  refine va_sld hx hb hX hbl hbA hS h_1 dL_law_256 ?_
  refine lv_aload_n hx hb dL_law_257 rfl (lv_at hl 0 rfl) ?_
  refine lv_iload_n hx hb dL_law_258 rfl (lv_at hl 3 rfl) ?_
  refine lv_iconst (v := 2) hx hb dL_law_259 (by decide) ?_
  refine lv_iadd hx hb dL_law_260 ?_
  refine va_sld hx hb hX hbl hbA hS h_2 dL_law_261 ?_
  refine g_lawi (n := 2) (As := [.int (xs (nI i + (1 : Int32)).toNatClampNeg), .int (xs (nI i + (2 : Int32)).toNatClampNeg)]) (rest := [.int r]) hx hb hml hown hts hKY Py Px (fun i j hi hj h => hdis j i hj hi h.symm) hS hAY (kX8_copy l Y hJY τ (xs (nI i + (1 : Int32)).toNatClampNeg) (xs (nI i + (2 : Int32)).toNatClampNeg) (r, τ') e2) wd_389 wd_390 wd_391 wd_5 wd_392 rfl rfl kdX8_copy ⟨Nat.le_of_ble_eq_true rfl, Nat.le_of_ble_eq_true rfl⟩ ⟨Nat.le_refl _, Nat.le_refl _⟩ ml0 rfl rfl rfl hl.1 (Nat.le_of_ble_eq_true rfl) dL_law_262 (fun H locs Py Px hS => ?_)
  refine lv_icmp_eq (tgt := 854) hx hb dL_law_265 (by decide) (fun _ => ?_) (fun h => absurd rfl h)
  exact kk σ' τ' H locs hR' Px Py hS

set_option maxHeartbeats 4000000 in
set_option maxRecDepth 100000 in
theorem lawcase_4 {p : Program} {l : Launch} {e : Env} {s : State} {m : MethodId} {below : List Frame} {meth : Method} {c : Code} {X Y : gXt} {b L : Nat} {xs : Nat → Int32} {Q : State → Prop} (E : lawE p s m meth c X Y b L xs) (i : Nat) (hi : i + 3 < L) (hL : L ≤ 2048) {σ τ : gS} {H : Heap} {locs : List Loc} {ls : Array Slot} (hR : Rel i σ τ) (Px : gP X xL σ H) (Py : gP Y mL τ H) (hS : va_S (fun q : Nat => s.heap.size ≤ q) s.heap H locs) (hl : lv_has ls 4 [(0, .ref b), (1, .ref (gad X 0)), (2, .ref (gad Y 0)), (3, .int (nI i))])
    (kk : ∀ (σ' τ' : gS) (H' : Heap) (locs' : List Loc), Rel (i + 1) σ' τ' → gP X xL σ' H' → gP Y mL τ' H' → va_S (fun q : Nat => s.heap.size ≤ q) s.heap H' locs' → W p l e room_1 s m #[Value.ref b] below meth c H' locs' 600000 7302250 Q (F0 m 854 ls [])) : W p l e room_1 s m #[Value.ref b] below meth c H locs 600000 7302250 Q (F0 m 270 ls []) := by
  obtain ⟨hx, hb, hml, hown, hts, hKX, hKY, hJX, hJY, hdis, hAX, hAY, hX, hbl⟩ := E
  have hbA : ¬ (fun q : Nat => s.heap.size ≤ q) b := Nat.not_le.mpr hbl
  have h_1 : vp_in (nI i + (1 : Int32)) L := by rw [show (nI i + (1 : Int32)) = nI (i + 1) from nI_add i 1]; exact vp_in_nI (by omega) (by omega)
  have h_2 : vp_in (nI i + (2 : Int32)) L := by rw [show (nI i + (2 : Int32)) = nI (i + 2) from nI_add i 2]; exact vp_in_nI (by omega) (by omega)
  refine lv_aload_n hx hb dL_law_270 rfl (lv_at hl 1 rfl) ?_
  refine lv_aload_n hx hb dL_law_271 rfl (lv_at hl 0 rfl) ?_
  refine lv_iload_n hx hb dL_law_272 rfl (lv_at hl 3 rfl) ?_
  refine lv_iconst (v := 1) hx hb dL_law_273 (by decide) ?_
  refine lv_iadd hx hb dL_law_274 ?_
  refine va_sld hx hb hX hbl hbA hS h_1 dL_law_275 ?_
  refine lv_aload_n hx hb dL_law_276 rfl (lv_at hl 0 rfl) ?_
  refine lv_iload_n hx hb dL_law_277 rfl (lv_at hl 3 rfl) ?_
  refine lv_iconst (v := 2) hx hb dL_law_278 (by decide) ?_
  refine lv_iadd hx hb dL_law_279 ?_
  refine va_sld hx hb hX hbl hbA hS h_2 dL_law_280 ?_
  obtain ⟨r, σ', τ', e1, e2, hR'⟩ := sim_move hR (xs (nI i + (1 : Int32)).toNatClampNeg) (xs (nI i + (2 : Int32)).toNatClampNeg)
  refine g_lawi (n := 2) (As := [.int (xs (nI i + (1 : Int32)).toNatClampNeg), .int (xs (nI i + (2 : Int32)).toNatClampNeg)]) (rest := []) hx hb hml hown hts hKX Px Py hdis hS hAX (kX7_move l X hJX σ (xs (nI i + (1 : Int32)).toNatClampNeg) (xs (nI i + (2 : Int32)).toNatClampNeg) (r, σ') e1) wd_393 wd_394 wd_395 wd_2 wd_396 rfl rfl kdX7_move ⟨Nat.le_of_ble_eq_true rfl, Nat.le_of_ble_eq_true rfl⟩ ⟨Nat.le_refl _, Nat.le_refl _⟩ xl0 rfl rfl rfl hl.1 (Nat.le_of_ble_eq_true rfl) dL_law_281 (fun H locs Px Py hS => ?_)
  refine lv_aload_n hx hb dL_law_284 rfl (lv_at hl 2 rfl) ?_
  refine lv_aload_n hx hb dL_law_285 rfl (lv_at hl 0 rfl) ?_
  refine lv_iload_n hx hb dL_law_286 rfl (lv_at hl 3 rfl) ?_
  refine lv_iconst (v := 1) hx hb dL_law_287 (by decide) ?_
  refine lv_iadd hx hb dL_law_288 ?_
  refine va_sld hx hb hX hbl hbA hS h_1 dL_law_289 ?_
  refine lv_aload_n hx hb dL_law_290 rfl (lv_at hl 0 rfl) ?_
  refine lv_iload_n hx hb dL_law_291 rfl (lv_at hl 3 rfl) ?_
  refine lv_iconst (v := 2) hx hb dL_law_292 (by decide) ?_
  refine lv_iadd hx hb dL_law_293 ?_
  refine va_sld hx hb hX hbl hbA hS h_2 dL_law_294 ?_
  refine g_lawi (n := 2) (As := [.int (xs (nI i + (1 : Int32)).toNatClampNeg), .int (xs (nI i + (2 : Int32)).toNatClampNeg)]) (rest := [.int r]) hx hb hml hown hts hKY Py Px (fun i j hi hj h => hdis j i hj hi h.symm) hS hAY (kX8_move l Y hJY τ (xs (nI i + (1 : Int32)).toNatClampNeg) (xs (nI i + (2 : Int32)).toNatClampNeg) (r, τ') e2) wd_414 wd_415 wd_416 wd_5 wd_417 rfl rfl kdX8_move ⟨Nat.le_of_ble_eq_true rfl, Nat.le_of_ble_eq_true rfl⟩ ⟨Nat.le_refl _, Nat.le_refl _⟩ ml0 rfl rfl rfl hl.1 (Nat.le_of_ble_eq_true rfl) dL_law_295 (fun H locs Py Px hS => ?_)
  refine lv_icmp_eq (tgt := 854) hx hb dL_law_298 (by decide) (fun _ => ?_) (fun h => absurd rfl h)
  exact kk σ' τ' H locs hR' Px Py hS

set_option maxHeartbeats 4000000 in
set_option maxRecDepth 100000 in
theorem lawcase_5 {p : Program} {l : Launch} {e : Env} {s : State} {m : MethodId} {below : List Frame} {meth : Method} {c : Code} {X Y : gXt} {b L : Nat} {xs : Nat → Int32} {Q : State → Prop} (E : lawE p s m meth c X Y b L xs) (i : Nat) (hi : i + 3 < L) (hL : L ≤ 2048) {σ τ : gS} {H : Heap} {locs : List Loc} {ls : Array Slot} (hR : Rel i σ τ) (Px : gP X xL σ H) (Py : gP Y mL τ H) (hS : va_S (fun q : Nat => s.heap.size ≤ q) s.heap H locs) (hl : lv_has ls 4 [(0, .ref b), (1, .ref (gad X 0)), (2, .ref (gad Y 0)), (3, .int (nI i))])
    (kk : ∀ (σ' τ' : gS) (H' : Heap) (locs' : List Loc), Rel (i + 1) σ' τ' → gP X xL σ' H' → gP Y mL τ' H' → va_S (fun q : Nat => s.heap.size ≤ q) s.heap H' locs' → W p l e room_1 s m #[Value.ref b] below meth c H' locs' 600000 7302250 Q (F0 m 854 ls [])) : W p l e room_1 s m #[Value.ref b] below meth c H locs 600000 7302250 Q (F0 m 303 ls []) := by
  obtain ⟨hx, hb, hml, hown, hts, hKX, hKY, hJX, hJY, hdis, hAX, hAY, hX, hbl⟩ := E
  have hbA : ¬ (fun q : Nat => s.heap.size ≤ q) b := Nat.not_le.mpr hbl
  have h_1 : vp_in (nI i + (1 : Int32)) L := by rw [show (nI i + (1 : Int32)) = nI (i + 1) from nI_add i 1]; exact vp_in_nI (by omega) (by omega)
  have h_2 : vp_in (nI i + (2 : Int32)) L := by rw [show (nI i + (2 : Int32)) = nI (i + 2) from nI_add i 2]; exact vp_in_nI (by omega) (by omega)
  have h_3 : vp_in (nI i + (3 : Int32)) L := by rw [show (nI i + (3 : Int32)) = nI (i + 3) from nI_add i 3]; exact vp_in_nI (by omega) (by omega)
  refine lv_aload_n hx hb dL_law_303 rfl (lv_at hl 1 rfl) ?_
  refine lv_aload_n hx hb dL_law_304 rfl (lv_at hl 0 rfl) ?_
  refine lv_iload_n hx hb dL_law_305 rfl (lv_at hl 3 rfl) ?_
  refine lv_iconst (v := 1) hx hb dL_law_306 (by decide) ?_
  refine lv_iadd hx hb dL_law_307 ?_
  refine va_sld hx hb hX hbl hbA hS h_1 dL_law_308 ?_
  refine lv_aload_n hx hb dL_law_309 rfl (lv_at hl 0 rfl) ?_
  refine lv_iload_n hx hb dL_law_310 rfl (lv_at hl 3 rfl) ?_
  refine lv_iconst (v := 2) hx hb dL_law_311 (by decide) ?_
  refine lv_iadd hx hb dL_law_312 ?_
  refine va_sld hx hb hX hbl hbA hS h_2 dL_law_313 ?_
  refine lv_aload_n hx hb dL_law_314 rfl (lv_at hl 0 rfl) ?_
  refine lv_iload_n hx hb dL_law_315 rfl (lv_at hl 3 rfl) ?_
  refine lv_iconst (v := 3) hx hb dL_law_316 (by decide) ?_
  refine lv_iadd hx hb dL_law_317 ?_
  refine va_sld hx hb hX hbl hbA hS h_3 dL_law_318 ?_
  obtain ⟨r, σ', τ', e1, e2, hR'⟩ := sim_store hR (xs (nI i + (1 : Int32)).toNatClampNeg) (xs (nI i + (2 : Int32)).toNatClampNeg) (xs (nI i + (3 : Int32)).toNatClampNeg)
  refine g_lawi (n := 3) (As := [.int (xs (nI i + (1 : Int32)).toNatClampNeg), .int (xs (nI i + (2 : Int32)).toNatClampNeg), .int (xs (nI i + (3 : Int32)).toNatClampNeg)]) (rest := []) hx hb hml hown hts hKX Px Py hdis hS hAX (kX7_store l X hJX σ (xs (nI i + (1 : Int32)).toNatClampNeg) (xs (nI i + (2 : Int32)).toNatClampNeg) (xs (nI i + (3 : Int32)).toNatClampNeg) (r, σ') e1) wd_418 wd_419 wd_420 wd_2 wd_421 rfl rfl kdX7_store ⟨Nat.le_of_ble_eq_true rfl, Nat.le_of_ble_eq_true rfl⟩ ⟨Nat.le_refl _, Nat.le_refl _⟩ xl0 rfl rfl rfl hl.1 (Nat.le_of_ble_eq_true rfl) dL_law_319 (fun H locs Px Py hS => ?_)
  refine lv_aload_n hx hb dL_law_322 rfl (lv_at hl 2 rfl) ?_
  refine lv_aload_n hx hb dL_law_323 rfl (lv_at hl 0 rfl) ?_
  refine lv_iload_n hx hb dL_law_324 rfl (lv_at hl 3 rfl) ?_
  refine lv_iconst (v := 1) hx hb dL_law_325 (by decide) ?_
  refine lv_iadd hx hb dL_law_326 ?_
  refine va_sld hx hb hX hbl hbA hS h_1 dL_law_327 ?_
  refine lv_aload_n hx hb dL_law_328 rfl (lv_at hl 0 rfl) ?_
  refine lv_iload_n hx hb dL_law_329 rfl (lv_at hl 3 rfl) ?_
  refine lv_iconst (v := 2) hx hb dL_law_330 (by decide) ?_
  refine lv_iadd hx hb dL_law_331 ?_
  refine va_sld hx hb hX hbl hbA hS h_2 dL_law_332 ?_
  refine lv_aload_n hx hb dL_law_333 rfl (lv_at hl 0 rfl) ?_
  refine lv_iload_n hx hb dL_law_334 rfl (lv_at hl 3 rfl) ?_
  refine lv_iconst (v := 3) hx hb dL_law_335 (by decide) ?_
  refine lv_iadd hx hb dL_law_336 ?_
  refine va_sld hx hb hX hbl hbA hS h_3 dL_law_337 ?_
  refine g_lawi (n := 3) (As := [.int (xs (nI i + (1 : Int32)).toNatClampNeg), .int (xs (nI i + (2 : Int32)).toNatClampNeg), .int (xs (nI i + (3 : Int32)).toNatClampNeg)]) (rest := [.int r]) hx hb hml hown hts hKY Py Px (fun i j hi hj h => hdis j i hj hi h.symm) hS hAY (kX8_store l Y hJY τ (xs (nI i + (1 : Int32)).toNatClampNeg) (xs (nI i + (2 : Int32)).toNatClampNeg) (xs (nI i + (3 : Int32)).toNatClampNeg) (r, τ') e2) wd_451 wd_452 wd_453 wd_5 wd_454 rfl rfl kdX8_store ⟨Nat.le_of_ble_eq_true rfl, Nat.le_of_ble_eq_true rfl⟩ ⟨Nat.le_refl _, Nat.le_refl _⟩ ml0 rfl rfl rfl hl.1 (Nat.le_of_ble_eq_true rfl) dL_law_338 (fun H locs Py Px hS => ?_)
  refine lv_icmp_eq (tgt := 854) hx hb dL_law_341 (by decide) (fun _ => ?_) (fun h => absurd rfl h)
  exact kk σ' τ' H locs hR' Px Py hS

set_option maxHeartbeats 4000000 in
set_option maxRecDepth 100000 in
theorem lawcase_6 {p : Program} {l : Launch} {e : Env} {s : State} {m : MethodId} {below : List Frame} {meth : Method} {c : Code} {X Y : gXt} {b L : Nat} {xs : Nat → Int32} {Q : State → Prop} (E : lawE p s m meth c X Y b L xs) (i : Nat) (hi : i + 3 < L) (hL : L ≤ 2048) {σ τ : gS} {H : Heap} {locs : List Loc} {ls : Array Slot} (hR : Rel i σ τ) (Px : gP X xL σ H) (Py : gP Y mL τ H) (hS : va_S (fun q : Nat => s.heap.size ≤ q) s.heap H locs) (hl : lv_has ls 4 [(0, .ref b), (1, .ref (gad X 0)), (2, .ref (gad Y 0)), (3, .int (nI i))])
    (kk : ∀ (σ' τ' : gS) (H' : Heap) (locs' : List Loc), Rel (i + 1) σ' τ' → gP X xL σ' H' → gP Y mL τ' H' → va_S (fun q : Nat => s.heap.size ≤ q) s.heap H' locs' → W p l e room_1 s m #[Value.ref b] below meth c H' locs' 600000 7302250 Q (F0 m 854 ls [])) : W p l e room_1 s m #[Value.ref b] below meth c H locs 600000 7302250 Q (F0 m 346 ls []) := by
  obtain ⟨hx, hb, hml, hown, hts, hKX, hKY, hJX, hJY, hdis, hAX, hAY, hX, hbl⟩ := E
  have hbA : ¬ (fun q : Nat => s.heap.size ≤ q) b := Nat.not_le.mpr hbl
  have h_1 : vp_in (nI i + (1 : Int32)) L := by rw [show (nI i + (1 : Int32)) = nI (i + 1) from nI_add i 1]; exact vp_in_nI (by omega) (by omega)
  have h_2 : vp_in (nI i + (2 : Int32)) L := by rw [show (nI i + (2 : Int32)) = nI (i + 2) from nI_add i 2]; exact vp_in_nI (by omega) (by omega)
  have h_3 : vp_in (nI i + (3 : Int32)) L := by rw [show (nI i + (3 : Int32)) = nI (i + 3) from nI_add i 3]; exact vp_in_nI (by omega) (by omega)
  refine lv_aload_n hx hb dL_law_346 rfl (lv_at hl 1 rfl) ?_
  refine lv_aload_n hx hb dL_law_347 rfl (lv_at hl 0 rfl) ?_
  refine lv_iload_n hx hb dL_law_348 rfl (lv_at hl 3 rfl) ?_
  refine lv_iconst (v := 1) hx hb dL_law_349 (by decide) ?_
  refine lv_iadd hx hb dL_law_350 ?_
  refine va_sld hx hb hX hbl hbA hS h_1 dL_law_351 ?_
  refine lv_aload_n hx hb dL_law_352 rfl (lv_at hl 0 rfl) ?_
  refine lv_iload_n hx hb dL_law_353 rfl (lv_at hl 3 rfl) ?_
  refine lv_iconst (v := 2) hx hb dL_law_354 (by decide) ?_
  refine lv_iadd hx hb dL_law_355 ?_
  refine va_sld hx hb hX hbl hbA hS h_2 dL_law_356 ?_
  refine lv_aload_n hx hb dL_law_357 rfl (lv_at hl 0 rfl) ?_
  refine lv_iload_n hx hb dL_law_358 rfl (lv_at hl 3 rfl) ?_
  refine lv_iconst (v := 3) hx hb dL_law_359 (by decide) ?_
  refine lv_iadd hx hb dL_law_360 ?_
  refine va_sld hx hb hX hbl hbA hS h_3 dL_law_361 ?_
  obtain ⟨r, σ', τ', e1, e2, hR'⟩ := sim_load hR (xs (nI i + (1 : Int32)).toNatClampNeg) (xs (nI i + (2 : Int32)).toNatClampNeg) (xs (nI i + (3 : Int32)).toNatClampNeg)
  refine g_lawi (n := 3) (As := [.int (xs (nI i + (1 : Int32)).toNatClampNeg), .int (xs (nI i + (2 : Int32)).toNatClampNeg), .int (xs (nI i + (3 : Int32)).toNatClampNeg)]) (rest := []) hx hb hml hown hts hKX Px Py hdis hS hAX (kX7_load l X hJX σ (xs (nI i + (1 : Int32)).toNatClampNeg) (xs (nI i + (2 : Int32)).toNatClampNeg) (xs (nI i + (3 : Int32)).toNatClampNeg) (r, σ') e1) wd_455 wd_456 wd_457 wd_2 wd_458 rfl rfl kdX7_load ⟨Nat.le_of_ble_eq_true rfl, Nat.le_of_ble_eq_true rfl⟩ ⟨Nat.le_refl _, Nat.le_refl _⟩ xl0 rfl rfl rfl hl.1 (Nat.le_of_ble_eq_true rfl) dL_law_362 (fun H locs Px Py hS => ?_)
  refine lv_aload_n hx hb dL_law_365 rfl (lv_at hl 2 rfl) ?_
  refine lv_aload_n hx hb dL_law_366 rfl (lv_at hl 0 rfl) ?_
  refine lv_iload_n hx hb dL_law_367 rfl (lv_at hl 3 rfl) ?_
  refine lv_iconst (v := 1) hx hb dL_law_368 (by decide) ?_
  refine lv_iadd hx hb dL_law_369 ?_
  refine va_sld hx hb hX hbl hbA hS h_1 dL_law_370 ?_
  refine lv_aload_n hx hb dL_law_371 rfl (lv_at hl 0 rfl) ?_
  refine lv_iload_n hx hb dL_law_372 rfl (lv_at hl 3 rfl) ?_
  refine lv_iconst (v := 2) hx hb dL_law_373 (by decide) ?_
  refine lv_iadd hx hb dL_law_374 ?_
  refine va_sld hx hb hX hbl hbA hS h_2 dL_law_375 ?_
  refine lv_aload_n hx hb dL_law_376 rfl (lv_at hl 0 rfl) ?_
  refine lv_iload_n hx hb dL_law_377 rfl (lv_at hl 3 rfl) ?_
  refine lv_iconst (v := 3) hx hb dL_law_378 (by decide) ?_
  refine lv_iadd hx hb dL_law_379 ?_
  refine va_sld hx hb hX hbl hbA hS h_3 dL_law_380 ?_
  refine g_lawi (n := 3) (As := [.int (xs (nI i + (1 : Int32)).toNatClampNeg), .int (xs (nI i + (2 : Int32)).toNatClampNeg), .int (xs (nI i + (3 : Int32)).toNatClampNeg)]) (rest := [.int r]) hx hb hml hown hts hKY Py Px (fun i j hi hj h => hdis j i hj hi h.symm) hS hAY (kX8_load l Y hJY τ (xs (nI i + (1 : Int32)).toNatClampNeg) (xs (nI i + (2 : Int32)).toNatClampNeg) (xs (nI i + (3 : Int32)).toNatClampNeg) (r, τ') e2) wd_471 wd_472 wd_473 wd_5 wd_474 rfl rfl kdX8_load ⟨Nat.le_of_ble_eq_true rfl, Nat.le_of_ble_eq_true rfl⟩ ⟨Nat.le_refl _, Nat.le_refl _⟩ ml0 rfl rfl rfl hl.1 (Nat.le_of_ble_eq_true rfl) dL_law_381 (fun H locs Py Px hS => ?_)
  refine lv_icmp_eq (tgt := 854) hx hb dL_law_384 (by decide) (fun _ => ?_) (fun h => absurd rfl h)
  exact kk σ' τ' H locs hR' Px Py hS

set_option maxHeartbeats 4000000 in
set_option maxRecDepth 100000 in
theorem lawcase_7 {p : Program} {l : Launch} {e : Env} {s : State} {m : MethodId} {below : List Frame} {meth : Method} {c : Code} {X Y : gXt} {b L : Nat} {xs : Nat → Int32} {Q : State → Prop} (E : lawE p s m meth c X Y b L xs) (i : Nat) (hi : i + 3 < L) (hL : L ≤ 2048) {σ τ : gS} {H : Heap} {locs : List Loc} {ls : Array Slot} (hR : Rel i σ τ) (Px : gP X xL σ H) (Py : gP Y mL τ H) (hS : va_S (fun q : Nat => s.heap.size ≤ q) s.heap H locs) (hl : lv_has ls 4 [(0, .ref b), (1, .ref (gad X 0)), (2, .ref (gad Y 0)), (3, .int (nI i))])
    (kk : ∀ (σ' τ' : gS) (H' : Heap) (locs' : List Loc), Rel (i + 1) σ' τ' → gP X xL σ' H' → gP Y mL τ' H' → va_S (fun q : Nat => s.heap.size ≤ q) s.heap H' locs' → W p l e room_1 s m #[Value.ref b] below meth c H' locs' 600000 7302250 Q (F0 m 854 ls [])) : W p l e room_1 s m #[Value.ref b] below meth c H locs 600000 7302250 Q (F0 m 389 ls []) := by
  obtain ⟨hx, hb, hml, hown, hts, hKX, hKY, hJX, hJY, hdis, hAX, hAY, hX, hbl⟩ := E
  have hbA : ¬ (fun q : Nat => s.heap.size ≤ q) b := Nat.not_le.mpr hbl
  have h_1 : vp_in (nI i + (1 : Int32)) L := by rw [show (nI i + (1 : Int32)) = nI (i + 1) from nI_add i 1]; exact vp_in_nI (by omega) (by omega)
  have h_2 : vp_in (nI i + (2 : Int32)) L := by rw [show (nI i + (2 : Int32)) = nI (i + 2) from nI_add i 2]; exact vp_in_nI (by omega) (by omega)
  refine lv_aload_n hx hb dL_law_389 rfl (lv_at hl 1 rfl) ?_
  refine lv_aload_n hx hb dL_law_390 rfl (lv_at hl 0 rfl) ?_
  refine lv_iload_n hx hb dL_law_391 rfl (lv_at hl 3 rfl) ?_
  refine lv_iconst (v := 1) hx hb dL_law_392 (by decide) ?_
  refine lv_iadd hx hb dL_law_393 ?_
  refine va_sld hx hb hX hbl hbA hS h_1 dL_law_394 ?_
  refine lv_aload_n hx hb dL_law_395 rfl (lv_at hl 0 rfl) ?_
  refine lv_iload_n hx hb dL_law_396 rfl (lv_at hl 3 rfl) ?_
  refine lv_iconst (v := 2) hx hb dL_law_397 (by decide) ?_
  refine lv_iadd hx hb dL_law_398 ?_
  refine va_sld hx hb hX hbl hbA hS h_2 dL_law_399 ?_
  obtain ⟨r, σ', τ', e1, e2, hR'⟩ := sim_compare hR (xs (nI i + (1 : Int32)).toNatClampNeg) (xs (nI i + (2 : Int32)).toNatClampNeg)
  refine g_lawi (n := 2) (As := [.int (xs (nI i + (1 : Int32)).toNatClampNeg), .int (xs (nI i + (2 : Int32)).toNatClampNeg)]) (rest := []) hx hb hml hown hts hKX Px Py hdis hS hAX (kX7_compare l X hJX σ (xs (nI i + (1 : Int32)).toNatClampNeg) (xs (nI i + (2 : Int32)).toNatClampNeg) (r, σ') e1) wd_475 wd_476 wd_477 wd_2 wd_478 rfl rfl kdX7_compare ⟨Nat.le_of_ble_eq_true rfl, Nat.le_of_ble_eq_true rfl⟩ ⟨Nat.le_refl _, Nat.le_refl _⟩ xl0 rfl rfl rfl hl.1 (Nat.le_of_ble_eq_true rfl) dL_law_400 (fun H locs Px Py hS => ?_)
  refine lv_aload_n hx hb dL_law_403 rfl (lv_at hl 2 rfl) ?_
  refine lv_aload_n hx hb dL_law_404 rfl (lv_at hl 0 rfl) ?_
  refine lv_iload_n hx hb dL_law_405 rfl (lv_at hl 3 rfl) ?_
  refine lv_iconst (v := 1) hx hb dL_law_406 (by decide) ?_
  refine lv_iadd hx hb dL_law_407 ?_
  refine va_sld hx hb hX hbl hbA hS h_1 dL_law_408 ?_
  refine lv_aload_n hx hb dL_law_409 rfl (lv_at hl 0 rfl) ?_
  refine lv_iload_n hx hb dL_law_410 rfl (lv_at hl 3 rfl) ?_
  refine lv_iconst (v := 2) hx hb dL_law_411 (by decide) ?_
  refine lv_iadd hx hb dL_law_412 ?_
  refine va_sld hx hb hX hbl hbA hS h_2 dL_law_413 ?_
  refine g_lawi (n := 2) (As := [.int (xs (nI i + (1 : Int32)).toNatClampNeg), .int (xs (nI i + (2 : Int32)).toNatClampNeg)]) (rest := [.int r]) hx hb hml hown hts hKY Py Px (fun i j hi hj h => hdis j i hj hi h.symm) hS hAY (kX8_compare l Y hJY τ (xs (nI i + (1 : Int32)).toNatClampNeg) (xs (nI i + (2 : Int32)).toNatClampNeg) (r, τ') e2) wd_486 wd_487 wd_488 wd_5 wd_489 rfl rfl kdX8_compare ⟨Nat.le_of_ble_eq_true rfl, Nat.le_of_ble_eq_true rfl⟩ ⟨Nat.le_refl _, Nat.le_refl _⟩ ml0 rfl rfl rfl hl.1 (Nat.le_of_ble_eq_true rfl) dL_law_414 (fun H locs Py Px hS => ?_)
  refine lv_icmp_eq (tgt := 854) hx hb dL_law_417 (by decide) (fun _ => ?_) (fun h => absurd rfl h)
  exact kk σ' τ' H locs hR' Px Py hS

set_option maxHeartbeats 4000000 in
set_option maxRecDepth 100000 in
theorem lawcase_8 {p : Program} {l : Launch} {e : Env} {s : State} {m : MethodId} {below : List Frame} {meth : Method} {c : Code} {X Y : gXt} {b L : Nat} {xs : Nat → Int32} {Q : State → Prop} (E : lawE p s m meth c X Y b L xs) (i : Nat) (hi : i + 3 < L) (hL : L ≤ 2048) {σ τ : gS} {H : Heap} {locs : List Loc} {ls : Array Slot} (hR : Rel i σ τ) (Px : gP X xL σ H) (Py : gP Y mL τ H) (hS : va_S (fun q : Nat => s.heap.size ≤ q) s.heap H locs) (hl : lv_has ls 4 [(0, .ref b), (1, .ref (gad X 0)), (2, .ref (gad Y 0)), (3, .int (nI i))])
    (kk : ∀ (σ' τ' : gS) (H' : Heap) (locs' : List Loc), Rel (i + 1) σ' τ' → gP X xL σ' H' → gP Y mL τ' H' → va_S (fun q : Nat => s.heap.size ≤ q) s.heap H' locs' → W p l e room_1 s m #[Value.ref b] below meth c H' locs' 600000 7302250 Q (F0 m 854 ls [])) : W p l e room_1 s m #[Value.ref b] below meth c H locs 600000 7302250 Q (F0 m 422 ls []) := by
  obtain ⟨hx, hb, hml, hown, hts, hKX, hKY, hJX, hJY, hdis, hAX, hAY, hX, hbl⟩ := E
  have hbA : ¬ (fun q : Nat => s.heap.size ≤ q) b := Nat.not_le.mpr hbl
  have h_1 : vp_in (nI i + (1 : Int32)) L := by rw [show (nI i + (1 : Int32)) = nI (i + 1) from nI_add i 1]; exact vp_in_nI (by omega) (by omega)
  have h_2 : vp_in (nI i + (2 : Int32)) L := by rw [show (nI i + (2 : Int32)) = nI (i + 2) from nI_add i 2]; exact vp_in_nI (by omega) (by omega)
  have h_3 : vp_in (nI i + (3 : Int32)) L := by rw [show (nI i + (3 : Int32)) = nI (i + 3) from nI_add i 3]; exact vp_in_nI (by omega) (by omega)
  refine lv_aload_n hx hb dL_law_422 rfl (lv_at hl 1 rfl) ?_
  refine lv_aload_n hx hb dL_law_423 rfl (lv_at hl 0 rfl) ?_
  refine lv_iload_n hx hb dL_law_424 rfl (lv_at hl 3 rfl) ?_
  refine lv_iconst (v := 1) hx hb dL_law_425 (by decide) ?_
  refine lv_iadd hx hb dL_law_426 ?_
  refine va_sld hx hb hX hbl hbA hS h_1 dL_law_427 ?_
  refine lv_aload_n hx hb dL_law_428 rfl (lv_at hl 0 rfl) ?_
  refine lv_iload_n hx hb dL_law_429 rfl (lv_at hl 3 rfl) ?_
  refine lv_iconst (v := 2) hx hb dL_law_430 (by decide) ?_
  refine lv_iadd hx hb dL_law_431 ?_
  refine va_sld hx hb hX hbl hbA hS h_2 dL_law_432 ?_
  refine lv_aload_n hx hb dL_law_433 rfl (lv_at hl 0 rfl) ?_
  refine lv_iload_n hx hb dL_law_434 rfl (lv_at hl 3 rfl) ?_
  refine lv_iconst (v := 3) hx hb dL_law_435 (by decide) ?_
  refine lv_iadd hx hb dL_law_436 ?_
  refine va_sld hx hb hX hbl hbA hS h_3 dL_law_437 ?_
  obtain ⟨r, σ', τ', e1, e2, hR'⟩ := sim_blit hR (xs (nI i + (1 : Int32)).toNatClampNeg) (xs (nI i + (2 : Int32)).toNatClampNeg) (xs (nI i + (3 : Int32)).toNatClampNeg)
  refine g_lawi (n := 3) (As := [.int (xs (nI i + (1 : Int32)).toNatClampNeg), .int (xs (nI i + (2 : Int32)).toNatClampNeg), .int (xs (nI i + (3 : Int32)).toNatClampNeg)]) (rest := []) hx hb hml hown hts hKX Px Py hdis hS hAX (kX7_blit l X hJX σ (xs (nI i + (1 : Int32)).toNatClampNeg) (xs (nI i + (2 : Int32)).toNatClampNeg) (xs (nI i + (3 : Int32)).toNatClampNeg) (r, σ') e1) wd_494 wd_495 wd_496 wd_2 wd_497 rfl rfl kdX7_blit ⟨Nat.le_of_ble_eq_true rfl, Nat.le_of_ble_eq_true rfl⟩ ⟨Nat.le_refl _, Nat.le_refl _⟩ xl0 rfl rfl rfl hl.1 (Nat.le_of_ble_eq_true rfl) dL_law_438 (fun H locs Px Py hS => ?_)
  refine lv_aload_n hx hb dL_law_441 rfl (lv_at hl 2 rfl) ?_
  refine lv_aload_n hx hb dL_law_442 rfl (lv_at hl 0 rfl) ?_
  refine lv_iload_n hx hb dL_law_443 rfl (lv_at hl 3 rfl) ?_
  refine lv_iconst (v := 1) hx hb dL_law_444 (by decide) ?_
  refine lv_iadd hx hb dL_law_445 ?_
  refine va_sld hx hb hX hbl hbA hS h_1 dL_law_446 ?_
  refine lv_aload_n hx hb dL_law_447 rfl (lv_at hl 0 rfl) ?_
  refine lv_iload_n hx hb dL_law_448 rfl (lv_at hl 3 rfl) ?_
  refine lv_iconst (v := 2) hx hb dL_law_449 (by decide) ?_
  refine lv_iadd hx hb dL_law_450 ?_
  refine va_sld hx hb hX hbl hbA hS h_2 dL_law_451 ?_
  refine lv_aload_n hx hb dL_law_452 rfl (lv_at hl 0 rfl) ?_
  refine lv_iload_n hx hb dL_law_453 rfl (lv_at hl 3 rfl) ?_
  refine lv_iconst (v := 3) hx hb dL_law_454 (by decide) ?_
  refine lv_iadd hx hb dL_law_455 ?_
  refine va_sld hx hb hX hbl hbA hS h_3 dL_law_456 ?_
  refine g_lawi (n := 3) (As := [.int (xs (nI i + (1 : Int32)).toNatClampNeg), .int (xs (nI i + (2 : Int32)).toNatClampNeg), .int (xs (nI i + (3 : Int32)).toNatClampNeg)]) (rest := [.int r]) hx hb hml hown hts hKY Py Px (fun i j hi hj h => hdis j i hj hi h.symm) hS hAY (kX8_blit l Y hJY τ (xs (nI i + (1 : Int32)).toNatClampNeg) (xs (nI i + (2 : Int32)).toNatClampNeg) (xs (nI i + (3 : Int32)).toNatClampNeg) (r, τ') e2) wd_510 wd_511 wd_512 wd_5 wd_513 rfl rfl kdX8_blit ⟨Nat.le_of_ble_eq_true rfl, Nat.le_of_ble_eq_true rfl⟩ ⟨Nat.le_refl _, Nat.le_refl _⟩ ml0 rfl rfl rfl hl.1 (Nat.le_of_ble_eq_true rfl) dL_law_457 (fun H locs Py Px hS => ?_)
  refine lv_icmp_eq (tgt := 854) hx hb dL_law_460 (by decide) (fun _ => ?_) (fun h => absurd rfl h)
  exact kk σ' τ' H locs hR' Px Py hS

set_option maxHeartbeats 4000000 in
set_option maxRecDepth 100000 in
theorem lawcase_9 {p : Program} {l : Launch} {e : Env} {s : State} {m : MethodId} {below : List Frame} {meth : Method} {c : Code} {X Y : gXt} {b L : Nat} {xs : Nat → Int32} {Q : State → Prop} (E : lawE p s m meth c X Y b L xs) (i : Nat) (hi : i + 3 < L) (hL : L ≤ 2048) {σ τ : gS} {H : Heap} {locs : List Loc} {ls : Array Slot} (hR : Rel i σ τ) (Px : gP X xL σ H) (Py : gP Y mL τ H) (hS : va_S (fun q : Nat => s.heap.size ≤ q) s.heap H locs) (hl : lv_has ls 4 [(0, .ref b), (1, .ref (gad X 0)), (2, .ref (gad Y 0)), (3, .int (nI i))])
    (kk : ∀ (σ' τ' : gS) (H' : Heap) (locs' : List Loc), Rel (i + 1) σ' τ' → gP X xL σ' H' → gP Y mL τ' H' → va_S (fun q : Nat => s.heap.size ≤ q) s.heap H' locs' → W p l e room_1 s m #[Value.ref b] below meth c H' locs' 600000 7302250 Q (F0 m 854 ls [])) : W p l e room_1 s m #[Value.ref b] below meth c H locs 600000 7302250 Q (F0 m 465 ls []) := by
  obtain ⟨hx, hb, hml, hown, hts, hKX, hKY, hJX, hJY, hdis, hAX, hAY, hX, hbl⟩ := E
  have hbA : ¬ (fun q : Nat => s.heap.size ≤ q) b := Nat.not_le.mpr hbl
  have h_1 : vp_in (nI i + (1 : Int32)) L := by rw [show (nI i + (1 : Int32)) = nI (i + 1) from nI_add i 1]; exact vp_in_nI (by omega) (by omega)
  refine lv_aload_n hx hb dL_law_465 rfl (lv_at hl 1 rfl) ?_
  refine lv_aload_n hx hb dL_law_466 rfl (lv_at hl 0 rfl) ?_
  refine lv_iload_n hx hb dL_law_467 rfl (lv_at hl 3 rfl) ?_
  refine lv_iconst (v := 1) hx hb dL_law_468 (by decide) ?_
  refine lv_iadd hx hb dL_law_469 ?_
  refine va_sld hx hb hX hbl hbA hS h_1 dL_law_470 ?_
  obtain ⟨r, σ', τ', e1, e2, hR'⟩ := sim_freeze hR (xs (nI i + (1 : Int32)).toNatClampNeg)
  refine g_lawi (n := 1) (As := [.int (xs (nI i + (1 : Int32)).toNatClampNeg)]) (rest := []) hx hb hml hown hts hKX Px Py hdis hS hAX (kX7_freeze l X hJX σ (xs (nI i + (1 : Int32)).toNatClampNeg) (r, σ') e1) wd_514 wd_515 wd_516 wd_2 wd_517 rfl rfl kdX7_freeze ⟨Nat.le_of_ble_eq_true rfl, Nat.le_of_ble_eq_true rfl⟩ ⟨Nat.le_refl _, Nat.le_refl _⟩ xl0 rfl rfl rfl hl.1 (Nat.le_of_ble_eq_true rfl) dL_law_471 (fun H locs Px Py hS => ?_)
  refine lv_aload_n hx hb dL_law_474 rfl (lv_at hl 2 rfl) ?_
  refine lv_aload_n hx hb dL_law_475 rfl (lv_at hl 0 rfl) ?_
  refine lv_iload_n hx hb dL_law_476 rfl (lv_at hl 3 rfl) ?_
  refine lv_iconst (v := 1) hx hb dL_law_477 (by decide) ?_
  refine lv_iadd hx hb dL_law_478 ?_
  refine va_sld hx hb hX hbl hbA hS h_1 dL_law_479 ?_
  refine g_lawi (n := 1) (As := [.int (xs (nI i + (1 : Int32)).toNatClampNeg)]) (rest := [.int r]) hx hb hml hown hts hKY Py Px (fun i j hi hj h => hdis j i hj hi h.symm) hS hAY (kX8_freeze l Y hJY τ (xs (nI i + (1 : Int32)).toNatClampNeg) (r, τ') e2) wd_585 wd_586 wd_587 wd_5 wd_588 rfl rfl kdX8_freeze ⟨Nat.le_of_ble_eq_true rfl, Nat.le_of_ble_eq_true rfl⟩ ⟨Nat.le_refl _, Nat.le_refl _⟩ ml0 rfl rfl rfl hl.1 (Nat.le_of_ble_eq_true rfl) dL_law_480 (fun H locs Py Px hS => ?_)
  refine lv_icmp_eq (tgt := 854) hx hb dL_law_483 (by decide) (fun _ => ?_) (fun h => absurd rfl h)
  exact kk σ' τ' H locs hR' Px Py hS

set_option maxHeartbeats 4000000 in
set_option maxRecDepth 100000 in
theorem lawcase_10 {p : Program} {l : Launch} {e : Env} {s : State} {m : MethodId} {below : List Frame} {meth : Method} {c : Code} {X Y : gXt} {b L : Nat} {xs : Nat → Int32} {Q : State → Prop} (E : lawE p s m meth c X Y b L xs) (i : Nat) (hi : i + 3 < L) (hL : L ≤ 2048) {σ τ : gS} {H : Heap} {locs : List Loc} {ls : Array Slot} (hR : Rel i σ τ) (Px : gP X xL σ H) (Py : gP Y mL τ H) (hS : va_S (fun q : Nat => s.heap.size ≤ q) s.heap H locs) (hl : lv_has ls 4 [(0, .ref b), (1, .ref (gad X 0)), (2, .ref (gad Y 0)), (3, .int (nI i))])
    (kk : ∀ (σ' τ' : gS) (H' : Heap) (locs' : List Loc), Rel (i + 1) σ' τ' → gP X xL σ' H' → gP Y mL τ' H' → va_S (fun q : Nat => s.heap.size ≤ q) s.heap H' locs' → W p l e room_1 s m #[Value.ref b] below meth c H' locs' 600000 7302250 Q (F0 m 854 ls [])) : W p l e room_1 s m #[Value.ref b] below meth c H locs 600000 7302250 Q (F0 m 488 ls []) := by
  obtain ⟨hx, hb, hml, hown, hts, hKX, hKY, hJX, hJY, hdis, hAX, hAY, hX, hbl⟩ := E
  have hbA : ¬ (fun q : Nat => s.heap.size ≤ q) b := Nat.not_le.mpr hbl
  have h_1 : vp_in (nI i + (1 : Int32)) L := by rw [show (nI i + (1 : Int32)) = nI (i + 1) from nI_add i 1]; exact vp_in_nI (by omega) (by omega)
  refine lv_aload_n hx hb dL_law_488 rfl (lv_at hl 1 rfl) ?_
  refine lv_aload_n hx hb dL_law_489 rfl (lv_at hl 0 rfl) ?_
  refine lv_iload_n hx hb dL_law_490 rfl (lv_at hl 3 rfl) ?_
  refine lv_iconst (v := 1) hx hb dL_law_491 (by decide) ?_
  refine lv_iadd hx hb dL_law_492 ?_
  refine va_sld hx hb hX hbl hbA hS h_1 dL_law_493 ?_
  obtain ⟨r, σ', τ', e1, e2, hR'⟩ := sim_forget hR (xs (nI i + (1 : Int32)).toNatClampNeg)
  refine g_lawi (n := 1) (As := [.int (xs (nI i + (1 : Int32)).toNatClampNeg)]) (rest := []) hx hb hml hown hts hKX Px Py hdis hS hAX (kX7_forget l X hJX σ (xs (nI i + (1 : Int32)).toNatClampNeg) (r, σ') e1) wd_589 wd_590 wd_591 wd_2 wd_592 rfl rfl kdX7_forget ⟨Nat.le_of_ble_eq_true rfl, Nat.le_of_ble_eq_true rfl⟩ ⟨Nat.le_refl _, Nat.le_refl _⟩ xl0 rfl rfl rfl hl.1 (Nat.le_of_ble_eq_true rfl) dL_law_494 (fun H locs Px Py hS => ?_)
  refine lv_aload_n hx hb dL_law_497 rfl (lv_at hl 2 rfl) ?_
  refine lv_aload_n hx hb dL_law_498 rfl (lv_at hl 0 rfl) ?_
  refine lv_iload_n hx hb dL_law_499 rfl (lv_at hl 3 rfl) ?_
  refine lv_iconst (v := 1) hx hb dL_law_500 (by decide) ?_
  refine lv_iadd hx hb dL_law_501 ?_
  refine va_sld hx hb hX hbl hbA hS h_1 dL_law_502 ?_
  refine g_lawi (n := 1) (As := [.int (xs (nI i + (1 : Int32)).toNatClampNeg)]) (rest := [.int r]) hx hb hml hown hts hKY Py Px (fun i j hi hj h => hdis j i hj hi h.symm) hS hAY (kX8_forget l Y hJY τ (xs (nI i + (1 : Int32)).toNatClampNeg) (r, τ') e2) wd_597 wd_598 wd_599 wd_5 wd_600 rfl rfl kdX8_forget ⟨Nat.le_of_ble_eq_true rfl, Nat.le_of_ble_eq_true rfl⟩ ⟨Nat.le_refl _, Nat.le_refl _⟩ ml0 rfl rfl rfl hl.1 (Nat.le_of_ble_eq_true rfl) dL_law_503 (fun H locs Py Px hS => ?_)
  refine lv_icmp_eq (tgt := 854) hx hb dL_law_506 (by decide) (fun _ => ?_) (fun h => absurd rfl h)
  exact kk σ' τ' H locs hR' Px Py hS

set_option maxHeartbeats 4000000 in
set_option maxRecDepth 100000 in
theorem lawcase_11 {p : Program} {l : Launch} {e : Env} {s : State} {m : MethodId} {below : List Frame} {meth : Method} {c : Code} {X Y : gXt} {b L : Nat} {xs : Nat → Int32} {Q : State → Prop} (E : lawE p s m meth c X Y b L xs) (i : Nat) (hi : i + 3 < L) (hL : L ≤ 2048) {σ τ : gS} {H : Heap} {locs : List Loc} {ls : Array Slot} (hR : Rel i σ τ) (Px : gP X xL σ H) (Py : gP Y mL τ H) (hS : va_S (fun q : Nat => s.heap.size ≤ q) s.heap H locs) (hl : lv_has ls 4 [(0, .ref b), (1, .ref (gad X 0)), (2, .ref (gad Y 0)), (3, .int (nI i))])
    (kk : ∀ (σ' τ' : gS) (H' : Heap) (locs' : List Loc), Rel (i + 1) σ' τ' → gP X xL σ' H' → gP Y mL τ' H' → va_S (fun q : Nat => s.heap.size ≤ q) s.heap H' locs' → W p l e room_1 s m #[Value.ref b] below meth c H' locs' 600000 7302250 Q (F0 m 854 ls [])) : W p l e room_1 s m #[Value.ref b] below meth c H locs 600000 7302250 Q (F0 m 511 ls []) := by
  obtain ⟨hx, hb, hml, hown, hts, hKX, hKY, hJX, hJY, hdis, hAX, hAY, hX, hbl⟩ := E
  have hbA : ¬ (fun q : Nat => s.heap.size ≤ q) b := Nat.not_le.mpr hbl
  have h_1 : vp_in (nI i + (1 : Int32)) L := by rw [show (nI i + (1 : Int32)) = nI (i + 1) from nI_add i 1]; exact vp_in_nI (by omega) (by omega)
  refine lv_aload_n hx hb dL_law_511 rfl (lv_at hl 1 rfl) ?_
  refine lv_aload_n hx hb dL_law_512 rfl (lv_at hl 0 rfl) ?_
  refine lv_iload_n hx hb dL_law_513 rfl (lv_at hl 3 rfl) ?_
  refine lv_iconst (v := 1) hx hb dL_law_514 (by decide) ?_
  refine lv_iadd hx hb dL_law_515 ?_
  refine va_sld hx hb hX hbl hbA hS h_1 dL_law_516 ?_
  obtain ⟨r, σ', τ', e1, e2, hR'⟩ := sim_budget hR (xs (nI i + (1 : Int32)).toNatClampNeg)
  refine g_lawi (n := 1) (As := [.int (xs (nI i + (1 : Int32)).toNatClampNeg)]) (rest := []) hx hb hml hown hts hKX Px Py hdis hS hAX (kX7_budget l X hJX σ (xs (nI i + (1 : Int32)).toNatClampNeg) (r, σ') e1) wd_605 wd_606 wd_607 wd_2 wd_608 rfl rfl kdX7_budget ⟨Nat.le_of_ble_eq_true rfl, Nat.le_of_ble_eq_true rfl⟩ ⟨Nat.le_refl _, Nat.le_refl _⟩ xl0 rfl rfl rfl hl.1 (Nat.le_of_ble_eq_true rfl) dL_law_517 (fun H locs Px Py hS => ?_)
  refine lv_aload_n hx hb dL_law_520 rfl (lv_at hl 2 rfl) ?_
  refine lv_aload_n hx hb dL_law_521 rfl (lv_at hl 0 rfl) ?_
  refine lv_iload_n hx hb dL_law_522 rfl (lv_at hl 3 rfl) ?_
  refine lv_iconst (v := 1) hx hb dL_law_523 (by decide) ?_
  refine lv_iadd hx hb dL_law_524 ?_
  refine va_sld hx hb hX hbl hbA hS h_1 dL_law_525 ?_
  refine g_lawi (n := 1) (As := [.int (xs (nI i + (1 : Int32)).toNatClampNeg)]) (rest := [.int r]) hx hb hml hown hts hKY Py Px (fun i j hi hj h => hdis j i hj hi h.symm) hS hAY (kX8_budget l Y hJY τ (xs (nI i + (1 : Int32)).toNatClampNeg) (r, τ') e2) wd_614 wd_615 wd_616 wd_5 wd_617 rfl rfl kdX8_budget ⟨Nat.le_of_ble_eq_true rfl, Nat.le_of_ble_eq_true rfl⟩ ⟨Nat.le_refl _, Nat.le_refl _⟩ ml0 rfl rfl rfl hl.1 (Nat.le_of_ble_eq_true rfl) dL_law_526 (fun H locs Py Px hS => ?_)
  refine lv_icmp_eq (tgt := 854) hx hb dL_law_529 (by decide) (fun _ => ?_) (fun h => absurd rfl h)
  exact kk σ' τ' H locs hR' Px Py hS

set_option maxHeartbeats 4000000 in
set_option maxRecDepth 100000 in
theorem lawcase_12 {p : Program} {l : Launch} {e : Env} {s : State} {m : MethodId} {below : List Frame} {meth : Method} {c : Code} {X Y : gXt} {b L : Nat} {xs : Nat → Int32} {Q : State → Prop} (E : lawE p s m meth c X Y b L xs) (i : Nat) (hi : i + 3 < L) (hL : L ≤ 2048) {σ τ : gS} {H : Heap} {locs : List Loc} {ls : Array Slot} (hR : Rel i σ τ) (Px : gP X xL σ H) (Py : gP Y mL τ H) (hS : va_S (fun q : Nat => s.heap.size ≤ q) s.heap H locs) (hl : lv_has ls 4 [(0, .ref b), (1, .ref (gad X 0)), (2, .ref (gad Y 0)), (3, .int (nI i))])
    (kk : ∀ (σ' τ' : gS) (H' : Heap) (locs' : List Loc), Rel (i + 1) σ' τ' → gP X xL σ' H' → gP Y mL τ' H' → va_S (fun q : Nat => s.heap.size ≤ q) s.heap H' locs' → W p l e room_1 s m #[Value.ref b] below meth c H' locs' 600000 7302250 Q (F0 m 854 ls [])) : W p l e room_1 s m #[Value.ref b] below meth c H locs 600000 7302250 Q (F0 m 534 ls []) := by
  obtain ⟨hx, hb, hml, hown, hts, hKX, hKY, hJX, hJY, hdis, hAX, hAY, hX, hbl⟩ := E
  have hbA : ¬ (fun q : Nat => s.heap.size ≤ q) b := Nat.not_le.mpr hbl
  have h_1 : vp_in (nI i + (1 : Int32)) L := by rw [show (nI i + (1 : Int32)) = nI (i + 1) from nI_add i 1]; exact vp_in_nI (by omega) (by omega)
  have h_2 : vp_in (nI i + (2 : Int32)) L := by rw [show (nI i + (2 : Int32)) = nI (i + 2) from nI_add i 2]; exact vp_in_nI (by omega) (by omega)
  refine lv_aload_n hx hb dL_law_534 rfl (lv_at hl 1 rfl) ?_
  refine lv_aload_n hx hb dL_law_535 rfl (lv_at hl 0 rfl) ?_
  refine lv_iload_n hx hb dL_law_536 rfl (lv_at hl 3 rfl) ?_
  refine lv_iconst (v := 1) hx hb dL_law_537 (by decide) ?_
  refine lv_iadd hx hb dL_law_538 ?_
  refine va_sld hx hb hX hbl hbA hS h_1 dL_law_539 ?_
  refine lv_aload_n hx hb dL_law_540 rfl (lv_at hl 0 rfl) ?_
  refine lv_iload_n hx hb dL_law_541 rfl (lv_at hl 3 rfl) ?_
  refine lv_iconst (v := 2) hx hb dL_law_542 (by decide) ?_
  refine lv_iadd hx hb dL_law_543 ?_
  refine va_sld hx hb hX hbl hbA hS h_2 dL_law_544 ?_
  obtain ⟨r, σ', τ', e1, e2, hR'⟩ := sim_register hR (xs (nI i + (1 : Int32)).toNatClampNeg) (xs (nI i + (2 : Int32)).toNatClampNeg)
  refine g_lawi (n := 2) (As := [.int (xs (nI i + (1 : Int32)).toNatClampNeg), .int (xs (nI i + (2 : Int32)).toNatClampNeg)]) (rest := []) hx hb hml hown hts hKX Px Py hdis hS hAX (kX7_register l X hJX σ (xs (nI i + (1 : Int32)).toNatClampNeg) (xs (nI i + (2 : Int32)).toNatClampNeg) (r, σ') e1) wd_618 wd_619 wd_620 wd_2 wd_621 rfl rfl kdX7_register ⟨Nat.le_of_ble_eq_true rfl, Nat.le_of_ble_eq_true rfl⟩ ⟨Nat.le_refl _, Nat.le_refl _⟩ xl0 rfl rfl rfl hl.1 (Nat.le_of_ble_eq_true rfl) dL_law_545 (fun H locs Px Py hS => ?_)
  refine lv_aload_n hx hb dL_law_548 rfl (lv_at hl 2 rfl) ?_
  refine lv_aload_n hx hb dL_law_549 rfl (lv_at hl 0 rfl) ?_
  refine lv_iload_n hx hb dL_law_550 rfl (lv_at hl 3 rfl) ?_
  refine lv_iconst (v := 1) hx hb dL_law_551 (by decide) ?_
  refine lv_iadd hx hb dL_law_552 ?_
  refine va_sld hx hb hX hbl hbA hS h_1 dL_law_553 ?_
  refine lv_aload_n hx hb dL_law_554 rfl (lv_at hl 0 rfl) ?_
  refine lv_iload_n hx hb dL_law_555 rfl (lv_at hl 3 rfl) ?_
  refine lv_iconst (v := 2) hx hb dL_law_556 (by decide) ?_
  refine lv_iadd hx hb dL_law_557 ?_
  refine va_sld hx hb hX hbl hbA hS h_2 dL_law_558 ?_
  refine g_lawi (n := 2) (As := [.int (xs (nI i + (1 : Int32)).toNatClampNeg), .int (xs (nI i + (2 : Int32)).toNatClampNeg)]) (rest := [.int r]) hx hb hml hown hts hKY Py Px (fun i j hi hj h => hdis j i hj hi h.symm) hS hAY (kX8_register l Y hJY τ (xs (nI i + (1 : Int32)).toNatClampNeg) (xs (nI i + (2 : Int32)).toNatClampNeg) (r, τ') e2) wd_626 wd_627 wd_628 wd_5 wd_629 rfl rfl kdX8_register ⟨Nat.le_of_ble_eq_true rfl, Nat.le_of_ble_eq_true rfl⟩ ⟨Nat.le_refl _, Nat.le_refl _⟩ ml0 rfl rfl rfl hl.1 (Nat.le_of_ble_eq_true rfl) dL_law_559 (fun H locs Py Px hS => ?_)
  refine lv_icmp_eq (tgt := 854) hx hb dL_law_562 (by decide) (fun _ => ?_) (fun h => absurd rfl h)
  exact kk σ' τ' H locs hR' Px Py hS

set_option maxHeartbeats 4000000 in
set_option maxRecDepth 100000 in
theorem lawcase_13 {p : Program} {l : Launch} {e : Env} {s : State} {m : MethodId} {below : List Frame} {meth : Method} {c : Code} {X Y : gXt} {b L : Nat} {xs : Nat → Int32} {Q : State → Prop} (E : lawE p s m meth c X Y b L xs) (i : Nat) (hi : i + 3 < L) (hL : L ≤ 2048) {σ τ : gS} {H : Heap} {locs : List Loc} {ls : Array Slot} (hR : Rel i σ τ) (Px : gP X xL σ H) (Py : gP Y mL τ H) (hS : va_S (fun q : Nat => s.heap.size ≤ q) s.heap H locs) (hl : lv_has ls 4 [(0, .ref b), (1, .ref (gad X 0)), (2, .ref (gad Y 0)), (3, .int (nI i))])
    (kk : ∀ (σ' τ' : gS) (H' : Heap) (locs' : List Loc), Rel (i + 1) σ' τ' → gP X xL σ' H' → gP Y mL τ' H' → va_S (fun q : Nat => s.heap.size ≤ q) s.heap H' locs' → W p l e room_1 s m #[Value.ref b] below meth c H' locs' 600000 7302250 Q (F0 m 854 ls [])) : W p l e room_1 s m #[Value.ref b] below meth c H locs 600000 7302250 Q (F0 m 567 ls []) := by
  obtain ⟨hx, hb, hml, hown, hts, hKX, hKY, hJX, hJY, hdis, hAX, hAY, hX, hbl⟩ := E
  have hbA : ¬ (fun q : Nat => s.heap.size ≤ q) b := Nat.not_le.mpr hbl
  have h_1 : vp_in (nI i + (1 : Int32)) L := by rw [show (nI i + (1 : Int32)) = nI (i + 1) from nI_add i 1]; exact vp_in_nI (by omega) (by omega)
  have h_2 : vp_in (nI i + (2 : Int32)) L := by rw [show (nI i + (2 : Int32)) = nI (i + 2) from nI_add i 2]; exact vp_in_nI (by omega) (by omega)
  refine lv_aload_n hx hb dL_law_567 rfl (lv_at hl 1 rfl) ?_
  refine lv_aload_n hx hb dL_law_568 rfl (lv_at hl 0 rfl) ?_
  refine lv_iload_n hx hb dL_law_569 rfl (lv_at hl 3 rfl) ?_
  refine lv_iconst (v := 1) hx hb dL_law_570 (by decide) ?_
  refine lv_iadd hx hb dL_law_571 ?_
  refine va_sld hx hb hX hbl hbA hS h_1 dL_law_572 ?_
  refine lv_aload_n hx hb dL_law_573 rfl (lv_at hl 0 rfl) ?_
  refine lv_iload_n hx hb dL_law_574 rfl (lv_at hl 3 rfl) ?_
  refine lv_iconst (v := 2) hx hb dL_law_575 (by decide) ?_
  refine lv_iadd hx hb dL_law_576 ?_
  refine va_sld hx hb hX hbl hbA hS h_2 dL_law_577 ?_
  obtain ⟨r, σ', τ', e1, e2, hR'⟩ := sim_piece hR (xs (nI i + (1 : Int32)).toNatClampNeg) (xs (nI i + (2 : Int32)).toNatClampNeg)
  refine g_lawi (n := 2) (As := [.int (xs (nI i + (1 : Int32)).toNatClampNeg), .int (xs (nI i + (2 : Int32)).toNatClampNeg)]) (rest := []) hx hb hml hown hts hKX Px Py hdis hS hAX (kX7_piece l X hJX σ (xs (nI i + (1 : Int32)).toNatClampNeg) (xs (nI i + (2 : Int32)).toNatClampNeg) (r, σ') e1) wd_634 wd_635 wd_636 wd_2 wd_637 rfl rfl kdX7_piece ⟨Nat.le_of_ble_eq_true rfl, Nat.le_of_ble_eq_true rfl⟩ ⟨Nat.le_refl _, Nat.le_refl _⟩ xl0 rfl rfl rfl hl.1 (Nat.le_of_ble_eq_true rfl) dL_law_578 (fun H locs Px Py hS => ?_)
  refine lv_aload_n hx hb dL_law_581 rfl (lv_at hl 2 rfl) ?_
  refine lv_aload_n hx hb dL_law_582 rfl (lv_at hl 0 rfl) ?_
  refine lv_iload_n hx hb dL_law_583 rfl (lv_at hl 3 rfl) ?_
  refine lv_iconst (v := 1) hx hb dL_law_584 (by decide) ?_
  refine lv_iadd hx hb dL_law_585 ?_
  refine va_sld hx hb hX hbl hbA hS h_1 dL_law_586 ?_
  refine lv_aload_n hx hb dL_law_587 rfl (lv_at hl 0 rfl) ?_
  refine lv_iload_n hx hb dL_law_588 rfl (lv_at hl 3 rfl) ?_
  refine lv_iconst (v := 2) hx hb dL_law_589 (by decide) ?_
  refine lv_iadd hx hb dL_law_590 ?_
  refine va_sld hx hb hX hbl hbA hS h_2 dL_law_591 ?_
  refine g_lawi (n := 2) (As := [.int (xs (nI i + (1 : Int32)).toNatClampNeg), .int (xs (nI i + (2 : Int32)).toNatClampNeg)]) (rest := [.int r]) hx hb hml hown hts hKY Py Px (fun i j hi hj h => hdis j i hj hi h.symm) hS hAY (kX8_piece l Y hJY τ (xs (nI i + (1 : Int32)).toNatClampNeg) (xs (nI i + (2 : Int32)).toNatClampNeg) (r, τ') e2) wd_658 wd_659 wd_660 wd_5 wd_661 rfl rfl kdX8_piece ⟨Nat.le_of_ble_eq_true rfl, Nat.le_of_ble_eq_true rfl⟩ ⟨Nat.le_refl _, Nat.le_refl _⟩ ml0 rfl rfl rfl hl.1 (Nat.le_of_ble_eq_true rfl) dL_law_592 (fun H locs Py Px hS => ?_)
  refine lv_icmp_eq (tgt := 854) hx hb dL_law_595 (by decide) (fun _ => ?_) (fun h => absurd rfl h)
  exact kk σ' τ' H locs hR' Px Py hS

set_option maxHeartbeats 4000000 in
set_option maxRecDepth 100000 in
theorem lawcase_14 {p : Program} {l : Launch} {e : Env} {s : State} {m : MethodId} {below : List Frame} {meth : Method} {c : Code} {X Y : gXt} {b L : Nat} {xs : Nat → Int32} {Q : State → Prop} (E : lawE p s m meth c X Y b L xs) (i : Nat) (hi : i + 3 < L) (hL : L ≤ 2048) {σ τ : gS} {H : Heap} {locs : List Loc} {ls : Array Slot} (hR : Rel i σ τ) (Px : gP X xL σ H) (Py : gP Y mL τ H) (hS : va_S (fun q : Nat => s.heap.size ≤ q) s.heap H locs) (hl : lv_has ls 4 [(0, .ref b), (1, .ref (gad X 0)), (2, .ref (gad Y 0)), (3, .int (nI i))])
    (kk : ∀ (σ' τ' : gS) (H' : Heap) (locs' : List Loc), Rel (i + 1) σ' τ' → gP X xL σ' H' → gP Y mL τ' H' → va_S (fun q : Nat => s.heap.size ≤ q) s.heap H' locs' → W p l e room_1 s m #[Value.ref b] below meth c H' locs' 600000 7302250 Q (F0 m 854 ls [])) : W p l e room_1 s m #[Value.ref b] below meth c H locs 600000 7302250 Q (F0 m 600 ls []) := by
  obtain ⟨hx, hb, hml, hown, hts, hKX, hKY, hJX, hJY, hdis, hAX, hAY, hX, hbl⟩ := E
  have hbA : ¬ (fun q : Nat => s.heap.size ≤ q) b := Nat.not_le.mpr hbl
  have h_1 : vp_in (nI i + (1 : Int32)) L := by rw [show (nI i + (1 : Int32)) = nI (i + 1) from nI_add i 1]; exact vp_in_nI (by omega) (by omega)
  have h_2 : vp_in (nI i + (2 : Int32)) L := by rw [show (nI i + (2 : Int32)) = nI (i + 2) from nI_add i 2]; exact vp_in_nI (by omega) (by omega)
  refine lv_aload_n hx hb dL_law_600 rfl (lv_at hl 1 rfl) ?_
  refine lv_aload_n hx hb dL_law_601 rfl (lv_at hl 0 rfl) ?_
  refine lv_iload_n hx hb dL_law_602 rfl (lv_at hl 3 rfl) ?_
  refine lv_iconst (v := 1) hx hb dL_law_603 (by decide) ?_
  refine lv_iadd hx hb dL_law_604 ?_
  refine va_sld hx hb hX hbl hbA hS h_1 dL_law_605 ?_
  refine lv_aload_n hx hb dL_law_606 rfl (lv_at hl 0 rfl) ?_
  refine lv_iload_n hx hb dL_law_607 rfl (lv_at hl 3 rfl) ?_
  refine lv_iconst (v := 2) hx hb dL_law_608 (by decide) ?_
  refine lv_iadd hx hb dL_law_609 ?_
  refine va_sld hx hb hX hbl hbA hS h_2 dL_law_610 ?_
  obtain ⟨r, σ', τ', e1, e2, hR'⟩ := sim_at hR (xs (nI i + (1 : Int32)).toNatClampNeg) (xs (nI i + (2 : Int32)).toNatClampNeg)
  refine g_lawi (n := 2) (As := [.int (xs (nI i + (1 : Int32)).toNatClampNeg), .int (xs (nI i + (2 : Int32)).toNatClampNeg)]) (rest := []) hx hb hml hown hts hKX Px Py hdis hS hAX (kX7_at l X hJX σ (xs (nI i + (1 : Int32)).toNatClampNeg) (xs (nI i + (2 : Int32)).toNatClampNeg) (r, σ') e1) wd_678 wd_679 wd_680 wd_2 wd_681 rfl rfl kdX7_at ⟨Nat.le_of_ble_eq_true rfl, Nat.le_of_ble_eq_true rfl⟩ ⟨Nat.le_refl _, Nat.le_refl _⟩ xl0 rfl rfl rfl hl.1 (Nat.le_of_ble_eq_true rfl) dL_law_611 (fun H locs Px Py hS => ?_)
  refine lv_aload_n hx hb dL_law_614 rfl (lv_at hl 2 rfl) ?_
  refine lv_aload_n hx hb dL_law_615 rfl (lv_at hl 0 rfl) ?_
  refine lv_iload_n hx hb dL_law_616 rfl (lv_at hl 3 rfl) ?_
  refine lv_iconst (v := 1) hx hb dL_law_617 (by decide) ?_
  refine lv_iadd hx hb dL_law_618 ?_
  refine va_sld hx hb hX hbl hbA hS h_1 dL_law_619 ?_
  refine lv_aload_n hx hb dL_law_620 rfl (lv_at hl 0 rfl) ?_
  refine lv_iload_n hx hb dL_law_621 rfl (lv_at hl 3 rfl) ?_
  refine lv_iconst (v := 2) hx hb dL_law_622 (by decide) ?_
  refine lv_iadd hx hb dL_law_623 ?_
  refine va_sld hx hb hX hbl hbA hS h_2 dL_law_624 ?_
  refine g_lawi (n := 2) (As := [.int (xs (nI i + (1 : Int32)).toNatClampNeg), .int (xs (nI i + (2 : Int32)).toNatClampNeg)]) (rest := [.int r]) hx hb hml hown hts hKY Py Px (fun i j hi hj h => hdis j i hj hi h.symm) hS hAY (kX8_at l Y hJY τ (xs (nI i + (1 : Int32)).toNatClampNeg) (xs (nI i + (2 : Int32)).toNatClampNeg) (r, τ') e2) wd_684 wd_685 wd_686 wd_5 wd_687 rfl rfl kdX8_at ⟨Nat.le_of_ble_eq_true rfl, Nat.le_of_ble_eq_true rfl⟩ ⟨Nat.le_refl _, Nat.le_refl _⟩ ml0 rfl rfl rfl hl.1 (Nat.le_of_ble_eq_true rfl) dL_law_625 (fun H locs Py Px hS => ?_)
  refine lv_icmp_eq (tgt := 854) hx hb dL_law_628 (by decide) (fun _ => ?_) (fun h => absurd rfl h)
  exact kk σ' τ' H locs hR' Px Py hS

set_option maxHeartbeats 4000000 in
set_option maxRecDepth 100000 in
theorem lawcase_15 {p : Program} {l : Launch} {e : Env} {s : State} {m : MethodId} {below : List Frame} {meth : Method} {c : Code} {X Y : gXt} {b L : Nat} {xs : Nat → Int32} {Q : State → Prop} (E : lawE p s m meth c X Y b L xs) (i : Nat) (hi : i + 3 < L) (hL : L ≤ 2048) {σ τ : gS} {H : Heap} {locs : List Loc} {ls : Array Slot} (hR : Rel i σ τ) (Px : gP X xL σ H) (Py : gP Y mL τ H) (hS : va_S (fun q : Nat => s.heap.size ≤ q) s.heap H locs) (hl : lv_has ls 4 [(0, .ref b), (1, .ref (gad X 0)), (2, .ref (gad Y 0)), (3, .int (nI i))])
    (kk : ∀ (σ' τ' : gS) (H' : Heap) (locs' : List Loc), Rel (i + 1) σ' τ' → gP X xL σ' H' → gP Y mL τ' H' → va_S (fun q : Nat => s.heap.size ≤ q) s.heap H' locs' → W p l e room_1 s m #[Value.ref b] below meth c H' locs' 600000 7302250 Q (F0 m 854 ls [])) : W p l e room_1 s m #[Value.ref b] below meth c H locs 600000 7302250 Q (F0 m 633 ls []) := by
  obtain ⟨hx, hb, hml, hown, hts, hKX, hKY, hJX, hJY, hdis, hAX, hAY, hX, hbl⟩ := E
  have hbA : ¬ (fun q : Nat => s.heap.size ≤ q) b := Nat.not_le.mpr hbl
  have h_1 : vp_in (nI i + (1 : Int32)) L := by rw [show (nI i + (1 : Int32)) = nI (i + 1) from nI_add i 1]; exact vp_in_nI (by omega) (by omega)
  have h_2 : vp_in (nI i + (2 : Int32)) L := by rw [show (nI i + (2 : Int32)) = nI (i + 2) from nI_add i 2]; exact vp_in_nI (by omega) (by omega)
  refine lv_aload_n hx hb dL_law_633 rfl (lv_at hl 1 rfl) ?_
  refine lv_aload_n hx hb dL_law_634 rfl (lv_at hl 0 rfl) ?_
  refine lv_iload_n hx hb dL_law_635 rfl (lv_at hl 3 rfl) ?_
  refine lv_iconst (v := 1) hx hb dL_law_636 (by decide) ?_
  refine lv_iadd hx hb dL_law_637 ?_
  refine va_sld hx hb hX hbl hbA hS h_1 dL_law_638 ?_
  refine lv_aload_n hx hb dL_law_639 rfl (lv_at hl 0 rfl) ?_
  refine lv_iload_n hx hb dL_law_640 rfl (lv_at hl 3 rfl) ?_
  refine lv_iconst (v := 2) hx hb dL_law_641 (by decide) ?_
  refine lv_iadd hx hb dL_law_642 ?_
  refine va_sld hx hb hX hbl hbA hS h_2 dL_law_643 ?_
  obtain ⟨r, σ', τ', e1, e2, hR'⟩ := sim_image hR (xs (nI i + (1 : Int32)).toNatClampNeg) (xs (nI i + (2 : Int32)).toNatClampNeg)
  refine g_lawi (n := 2) (As := [.int (xs (nI i + (1 : Int32)).toNatClampNeg), .int (xs (nI i + (2 : Int32)).toNatClampNeg)]) (rest := []) hx hb hml hown hts hKX Px Py hdis hS hAX (kX7_image l X hJX σ (xs (nI i + (1 : Int32)).toNatClampNeg) (xs (nI i + (2 : Int32)).toNatClampNeg) (r, σ') e1) wd_688 wd_689 wd_690 wd_2 wd_691 rfl rfl kdX7_image ⟨Nat.le_of_ble_eq_true rfl, Nat.le_of_ble_eq_true rfl⟩ ⟨Nat.le_refl _, Nat.le_refl _⟩ xl0 rfl rfl rfl hl.1 (Nat.le_of_ble_eq_true rfl) dL_law_644 (fun H locs Px Py hS => ?_)
  refine lv_aload_n hx hb dL_law_647 rfl (lv_at hl 2 rfl) ?_
  refine lv_aload_n hx hb dL_law_648 rfl (lv_at hl 0 rfl) ?_
  refine lv_iload_n hx hb dL_law_649 rfl (lv_at hl 3 rfl) ?_
  refine lv_iconst (v := 1) hx hb dL_law_650 (by decide) ?_
  refine lv_iadd hx hb dL_law_651 ?_
  refine va_sld hx hb hX hbl hbA hS h_1 dL_law_652 ?_
  refine lv_aload_n hx hb dL_law_653 rfl (lv_at hl 0 rfl) ?_
  refine lv_iload_n hx hb dL_law_654 rfl (lv_at hl 3 rfl) ?_
  refine lv_iconst (v := 2) hx hb dL_law_655 (by decide) ?_
  refine lv_iadd hx hb dL_law_656 ?_
  refine va_sld hx hb hX hbl hbA hS h_2 dL_law_657 ?_
  refine g_lawi (n := 2) (As := [.int (xs (nI i + (1 : Int32)).toNatClampNeg), .int (xs (nI i + (2 : Int32)).toNatClampNeg)]) (rest := [.int r]) hx hb hml hown hts hKY Py Px (fun i j hi hj h => hdis j i hj hi h.symm) hS hAY (kX8_image l Y hJY τ (xs (nI i + (1 : Int32)).toNatClampNeg) (xs (nI i + (2 : Int32)).toNatClampNeg) (r, τ') e2) wd_709 wd_710 wd_711 wd_5 wd_712 rfl rfl kdX8_image ⟨Nat.le_of_ble_eq_true rfl, Nat.le_of_ble_eq_true rfl⟩ ⟨Nat.le_refl _, Nat.le_refl _⟩ ml0 rfl rfl rfl hl.1 (Nat.le_of_ble_eq_true rfl) dL_law_658 (fun H locs Py Px hS => ?_)
  refine lv_icmp_eq (tgt := 854) hx hb dL_law_661 (by decide) (fun _ => ?_) (fun h => absurd rfl h)
  exact kk σ' τ' H locs hR' Px Py hS

set_option maxHeartbeats 4000000 in
set_option maxRecDepth 100000 in
theorem lawcase_16 {p : Program} {l : Launch} {e : Env} {s : State} {m : MethodId} {below : List Frame} {meth : Method} {c : Code} {X Y : gXt} {b L : Nat} {xs : Nat → Int32} {Q : State → Prop} (E : lawE p s m meth c X Y b L xs) (i : Nat) (hi : i + 3 < L) (hL : L ≤ 2048) {σ τ : gS} {H : Heap} {locs : List Loc} {ls : Array Slot} (hR : Rel i σ τ) (Px : gP X xL σ H) (Py : gP Y mL τ H) (hS : va_S (fun q : Nat => s.heap.size ≤ q) s.heap H locs) (hl : lv_has ls 4 [(0, .ref b), (1, .ref (gad X 0)), (2, .ref (gad Y 0)), (3, .int (nI i))])
    (kk : ∀ (σ' τ' : gS) (H' : Heap) (locs' : List Loc), Rel (i + 1) σ' τ' → gP X xL σ' H' → gP Y mL τ' H' → va_S (fun q : Nat => s.heap.size ≤ q) s.heap H' locs' → W p l e room_1 s m #[Value.ref b] below meth c H' locs' 600000 7302250 Q (F0 m 854 ls [])) : W p l e room_1 s m #[Value.ref b] below meth c H locs 600000 7302250 Q (F0 m 666 ls []) := by
  obtain ⟨hx, hb, hml, hown, hts, hKX, hKY, hJX, hJY, hdis, hAX, hAY, hX, hbl⟩ := E
  have hbA : ¬ (fun q : Nat => s.heap.size ≤ q) b := Nat.not_le.mpr hbl
  have h_1 : vp_in (nI i + (1 : Int32)) L := by rw [show (nI i + (1 : Int32)) = nI (i + 1) from nI_add i 1]; exact vp_in_nI (by omega) (by omega)
  have h_2 : vp_in (nI i + (2 : Int32)) L := by rw [show (nI i + (2 : Int32)) = nI (i + 2) from nI_add i 2]; exact vp_in_nI (by omega) (by omega)
  have h_3 : vp_in (nI i + (3 : Int32)) L := by rw [show (nI i + (3 : Int32)) = nI (i + 3) from nI_add i 3]; exact vp_in_nI (by omega) (by omega)
  refine lv_aload_n hx hb dL_law_666 rfl (lv_at hl 1 rfl) ?_
  refine lv_aload_n hx hb dL_law_667 rfl (lv_at hl 0 rfl) ?_
  refine lv_iload_n hx hb dL_law_668 rfl (lv_at hl 3 rfl) ?_
  refine lv_iconst (v := 1) hx hb dL_law_669 (by decide) ?_
  refine lv_iadd hx hb dL_law_670 ?_
  refine va_sld hx hb hX hbl hbA hS h_1 dL_law_671 ?_
  refine lv_aload_n hx hb dL_law_672 rfl (lv_at hl 0 rfl) ?_
  refine lv_iload_n hx hb dL_law_673 rfl (lv_at hl 3 rfl) ?_
  refine lv_iconst (v := 2) hx hb dL_law_674 (by decide) ?_
  refine lv_iadd hx hb dL_law_675 ?_
  refine va_sld hx hb hX hbl hbA hS h_2 dL_law_676 ?_
  refine lv_aload_n hx hb dL_law_677 rfl (lv_at hl 0 rfl) ?_
  refine lv_iload_n hx hb dL_law_678 rfl (lv_at hl 3 rfl) ?_
  refine lv_iconst (v := 3) hx hb dL_law_679 (by decide) ?_
  refine lv_iadd hx hb dL_law_680 ?_
  refine va_sld hx hb hX hbl hbA hS h_3 dL_law_681 ?_
  obtain ⟨r, σ', τ', e1, e2, hR'⟩ := sim_imaged hR (xs (nI i + (1 : Int32)).toNatClampNeg) (xs (nI i + (2 : Int32)).toNatClampNeg) (xs (nI i + (3 : Int32)).toNatClampNeg)
  refine g_lawi (n := 3) (As := [.int (xs (nI i + (1 : Int32)).toNatClampNeg), .int (xs (nI i + (2 : Int32)).toNatClampNeg), .int (xs (nI i + (3 : Int32)).toNatClampNeg)]) (rest := []) hx hb hml hown hts hKX Px Py hdis hS hAX (kX7_imaged l X hJX σ (xs (nI i + (1 : Int32)).toNatClampNeg) (xs (nI i + (2 : Int32)).toNatClampNeg) (xs (nI i + (3 : Int32)).toNatClampNeg) (r, σ') e1) wd_721 wd_722 wd_723 wd_2 wd_724 rfl rfl kdX7_imaged ⟨Nat.le_of_ble_eq_true rfl, Nat.le_of_ble_eq_true rfl⟩ ⟨Nat.le_refl _, Nat.le_refl _⟩ xl0 rfl rfl rfl hl.1 (Nat.le_of_ble_eq_true rfl) dL_law_682 (fun H locs Px Py hS => ?_)
  refine lv_aload_n hx hb dL_law_685 rfl (lv_at hl 2 rfl) ?_
  refine lv_aload_n hx hb dL_law_686 rfl (lv_at hl 0 rfl) ?_
  refine lv_iload_n hx hb dL_law_687 rfl (lv_at hl 3 rfl) ?_
  refine lv_iconst (v := 1) hx hb dL_law_688 (by decide) ?_
  refine lv_iadd hx hb dL_law_689 ?_
  refine va_sld hx hb hX hbl hbA hS h_1 dL_law_690 ?_
  refine lv_aload_n hx hb dL_law_691 rfl (lv_at hl 0 rfl) ?_
  refine lv_iload_n hx hb dL_law_692 rfl (lv_at hl 3 rfl) ?_
  refine lv_iconst (v := 2) hx hb dL_law_693 (by decide) ?_
  refine lv_iadd hx hb dL_law_694 ?_
  refine va_sld hx hb hX hbl hbA hS h_2 dL_law_695 ?_
  refine lv_aload_n hx hb dL_law_696 rfl (lv_at hl 0 rfl) ?_
  refine lv_iload_n hx hb dL_law_697 rfl (lv_at hl 3 rfl) ?_
  refine lv_iconst (v := 3) hx hb dL_law_698 (by decide) ?_
  refine lv_iadd hx hb dL_law_699 ?_
  refine va_sld hx hb hX hbl hbA hS h_3 dL_law_700 ?_
  refine g_lawi (n := 3) (As := [.int (xs (nI i + (1 : Int32)).toNatClampNeg), .int (xs (nI i + (2 : Int32)).toNatClampNeg), .int (xs (nI i + (3 : Int32)).toNatClampNeg)]) (rest := [.int r]) hx hb hml hown hts hKY Py Px (fun i j hi hj h => hdis j i hj hi h.symm) hS hAY (kX8_imaged l Y hJY τ (xs (nI i + (1 : Int32)).toNatClampNeg) (xs (nI i + (2 : Int32)).toNatClampNeg) (xs (nI i + (3 : Int32)).toNatClampNeg) (r, τ') e2) wd_731 wd_732 wd_733 wd_5 wd_734 rfl rfl kdX8_imaged ⟨Nat.le_of_ble_eq_true rfl, Nat.le_of_ble_eq_true rfl⟩ ⟨Nat.le_refl _, Nat.le_refl _⟩ ml0 rfl rfl rfl hl.1 (Nat.le_of_ble_eq_true rfl) dL_law_701 (fun H locs Py Px hS => ?_)
  refine lv_icmp_eq (tgt := 854) hx hb dL_law_704 (by decide) (fun _ => ?_) (fun h => absurd rfl h)
  exact kk σ' τ' H locs hR' Px Py hS

set_option maxHeartbeats 4000000 in
set_option maxRecDepth 100000 in
theorem lawcase_17 {p : Program} {l : Launch} {e : Env} {s : State} {m : MethodId} {below : List Frame} {meth : Method} {c : Code} {X Y : gXt} {b L : Nat} {xs : Nat → Int32} {Q : State → Prop} (E : lawE p s m meth c X Y b L xs) (i : Nat) (hi : i + 3 < L) (hL : L ≤ 2048) {σ τ : gS} {H : Heap} {locs : List Loc} {ls : Array Slot} (hR : Rel i σ τ) (Px : gP X xL σ H) (Py : gP Y mL τ H) (hS : va_S (fun q : Nat => s.heap.size ≤ q) s.heap H locs) (hl : lv_has ls 4 [(0, .ref b), (1, .ref (gad X 0)), (2, .ref (gad Y 0)), (3, .int (nI i))])
    (kk : ∀ (σ' τ' : gS) (H' : Heap) (locs' : List Loc), Rel (i + 1) σ' τ' → gP X xL σ' H' → gP Y mL τ' H' → va_S (fun q : Nat => s.heap.size ≤ q) s.heap H' locs' → W p l e room_1 s m #[Value.ref b] below meth c H' locs' 600000 7302250 Q (F0 m 854 ls [])) : W p l e room_1 s m #[Value.ref b] below meth c H locs 600000 7302250 Q (F0 m 709 ls []) := by
  obtain ⟨hx, hb, hml, hown, hts, hKX, hKY, hJX, hJY, hdis, hAX, hAY, hX, hbl⟩ := E
  have hbA : ¬ (fun q : Nat => s.heap.size ≤ q) b := Nat.not_le.mpr hbl
  have h_1 : vp_in (nI i + (1 : Int32)) L := by rw [show (nI i + (1 : Int32)) = nI (i + 1) from nI_add i 1]; exact vp_in_nI (by omega) (by omega)
  refine lv_aload_n hx hb dL_law_709 rfl (lv_at hl 1 rfl) ?_
  refine lv_aload_n hx hb dL_law_710 rfl (lv_at hl 0 rfl) ?_
  refine lv_iload_n hx hb dL_law_711 rfl (lv_at hl 3 rfl) ?_
  refine lv_iconst (v := 1) hx hb dL_law_712 (by decide) ?_
  refine lv_iadd hx hb dL_law_713 ?_
  refine va_sld hx hb hX hbl hbA hS h_1 dL_law_714 ?_
  obtain ⟨r, σ', τ', e1, e2, hR'⟩ := sim_like hR (xs (nI i + (1 : Int32)).toNatClampNeg)
  refine g_lawi (n := 1) (As := [.int (xs (nI i + (1 : Int32)).toNatClampNeg)]) (rest := []) hx hb hml hown hts hKX Px Py hdis hS hAX (kX7_like l X hJX σ (xs (nI i + (1 : Int32)).toNatClampNeg) (r, σ') e1) wd_735 wd_736 wd_737 wd_2 wd_738 rfl rfl kdX7_like ⟨Nat.le_of_ble_eq_true rfl, Nat.le_of_ble_eq_true rfl⟩ ⟨Nat.le_refl _, Nat.le_refl _⟩ xl0 rfl rfl rfl hl.1 (Nat.le_of_ble_eq_true rfl) dL_law_715 (fun H locs Px Py hS => ?_)
  refine lv_aload_n hx hb dL_law_718 rfl (lv_at hl 2 rfl) ?_
  refine lv_aload_n hx hb dL_law_719 rfl (lv_at hl 0 rfl) ?_
  refine lv_iload_n hx hb dL_law_720 rfl (lv_at hl 3 rfl) ?_
  refine lv_iconst (v := 1) hx hb dL_law_721 (by decide) ?_
  refine lv_iadd hx hb dL_law_722 ?_
  refine va_sld hx hb hX hbl hbA hS h_1 dL_law_723 ?_
  refine g_lawi (n := 1) (As := [.int (xs (nI i + (1 : Int32)).toNatClampNeg)]) (rest := [.int r]) hx hb hml hown hts hKY Py Px (fun i j hi hj h => hdis j i hj hi h.symm) hS hAY (kX8_like l Y hJY τ (xs (nI i + (1 : Int32)).toNatClampNeg) (r, τ') e2) wd_743 wd_744 wd_745 wd_5 wd_746 rfl rfl kdX8_like ⟨Nat.le_of_ble_eq_true rfl, Nat.le_of_ble_eq_true rfl⟩ ⟨Nat.le_refl _, Nat.le_refl _⟩ ml0 rfl rfl rfl hl.1 (Nat.le_of_ble_eq_true rfl) dL_law_724 (fun H locs Py Px hS => ?_)
  refine lv_icmp_eq (tgt := 854) hx hb dL_law_727 (by decide) (fun _ => ?_) (fun h => absurd rfl h)
  exact kk σ' τ' H locs hR' Px Py hS

set_option maxHeartbeats 4000000 in
set_option maxRecDepth 100000 in
theorem lawcase_18 {p : Program} {l : Launch} {e : Env} {s : State} {m : MethodId} {below : List Frame} {meth : Method} {c : Code} {X Y : gXt} {b L : Nat} {xs : Nat → Int32} {Q : State → Prop} (E : lawE p s m meth c X Y b L xs) (i : Nat) (hi : i + 3 < L) (hL : L ≤ 2048) {σ τ : gS} {H : Heap} {locs : List Loc} {ls : Array Slot} (hR : Rel i σ τ) (Px : gP X xL σ H) (Py : gP Y mL τ H) (hS : va_S (fun q : Nat => s.heap.size ≤ q) s.heap H locs) (hl : lv_has ls 4 [(0, .ref b), (1, .ref (gad X 0)), (2, .ref (gad Y 0)), (3, .int (nI i))])
    (kk : ∀ (σ' τ' : gS) (H' : Heap) (locs' : List Loc), Rel (i + 1) σ' τ' → gP X xL σ' H' → gP Y mL τ' H' → va_S (fun q : Nat => s.heap.size ≤ q) s.heap H' locs' → W p l e room_1 s m #[Value.ref b] below meth c H' locs' 600000 7302250 Q (F0 m 854 ls [])) : W p l e room_1 s m #[Value.ref b] below meth c H locs 600000 7302250 Q (F0 m 732 ls []) := by
  obtain ⟨hx, hb, hml, hown, hts, hKX, hKY, hJX, hJY, hdis, hAX, hAY, hX, hbl⟩ := E
  have hbA : ¬ (fun q : Nat => s.heap.size ≤ q) b := Nat.not_le.mpr hbl
  have h_1 : vp_in (nI i + (1 : Int32)) L := by rw [show (nI i + (1 : Int32)) = nI (i + 1) from nI_add i 1]; exact vp_in_nI (by omega) (by omega)
  refine lv_aload_n hx hb dL_law_732 rfl (lv_at hl 1 rfl) ?_
  refine lv_aload_n hx hb dL_law_733 rfl (lv_at hl 0 rfl) ?_
  refine lv_iload_n hx hb dL_law_734 rfl (lv_at hl 3 rfl) ?_
  refine lv_iconst (v := 1) hx hb dL_law_735 (by decide) ?_
  refine lv_iadd hx hb dL_law_736 ?_
  refine va_sld hx hb hX hbl hbA hS h_1 dL_law_737 ?_
  obtain ⟨r, σ', τ', e1, e2, hR'⟩ := sim_count hR (by omega) (xs (nI i + (1 : Int32)).toNatClampNeg)
  refine g_lawi (n := 1) (As := [.int (xs (nI i + (1 : Int32)).toNatClampNeg)]) (rest := []) hx hb hml hown hts hKX Px Py hdis hS hAX (kX7_count l X hJX σ (xs (nI i + (1 : Int32)).toNatClampNeg) (r, σ') e1) wd_747 wd_748 wd_749 wd_2 wd_750 rfl rfl kdX7_count ⟨Nat.le_of_ble_eq_true rfl, Nat.le_of_ble_eq_true rfl⟩ ⟨Nat.le_refl _, Nat.le_refl _⟩ xl0 rfl rfl rfl hl.1 (Nat.le_of_ble_eq_true rfl) dL_law_738 (fun H locs Px Py hS => ?_)
  refine lv_aload_n hx hb dL_law_741 rfl (lv_at hl 2 rfl) ?_
  refine lv_aload_n hx hb dL_law_742 rfl (lv_at hl 0 rfl) ?_
  refine lv_iload_n hx hb dL_law_743 rfl (lv_at hl 3 rfl) ?_
  refine lv_iconst (v := 1) hx hb dL_law_744 (by decide) ?_
  refine lv_iadd hx hb dL_law_745 ?_
  refine va_sld hx hb hX hbl hbA hS h_1 dL_law_746 ?_
  refine g_lawi (n := 1) (As := [.int (xs (nI i + (1 : Int32)).toNatClampNeg)]) (rest := [.int r]) hx hb hml hown hts hKY Py Px (fun i j hi hj h => hdis j i hj hi h.symm) hS hAY (kX8_count l Y hJY τ (xs (nI i + (1 : Int32)).toNatClampNeg) (r, τ') e2) wd_771 wd_772 wd_773 wd_5 wd_774 rfl rfl kdX8_count ⟨Nat.le_of_ble_eq_true rfl, Nat.le_of_ble_eq_true rfl⟩ ⟨Nat.le_refl _, Nat.le_refl _⟩ ml0 rfl rfl rfl hl.1 (Nat.le_of_ble_eq_true rfl) dL_law_747 (fun H locs Py Px hS => ?_)
  refine lv_icmp_eq (tgt := 854) hx hb dL_law_750 (by decide) (fun _ => ?_) (fun h => absurd rfl h)
  exact kk σ' τ' H locs hR' Px Py hS

set_option maxHeartbeats 4000000 in
set_option maxRecDepth 100000 in
theorem lawcase_19 {p : Program} {l : Launch} {e : Env} {s : State} {m : MethodId} {below : List Frame} {meth : Method} {c : Code} {X Y : gXt} {b L : Nat} {xs : Nat → Int32} {Q : State → Prop} (E : lawE p s m meth c X Y b L xs) (i : Nat) (hi : i + 3 < L) (hL : L ≤ 2048) {σ τ : gS} {H : Heap} {locs : List Loc} {ls : Array Slot} (hR : Rel i σ τ) (Px : gP X xL σ H) (Py : gP Y mL τ H) (hS : va_S (fun q : Nat => s.heap.size ≤ q) s.heap H locs) (hl : lv_has ls 4 [(0, .ref b), (1, .ref (gad X 0)), (2, .ref (gad Y 0)), (3, .int (nI i))])
    (kk : ∀ (σ' τ' : gS) (H' : Heap) (locs' : List Loc), Rel (i + 1) σ' τ' → gP X xL σ' H' → gP Y mL τ' H' → va_S (fun q : Nat => s.heap.size ≤ q) s.heap H' locs' → W p l e room_1 s m #[Value.ref b] below meth c H' locs' 600000 7302250 Q (F0 m 854 ls [])) : W p l e room_1 s m #[Value.ref b] below meth c H locs 600000 7302250 Q (F0 m 755 ls []) := by
  obtain ⟨hx, hb, hml, hown, hts, hKX, hKY, hJX, hJY, hdis, hAX, hAY, hX, hbl⟩ := E
  have hbA : ¬ (fun q : Nat => s.heap.size ≤ q) b := Nat.not_le.mpr hbl
  have h_1 : vp_in (nI i + (1 : Int32)) L := by rw [show (nI i + (1 : Int32)) = nI (i + 1) from nI_add i 1]; exact vp_in_nI (by omega) (by omega)
  refine lv_aload_n hx hb dL_law_755 rfl (lv_at hl 1 rfl) ?_
  refine lv_aload_n hx hb dL_law_756 rfl (lv_at hl 0 rfl) ?_
  refine lv_iload_n hx hb dL_law_757 rfl (lv_at hl 3 rfl) ?_
  refine lv_iconst (v := 1) hx hb dL_law_758 (by decide) ?_
  refine lv_iadd hx hb dL_law_759 ?_
  refine va_sld hx hb hX hbl hbA hS h_1 dL_law_760 ?_
  obtain ⟨r, σ', τ', e1, e2, hR'⟩ := sim_undefined hR (by omega) (xs (nI i + (1 : Int32)).toNatClampNeg)
  refine g_lawi (n := 1) (As := [.int (xs (nI i + (1 : Int32)).toNatClampNeg)]) (rest := []) hx hb hml hown hts hKX Px Py hdis hS hAX (kX7_undefined l X hJX σ (xs (nI i + (1 : Int32)).toNatClampNeg) (r, σ') e1) wd_784 wd_785 wd_786 wd_2 wd_787 rfl rfl kdX7_undefined ⟨Nat.le_of_ble_eq_true rfl, Nat.le_of_ble_eq_true rfl⟩ ⟨Nat.le_refl _, Nat.le_refl _⟩ xl0 rfl rfl rfl hl.1 (Nat.le_of_ble_eq_true rfl) dL_law_761 (fun H locs Px Py hS => ?_)
  refine lv_aload_n hx hb dL_law_764 rfl (lv_at hl 2 rfl) ?_
  refine lv_aload_n hx hb dL_law_765 rfl (lv_at hl 0 rfl) ?_
  refine lv_iload_n hx hb dL_law_766 rfl (lv_at hl 3 rfl) ?_
  refine lv_iconst (v := 1) hx hb dL_law_767 (by decide) ?_
  refine lv_iadd hx hb dL_law_768 ?_
  refine va_sld hx hb hX hbl hbA hS h_1 dL_law_769 ?_
  refine g_lawi (n := 1) (As := [.int (xs (nI i + (1 : Int32)).toNatClampNeg)]) (rest := [.int r]) hx hb hml hown hts hKY Py Px (fun i j hi hj h => hdis j i hj hi h.symm) hS hAY (kX8_undefined l Y hJY τ (xs (nI i + (1 : Int32)).toNatClampNeg) (r, τ') e2) wd_792 wd_793 wd_794 wd_5 wd_795 rfl rfl kdX8_undefined ⟨Nat.le_of_ble_eq_true rfl, Nat.le_of_ble_eq_true rfl⟩ ⟨Nat.le_refl _, Nat.le_refl _⟩ ml0 rfl rfl rfl hl.1 (Nat.le_of_ble_eq_true rfl) dL_law_770 (fun H locs Py Px hS => ?_)
  refine lv_icmp_eq (tgt := 854) hx hb dL_law_773 (by decide) (fun _ => ?_) (fun h => absurd rfl h)
  exact kk σ' τ' H locs hR' Px Py hS

set_option maxHeartbeats 4000000 in
set_option maxRecDepth 100000 in
theorem lawcase_20 {p : Program} {l : Launch} {e : Env} {s : State} {m : MethodId} {below : List Frame} {meth : Method} {c : Code} {X Y : gXt} {b L : Nat} {xs : Nat → Int32} {Q : State → Prop} (E : lawE p s m meth c X Y b L xs) (i : Nat) (hi : i + 3 < L) (hL : L ≤ 2048) {σ τ : gS} {H : Heap} {locs : List Loc} {ls : Array Slot} (hR : Rel i σ τ) (Px : gP X xL σ H) (Py : gP Y mL τ H) (hS : va_S (fun q : Nat => s.heap.size ≤ q) s.heap H locs) (hl : lv_has ls 4 [(0, .ref b), (1, .ref (gad X 0)), (2, .ref (gad Y 0)), (3, .int (nI i))])
    (kk : ∀ (σ' τ' : gS) (H' : Heap) (locs' : List Loc), Rel (i + 1) σ' τ' → gP X xL σ' H' → gP Y mL τ' H' → va_S (fun q : Nat => s.heap.size ≤ q) s.heap H' locs' → W p l e room_1 s m #[Value.ref b] below meth c H' locs' 600000 7302250 Q (F0 m 854 ls [])) : W p l e room_1 s m #[Value.ref b] below meth c H locs 600000 7302250 Q (F0 m 778 ls []) := by
  obtain ⟨hx, hb, hml, hown, hts, hKX, hKY, hJX, hJY, hdis, hAX, hAY, hX, hbl⟩ := E
  have hbA : ¬ (fun q : Nat => s.heap.size ≤ q) b := Nat.not_le.mpr hbl
  have h_1 : vp_in (nI i + (1 : Int32)) L := by rw [show (nI i + (1 : Int32)) = nI (i + 1) from nI_add i 1]; exact vp_in_nI (by omega) (by omega)
  refine lv_aload_n hx hb dL_law_778 rfl (lv_at hl 1 rfl) ?_
  refine lv_aload_n hx hb dL_law_779 rfl (lv_at hl 0 rfl) ?_
  refine lv_iload_n hx hb dL_law_780 rfl (lv_at hl 3 rfl) ?_
  refine lv_iconst (v := 1) hx hb dL_law_781 (by decide) ?_
  refine lv_iadd hx hb dL_law_782 ?_
  refine va_sld hx hb hX hbl hbA hS h_1 dL_law_783 ?_
  obtain ⟨r, σ', τ', e1, e2, hR'⟩ := sim_type hR (xs (nI i + (1 : Int32)).toNatClampNeg)
  refine g_lawi (n := 1) (As := [.int (xs (nI i + (1 : Int32)).toNatClampNeg)]) (rest := []) hx hb hml hown hts hKX Px Py hdis hS hAX (kX7_type l X hJX σ (xs (nI i + (1 : Int32)).toNatClampNeg) (r, σ') e1) wd_796 wd_797 wd_798 wd_2 wd_799 rfl rfl kdX7_type ⟨Nat.le_of_ble_eq_true rfl, Nat.le_of_ble_eq_true rfl⟩ ⟨Nat.le_refl _, Nat.le_refl _⟩ xl0 rfl rfl rfl hl.1 (Nat.le_of_ble_eq_true rfl) dL_law_784 (fun H locs Px Py hS => ?_)
  refine lv_aload_n hx hb dL_law_787 rfl (lv_at hl 2 rfl) ?_
  refine lv_aload_n hx hb dL_law_788 rfl (lv_at hl 0 rfl) ?_
  refine lv_iload_n hx hb dL_law_789 rfl (lv_at hl 3 rfl) ?_
  refine lv_iconst (v := 1) hx hb dL_law_790 (by decide) ?_
  refine lv_iadd hx hb dL_law_791 ?_
  refine va_sld hx hb hX hbl hbA hS h_1 dL_law_792 ?_
  refine g_lawi (n := 1) (As := [.int (xs (nI i + (1 : Int32)).toNatClampNeg)]) (rest := [.int r]) hx hb hml hown hts hKY Py Px (fun i j hi hj h => hdis j i hj hi h.symm) hS hAY (kX8_type l Y hJY τ (xs (nI i + (1 : Int32)).toNatClampNeg) (r, τ') e2) wd_805 wd_806 wd_807 wd_5 wd_808 rfl rfl kdX8_type ⟨Nat.le_of_ble_eq_true rfl, Nat.le_of_ble_eq_true rfl⟩ ⟨Nat.le_refl _, Nat.le_refl _⟩ ml0 rfl rfl rfl hl.1 (Nat.le_of_ble_eq_true rfl) dL_law_793 (fun H locs Py Px hS => ?_)
  refine lv_icmp_eq (tgt := 854) hx hb dL_law_796 (by decide) (fun _ => ?_) (fun h => absurd rfl h)
  exact kk σ' τ' H locs hR' Px Py hS

set_option maxHeartbeats 4000000 in
set_option maxRecDepth 100000 in
theorem lawcase_21 {p : Program} {l : Launch} {e : Env} {s : State} {m : MethodId} {below : List Frame} {meth : Method} {c : Code} {X Y : gXt} {b L : Nat} {xs : Nat → Int32} {Q : State → Prop} (E : lawE p s m meth c X Y b L xs) (i : Nat) (hi : i + 3 < L) (hL : L ≤ 2048) {σ τ : gS} {H : Heap} {locs : List Loc} {ls : Array Slot} (hR : Rel i σ τ) (Px : gP X xL σ H) (Py : gP Y mL τ H) (hS : va_S (fun q : Nat => s.heap.size ≤ q) s.heap H locs) (hl : lv_has ls 4 [(0, .ref b), (1, .ref (gad X 0)), (2, .ref (gad Y 0)), (3, .int (nI i))])
    (kk : ∀ (σ' τ' : gS) (H' : Heap) (locs' : List Loc), Rel (i + 1) σ' τ' → gP X xL σ' H' → gP Y mL τ' H' → va_S (fun q : Nat => s.heap.size ≤ q) s.heap H' locs' → W p l e room_1 s m #[Value.ref b] below meth c H' locs' 600000 7302250 Q (F0 m 854 ls [])) : W p l e room_1 s m #[Value.ref b] below meth c H locs 600000 7302250 Q (F0 m 801 ls []) := by
  obtain ⟨hx, hb, hml, hown, hts, hKX, hKY, hJX, hJY, hdis, hAX, hAY, hX, hbl⟩ := E
  have hbA : ¬ (fun q : Nat => s.heap.size ≤ q) b := Nat.not_le.mpr hbl
  refine lv_aload_n hx hb dL_law_801 rfl (lv_at hl 1 rfl) ?_
  obtain ⟨r, σ', τ', e1, e2, hR'⟩ := sim_clear hR
  refine g_lawi (n := 0) (As := []) (rest := []) hx hb hml hown hts hKX Px Py hdis hS hAX (kX7_clear l X hJX σ (r, σ') e1) wd_809 wd_810 wd_811 wd_2 wd_812 rfl rfl kdX7_clear ⟨Nat.le_of_ble_eq_true rfl, Nat.le_of_ble_eq_true rfl⟩ ⟨Nat.le_refl _, Nat.le_refl _⟩ xl0 rfl rfl rfl hl.1 (Nat.le_of_ble_eq_true rfl) dL_law_802 (fun H locs Px Py hS => ?_)
  refine lv_aload_n hx hb dL_law_805 rfl (lv_at hl 2 rfl) ?_
  refine g_lawi (n := 0) (As := []) (rest := [.int r]) hx hb hml hown hts hKY Py Px (fun i j hi hj h => hdis j i hj hi h.symm) hS hAY (kX8_clear l Y hJY τ (r, τ') e2) wd_817 wd_818 wd_819 wd_5 wd_820 rfl rfl kdX8_clear ⟨Nat.le_of_ble_eq_true rfl, Nat.le_of_ble_eq_true rfl⟩ ⟨Nat.le_refl _, Nat.le_refl _⟩ ml0 rfl rfl rfl hl.1 (Nat.le_of_ble_eq_true rfl) dL_law_806 (fun H locs Py Px hS => ?_)
  refine lv_icmp_eq (tgt := 854) hx hb dL_law_809 (by decide) (fun _ => ?_) (fun h => absurd rfl h)
  exact kk σ' τ' H locs hR' Px Py hS

set_option maxHeartbeats 4000000 in
set_option maxRecDepth 100000 in
theorem lawcase_22 {p : Program} {l : Launch} {e : Env} {s : State} {m : MethodId} {below : List Frame} {meth : Method} {c : Code} {X Y : gXt} {b L : Nat} {xs : Nat → Int32} {Q : State → Prop} (E : lawE p s m meth c X Y b L xs) (i : Nat) (hi : i + 3 < L) (hL : L ≤ 2048) {σ τ : gS} {H : Heap} {locs : List Loc} {ls : Array Slot} (hR : Rel i σ τ) (Px : gP X xL σ H) (Py : gP Y mL τ H) (hS : va_S (fun q : Nat => s.heap.size ≤ q) s.heap H locs) (hl : lv_has ls 4 [(0, .ref b), (1, .ref (gad X 0)), (2, .ref (gad Y 0)), (3, .int (nI i))])
    (kk : ∀ (σ' τ' : gS) (H' : Heap) (locs' : List Loc), Rel (i + 1) σ' τ' → gP X xL σ' H' → gP Y mL τ' H' → va_S (fun q : Nat => s.heap.size ≤ q) s.heap H' locs' → W p l e room_1 s m #[Value.ref b] below meth c H' locs' 600000 7302250 Q (F0 m 854 ls [])) : W p l e room_1 s m #[Value.ref b] below meth c H locs 600000 7302250 Q (F0 m 814 ls []) := by
  obtain ⟨hx, hb, hml, hown, hts, hKX, hKY, hJX, hJY, hdis, hAX, hAY, hX, hbl⟩ := E
  have hbA : ¬ (fun q : Nat => s.heap.size ≤ q) b := Nat.not_le.mpr hbl
  refine lv_aload_n hx hb dL_law_814 rfl (lv_at hl 1 rfl) ?_
  obtain ⟨r, σ', τ', e1, e2, hR'⟩ := sim_does hR
  refine g_lawi (n := 0) (As := []) (rest := []) hx hb hml hown hts hKX Px Py hdis hS hAX (kX7_does l X hJX σ (r, σ') e1) wd_821 wd_822 wd_823 wd_2 wd_824 rfl rfl kdX7_does ⟨Nat.le_of_ble_eq_true rfl, Nat.le_of_ble_eq_true rfl⟩ ⟨Nat.le_refl _, Nat.le_refl _⟩ xl0 rfl rfl rfl hl.1 (Nat.le_of_ble_eq_true rfl) dL_law_815 (fun H locs Px Py hS => ?_)
  refine lv_aload_n hx hb dL_law_818 rfl (lv_at hl 2 rfl) ?_
  refine g_lawi (n := 0) (As := []) (rest := [.int r]) hx hb hml hown hts hKY Py Px (fun i j hi hj h => hdis j i hj hi h.symm) hS hAY (kX8_does l Y hJY τ (r, τ') e2) wd_903 wd_904 wd_905 wd_5 wd_906 rfl rfl kdX8_does ⟨Nat.le_of_ble_eq_true rfl, Nat.le_of_ble_eq_true rfl⟩ ⟨Nat.le_refl _, Nat.le_refl _⟩ ml0 rfl rfl rfl hl.1 (Nat.le_of_ble_eq_true rfl) dL_law_819 (fun H locs Py Px hS => ?_)
  refine lv_icmp_eq (tgt := 854) hx hb dL_law_822 (by decide) (fun _ => ?_) (fun h => absurd rfl h)
  exact kk σ' τ' H locs hR' Px Py hS

set_option maxHeartbeats 4000000 in
set_option maxRecDepth 100000 in
theorem lawcase_23 {p : Program} {l : Launch} {e : Env} {s : State} {m : MethodId} {below : List Frame} {meth : Method} {c : Code} {X Y : gXt} {b L : Nat} {xs : Nat → Int32} {Q : State → Prop} (E : lawE p s m meth c X Y b L xs) (i : Nat) (hi : i + 3 < L) (hL : L ≤ 2048) {σ τ : gS} {H : Heap} {locs : List Loc} {ls : Array Slot} (hR : Rel i σ τ) (Px : gP X xL σ H) (Py : gP Y mL τ H) (hS : va_S (fun q : Nat => s.heap.size ≤ q) s.heap H locs) (hl : lv_has ls 4 [(0, .ref b), (1, .ref (gad X 0)), (2, .ref (gad Y 0)), (3, .int (nI i))])
    (kk : ∀ (σ' τ' : gS) (H' : Heap) (locs' : List Loc), Rel (i + 1) σ' τ' → gP X xL σ' H' → gP Y mL τ' H' → va_S (fun q : Nat => s.heap.size ≤ q) s.heap H' locs' → W p l e room_1 s m #[Value.ref b] below meth c H' locs' 600000 7302250 Q (F0 m 854 ls [])) : W p l e room_1 s m #[Value.ref b] below meth c H locs 600000 7302250 Q (F0 m 827 ls []) := by
  obtain ⟨hx, hb, hml, hown, hts, hKX, hKY, hJX, hJY, hdis, hAX, hAY, hX, hbl⟩ := E
  have hbA : ¬ (fun q : Nat => s.heap.size ≤ q) b := Nat.not_le.mpr hbl
  refine lv_aload_n hx hb dL_law_827 rfl (lv_at hl 1 rfl) ?_
  obtain ⟨r, σ', τ', e1, e2, hR'⟩ := sim_back hR
  refine g_lawi (n := 0) (As := []) (rest := []) hx hb hml hown hts hKX Px Py hdis hS hAX (kX7_back l X hJX σ (r, σ') e1) wd_953 wd_954 wd_955 wd_2 wd_956 rfl rfl kdX7_back ⟨Nat.le_of_ble_eq_true rfl, Nat.le_of_ble_eq_true rfl⟩ ⟨Nat.le_refl _, Nat.le_refl _⟩ xl0 rfl rfl rfl hl.1 (Nat.le_of_ble_eq_true rfl) dL_law_828 (fun H locs Px Py hS => ?_)
  refine lv_aload_n hx hb dL_law_831 rfl (lv_at hl 2 rfl) ?_
  refine g_lawi (n := 0) (As := []) (rest := [.int r]) hx hb hml hown hts hKY Py Px (fun i j hi hj h => hdis j i hj hi h.symm) hS hAY (kX8_back l Y hJY τ (r, τ') e2) wd_961 wd_962 wd_963 wd_5 wd_964 rfl rfl kdX8_back ⟨Nat.le_of_ble_eq_true rfl, Nat.le_of_ble_eq_true rfl⟩ ⟨Nat.le_refl _, Nat.le_refl _⟩ ml0 rfl rfl rfl hl.1 (Nat.le_of_ble_eq_true rfl) dL_law_832 (fun H locs Py Px hS => ?_)
  refine lv_icmp_eq (tgt := 854) hx hb dL_law_835 (by decide) (fun _ => ?_) (fun h => absurd rfl h)
  exact kk σ' τ' H locs hR' Px Py hS

set_option maxHeartbeats 4000000 in
set_option maxRecDepth 100000 in
theorem lawcase_24 {p : Program} {l : Launch} {e : Env} {s : State} {m : MethodId} {below : List Frame} {meth : Method} {c : Code} {X Y : gXt} {b L : Nat} {xs : Nat → Int32} {Q : State → Prop} (E : lawE p s m meth c X Y b L xs) (i : Nat) (hi : i + 3 < L) (hL : L ≤ 2048) {σ τ : gS} {H : Heap} {locs : List Loc} {ls : Array Slot} (hR : Rel i σ τ) (Px : gP X xL σ H) (Py : gP Y mL τ H) (hS : va_S (fun q : Nat => s.heap.size ≤ q) s.heap H locs) (hl : lv_has ls 4 [(0, .ref b), (1, .ref (gad X 0)), (2, .ref (gad Y 0)), (3, .int (nI i))])
    (kk : ∀ (σ' τ' : gS) (H' : Heap) (locs' : List Loc), Rel (i + 1) σ' τ' → gP X xL σ' H' → gP Y mL τ' H' → va_S (fun q : Nat => s.heap.size ≤ q) s.heap H' locs' → W p l e room_1 s m #[Value.ref b] below meth c H' locs' 600000 7302250 Q (F0 m 854 ls [])) : W p l e room_1 s m #[Value.ref b] below meth c H locs 600000 7302250 Q (F0 m 840 ls []) := by
  obtain ⟨hx, hb, hml, hown, hts, hKX, hKY, hJX, hJY, hdis, hAX, hAY, hX, hbl⟩ := E
  have hbA : ¬ (fun q : Nat => s.heap.size ≤ q) b := Nat.not_le.mpr hbl
  refine lv_aload_n hx hb dL_law_840 rfl (lv_at hl 1 rfl) ?_
  obtain ⟨r, τ', e1, e2, hR'⟩ := sim_digest hR (by omega)
  refine g_lawl (n := 0) (As := []) (rest := []) hx hb hml hown hts hKX Px Py hdis hS hAX (kX7_digest l X hJX σ r e1) wd_965 wd_966 wd_967 wd_2 wd_968 rfl rfl kdX7_digest ⟨Nat.le_of_ble_eq_true rfl, Nat.le_of_ble_eq_true rfl⟩ ⟨Nat.le_refl _, Nat.le_refl _⟩ xl0 rfl rfl rfl hl.1 (Nat.le_of_ble_eq_true rfl) dL_law_841 (fun H locs Px Py hS => ?_)
  refine lv_aload_n hx hb dL_law_844 rfl (lv_at hl 2 rfl) ?_
  refine g_lawl (n := 0) (As := []) (rest := [.long r]) hx hb hml hown hts hKY Py Px (fun i j hi hj h => hdis j i hj hi h.symm) hS hAY (kX8_digest l Y hJY τ (r, τ') e2) wd_983 wd_984 wd_985 wd_5 wd_986 rfl rfl kdX8_digest ⟨Nat.le_of_ble_eq_true rfl, Nat.le_of_ble_eq_true rfl⟩ ⟨Nat.le_refl _, Nat.le_refl _⟩ ml0 rfl rfl rfl hl.1 (Nat.le_of_ble_eq_true rfl) dL_law_845 (fun H locs Py Px hS => ?_)
  refine W.lcmp hx hb dL_law_848 ?_
  refine lv_if_eq (tgt := 854) hx hb dL_law_849 (by decide) (fun _ => ?_) (fun h => absurd (by simp [lg_cmp]) h)
  exact kk σ τ' H locs hR' Px Py hS

