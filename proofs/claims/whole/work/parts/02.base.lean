/-! THE COMMON GROUND: a store of numbers, a layout of cells, the world that both make; contracts over it; a row an instruction -/
abbrev gS : Type := (Nat → Nat → Int32) × (Nat → Nat → Int32) × Int64
def gI (σ : gS) (k j : Nat) : Int32 := σ.1 k j
def gM (σ : gS) (k i : Nat) : Int32 := σ.2.1 k i
def gL (σ : gS) : Int64 := σ.2.2
def sI (σ : gS) (k j : Nat) (v : Int32) : gS := (fun k' j' => if k' = k ∧ j' = j then v else σ.1 k' j', σ.2.1, σ.2.2)
def sM (σ : gS) (k i : Nat) (v : Int32) : gS := (σ.1, fun k' i' => if k' = k ∧ i' = i then v else σ.2.1 k' i', σ.2.2)
def sA (σ : gS) (k : Nat) (f : Nat → Int32) : gS := (σ.1, fun k' i' => if k' = k then f i' else σ.2.1 k' i', σ.2.2)
def sL (σ : gS) (v : Int64) : gS := (σ.1, σ.2.1, v)
theorem gI_sI (σ : gS) (k j k' j' : Nat) (v : Int32) : gI (sI σ k j v) k' j' = if k' = k ∧ j' = j then v else gI σ k' j' := rfl
theorem gM_sI (σ : gS) (k j k' i' : Nat) (v : Int32) : gM (sI σ k j v) k' i' = gM σ k' i' := rfl
theorem gL_sI (σ : gS) (k j : Nat) (v : Int32) : gL (sI σ k j v) = gL σ := rfl
theorem gI_sM (σ : gS) (k i k' j' : Nat) (v : Int32) : gI (sM σ k i v) k' j' = gI σ k' j' := rfl
theorem gM_sM (σ : gS) (k i k' i' : Nat) (v : Int32) : gM (sM σ k i v) k' i' = if k' = k ∧ i' = i then v else gM σ k' i' := rfl
theorem gL_sM (σ : gS) (k i : Nat) (v : Int32) : gL (sM σ k i v) = gL σ := rfl
theorem gI_sA (σ : gS) (k k' j' : Nat) (f : Nat → Int32) : gI (sA σ k f) k' j' = gI σ k' j' := rfl
theorem gM_sA (σ : gS) (k k' i' : Nat) (f : Nat → Int32) : gM (sA σ k f) k' i' = if k' = k then f i' else gM σ k' i' := rfl
theorem gL_sA (σ : gS) (k : Nat) (f : Nat → Int32) : gL (sA σ k f) = gL σ := rfl
theorem gI_sL (σ : gS) (k' j' : Nat) (v : Int64) : gI (sL σ v) k' j' = gI σ k' j' := rfl
theorem gM_sL (σ : gS) (k' i' : Nat) (v : Int64) : gM (sL σ v) k' i' = gM σ k' i' := rfl
theorem gL_sL (σ : gS) (v : Int64) : gL (sL σ v) = v := rfl
/-- what is known once for all: the classes, the array classes, the cells' addresses -/
abbrev gXt : Type := va_G × (Nat → ClassId) × (Nat → Nat)
def gcy (X : gXt) (t : Nat) : ClassId := X.2.1 t
def gad (X : gXt) (k : Nat) : Nat := X.2.2 k
/-- a cell's kind: an object (its class, its fields: a cell, an int, a long), a row of ints, a row of cells -/
abbrev gLy : Type := (Nat × List (Nat ⊕ Bool)) ⊕ (Nat ⊕ (Nat × List Nat))
def gval (X : gXt) (σ : gS) (k j : Nat) (x : Nat ⊕ Bool) : Value := match x with
  | .inl t => .ref (gad X t)
  | .inr false => .int (gI σ k j)
  | .inr true => .long (gL σ)
/-- a list's members, each with its place -/
def gmap {α β : Type} (f : Nat → α → β) : Nat → List α → List β
  | _, [] => []
  | j, a :: r => f j a :: gmap f (j + 1) r
theorem gmap_get {α β : Type} (f : Nat → α → β) : ∀ (l : List α) (j i : Nat), (gmap f j l)[i]? = (l[i]?).map (f (j + i))
  | [], j, i => by simp [gmap]
  | a :: r, j, 0 => by simp [gmap]
  | a :: r, j, i + 1 => by
    have h := gmap_get f r (j + 1) i
    simp only [gmap, List.getElem?_cons_succ, h]
    rw [show j + 1 + i = j + (i + 1) by omega]
theorem gmap_len {α β : Type} (f : Nat → α → β) : ∀ (l : List α) (j : Nat), (gmap f j l).length = l.length
  | [], _ => rfl
  | a :: r, j => by simp [gmap, gmap_len f r (j + 1)]
def gcon (X : gXt) (σ : gS) (k : Nat) (y : gLy) : va_E := match y with
  | .inl o => .inr (o.1, gmap (gval X σ k) 0 o.2)
  | .inr (.inl n) => .inl (gcy X 0, n, .inl (gM σ k))
  | .inr (.inr r) => .inl (gcy X r.1, r.2.length, .inr (.inr (.inr (.inr (fun i => (r.2.map (gad X))[i]?)))))
def gw (X : gXt) (L : List gLy) (σ : gS) : va_W := gmap (fun k y => (gad X k, gcon X σ k y)) 0 L
theorem gw_get {X : gXt} {L : List gLy} {σ : gS} {k : Nat} {y : gLy} (h : L[k]? = some y) : (gw X L σ)[k]? = some (gad X k, gcon X σ k y) := by
  simp [gw, gmap_get, h]
theorem gw_set {X : gXt} {L : List gLy} {σ σ' : gS} {k : Nat} {y : gLy} (h : L[k]? = some y) (hk : ∀ (k' : Nat) (y' : gLy), k' ≠ k → L[k']? = some y' → gcon X σ' k' y' = gcon X σ k' y') : (gw X L σ).set k (gad X k, gcon X σ' k y) = gw X L σ' := by
  have hl : k < L.length := (List.getElem?_eq_some_iff.mp h).1
  apply List.ext_getElem?
  intro i
  by_cases hi : i = k
  · subst hi
    rw [List.getElem?_set_self (by simpa [gw, gmap_len] using hl), gw_get h]
  · rw [List.getElem?_set_ne (Ne.symm hi)]
    simp only [gw, gmap_get, Nat.zero_add]
    cases hy : L[i]? with
    | none => rfl
    | some y' => simp only [Option.map_some]; rw [hk i y' hi hy]
theorem gcon_sI {X : gXt} {σ : gS} {k j k' : Nat} {v : Int32} (y : gLy) (h : k' ≠ k) : gcon X (sI σ k j v) k' y = gcon X σ k' y := by
  rcases y with ⟨ci, fl⟩ | n | ⟨t, ts⟩
  · have e : gval X (sI σ k j v) k' = gval X σ k' := by
      funext i x
      rcases x with t | b
      · rfl
      · cases b
        · simp [gval, gI_sI, h]
        · rfl
    simp only [gcon, e]
  · rfl
  · rfl
theorem gcon_sM {X : gXt} {σ : gS} {k i k' : Nat} {v : Int32} (y : gLy) (h : k' ≠ k) : gcon X (sM σ k i v) k' y = gcon X σ k' y := by
  rcases y with ⟨ci, fl⟩ | n | ⟨t, ts⟩
  · rfl
  · have e : gM (sM σ k i v) k' = gM σ k' := by
      funext i'
      simp [gM_sM, h]
    simp only [gcon, e]
  · rfl
theorem gcon_sA {X : gXt} {σ : gS} {k k' : Nat} {f : Nat → Int32} (y : gLy) (h : k' ≠ k) : gcon X (sA σ k f) k' y = gcon X σ k' y := by
  rcases y with ⟨ci, fl⟩ | n | ⟨t, ts⟩
  · rfl
  · have e : gM (sA σ k f) k' = gM σ k' := by
      funext i'
      simp [gM_sA, h]
    simp only [gcon, e]
  · rfl
theorem gfl_sI {X : gXt} {σ : gS} {k j : Nat} {v : Int32} {fl : List (Nat ⊕ Bool)} (h : fl[j]? = some (.inr false)) : (gmap (gval X σ k) 0 fl).set j (.int v) = gmap (gval X (sI σ k j v) k) 0 fl := by
  have hl : j < fl.length := (List.getElem?_eq_some_iff.mp h).1
  apply List.ext_getElem?
  intro i
  by_cases hi : i = j
  · subst hi
    rw [List.getElem?_set_self (by simpa [gmap_len] using hl)]
    simp [gmap_get, h, gval, gI_sI]
  · rw [List.getElem?_set_ne (Ne.symm hi)]
    simp only [gmap_get, Nat.zero_add]
    cases hy : fl[i]? with
    | none => rfl
    | some x =>
      rcases x with t | b
      · rfl
      · cases b
        · simp [gval, gI_sI, hi]
        · rfl
theorem gfl_sL {X : gXt} {σ : gS} {k j : Nat} {v : Int64} {fl : List (Nat ⊕ Bool)} (h : fl[j]? = some (.inr true)) (h1 : ∀ i, i ≠ j → fl[i]? ≠ some (.inr true)) : (gmap (gval X σ k) 0 fl).set j (.long v) = gmap (gval X (sL σ v) k) 0 fl := by
  have hl : j < fl.length := (List.getElem?_eq_some_iff.mp h).1
  apply List.ext_getElem?
  intro i
  by_cases hi : i = j
  · subst hi
    rw [List.getElem?_set_self (by simpa [gmap_len] using hl)]
    simp [gmap_get, h, gval, gL_sL]
  · rw [List.getElem?_set_ne (Ne.symm hi)]
    simp only [gmap_get, Nat.zero_add]
    cases hy : fl[i]? with
    | none => rfl
    | some x =>
      rcases x with t | b
      · rfl
      · cases b
        · rfl
        · exact absurd hy (h1 i hi)
def gtys (X : gXt) : List (ClassId × FieldType) := [(gcy X 0, .int), (gcy X 1, .object RX1), (gcy X 2, .object RX5)]
def gP (X : gXt) (L : List gLy) (σ : gS) (H : Heap) : Prop := va_P X.1 vwCl (gw X L σ) H
/-- the calls from a class to its nest host -/
def gnest : List (String × Nat × MethodName × String) := [(RX2, 23, yX7_isRegister, RX7), (RX2, 111, yX7_isPointerCode, RX7), (RX2, 99, yX7_pointerCode, RX7), (RX2, 114, yX7_blockOfCode, RX7), (RX2, 117, yX7_offsetOfCode, RX7), (RX0, 47, yX7_isPointerCode, RX7), (RX0, 51, yX7_blockOfCode, RX7), (RX0, 83, yX7_offsetOfCode, RX7), (RX0, 86, yX7_pointerCode, RX7), (RX5, 53, yX7_isRegister, RX7), (RX5, 81, yX7_isPointerCode, RX7), (RX1, 30, yX7_isPointerCode, RX7)]
def gK (X : gXt) (s : State) : Prop := va_K X.1 vwCl (gtys X) s ∧ ∀ q ∈ gnest, va_Nw (.methodLinkNest q.1 q.2.1 q.2.2.1 q.2.2.2) s
theorem gK.warm {X : gXt} {s U : State} (h : gK X s) (hW : s.WarmedH U.vm) : gK X U := ⟨va_K.moved hW.alike h.1, fun q hq => va_Nw.warmM hW (h.2 q hq)⟩
theorem gK.calling {X : gXt} {U : State} (h : gK X U) (g : JFrame) (mk : MethodId) (a : Array Value) : gK X (U.calling g mk a) :=
  ⟨va_K.moved (u := U) (U := U.calling g mk a) (Vm.Alike.refl U.vm) h.1, fun q hq => va_Nw.same (u := U) (U := U.calling g mk a) rfl rfl (h.2 q hq)⟩
def gA (X : gXt) (L : List gLy) : Nat → Prop := fun q => ∃ k, k < L.length ∧ q = gad X k
def gJ (X : gXt) (L : List gLy) : Prop := ∀ i j : Nat, i < L.length → j < L.length → gad X i = gad X j → i = j
theorem gw_D {X : gXt} {L : List gLy} (h : gJ X L) (σ : gS) : va_D (gA X L) (gw X L σ) := by
  have key : ∀ (k : Nat) (q : Nat × va_E), (gw X L σ)[k]? = some q → k < L.length ∧ q.1 = gad X k := by
    intro k q hq
    have hl : k < L.length := by
      have := (List.getElem?_eq_some_iff.mp hq).1
      simpa [gw, gmap_len] using this
    rw [gw_get (List.getElem?_eq_getElem hl)] at hq
    cases hq
    exact ⟨hl, rfl⟩
  refine ⟨fun i j p q hi hj e => ?_, fun k q hq => ⟨k, key k q hq⟩⟩
  obtain ⟨a1, a2⟩ := key i p hi
  obtain ⟨b1, b2⟩ := key j q hj
  exact h i j a1 b1 (by rw [← a2, ← b2]; exact e)
/-- the world, and what the method has left alone so far -/
def gH (X : gXt) (L : List gLy) (σ : gS) (s : State) (H : Heap) (locs : List Loc) : Prop := gP X L σ H ∧ va_S (gA X L) s.heap H locs
def gPc (X : gXt) (L : List gLy) (av : List Value) (σ : gS) : Array Value → State → Prop := va_Pc av (fun U => gP X L σ U.heap ∧ gK X U)
def gQi (X : gXt) (L : List gLy) (r : Int32) (σ : gS) : Array Value → State → Outcome → State → Prop := va_Qi (fun (r' : Int32) (_ : Unit) => r' = r) (fun _ t => gP X L σ t.heap) (gA X L)
def gQl (X : gXt) (L : List gLy) (r : Int64) (σ : gS) : Array Value → State → Outcome → State → Prop := va_Ql (fun (r' : Int64) (_ : Unit) => r' = r) (fun _ t => gP X L σ t.heap) (gA X L)
def gQv (X : gXt) (L : List gLy) (σ : gS) : Array Value → State → Outcome → State → Prop := va_Qv (fun (_ : Unit) => True) (fun _ t => gP X L σ t.heap) (gA X L)
def gQr (X : gXt) (L : List gLy) (r : Nat) (σ : gS) : Array Value → State → Outcome → State → Prop := va_Qr (fun (_ : Unit) => True) (fun _ a t => a = gad X r ∧ gP X L σ t.heap) (gA X L)
/-- a method's words: its own code, and the law's list -/
abbrev gws (y : MethodName) (cc : ByteArray) (nL : Nat) (ret : Option FieldType) : List Cond := Cond.code y cc nL ret :: wsL_law
theorem g_good {ws : List Cond} (h : ∀ w ∈ ws, w ∈ wsL_law) : GoodIn wsL_law ws := fun w hw => ⟨h w hw, good_of_word (List.all_eq_true.mp lw_good w (h w hw))⟩
theorem g_gws {y : MethodName} {cc : ByteArray} {nL : Nat} {ret : Option FieldType} (h5 : Cond.code y cc nL ret ∈ wsL_law) : GoodIn wsL_law (gws y cc nL ret) := g_good (fun w hw => by
  rcases List.mem_cons.mp hw with rfl | h
  · exact h5
  · exact h)
theorem g_wsV {own K : String} {idx : Nat} {y : MethodName} {cc : ByteArray} {nL : Nat} {ret : Option FieldType} (h1 : Cond.methodLink own idx y ∈ wsL_law) (h2 : Cond.instanceMethod y ∈ wsL_law) (h3 : Cond.selects K y y ∈ wsL_law) (h4 : Cond.initialized K ∈ wsL_law) (h5 : Cond.code y cc nL ret ∈ wsL_law) : GoodIn wsL_law (wsV own idx K y (gws y cc nL ret)) := g_good (fun w hw => by
  unfold wsV at hw
  rcases List.mem_append.mp hw with h | h
  · simp only [List.mem_cons, List.not_mem_nil, or_false] at h
    rcases h with rfl | rfl | rfl | rfl
    · exact h1
    · exact h2
    · exact h3
    · exact h4
  · rcases List.mem_cons.mp h with rfl | h
    · exact h5
    · exact h)
theorem g_wsS {own : String} {idx : Nat} {y : MethodName} {cc : ByteArray} {nL : Nat} {ret : Option FieldType} (h1 : Cond.methodLink own idx y ∈ wsL_law) (h2 : Cond.static y ∈ wsL_law) (h4 : Cond.initialized y.cls ∈ wsL_law) (h5 : Cond.code y cc nL ret ∈ wsL_law) : GoodIn wsL_law (va_wsS own idx y (gws y cc nL ret)) := g_good (fun w hw => by
  unfold va_wsS at hw
  rcases List.mem_append.mp hw with h | h
  · simp only [List.mem_cons, List.not_mem_nil, or_false] at h
    rcases h with rfl | rfl | rfl
    · exact h1
    · exact h2
    · exact h4
  · rcases List.mem_cons.mp h with rfl | h
    · exact h5
    · exact h)
def gMi (l : Launch) (y : MethodName) (ws : List Cond) (rm : Room) (X : gXt) (L : List gLy) (av : List Value) (σ : gS) (r : Int32) (σ' : gS) : Prop := Met l y ws rm (gPc X L av σ) (gQi X L r σ') 0 0 (gA X L)
def gMl (l : Launch) (y : MethodName) (ws : List Cond) (rm : Room) (X : gXt) (L : List gLy) (av : List Value) (σ : gS) (r : Int64) (σ' : gS) : Prop := Met l y ws rm (gPc X L av σ) (gQl X L r σ') 0 0 (gA X L)
def gMv (l : Launch) (y : MethodName) (ws : List Cond) (rm : Room) (X : gXt) (L : List gLy) (av : List Value) (σ : gS) (σ' : gS) : Prop := Met l y ws rm (gPc X L av σ) (gQv X L σ') 0 0 (gA X L)
def gMr (l : Launch) (y : MethodName) (ws : List Cond) (rm : Room) (X : gXt) (L : List gLy) (av : List Value) (σ : gS) (r : Nat) (σ' : gS) : Prop := Met l y ws rm (gPc X L av σ) (gQr X L r σ') 0 0 (gA X L)
/-- what holds all through a method -/
def gC (p : Program) (s : State) (m : MethodId) (args : Array Value) (meth : Method) (c : Code) (own : String) (cc : ByteArray) (nL : Nat) (ret : Option FieldType) (X : gXt) (L : List gLy) : Prop :=
  p.tables.exec = Jvm.exec ∧ c.code = cc ∧ c.maxLocals = nL ∧ s.vm.findClass own = some m.cls ∧ (∀ w ∈ wsL_law, w.before args s = true) ∧ meth.sig.returnType = ret ∧ meth.locks = false ∧ gK X s ∧ gJ X L
theorem g_enter {l : Launch} {y : MethodName} {rm : Room} {X : gXt} {L : List gLy} {av : List Value} {σ : gS} {Qc : Array Value → State → Outcome → State → Prop} {cc : ByteArray} {nL : Nat} {ret : Option FieldType} (hJ : gJ X L)
    (hy : plainFor y = true) (hn : (lg_sl av).length ≤ nL)
    (body : ∀ (p : Program) (e : Env) (s : State) (m : MethodId) (below : List Frame) (meth : Method) (c : Code) (ls : Array Slot), gC p s m av.toArray meth c y.cls cc nL ret X L → gH X L σ s s.heap [] → lv_has ls nL (lv_args 0 av) →
      W p l e rm s m av.toArray below meth c s.heap [] 0 0 (MQ below Qc av.toArray s 0 0 (gA X L)) (F0 m 0 ls [])) : Met l y (gws y cc nL ret) rm (gPc X L av σ) Qc 0 0 (gA X L) := by
  have body' : ∀ p e s m args below meth c s₁, BodyLoose p l y (headSpec (gws y cc nL ret) rm) cc nL ret e s m args below meth c s₁ → c.maxLocals = nL → gPc X L av σ args s → W p l e rm s m args below meth c s.heap [] 0 0 (MQ below Qc args s 0 0 (gA X L)) (entryFrame m args nL) := by
    intro p e s m args below meth c s₁ B hml hv
    obtain ⟨rfl, hP, hK⟩ := hv
    have hl := lv_entry av (n := nL) hn
    rw [lg_entry_eq]
    exact body p e s m below meth c _ ⟨B.exec, B.bytes, hml, findClass_of_methodNamed B.named, fun w hw => atoms_spec (ws := gws y cc nL ret) B.pre w (List.mem_cons_of_mem _ hw), B.returns, B.notSynchronized, hK, hJ⟩ ⟨hP, va_S.rf⟩ hl
  refine MetFree.of_bodySF (code := cc) (maxLocals := nL) (ret := ret) hy ?_ ?_
  · intro args s m h hn
    obtain ⟨meth, c, h1, h2, h3, h4, h5, h6, -, -⟩ := Cond.code_spec hn (atoms_spec (ws := gws y cc nL ret) h _ List.mem_cons_self)
    exact ⟨meth, c, h1, h2, h3, h4, h5, h6⟩
  · intro p e s m args below meth c s₁ B hml hP _
    have hh0 : s₁.heap = s.heap := by rw [B.state]; rfl
    obtain ⟨t, a1, o, b1, b2, b3⟩ := body' p e s m args below meth c s₁ B hml hP s₁ hh0 (Stand.of_body B)
    exact ⟨t, o, a1, b1, b2, ⟨b3.1, b3.2⟩⟩
theorem g_fst {α β : Type} {a : α} {b : β} {q : α × β} (h : (a, b) = q) : a = q.1 := by rw [← h]
theorem g_snd {α β : Type} {a : α} {b : β} {q : α × β} (h : (a, b) = q) : b = q.2 := by rw [← h]
theorem g_ifp {α : Type} {c : Prop} {d : Decidable c} {a b q : α} (hc : c) (h : (@ite α c d a b) = q) : a = q := by rw [if_pos hc] at h; exact h
theorem g_ifn {α : Type} {c : Prop} {d : Decidable c} {a b q : α} (hc : ¬ c) (h : (@ite α c d a b) = q) : b = q := by rw [if_neg hc] at h; exact h
theorem g_bind {α β : Type} {f : Option α} {g : α → Option β} {q : β} (h : f.bind g = some q) : ∃ a, f = some a ∧ g a = some q := by
  cases f with
  | none => cases h
  | some a => exact ⟨a, rfl, h⟩
/-- a place of a row of n -/
def gob {α : Type} (i : Int32) (n : Nat) (x : Option α) : Option α := if 0 ≤ i.toInt ∧ i.toInt < n then x else none
theorem g_ob {α : Type} {i : Int32} {n : Nat} {x : Option α} {q : α} (h : gob i n x = some q) : vp_in i n ∧ x = some q := by
  unfold gob at h
  by_cases hc : 0 ≤ i.toInt ∧ i.toInt < n
  · rw [if_pos hc] at h; exact ⟨vp_in_iff.mpr hc, h⟩
  · rw [if_neg hc] at h; cases h
/-- a place of a row of cells -/
def gor {α : Type} (ts : List Nat) (i : Int32) (f : Nat → Option α) : Option α := if 0 ≤ i.toInt then (ts[i.toNatClampNeg]?).bind f else none
theorem g_or {α : Type} {ts : List Nat} {i : Int32} {f : Nat → Option α} {q : α} (h : gor ts i f = some q) : ∃ d, vp_in i ts.length ∧ ts[i.toNatClampNeg]? = some d ∧ f d = some q := by
  unfold gor at h
  by_cases hc : 0 ≤ i.toInt
  · rw [if_pos hc] at h
    obtain ⟨d, h1, h2⟩ := g_bind h
    refine ⟨d, vp_in_iff.mpr ⟨hc, ?_⟩, h1, h2⟩
    have hl := (List.getElem?_eq_some_iff.mp h1).1
    have e : i.toNatClampNeg = i.toInt.toNat := rfl
    omega
  · rw [if_neg hc] at h; cases h
/-- a guard of the walk: a truth is 0 or 1 -/
def gbo {α : Type} (v : Int32) (x : Option α) : Option α := if v = 0 ∨ v = 1 then x else none
theorem g_bo {α : Type} {v : Int32} {x : Option α} {q : α} (h : gbo v x = some q) : (v = 0 ∨ v = 1) ∧ x = some q := by
  unfold gbo at h
  by_cases hc : v = 0 ∨ v = 1
  · rw [if_pos hc] at h; exact ⟨hc, h⟩
  · rw [if_neg hc] at h; cases h
theorem g_bon {v : Int32} (h : v = 0 ∨ v = 1) : narrow .boolean (.int v) = .int v := by
  rcases h with rfl | rfl <;> rfl
/-- a divisor -/
def gnz {α : Type} (v : Int32) (x : Option α) : Option α := if v = 0 then none else x
theorem g_nz {α : Type} {v : Int32} {x : Option α} {q : α} (h : gnz v x = some q) : ¬ v = 0 ∧ x = some q := by
  unfold gnz at h
  by_cases hc : v = 0
  · rw [if_pos hc] at h; cases h
  · rw [if_neg hc] at h; exact ⟨hc, h⟩
section GR
variable {p : Program} {l : Launch} {e : Env} {R : Room} {s : State} {m : MethodId} {args : Array Value} {below : List Frame} {meth : Method} {c : Code} {H : Heap} {locs : List Loc} {Q : State → Prop} {X : gXt} {L : List gLy} {σ : gS}
variable {own : String} {cc : ByteArray} {nL : Nat} {ret : Option FieldType} {pc index k : Nat} {ls : Array Slot} {rest : List Value} {K : String} {T : u_T} {N ci : Nat} {fl : List (Nat ⊕ Bool)}
theorem g_getI (C : gC p s m args meth c own cc nL ret X L) (P : gH X L σ s H locs) (hL : L[k]? = some (.inl (ci, fl))) (hc : vwCl[ci]? = some (K, T, N)) (hin : ∀ w ∈ u_ws K T N, w ∈ wsL_law) (j : Nat) (hj : j < N) (hl : Cond.fieldLink own index (T j).1 (T j).2.1 (T j).2.2.1 ∈ wsL_law) (hf : fl[j]? = some (.inr false)) (hdg : decode cc pc = .ok (.getfield index, 3))
    (kk : W p l e R s m args below meth c H locs 0 0 Q (F0 m (pc + 3) ls (.int (gI σ k j) :: rest))) : W p l e R s m args below meth c H locs 0 0 Q (F0 m pc ls (.ref (gad X k) :: rest)) := by
  obtain ⟨hx, hb, -, hown, hts, -, -, hK, hJ⟩ := C
  refine va_get (ci := ci) (v := .int (gI σ k j)) (fs := gmap (gval X σ k) 0 fl) hx hb hts hin hown hK.1 P.1 k (gw_get hL) hc j hj (hts _ hl) (fun _ h => h) ?_ hdg kk
  simp [gmap_get, hf, gval]
theorem g_getL (C : gC p s m args meth c own cc nL ret X L) (P : gH X L σ s H locs) (hL : L[k]? = some (.inl (ci, fl))) (hc : vwCl[ci]? = some (K, T, N)) (hin : ∀ w ∈ u_ws K T N, w ∈ wsL_law) (j : Nat) (hj : j < N) (hl : Cond.fieldLink own index (T j).1 (T j).2.1 (T j).2.2.1 ∈ wsL_law) (hf : fl[j]? = some (.inr true)) (hdg : decode cc pc = .ok (.getfield index, 3))
    (kk : W p l e R s m args below meth c H locs 0 0 Q (F0 m (pc + 3) ls (.long (gL σ) :: rest))) : W p l e R s m args below meth c H locs 0 0 Q (F0 m pc ls (.ref (gad X k) :: rest)) := by
  obtain ⟨hx, hb, -, hown, hts, -, -, hK, hJ⟩ := C
  refine va_get (ci := ci) (v := .long (gL σ)) (fs := gmap (gval X σ k) 0 fl) hx hb hts hin hown hK.1 P.1 k (gw_get hL) hc j hj (hts _ hl) (fun _ h => h) ?_ hdg kk
  simp [gmap_get, hf, gval]
theorem g_getR {t : Nat} (C : gC p s m args meth c own cc nL ret X L) (P : gH X L σ s H locs) (hL : L[k]? = some (.inl (ci, fl))) (hc : vwCl[ci]? = some (K, T, N)) (hin : ∀ w ∈ u_ws K T N, w ∈ wsL_law) (j : Nat) (hj : j < N) (hl : Cond.fieldLink own index (T j).1 (T j).2.1 (T j).2.2.1 ∈ wsL_law) (hf : fl[j]? = some (.inl t)) (hdg : decode cc pc = .ok (.getfield index, 3))
    (kk : W p l e R s m args below meth c H locs 0 0 Q (F0 m (pc + 3) ls (.ref (gad X t) :: rest))) : W p l e R s m args below meth c H locs 0 0 Q (F0 m pc ls (.ref (gad X k) :: rest)) := by
  obtain ⟨hx, hb, -, hown, hts, -, -, hK, hJ⟩ := C
  refine va_get (ci := ci) (v := .ref (gad X t)) (fs := gmap (gval X σ k) 0 fl) hx hb hts hin hown hK.1 P.1 k (gw_get hL) hc j hj (hts _ hl) (fun _ h => h) ?_ hdg kk
  simp [gmap_get, hf, gval]
theorem g_putI (C : gC p s m args meth c own cc nL ret X L) (P : gH X L σ s H locs) (hL : L[k]? = some (.inl (ci, fl))) (hc : vwCl[ci]? = some (K, T, N)) (hin : ∀ w ∈ u_ws K T N, w ∈ wsL_law) (ty0 : Nat → FieldType) (hty : ∀ k, k < N → parseFieldDescriptor (T k).2.2.1 = some (ty0 k)) (hnm : ∀ a, a < N → ∀ b, b < N → a ≠ b → (T a).2.1 ≠ (T b).2.1) (j : Nat) (hj : j < N) (hl : Cond.fieldLink own index (T j).1 (T j).2.1 (T j).2.2.1 ∈ wsL_law) (hf : fl[j]? = some (.inr false)) (hfin : (T j).2.2.2 = false) {v : Int32} (hn : narrow (ty0 j) (.int v) = .int v) (hfit : fits (ty0 j) (.int v) = true) (hdg : decode cc pc = .ok (.putfield index, 3))
    (kk : ∀ (H1 : Heap) (locs1 : List Loc), gH X L (sI σ k j v) s H1 locs1 → W p l e R s m args below meth c H1 locs1 0 0 Q (F0 m (pc + 3) ls rest)) : W p l e R s m args below meth c H locs 0 0 Q (F0 m pc ls (.int v :: .ref (gad X k) :: rest)) := by
  obtain ⟨hx, hb, -, hown, hts, -, -, hK, hJ⟩ := C
  have hjl : j < fl.length := (List.getElem?_eq_some_iff.mp hf).1
  refine va_put (ci := ci) (ty := ty0 j) (fs := gmap (gval X σ k) 0 fl) hx hb hts hin ty0 hty hnm hown hK.1 P.1 (gw_D hJ σ) P.2 k (gw_get hL) hc j hj (hts _ hl) (fun _ h => h) hfin (hty j hj) hn hfit (by simpa [gmap_len] using hjl) hdg (fun H1 locs1 h1 _ h3 => kk H1 locs1 ⟨?_, h3⟩)
  rw [gfl_sI hf] at h1
  have e := gw_set (X := X) (σ := σ) (σ' := sI σ k j v) hL (fun k' y' hk _ => gcon_sI y' hk)
  show va_P X.1 vwCl (gw X L (sI σ k j v)) H1
  rw [← e]
  exact h1
theorem g_putL (C : gC p s m args meth c own cc nL ret X L) (P : gH X L σ s H locs) (hL : L[k]? = some (.inl (ci, fl))) (hc : vwCl[ci]? = some (K, T, N)) (hin : ∀ w ∈ u_ws K T N, w ∈ wsL_law) (ty0 : Nat → FieldType) (hty : ∀ k, k < N → parseFieldDescriptor (T k).2.2.1 = some (ty0 k)) (hnm : ∀ a, a < N → ∀ b, b < N → a ≠ b → (T a).2.1 ≠ (T b).2.1) (j : Nat) (hj : j < N) (hl : Cond.fieldLink own index (T j).1 (T j).2.1 (T j).2.2.1 ∈ wsL_law) (hf : fl[j]? = some (.inr true)) (hf1 : ∀ i, i ≠ j → fl[i]? ≠ some (.inr true)) (ho : ∀ (k' : Nat) (y' : gLy), k' ≠ k → L[k']? = some y' → ∃ n, y' = .inr (.inl n)) (hfin : (T j).2.2.2 = false) {v : Int64} (hn : narrow (ty0 j) (.long v) = .long v) (hfit : fits (ty0 j) (.long v) = true) (hdg : decode cc pc = .ok (.putfield index, 3))
    (kk : ∀ (H1 : Heap) (locs1 : List Loc), gH X L (sL σ v) s H1 locs1 → W p l e R s m args below meth c H1 locs1 0 0 Q (F0 m (pc + 3) ls rest)) : W p l e R s m args below meth c H locs 0 0 Q (F0 m pc ls (.long v :: .ref (gad X k) :: rest)) := by
  obtain ⟨hx, hb, -, hown, hts, -, -, hK, hJ⟩ := C
  have hjl : j < fl.length := (List.getElem?_eq_some_iff.mp hf).1
  refine va_put (ci := ci) (ty := ty0 j) (fs := gmap (gval X σ k) 0 fl) hx hb hts hin ty0 hty hnm hown hK.1 P.1 (gw_D hJ σ) P.2 k (gw_get hL) hc j hj (hts _ hl) (fun _ h => h) hfin (hty j hj) hn hfit (by simpa [gmap_len] using hjl) hdg (fun H1 locs1 h1 _ h3 => kk H1 locs1 ⟨?_, h3⟩)
  rw [gfl_sL hf hf1] at h1
  have e := gw_set (X := X) (σ := σ) (σ' := sL σ v) hL (fun k' y' hk hy => by obtain ⟨n, rfl⟩ := ho k' y' hk hy; rfl)
  show va_P X.1 vwCl (gw X L (sL σ v)) H1
  rw [← e]
  exact h1
theorem g_iald {n j : Nat} {i : Int32} (C : gC p s m args meth c own cc nL ret X L) (P : gH X L σ s H locs) (hL : L[k]? = some (.inr (.inl n))) (hi : vp_in i n) (hj : i.toNatClampNeg = j) (hdg : decode cc pc = .ok (.iaload, 1))
    (kk : W p l e R s m args below meth c H locs 0 0 Q (F0 m (pc + 1) ls (.int (gM σ k j) :: rest))) : W p l e R s m args below meth c H locs 0 0 Q (F0 m pc ls (.int i :: .ref (gad X k) :: rest)) := by
  obtain ⟨hx, hb, -, hown, hts, -, -, hK, hJ⟩ := C
  subst hj
  exact va_iald hx hb hK.1 P.1 k 0 (gw_get hL) rfl hi hdg kk
theorem g_iast {n j : Nat} {i x : Int32} (C : gC p s m args meth c own cc nL ret X L) (P : gH X L σ s H locs) (hL : L[k]? = some (.inr (.inl n))) (hi : vp_in i n) (hj : i.toNatClampNeg = j) (hdg : decode cc pc = .ok (.iastore, 1))
    (kk : ∀ (H1 : Heap) (locs1 : List Loc), gH X L (sM σ k j x) s H1 locs1 → W p l e R s m args below meth c H1 locs1 0 0 Q (F0 m (pc + 1) ls rest)) : W p l e R s m args below meth c H locs 0 0 Q (F0 m pc ls (.int x :: .int i :: .ref (gad X k) :: rest)) := by
  obtain ⟨hx, hb, -, hown, hts, -, -, hK, hJ⟩ := C
  subst hj
  refine va_iast hx hb hK.1 P.1 (gw_D hJ σ) P.2 k 0 (gw_get hL) rfl hi hdg (fun H1 locs1 h1 _ h3 => kk H1 locs1 ⟨?_, h3⟩)
  have e := gw_set (X := X) (σ := σ) (σ' := sM σ k i.toNatClampNeg x) hL (fun k' y' hk _ => gcon_sM y' hk)
  have e2 : gM (sM σ k i.toNatClampNeg x) k = upd (gM σ k) i.toNatClampNeg x := by
    funext j
    simp [gM_sM, upd]
  show va_P X.1 vwCl (gw X L (sM σ k i.toNatClampNeg x)) H1
  rw [← e]
  simp only [gcon, e2]
  exact h1
theorem g_aald {t d : Nat} {ts : List Nat} {i : Int32} {D : String} (C : gC p s m args meth c own cc nL ret X L) (P : gH X L σ s H locs) (hL : L[k]? = some (.inr (.inr (t, ts)))) (ht : (gtys X)[t]? = some (gcy X t, .object D)) (hi : vp_in i ts.length) (hd : ts[i.toNatClampNeg]? = some d) (hdg : decode cc pc = .ok (.aaload, 1))
    (kk : W p l e R s m args below meth c H locs 0 0 Q (F0 m (pc + 1) ls (.ref (gad X d) :: rest))) : W p l e R s m args below meth c H locs 0 0 Q (F0 m pc ls (.int i :: .ref (gad X k) :: rest)) := by
  obtain ⟨hx, hb, -, hown, hts, -, -, hK, hJ⟩ := C
  refine va_aldq hx hb hK.1 P.1 k t (gw_get hL) ht hi hdg ?_
  rw [List.getElem?_map, hd]
  exact kk
theorem g_copy {k1 n0 n1 : Nat} {sp dp n : Int32} (C : gC p s m args meth c own cc nL ret X L) (P : gH X L σ s H locs) (hL : L[k]? = some (.inr (.inl n0))) (hL1 : L[k1]? = some (.inr (.inl n1))) (hs : ls.size = nL) (hl : Cond.methodLink own index arraycopyName ∈ wsL_law) (hnat : Cond.native arraycopyName ∈ wsL_law) (hst : Cond.static arraycopyName ∈ wsL_law) (hini : Cond.initialized "java/lang/System" ∈ wsL_law)
    (h1 : ¬ sp < 0) (h2 : ¬ dp < 0) (h3 : ¬ n < 0) (h4 : sp.toNatClampNeg + n.toNatClampNeg ≤ n0) (h5 : dp.toNatClampNeg + n.toNatClampNeg ≤ n1) (hfr : 1 ≤ R.frames) (hlo : (rest.map fun v => v.category).sum + (nativeFrameWords "java/lang/System" "arraycopy" 5 + 11) ≤ R.locals) (hdg : decode cc pc = .ok (.invokestatic index, 3))
    (kk : ∀ (H1 : Heap) (locs1 : List Loc), gH X L (sA σ k1 (va_cpy (gM σ k) (gM σ k1) sp.toNatClampNeg dp.toNatClampNeg n.toNatClampNeg)) s H1 locs1 → W p l e R s m args below meth c H1 locs1 0 0 Q (F0 m (pc + 3) ls rest)) : W p l e R s m args below meth c H locs 0 0 Q (F0 m pc ls (.int n :: .int dp :: .ref (gad X k1) :: .int sp :: .ref (gad X k) :: rest)) := by
  obtain ⟨hx, hb, hml, hown, hts, -, -, hK, hJ⟩ := C
  refine va_copyi hx hb (hml.trans hs.symm) hown (hts _ hl) (hts _ hnat) (hts _ hst) (hts _ hini) hK.1 P.1 (gw_D hJ σ) P.2 k k1 0 0 (gw_get hL) (gw_get hL1) rfl rfl rfl h1 h2 h3 h4 h5 (fun _ _ => rfl) hfr hlo hdg (fun H1 locs1 q1 _ q3 => kk H1 locs1 ⟨?_, q3⟩)
  have e := gw_set (X := X) (σ := σ) (σ' := sA σ k1 (va_cpy (gM σ k) (gM σ k1) sp.toNatClampNeg dp.toNatClampNeg n.toNatClampNeg)) hL1 (fun k' y' hk _ => gcon_sA y' hk)
  have e2 : gM (sA σ k1 (va_cpy (gM σ k) (gM σ k1) sp.toNatClampNeg dp.toNatClampNeg n.toNatClampNeg)) k1 = va_cpy (gM σ k) (gM σ k1) sp.toNatClampNeg dp.toNatClampNeg n.toNatClampNeg := by
    funext j
    simp [gM_sA]
  show va_P X.1 vwCl (gw X L (sA σ k1 (va_cpy (gM σ k) (gM σ k1) sp.toNatClampNeg dp.toNatClampNeg n.toNatClampNeg))) H1
  rw [← e]
  simp only [gcon, e2]
  exact q1
theorem g_iret {r v : Int32} {σ' : gS} (C : gC p s m args meth c own cc nL (some .int) X L) (P : gH X L σ s H locs) (h : v = r) (hσ : σ = σ') (hdg : decode cc pc = .ok (.ireturn, 1)) : W p l e R s m args below meth c H locs 0 0 (MQ below (gQi X L r σ') args s 0 0 (gA X L)) (F0 m pc ls [.int v]) := by
  obtain ⟨hx, hb, -, hown, hts, hr, hlk, hK, hJ⟩ := C
  subst h; subst hσ
  exact W.iret hx hb hr (fun t ht _ => ⟨⟨v, (), rfl, rfl, by show gP X L σ t.heap; rw [ht]; exact P.1⟩, P.2.F ht⟩) P.2.2.2 hdg hlk
theorem g_zret {r v : Int32} {σ' : gS} (C : gC p s m args meth c own cc nL (some .boolean) X L) (P : gH X L σ s H locs) (hn : narrow .boolean (.int v) = .int v) (h : v = r) (hσ : σ = σ') (hdg : decode cc pc = .ok (.ireturn, 1)) : W p l e R s m args below meth c H locs 0 0 (MQ below (gQi X L r σ') args s 0 0 (gA X L)) (F0 m pc ls [.int v]) := by
  obtain ⟨hx, hb, -, hown, hts, hr, hlk, hK, hJ⟩ := C
  subst h; subst hσ
  exact W.zret hx hb hr hn (fun t ht _ => ⟨⟨v, (), rfl, rfl, by show gP X L σ t.heap; rw [ht]; exact P.1⟩, P.2.F ht⟩) P.2.2.2 hdg hlk
theorem g_lret {r v : Int64} {σ' : gS} (C : gC p s m args meth c own cc nL (some .long) X L) (P : gH X L σ s H locs) (h : v = r) (hσ : σ = σ') (hdg : decode cc pc = .ok (.lreturn, 1)) : W p l e R s m args below meth c H locs 0 0 (MQ below (gQl X L r σ') args s 0 0 (gA X L)) (F0 m pc ls [.long v]) := by
  obtain ⟨hx, hb, -, hown, hts, hr, hlk, hK, hJ⟩ := C
  subst h; subst hσ
  exact W.lret hx hb hr (fun t ht _ => ⟨⟨v, (), rfl, rfl, by show gP X L σ t.heap; rw [ht]; exact P.1⟩, P.2.F ht⟩) P.2.2.2 hdg hlk
theorem g_vret {σ' : gS} (C : gC p s m args meth c own cc nL none X L) (P : gH X L σ s H locs) (hσ : σ = σ') (hdg : decode cc pc = .ok (.return_, 1)) : W p l e R s m args below meth c H locs 0 0 (MQ below (gQv X L σ') args s 0 0 (gA X L)) (F0 m pc ls []) := by
  obtain ⟨hx, hb, -, hown, hts, hr, hlk, hK, hJ⟩ := C
  subst hσ
  exact W.vret hx hb hr (fun t ht _ => ⟨⟨(), rfl, trivial, by show gP X L σ t.heap; rw [ht]; exact P.1⟩, P.2.F ht⟩) P.2.2.2 hdg hlk
theorem g_aret {r d : Nat} {D : String} {σ' : gS} (C : gC p s m args meth c own cc nL (some (.object D)) X L) (P : gH X L σ s H locs) (h : d = r) (hσ : σ = σ') (hdg : decode cc pc = .ok (.areturn, 1)) : W p l e R s m args below meth c H locs 0 0 (MQ below (gQr X L r σ') args s 0 0 (gA X L)) (F0 m pc ls [.ref (gad X d)]) := by
  obtain ⟨hx, hb, -, hown, hts, hr, hlk, hK, hJ⟩ := C
  subst h; subst hσ
  exact W.aret hx hb hr (Or.inl ⟨_, rfl⟩) (Or.inr ⟨_, rfl⟩) (fun t ht _ => ⟨⟨(), gad X d, rfl, trivial, rfl, by rw [ht]; exact P.1⟩, P.2.F ht⟩) P.2.2.2 hdg hlk
end GR
theorem gPc_blind {X : gXt} {L : List gLy} {av : List Value} {σ : gS} : FrameBlind (gPc X L av σ) := fun a U g mk q => by
  obtain ⟨q0, q1, q2⟩ := q
  exact ⟨q0, q1, q2.calling g mk a⟩
/-- a store under a name -/
def gnm {α : Type} (x : gS) (f : gS → α) : α := f x
theorem g_nm {α : Type} {x : gS} {f : gS → α} {q : α} (h : gnm x f = q) : ∃ y, y = x ∧ f y = q := ⟨x, rfl, h⟩
section GCALL
variable {p : Program} {l : Launch} {e : Env} {R : Room} {s : State} {m : MethodId} {args : Array Value} {below : List Frame} {meth : Method} {c : Code} {H : Heap} {locs : List Loc} {Q : State → Prop} {X : gXt} {L : List gLy} {σ σ' : gS}
variable {own host : String} {cc : ByteArray} {nL : Nat} {ret : Option FieldType} {pc index k : Nat} {ls : Array Slot} {rest As st : List Value} {K : String} {T : u_T} {N ci : Nat} {fl : List (Nat ⊕ Bool)} {y : MethodName} {rm : Room} {bytes : ByteArray} {maxL n : Nat} {rty : Option FieldType}
theorem g_callVi {r : Int32} (C : gC p s m args meth c own cc nL ret X L) (P : gH X L σ s H locs) (hM : gMi l y (gws y bytes maxL rty) rm X L (.ref (gad X k) :: As) σ r σ') (h1 : Cond.methodLink own index y ∈ wsL_law) (h2 : Cond.instanceMethod y ∈ wsL_law) (h3 : Cond.selects K y y ∈ wsL_law) (h4 : Cond.initialized K ∈ wsL_law) (h5 : Cond.code y bytes maxL rty ∈ wsL_law) (hrc : rm.cells = 0) (hrs : rm.slots = 0)
    (hd : y.cls = K ∧ y.cls ≠ "java/lang/invoke/MethodHandle" ∧ y.cls ≠ "java/lang/invoke/VarHandle" ∧ (parseMethodDescriptor y.desc).map (fun d => d.parameters.length) = some n) (hR : rm.frames + 1 ≤ R.frames ∧ 8 + (maxL + 11) + rm.locals ≤ R.locals) (hL : L[k]? = some (.inl (ci, fl))) (hc : vwCl[ci]? = some (K, T, N)) (hst : st = As.reverse ++ .ref (gad X k) :: rest) (hn : As.length = n) (hs : ls.size = nL) (hro : (rest.map fun v => v.category).sum ≤ 8) (hdg : decode cc pc = .ok (.invokevirtual index, 3))
    (kk : ∀ (H1 : Heap) (locs1 : List Loc), gH X L σ' s H1 locs1 → W p l e R s m args below meth c H1 locs1 0 0 Q (F0 m (pc + 3) ls (.int r :: rest))) : W p l e R s m args below meth c H locs 0 0 Q (F0 m pc ls st) := by
  obtain ⟨hx, hb, hml, hown, hts, -, -, hK, hJ⟩ := C
  subst hst
  refine va_calli (va_runV (As := As) (rest := rest) ⟨hx, hb, hml, hown, hts⟩ hM (cwV n hts (g_wsV h1 h2 h3 h4 h5) rfl hrc hrs hd hR) ⟨gPc_blind, va_recv hK.1 P.1 (q0 := k) hc (gw_get hL), fun U hU hW => ⟨rfl, by rw [hU]; exact P.1, hK.warm hW⟩⟩ rfl hn hs rfl (lv_room hro) hdg ⟨Nat.zero_le _, Nat.zero_le _⟩) P.2 (fun _ _ h => h) (fun _ h => h) (fun r0 u t H1 locs1 ht hvm hp hB hz hk hS => ?_)
  cases hp
  exact kk H1 locs1 ⟨by rw [← ht]; exact hB, hS⟩
theorem g_callSi {r : Int32} (C : gC p s m args meth c own cc nL ret X L) (P : gH X L σ s H locs) (hM : gMi l y (gws y bytes maxL rty) rm X L As σ r σ') (h1 : Cond.methodLink own index y ∈ wsL_law) (h2 : Cond.static y ∈ wsL_law) (h4 : Cond.initialized y.cls ∈ wsL_law) (h5 : Cond.code y bytes maxL rty ∈ wsL_law) (hrc : rm.cells = 0) (hrs : rm.slots = 0)
    (hd : y.cls ≠ "java/lang/invoke/MethodHandle" ∧ y.cls ≠ "java/lang/invoke/VarHandle" ∧ (parseMethodDescriptor y.desc).map (fun d => d.parameters.length) = some n) (hR : rm.frames + 1 ≤ R.frames ∧ 8 + (maxL + 11) + rm.locals ≤ R.locals) (hst : st = As.reverse ++ rest) (hn : As.length = n) (hs : ls.size = nL) (hro : (rest.map fun v => v.category).sum ≤ 8) (hdg : decode cc pc = .ok (.invokestatic index, 3))
    (kk : ∀ (H1 : Heap) (locs1 : List Loc), gH X L σ' s H1 locs1 → W p l e R s m args below meth c H1 locs1 0 0 Q (F0 m (pc + 3) ls (.int r :: rest))) : W p l e R s m args below meth c H locs 0 0 Q (F0 m pc ls st) := by
  obtain ⟨hx, hb, hml, hown, hts, -, -, hK, hJ⟩ := C
  subst hst
  refine va_calli (va_runS (As := As) (rest := rest) ⟨hx, hb, hml, hown, hts⟩ hM (va_cwS n hts (g_wsS h1 h2 h4 h5) rfl hrc hrs hd hR) ⟨gPc_blind, fun U hU hW => ⟨rfl, by rw [hU]; exact P.1, hK.warm hW⟩⟩ rfl hn hs rfl (lv_room hro) hdg ⟨Nat.zero_le _, Nat.zero_le _⟩) P.2 (fun _ _ h => h) (fun _ h => h) (fun r0 u t H1 locs1 ht hvm hp hB hz hk hS => ?_)
  cases hp
  exact kk H1 locs1 ⟨by rw [← ht]; exact hB, hS⟩
theorem g_callNi {r : Int32} (C : gC p s m args meth c own cc nL ret X L) (P : gH X L σ s H locs) (hM : gMi l y (gws y bytes maxL rty) rm X L As σ r σ') (h5 : Cond.code y bytes maxL rty ∈ wsL_law) (hrc : rm.cells = 0) (hrs : rm.slots = 0)
    (hd : y.cls ≠ "java/lang/invoke/MethodHandle" ∧ y.cls ≠ "java/lang/invoke/VarHandle" ∧ (parseMethodDescriptor y.desc).map (fun d => d.parameters.length) = some n) (hR : rm.frames + 1 ≤ R.frames ∧ 8 + (maxL + 11) + rm.locals ≤ R.locals) (hnest : va_Nw (.methodLinkNest own index y host) s) (hini : Cond.initialized y.cls ∈ wsL_law) (hstat : Cond.static y ∈ wsL_law) (hst : st = As.reverse ++ rest) (hn : As.length = n) (hs : ls.size = nL) (hro : (rest.map fun v => v.category).sum ≤ 8) (hdg : decode cc pc = .ok (.invokestatic index, 3))
    (kk : ∀ (H1 : Heap) (locs1 : List Loc), gH X L σ' s H1 locs1 → W p l e R s m args below meth c H1 locs1 0 0 Q (F0 m (pc + 3) ls (.int r :: rest))) : W p l e R s m args below meth c H locs 0 0 Q (F0 m pc ls st) := by
  obtain ⟨hx, hb, hml, hown, hts, -, -, hK, hJ⟩ := C
  subst hst
  refine va_calli (va_runSN (As := As) (rest := rest) ⟨hx, hb, hml, hown, hts⟩ hM ⟨va_cnB n hts (g_gws h5) rfl hrc hrs hnest (hts _ hini) hd hR, hts _ hstat, trivial⟩ ⟨gPc_blind, fun U hU hW => ⟨rfl, by rw [hU]; exact P.1, hK.warm hW⟩⟩ rfl hn hs rfl (lv_room hro) hdg ⟨Nat.zero_le _, Nat.zero_le _⟩) P.2 (fun _ _ h => h) (fun _ h => h) (fun r0 u t H1 locs1 ht hvm hp hB hz hk hS => ?_)
  cases hp
  exact kk H1 locs1 ⟨by rw [← ht]; exact hB, hS⟩
theorem g_callVl {r : Int64} (C : gC p s m args meth c own cc nL ret X L) (P : gH X L σ s H locs) (hM : gMl l y (gws y bytes maxL rty) rm X L (.ref (gad X k) :: As) σ r σ') (h1 : Cond.methodLink own index y ∈ wsL_law) (h2 : Cond.instanceMethod y ∈ wsL_law) (h3 : Cond.selects K y y ∈ wsL_law) (h4 : Cond.initialized K ∈ wsL_law) (h5 : Cond.code y bytes maxL rty ∈ wsL_law) (hrc : rm.cells = 0) (hrs : rm.slots = 0)
    (hd : y.cls = K ∧ y.cls ≠ "java/lang/invoke/MethodHandle" ∧ y.cls ≠ "java/lang/invoke/VarHandle" ∧ (parseMethodDescriptor y.desc).map (fun d => d.parameters.length) = some n) (hR : rm.frames + 1 ≤ R.frames ∧ 8 + (maxL + 11) + rm.locals ≤ R.locals) (hL : L[k]? = some (.inl (ci, fl))) (hc : vwCl[ci]? = some (K, T, N)) (hst : st = As.reverse ++ .ref (gad X k) :: rest) (hn : As.length = n) (hs : ls.size = nL) (hro : (rest.map fun v => v.category).sum ≤ 8) (hdg : decode cc pc = .ok (.invokevirtual index, 3))
    (kk : ∀ (H1 : Heap) (locs1 : List Loc), gH X L σ' s H1 locs1 → W p l e R s m args below meth c H1 locs1 0 0 Q (F0 m (pc + 3) ls (.long r :: rest))) : W p l e R s m args below meth c H locs 0 0 Q (F0 m pc ls st) := by
  obtain ⟨hx, hb, hml, hown, hts, -, -, hK, hJ⟩ := C
  subst hst
  refine va_calll (va_runV (As := As) (rest := rest) ⟨hx, hb, hml, hown, hts⟩ hM (cwV n hts (g_wsV h1 h2 h3 h4 h5) rfl hrc hrs hd hR) ⟨gPc_blind, va_recv hK.1 P.1 (q0 := k) hc (gw_get hL), fun U hU hW => ⟨rfl, by rw [hU]; exact P.1, hK.warm hW⟩⟩ rfl hn hs rfl (lv_room hro) hdg ⟨Nat.zero_le _, Nat.zero_le _⟩) P.2 (fun _ _ h => h) (fun _ h => h) (fun r0 u t H1 locs1 ht hvm hp hB hz hk hS => ?_)
  cases hp
  exact kk H1 locs1 ⟨by rw [← ht]; exact hB, hS⟩
theorem g_callSl {r : Int64} (C : gC p s m args meth c own cc nL ret X L) (P : gH X L σ s H locs) (hM : gMl l y (gws y bytes maxL rty) rm X L As σ r σ') (h1 : Cond.methodLink own index y ∈ wsL_law) (h2 : Cond.static y ∈ wsL_law) (h4 : Cond.initialized y.cls ∈ wsL_law) (h5 : Cond.code y bytes maxL rty ∈ wsL_law) (hrc : rm.cells = 0) (hrs : rm.slots = 0)
    (hd : y.cls ≠ "java/lang/invoke/MethodHandle" ∧ y.cls ≠ "java/lang/invoke/VarHandle" ∧ (parseMethodDescriptor y.desc).map (fun d => d.parameters.length) = some n) (hR : rm.frames + 1 ≤ R.frames ∧ 8 + (maxL + 11) + rm.locals ≤ R.locals) (hst : st = As.reverse ++ rest) (hn : As.length = n) (hs : ls.size = nL) (hro : (rest.map fun v => v.category).sum ≤ 8) (hdg : decode cc pc = .ok (.invokestatic index, 3))
    (kk : ∀ (H1 : Heap) (locs1 : List Loc), gH X L σ' s H1 locs1 → W p l e R s m args below meth c H1 locs1 0 0 Q (F0 m (pc + 3) ls (.long r :: rest))) : W p l e R s m args below meth c H locs 0 0 Q (F0 m pc ls st) := by
  obtain ⟨hx, hb, hml, hown, hts, -, -, hK, hJ⟩ := C
  subst hst
  refine va_calll (va_runS (As := As) (rest := rest) ⟨hx, hb, hml, hown, hts⟩ hM (va_cwS n hts (g_wsS h1 h2 h4 h5) rfl hrc hrs hd hR) ⟨gPc_blind, fun U hU hW => ⟨rfl, by rw [hU]; exact P.1, hK.warm hW⟩⟩ rfl hn hs rfl (lv_room hro) hdg ⟨Nat.zero_le _, Nat.zero_le _⟩) P.2 (fun _ _ h => h) (fun _ h => h) (fun r0 u t H1 locs1 ht hvm hp hB hz hk hS => ?_)
  cases hp
  exact kk H1 locs1 ⟨by rw [← ht]; exact hB, hS⟩
theorem g_callNl {r : Int64} (C : gC p s m args meth c own cc nL ret X L) (P : gH X L σ s H locs) (hM : gMl l y (gws y bytes maxL rty) rm X L As σ r σ') (h5 : Cond.code y bytes maxL rty ∈ wsL_law) (hrc : rm.cells = 0) (hrs : rm.slots = 0)
    (hd : y.cls ≠ "java/lang/invoke/MethodHandle" ∧ y.cls ≠ "java/lang/invoke/VarHandle" ∧ (parseMethodDescriptor y.desc).map (fun d => d.parameters.length) = some n) (hR : rm.frames + 1 ≤ R.frames ∧ 8 + (maxL + 11) + rm.locals ≤ R.locals) (hnest : va_Nw (.methodLinkNest own index y host) s) (hini : Cond.initialized y.cls ∈ wsL_law) (hstat : Cond.static y ∈ wsL_law) (hst : st = As.reverse ++ rest) (hn : As.length = n) (hs : ls.size = nL) (hro : (rest.map fun v => v.category).sum ≤ 8) (hdg : decode cc pc = .ok (.invokestatic index, 3))
    (kk : ∀ (H1 : Heap) (locs1 : List Loc), gH X L σ' s H1 locs1 → W p l e R s m args below meth c H1 locs1 0 0 Q (F0 m (pc + 3) ls (.long r :: rest))) : W p l e R s m args below meth c H locs 0 0 Q (F0 m pc ls st) := by
  obtain ⟨hx, hb, hml, hown, hts, -, -, hK, hJ⟩ := C
  subst hst
  refine va_calll (va_runSN (As := As) (rest := rest) ⟨hx, hb, hml, hown, hts⟩ hM ⟨va_cnB n hts (g_gws h5) rfl hrc hrs hnest (hts _ hini) hd hR, hts _ hstat, trivial⟩ ⟨gPc_blind, fun U hU hW => ⟨rfl, by rw [hU]; exact P.1, hK.warm hW⟩⟩ rfl hn hs rfl (lv_room hro) hdg ⟨Nat.zero_le _, Nat.zero_le _⟩) P.2 (fun _ _ h => h) (fun _ h => h) (fun r0 u t H1 locs1 ht hvm hp hB hz hk hS => ?_)
  cases hp
  exact kk H1 locs1 ⟨by rw [← ht]; exact hB, hS⟩
theorem g_callVv (C : gC p s m args meth c own cc nL ret X L) (P : gH X L σ s H locs) (hM : gMv l y (gws y bytes maxL rty) rm X L (.ref (gad X k) :: As) σ σ') (h1 : Cond.methodLink own index y ∈ wsL_law) (h2 : Cond.instanceMethod y ∈ wsL_law) (h3 : Cond.selects K y y ∈ wsL_law) (h4 : Cond.initialized K ∈ wsL_law) (h5 : Cond.code y bytes maxL rty ∈ wsL_law) (hrc : rm.cells = 0) (hrs : rm.slots = 0)
    (hd : y.cls = K ∧ y.cls ≠ "java/lang/invoke/MethodHandle" ∧ y.cls ≠ "java/lang/invoke/VarHandle" ∧ (parseMethodDescriptor y.desc).map (fun d => d.parameters.length) = some n) (hR : rm.frames + 1 ≤ R.frames ∧ 8 + (maxL + 11) + rm.locals ≤ R.locals) (hL : L[k]? = some (.inl (ci, fl))) (hc : vwCl[ci]? = some (K, T, N)) (hst : st = As.reverse ++ .ref (gad X k) :: rest) (hn : As.length = n) (hs : ls.size = nL) (hro : (rest.map fun v => v.category).sum ≤ 8) (hdg : decode cc pc = .ok (.invokevirtual index, 3))
    (kk : ∀ (H1 : Heap) (locs1 : List Loc), gH X L σ' s H1 locs1 → W p l e R s m args below meth c H1 locs1 0 0 Q (F0 m (pc + 3) ls (rest))) : W p l e R s m args below meth c H locs 0 0 Q (F0 m pc ls st) := by
  obtain ⟨hx, hb, hml, hown, hts, -, -, hK, hJ⟩ := C
  subst hst
  refine va_callv (va_runV (As := As) (rest := rest) ⟨hx, hb, hml, hown, hts⟩ hM (cwV n hts (g_wsV h1 h2 h3 h4 h5) rfl hrc hrs hd hR) ⟨gPc_blind, va_recv hK.1 P.1 (q0 := k) hc (gw_get hL), fun U hU hW => ⟨rfl, by rw [hU]; exact P.1, hK.warm hW⟩⟩ rfl hn hs rfl (lv_room hro) hdg ⟨Nat.zero_le _, Nat.zero_le _⟩) P.2 (fun _ _ h => h) (fun _ h => h) (fun u t H1 locs1 ht hvm hp hB hz hk hS => ?_)
  exact kk H1 locs1 ⟨by rw [← ht]; exact hB, hS⟩
theorem g_callSv (C : gC p s m args meth c own cc nL ret X L) (P : gH X L σ s H locs) (hM : gMv l y (gws y bytes maxL rty) rm X L As σ σ') (h1 : Cond.methodLink own index y ∈ wsL_law) (h2 : Cond.static y ∈ wsL_law) (h4 : Cond.initialized y.cls ∈ wsL_law) (h5 : Cond.code y bytes maxL rty ∈ wsL_law) (hrc : rm.cells = 0) (hrs : rm.slots = 0)
    (hd : y.cls ≠ "java/lang/invoke/MethodHandle" ∧ y.cls ≠ "java/lang/invoke/VarHandle" ∧ (parseMethodDescriptor y.desc).map (fun d => d.parameters.length) = some n) (hR : rm.frames + 1 ≤ R.frames ∧ 8 + (maxL + 11) + rm.locals ≤ R.locals) (hst : st = As.reverse ++ rest) (hn : As.length = n) (hs : ls.size = nL) (hro : (rest.map fun v => v.category).sum ≤ 8) (hdg : decode cc pc = .ok (.invokestatic index, 3))
    (kk : ∀ (H1 : Heap) (locs1 : List Loc), gH X L σ' s H1 locs1 → W p l e R s m args below meth c H1 locs1 0 0 Q (F0 m (pc + 3) ls (rest))) : W p l e R s m args below meth c H locs 0 0 Q (F0 m pc ls st) := by
  obtain ⟨hx, hb, hml, hown, hts, -, -, hK, hJ⟩ := C
  subst hst
  refine va_callv (va_runS (As := As) (rest := rest) ⟨hx, hb, hml, hown, hts⟩ hM (va_cwS n hts (g_wsS h1 h2 h4 h5) rfl hrc hrs hd hR) ⟨gPc_blind, fun U hU hW => ⟨rfl, by rw [hU]; exact P.1, hK.warm hW⟩⟩ rfl hn hs rfl (lv_room hro) hdg ⟨Nat.zero_le _, Nat.zero_le _⟩) P.2 (fun _ _ h => h) (fun _ h => h) (fun u t H1 locs1 ht hvm hp hB hz hk hS => ?_)
  exact kk H1 locs1 ⟨by rw [← ht]; exact hB, hS⟩
theorem g_callNv (C : gC p s m args meth c own cc nL ret X L) (P : gH X L σ s H locs) (hM : gMv l y (gws y bytes maxL rty) rm X L As σ σ') (h5 : Cond.code y bytes maxL rty ∈ wsL_law) (hrc : rm.cells = 0) (hrs : rm.slots = 0)
    (hd : y.cls ≠ "java/lang/invoke/MethodHandle" ∧ y.cls ≠ "java/lang/invoke/VarHandle" ∧ (parseMethodDescriptor y.desc).map (fun d => d.parameters.length) = some n) (hR : rm.frames + 1 ≤ R.frames ∧ 8 + (maxL + 11) + rm.locals ≤ R.locals) (hnest : va_Nw (.methodLinkNest own index y host) s) (hini : Cond.initialized y.cls ∈ wsL_law) (hstat : Cond.static y ∈ wsL_law) (hst : st = As.reverse ++ rest) (hn : As.length = n) (hs : ls.size = nL) (hro : (rest.map fun v => v.category).sum ≤ 8) (hdg : decode cc pc = .ok (.invokestatic index, 3))
    (kk : ∀ (H1 : Heap) (locs1 : List Loc), gH X L σ' s H1 locs1 → W p l e R s m args below meth c H1 locs1 0 0 Q (F0 m (pc + 3) ls (rest))) : W p l e R s m args below meth c H locs 0 0 Q (F0 m pc ls st) := by
  obtain ⟨hx, hb, hml, hown, hts, -, -, hK, hJ⟩ := C
  subst hst
  refine va_callv (va_runSN (As := As) (rest := rest) ⟨hx, hb, hml, hown, hts⟩ hM ⟨va_cnB n hts (g_gws h5) rfl hrc hrs hnest (hts _ hini) hd hR, hts _ hstat, trivial⟩ ⟨gPc_blind, fun U hU hW => ⟨rfl, by rw [hU]; exact P.1, hK.warm hW⟩⟩ rfl hn hs rfl (lv_room hro) hdg ⟨Nat.zero_le _, Nat.zero_le _⟩) P.2 (fun _ _ h => h) (fun _ h => h) (fun u t H1 locs1 ht hvm hp hB hz hk hS => ?_)
  exact kk H1 locs1 ⟨by rw [← ht]; exact hB, hS⟩
theorem g_callVr {r : Nat} (C : gC p s m args meth c own cc nL ret X L) (P : gH X L σ s H locs) (hM : gMr l y (gws y bytes maxL rty) rm X L (.ref (gad X k) :: As) σ r σ') (h1 : Cond.methodLink own index y ∈ wsL_law) (h2 : Cond.instanceMethod y ∈ wsL_law) (h3 : Cond.selects K y y ∈ wsL_law) (h4 : Cond.initialized K ∈ wsL_law) (h5 : Cond.code y bytes maxL rty ∈ wsL_law) (hrc : rm.cells = 0) (hrs : rm.slots = 0)
    (hd : y.cls = K ∧ y.cls ≠ "java/lang/invoke/MethodHandle" ∧ y.cls ≠ "java/lang/invoke/VarHandle" ∧ (parseMethodDescriptor y.desc).map (fun d => d.parameters.length) = some n) (hR : rm.frames + 1 ≤ R.frames ∧ 8 + (maxL + 11) + rm.locals ≤ R.locals) (hL : L[k]? = some (.inl (ci, fl))) (hc : vwCl[ci]? = some (K, T, N)) (hst : st = As.reverse ++ .ref (gad X k) :: rest) (hn : As.length = n) (hs : ls.size = nL) (hro : (rest.map fun v => v.category).sum ≤ 8) (hdg : decode cc pc = .ok (.invokevirtual index, 3))
    (kk : ∀ (H1 : Heap) (locs1 : List Loc), gH X L σ' s H1 locs1 → W p l e R s m args below meth c H1 locs1 0 0 Q (F0 m (pc + 3) ls (.ref (gad X r) :: rest))) : W p l e R s m args below meth c H locs 0 0 Q (F0 m pc ls st) := by
  obtain ⟨hx, hb, hml, hown, hts, -, -, hK, hJ⟩ := C
  subst hst
  refine va_callr (va_runV (As := As) (rest := rest) ⟨hx, hb, hml, hown, hts⟩ hM (cwV n hts (g_wsV h1 h2 h3 h4 h5) rfl hrc hrs hd hR) ⟨gPc_blind, va_recv hK.1 P.1 (q0 := k) hc (gw_get hL), fun U hU hW => ⟨rfl, by rw [hU]; exact P.1, hK.warm hW⟩⟩ rfl hn hs rfl (lv_room hro) hdg ⟨Nat.zero_le _, Nat.zero_le _⟩) P.2 (fun _ _ h => h) (fun _ h => h) (fun u ra t H1 locs1 ht hvm hp hB hz hk hS => ?_)
  obtain ⟨rfl, hB⟩ := hB
  exact kk H1 locs1 ⟨by rw [← ht]; exact hB, hS⟩
theorem g_callSr {r : Nat} (C : gC p s m args meth c own cc nL ret X L) (P : gH X L σ s H locs) (hM : gMr l y (gws y bytes maxL rty) rm X L As σ r σ') (h1 : Cond.methodLink own index y ∈ wsL_law) (h2 : Cond.static y ∈ wsL_law) (h4 : Cond.initialized y.cls ∈ wsL_law) (h5 : Cond.code y bytes maxL rty ∈ wsL_law) (hrc : rm.cells = 0) (hrs : rm.slots = 0)
    (hd : y.cls ≠ "java/lang/invoke/MethodHandle" ∧ y.cls ≠ "java/lang/invoke/VarHandle" ∧ (parseMethodDescriptor y.desc).map (fun d => d.parameters.length) = some n) (hR : rm.frames + 1 ≤ R.frames ∧ 8 + (maxL + 11) + rm.locals ≤ R.locals) (hst : st = As.reverse ++ rest) (hn : As.length = n) (hs : ls.size = nL) (hro : (rest.map fun v => v.category).sum ≤ 8) (hdg : decode cc pc = .ok (.invokestatic index, 3))
    (kk : ∀ (H1 : Heap) (locs1 : List Loc), gH X L σ' s H1 locs1 → W p l e R s m args below meth c H1 locs1 0 0 Q (F0 m (pc + 3) ls (.ref (gad X r) :: rest))) : W p l e R s m args below meth c H locs 0 0 Q (F0 m pc ls st) := by
  obtain ⟨hx, hb, hml, hown, hts, -, -, hK, hJ⟩ := C
  subst hst
  refine va_callr (va_runS (As := As) (rest := rest) ⟨hx, hb, hml, hown, hts⟩ hM (va_cwS n hts (g_wsS h1 h2 h4 h5) rfl hrc hrs hd hR) ⟨gPc_blind, fun U hU hW => ⟨rfl, by rw [hU]; exact P.1, hK.warm hW⟩⟩ rfl hn hs rfl (lv_room hro) hdg ⟨Nat.zero_le _, Nat.zero_le _⟩) P.2 (fun _ _ h => h) (fun _ h => h) (fun u ra t H1 locs1 ht hvm hp hB hz hk hS => ?_)
  obtain ⟨rfl, hB⟩ := hB
  exact kk H1 locs1 ⟨by rw [← ht]; exact hB, hS⟩
theorem g_callNr {r : Nat} (C : gC p s m args meth c own cc nL ret X L) (P : gH X L σ s H locs) (hM : gMr l y (gws y bytes maxL rty) rm X L As σ r σ') (h5 : Cond.code y bytes maxL rty ∈ wsL_law) (hrc : rm.cells = 0) (hrs : rm.slots = 0)
    (hd : y.cls ≠ "java/lang/invoke/MethodHandle" ∧ y.cls ≠ "java/lang/invoke/VarHandle" ∧ (parseMethodDescriptor y.desc).map (fun d => d.parameters.length) = some n) (hR : rm.frames + 1 ≤ R.frames ∧ 8 + (maxL + 11) + rm.locals ≤ R.locals) (hnest : va_Nw (.methodLinkNest own index y host) s) (hini : Cond.initialized y.cls ∈ wsL_law) (hstat : Cond.static y ∈ wsL_law) (hst : st = As.reverse ++ rest) (hn : As.length = n) (hs : ls.size = nL) (hro : (rest.map fun v => v.category).sum ≤ 8) (hdg : decode cc pc = .ok (.invokestatic index, 3))
    (kk : ∀ (H1 : Heap) (locs1 : List Loc), gH X L σ' s H1 locs1 → W p l e R s m args below meth c H1 locs1 0 0 Q (F0 m (pc + 3) ls (.ref (gad X r) :: rest))) : W p l e R s m args below meth c H locs 0 0 Q (F0 m pc ls st) := by
  obtain ⟨hx, hb, hml, hown, hts, -, -, hK, hJ⟩ := C
  subst hst
  refine va_callr (va_runSN (As := As) (rest := rest) ⟨hx, hb, hml, hown, hts⟩ hM ⟨va_cnB n hts (g_gws h5) rfl hrc hrs hnest (hts _ hini) hd hR, hts _ hstat, trivial⟩ ⟨gPc_blind, fun U hU hW => ⟨rfl, by rw [hU]; exact P.1, hK.warm hW⟩⟩ rfl hn hs rfl (lv_room hro) hdg ⟨Nat.zero_le _, Nat.zero_le _⟩) P.2 (fun _ _ h => h) (fun _ h => h) (fun u ra t H1 locs1 ht hvm hp hB hz hk hS => ?_)
  obtain ⟨rfl, hB⟩ := hB
  exact kk H1 locs1 ⟨by rw [← ht]; exact hB, hS⟩
end GCALL
/-! the two layouts -/
def xL : List gLy := [.inl (7, [.inl 1, .inl 9, .inl 40, .inl 42, .inl 46, .inl 96]), .inl (5, [.inl 2, .inl 3, .inl 4, .inl 5, .inl 6, .inl 7, .inl 8, .inr false, .inr false, .inr false]), .inr (.inl 6), .inr (.inl 6), .inr (.inl 6), .inr (.inl 10), .inr (.inl 10), .inr (.inl 10), .inr (.inl 120), .inl (0, [.inl 10, .inl 38, .inl 39, .inr false]), .inr (.inr (1, [11, 14, 17, 20, 23, 26, 29, 32, 35])), .inl (1, [.inl 12, .inl 13, .inr false]), .inr (.inl 10), .inr (.inl 120), .inl (1, [.inl 15, .inl 16, .inr false]), .inr (.inl 10), .inr (.inl 120), .inl (1, [.inl 18, .inl 19, .inr false]), .inr (.inl 10), .inr (.inl 120), .inl (1, [.inl 21, .inl 22, .inr false]), .inr (.inl 10), .inr (.inl 120), .inl (1, [.inl 24, .inl 25, .inr false]), .inr (.inl 10), .inr (.inl 120), .inl (1, [.inl 27, .inl 28, .inr false]), .inr (.inl 10), .inr (.inl 120), .inl (1, [.inl 30, .inl 31, .inr false]), .inr (.inl 10), .inr (.inl 120), .inl (1, [.inl 33, .inl 34, .inr false]), .inr (.inl 10), .inr (.inl 120), .inl (1, [.inl 36, .inl 37, .inr false]), .inr (.inl 10), .inr (.inl 120), .inr (.inl 10), .inr (.inl 10), .inl (2, [.inl 1, .inl 9, .inl 41]), .inr (.inl 12), .inl (4, [.inl 43, .inl 44, .inl 45, .inr false, .inr false, .inr false, .inr false, .inr false, .inr false, .inr false]), .inr (.inl 120), .inr (.inl 40), .inr (.inl 120), .inl (3, [.inl 47, .inr false, .inr false]), .inr (.inr (2, [48, 56, 64, 72, 80, 88])), .inl (5, [.inl 49, .inl 50, .inl 51, .inl 52, .inl 53, .inl 54, .inl 55, .inr false, .inr false, .inr false]), .inr (.inl 6), .inr (.inl 6), .inr (.inl 6), .inr (.inl 10), .inr (.inl 10), .inr (.inl 10), .inr (.inl 120), .inl (5, [.inl 57, .inl 58, .inl 59, .inl 60, .inl 61, .inl 62, .inl 63, .inr false, .inr false, .inr false]), .inr (.inl 6), .inr (.inl 6), .inr (.inl 6), .inr (.inl 10), .inr (.inl 10), .inr (.inl 10), .inr (.inl 120), .inl (5, [.inl 65, .inl 66, .inl 67, .inl 68, .inl 69, .inl 70, .inl 71, .inr false, .inr false, .inr false]), .inr (.inl 6), .inr (.inl 6), .inr (.inl 6), .inr (.inl 10), .inr (.inl 10), .inr (.inl 10), .inr (.inl 120), .inl (5, [.inl 73, .inl 74, .inl 75, .inl 76, .inl 77, .inl 78, .inl 79, .inr false, .inr false, .inr false]), .inr (.inl 6), .inr (.inl 6), .inr (.inl 6), .inr (.inl 10), .inr (.inl 10), .inr (.inl 10), .inr (.inl 120), .inl (5, [.inl 81, .inl 82, .inl 83, .inl 84, .inl 85, .inl 86, .inl 87, .inr false, .inr false, .inr false]), .inr (.inl 6), .inr (.inl 6), .inr (.inl 6), .inr (.inl 10), .inr (.inl 10), .inr (.inl 10), .inr (.inl 120), .inl (5, [.inl 89, .inl 90, .inl 91, .inl 92, .inl 93, .inl 94, .inl 95, .inr false, .inr false, .inr false]), .inr (.inl 6), .inr (.inl 6), .inr (.inl 6), .inr (.inl 10), .inr (.inl 10), .inr (.inl 10), .inr (.inl 120), .inl (6, [.inl 97, .inr false, .inr false, .inr false]), .inr (.inl 10)]
def mL : List gLy := [.inl (8, [.inl 1, .inl 2, .inl 3, .inr false, .inl 4, .inl 5, .inl 6, .inr false, .inl 7, .inl 8, .inr false, .inl 9, .inl 10, .inl 11, .inr false, .inr false, .inr false, .inr false, .inr true]), .inr (.inl 1219), .inr (.inl 1219), .inr (.inl 6095), .inr (.inl 3), .inr (.inl 10), .inr (.inl 120), .inr (.inl 12), .inr (.inl 10), .inr (.inl 131), .inr (.inl 60), .inr (.inl 180)]
theorem xl0 : xL[0]? = some (.inl (7, [.inl 1, .inl 9, .inl 40, .inl 42, .inl 46, .inl 96])) := rfl
theorem xl1 : xL[1]? = some (.inl (5, [.inl 2, .inl 3, .inl 4, .inl 5, .inl 6, .inl 7, .inl 8, .inr false, .inr false, .inr false])) := rfl
theorem xl2 : xL[2]? = some (.inr (.inl 6)) := rfl
theorem xl3 : xL[3]? = some (.inr (.inl 6)) := rfl
theorem xl4 : xL[4]? = some (.inr (.inl 6)) := rfl
theorem xl5 : xL[5]? = some (.inr (.inl 10)) := rfl
theorem xl6 : xL[6]? = some (.inr (.inl 10)) := rfl
theorem xl7 : xL[7]? = some (.inr (.inl 10)) := rfl
theorem xl8 : xL[8]? = some (.inr (.inl 120)) := rfl
theorem xl9 : xL[9]? = some (.inl (0, [.inl 10, .inl 38, .inl 39, .inr false])) := rfl
theorem xl10 : xL[10]? = some (.inr (.inr (1, [11, 14, 17, 20, 23, 26, 29, 32, 35]))) := rfl
theorem xl11 : xL[11]? = some (.inl (1, [.inl 12, .inl 13, .inr false])) := rfl
theorem xl12 : xL[12]? = some (.inr (.inl 10)) := rfl
theorem xl13 : xL[13]? = some (.inr (.inl 120)) := rfl
theorem xl14 : xL[14]? = some (.inl (1, [.inl 15, .inl 16, .inr false])) := rfl
theorem xl15 : xL[15]? = some (.inr (.inl 10)) := rfl
theorem xl16 : xL[16]? = some (.inr (.inl 120)) := rfl
theorem xl17 : xL[17]? = some (.inl (1, [.inl 18, .inl 19, .inr false])) := rfl
theorem xl18 : xL[18]? = some (.inr (.inl 10)) := rfl
theorem xl19 : xL[19]? = some (.inr (.inl 120)) := rfl
theorem xl20 : xL[20]? = some (.inl (1, [.inl 21, .inl 22, .inr false])) := rfl
theorem xl21 : xL[21]? = some (.inr (.inl 10)) := rfl
theorem xl22 : xL[22]? = some (.inr (.inl 120)) := rfl
theorem xl23 : xL[23]? = some (.inl (1, [.inl 24, .inl 25, .inr false])) := rfl
theorem xl24 : xL[24]? = some (.inr (.inl 10)) := rfl
theorem xl25 : xL[25]? = some (.inr (.inl 120)) := rfl
theorem xl26 : xL[26]? = some (.inl (1, [.inl 27, .inl 28, .inr false])) := rfl
theorem xl27 : xL[27]? = some (.inr (.inl 10)) := rfl
theorem xl28 : xL[28]? = some (.inr (.inl 120)) := rfl
theorem xl29 : xL[29]? = some (.inl (1, [.inl 30, .inl 31, .inr false])) := rfl
theorem xl30 : xL[30]? = some (.inr (.inl 10)) := rfl
theorem xl31 : xL[31]? = some (.inr (.inl 120)) := rfl
theorem xl32 : xL[32]? = some (.inl (1, [.inl 33, .inl 34, .inr false])) := rfl
theorem xl33 : xL[33]? = some (.inr (.inl 10)) := rfl
theorem xl34 : xL[34]? = some (.inr (.inl 120)) := rfl
theorem xl35 : xL[35]? = some (.inl (1, [.inl 36, .inl 37, .inr false])) := rfl
theorem xl36 : xL[36]? = some (.inr (.inl 10)) := rfl
theorem xl37 : xL[37]? = some (.inr (.inl 120)) := rfl
theorem xl38 : xL[38]? = some (.inr (.inl 10)) := rfl
theorem xl39 : xL[39]? = some (.inr (.inl 10)) := rfl
theorem xl40 : xL[40]? = some (.inl (2, [.inl 1, .inl 9, .inl 41])) := rfl
theorem xl41 : xL[41]? = some (.inr (.inl 12)) := rfl
theorem xl42 : xL[42]? = some (.inl (4, [.inl 43, .inl 44, .inl 45, .inr false, .inr false, .inr false, .inr false, .inr false, .inr false, .inr false])) := rfl
theorem xl43 : xL[43]? = some (.inr (.inl 120)) := rfl
theorem xl44 : xL[44]? = some (.inr (.inl 40)) := rfl
theorem xl45 : xL[45]? = some (.inr (.inl 120)) := rfl
theorem xl46 : xL[46]? = some (.inl (3, [.inl 47, .inr false, .inr false])) := rfl
theorem xl47 : xL[47]? = some (.inr (.inr (2, [48, 56, 64, 72, 80, 88]))) := rfl
theorem xl48 : xL[48]? = some (.inl (5, [.inl 49, .inl 50, .inl 51, .inl 52, .inl 53, .inl 54, .inl 55, .inr false, .inr false, .inr false])) := rfl
theorem xl49 : xL[49]? = some (.inr (.inl 6)) := rfl
theorem xl50 : xL[50]? = some (.inr (.inl 6)) := rfl
theorem xl51 : xL[51]? = some (.inr (.inl 6)) := rfl
theorem xl52 : xL[52]? = some (.inr (.inl 10)) := rfl
theorem xl53 : xL[53]? = some (.inr (.inl 10)) := rfl
theorem xl54 : xL[54]? = some (.inr (.inl 10)) := rfl
theorem xl55 : xL[55]? = some (.inr (.inl 120)) := rfl
theorem xl56 : xL[56]? = some (.inl (5, [.inl 57, .inl 58, .inl 59, .inl 60, .inl 61, .inl 62, .inl 63, .inr false, .inr false, .inr false])) := rfl
theorem xl57 : xL[57]? = some (.inr (.inl 6)) := rfl
theorem xl58 : xL[58]? = some (.inr (.inl 6)) := rfl
theorem xl59 : xL[59]? = some (.inr (.inl 6)) := rfl
theorem xl60 : xL[60]? = some (.inr (.inl 10)) := rfl
theorem xl61 : xL[61]? = some (.inr (.inl 10)) := rfl
theorem xl62 : xL[62]? = some (.inr (.inl 10)) := rfl
theorem xl63 : xL[63]? = some (.inr (.inl 120)) := rfl
theorem xl64 : xL[64]? = some (.inl (5, [.inl 65, .inl 66, .inl 67, .inl 68, .inl 69, .inl 70, .inl 71, .inr false, .inr false, .inr false])) := rfl
theorem xl65 : xL[65]? = some (.inr (.inl 6)) := rfl
theorem xl66 : xL[66]? = some (.inr (.inl 6)) := rfl
theorem xl67 : xL[67]? = some (.inr (.inl 6)) := rfl
theorem xl68 : xL[68]? = some (.inr (.inl 10)) := rfl
theorem xl69 : xL[69]? = some (.inr (.inl 10)) := rfl
theorem xl70 : xL[70]? = some (.inr (.inl 10)) := rfl
theorem xl71 : xL[71]? = some (.inr (.inl 120)) := rfl
theorem xl72 : xL[72]? = some (.inl (5, [.inl 73, .inl 74, .inl 75, .inl 76, .inl 77, .inl 78, .inl 79, .inr false, .inr false, .inr false])) := rfl
theorem xl73 : xL[73]? = some (.inr (.inl 6)) := rfl
theorem xl74 : xL[74]? = some (.inr (.inl 6)) := rfl
theorem xl75 : xL[75]? = some (.inr (.inl 6)) := rfl
theorem xl76 : xL[76]? = some (.inr (.inl 10)) := rfl
theorem xl77 : xL[77]? = some (.inr (.inl 10)) := rfl
theorem xl78 : xL[78]? = some (.inr (.inl 10)) := rfl
theorem xl79 : xL[79]? = some (.inr (.inl 120)) := rfl
theorem xl80 : xL[80]? = some (.inl (5, [.inl 81, .inl 82, .inl 83, .inl 84, .inl 85, .inl 86, .inl 87, .inr false, .inr false, .inr false])) := rfl
theorem xl81 : xL[81]? = some (.inr (.inl 6)) := rfl
theorem xl82 : xL[82]? = some (.inr (.inl 6)) := rfl
theorem xl83 : xL[83]? = some (.inr (.inl 6)) := rfl
theorem xl84 : xL[84]? = some (.inr (.inl 10)) := rfl
theorem xl85 : xL[85]? = some (.inr (.inl 10)) := rfl
theorem xl86 : xL[86]? = some (.inr (.inl 10)) := rfl
theorem xl87 : xL[87]? = some (.inr (.inl 120)) := rfl
theorem xl88 : xL[88]? = some (.inl (5, [.inl 89, .inl 90, .inl 91, .inl 92, .inl 93, .inl 94, .inl 95, .inr false, .inr false, .inr false])) := rfl
theorem xl89 : xL[89]? = some (.inr (.inl 6)) := rfl
theorem xl90 : xL[90]? = some (.inr (.inl 6)) := rfl
theorem xl91 : xL[91]? = some (.inr (.inl 6)) := rfl
theorem xl92 : xL[92]? = some (.inr (.inl 10)) := rfl
theorem xl93 : xL[93]? = some (.inr (.inl 10)) := rfl
theorem xl94 : xL[94]? = some (.inr (.inl 10)) := rfl
theorem xl95 : xL[95]? = some (.inr (.inl 120)) := rfl
theorem xl96 : xL[96]? = some (.inl (6, [.inl 97, .inr false, .inr false, .inr false])) := rfl
theorem xl97 : xL[97]? = some (.inr (.inl 10)) := rfl
theorem ml0 : mL[0]? = some (.inl (8, [.inl 1, .inl 2, .inl 3, .inr false, .inl 4, .inl 5, .inl 6, .inr false, .inl 7, .inl 8, .inr false, .inl 9, .inl 10, .inl 11, .inr false, .inr false, .inr false, .inr false, .inr true])) := rfl
theorem ml1 : mL[1]? = some (.inr (.inl 1219)) := rfl
theorem ml2 : mL[2]? = some (.inr (.inl 1219)) := rfl
theorem ml3 : mL[3]? = some (.inr (.inl 6095)) := rfl
theorem ml4 : mL[4]? = some (.inr (.inl 3)) := rfl
theorem ml5 : mL[5]? = some (.inr (.inl 10)) := rfl
theorem ml6 : mL[6]? = some (.inr (.inl 120)) := rfl
theorem ml7 : mL[7]? = some (.inr (.inl 12)) := rfl
theorem ml8 : mL[8]? = some (.inr (.inl 10)) := rfl
theorem ml9 : mL[9]? = some (.inr (.inl 131)) := rfl
theorem ml10 : mL[10]? = some (.inr (.inl 60)) := rfl
theorem ml11 : mL[11]? = some (.inr (.inl 180)) := rfl
theorem gml_hash : ∀ i : Nat, i ≠ 18 → ([.inl 1, .inl 2, .inl 3, .inr false, .inl 4, .inl 5, .inl 6, .inr false, .inl 7, .inl 8, .inr false, .inl 9, .inl 10, .inl 11, .inr false, .inr false, .inr false, .inr false, .inr true] : List (Nat ⊕ Bool))[i]? ≠ some (.inr true) := by
  intro i hi h
  have hl := (List.getElem?_eq_some_iff.mp h).1
  have hl : i < 19 := hl
  match i, hi, hl, h with
  | 0, _, _, h => cases h
  | 1, _, _, h => cases h
  | 2, _, _, h => cases h
  | 3, _, _, h => cases h
  | 4, _, _, h => cases h
  | 5, _, _, h => cases h
  | 6, _, _, h => cases h
  | 7, _, _, h => cases h
  | 8, _, _, h => cases h
  | 9, _, _, h => cases h
  | 10, _, _, h => cases h
  | 11, _, _, h => cases h
  | 12, _, _, h => cases h
  | 13, _, _, h => cases h
  | 14, _, _, h => cases h
  | 15, _, _, h => cases h
  | 16, _, _, h => cases h
  | 17, _, _, h => cases h
  | 18, hi, _, _ => exact absurd rfl hi
theorem gml_others : ∀ (k' : Nat) (y' : gLy), k' ≠ 0 → mL[k']? = some y' → ∃ n, y' = .inr (.inl n) := by
  intro k' y' hk h
  have hl : k' < 12 := (List.getElem?_eq_some_iff.mp h).1
  match k', hk, hl, h with
  | 0, hk, _, _ => exact absurd rfl hk
  | 1, _, _, h => cases h; exact ⟨_, rfl⟩
  | 2, _, _, h => cases h; exact ⟨_, rfl⟩
  | 3, _, _, h => cases h; exact ⟨_, rfl⟩
  | 4, _, _, h => cases h; exact ⟨_, rfl⟩
  | 5, _, _, h => cases h; exact ⟨_, rfl⟩
  | 6, _, _, h => cases h; exact ⟨_, rfl⟩
  | 7, _, _, h => cases h; exact ⟨_, rfl⟩
  | 8, _, _, h => cases h; exact ⟨_, rfl⟩
  | 9, _, _, h => cases h; exact ⟨_, rfl⟩
  | 10, _, _, h => cases h; exact ⟨_, rfl⟩
  | 11, _, _, h => cases h; exact ⟨_, rfl⟩
/-- an image's cells; a state's cells -/
def gIm (k : Nat) : Prop := xL[k]? = some (.inl (1, [.inl (k + 1), .inl (k + 2), .inr false])) ∧ xL[k + 1]? = some (.inr (.inl 10)) ∧ xL[k + 2]? = some (.inr (.inl 120))
def gSt (k : Nat) : Prop := xL[k]? = some (.inl (5, [.inl (k + 1), .inl (k + 2), .inl (k + 3), .inl (k + 4), .inl (k + 5), .inl (k + 6), .inl (k + 7), .inr false, .inr false, .inr false])) ∧ xL[k + 1]? = some (.inr (.inl 6)) ∧ xL[k + 2]? = some (.inr (.inl 6)) ∧ xL[k + 3]? = some (.inr (.inl 6)) ∧ xL[k + 4]? = some (.inr (.inl 10)) ∧ xL[k + 5]? = some (.inr (.inl 10)) ∧ xL[k + 6]? = some (.inr (.inl 10)) ∧ xL[k + 7]? = some (.inr (.inl 120))
theorem gSt_1 : gSt 1 := ⟨rfl, rfl, rfl, rfl, rfl, rfl, rfl, rfl⟩
def gim {α : Type} (k : Nat) (x : Option α) : Option α := if k ∈ [11, 14, 17, 20, 23, 26, 29, 32, 35] then x else none
def gst {α : Type} (k : Nat) (x : Option α) : Option α := if k ∈ [48, 56, 64, 72, 80, 88] then x else none
theorem g_im {α : Type} {k : Nat} {x : Option α} {q : α} (h : gim k x = some q) : gIm k ∧ x = some q := by
  unfold gim at h
  by_cases hc : k ∈ [11, 14, 17, 20, 23, 26, 29, 32, 35]
  · rw [if_pos hc] at h
    refine ⟨?_, h⟩
    simp only [List.mem_cons, List.not_mem_nil, or_false] at hc
    rcases hc with rfl | rfl | rfl | rfl | rfl | rfl | rfl | rfl | rfl <;> exact ⟨rfl, rfl, rfl⟩
  · rw [if_neg hc] at h; cases h
theorem g_st {α : Type} {k : Nat} {x : Option α} {q : α} (h : gst k x = some q) : gSt k ∧ x = some q := by
  unfold gst at h
  by_cases hc : k ∈ [48, 56, 64, 72, 80, 88]
  · rw [if_pos hc] at h
    refine ⟨?_, h⟩
    simp only [List.mem_cons, List.not_mem_nil, or_false] at hc
    rcases hc with rfl | rfl | rfl | rfl | rfl | rfl <;> exact ⟨rfl, rfl, rfl, rfl, rfl, rfl, rfl, rfl⟩
  · rw [if_neg hc] at h; cases h

theorem gJ_of_D {A : Nat → Prop} {X : gXt} {L : List gLy} {σ : gS} (h : va_D A (gw X L σ)) : gJ X L ∧ ∀ k, k < L.length → A (gad X k) := by
  refine ⟨fun i j hi hj e => ?_, fun k hk => ?_⟩
  · exact h.1 i j _ _ (gw_get (List.getElem?_eq_getElem hi)) (gw_get (List.getElem?_eq_getElem hj)) e
  · exact h.2 k _ (gw_get (List.getElem?_eq_getElem hk))
/-- the stores of two new objects -/
def gS0x : gS := (fun k j => if j = 9 then (if k = 42 then 0 else 40) else 0, fun _ _ => 0, 0)
def gS0m : gS := (fun _ _ => 0, fun k => match k with
  | 1 => upd (fun _ => 0) 169 40
  | _ => fun _ => 0, 0)
theorem rar6 (a0 a1 a2 a3 a4 a5 : Nat) : (fun i => ([a0, a1, a2, a3, a4, a5] : List Nat)[i]?) = (va_up (va_up (va_up (va_up (va_up (va_up (fun _ => none) 0 (some a0)) 1 (some a1)) 2 (some a2)) 3 (some a3)) 4 (some a4)) 5 (some a5)) := by
  funext i
  match i with
  | 0 => rfl
  | 1 => rfl
  | 2 => rfl
  | 3 => rfl
  | 4 => rfl
  | 5 => rfl
  | n + 6 => simp [va_up]
theorem rar9 (a0 a1 a2 a3 a4 a5 a6 a7 a8 : Nat) : (fun i => ([a0, a1, a2, a3, a4, a5, a6, a7, a8] : List Nat)[i]?) = (va_up (va_up (va_up (va_up (va_up (va_up (va_up (va_up (va_up (fun _ => none) 0 (some a0)) 1 (some a1)) 2 (some a2)) 3 (some a3)) 4 (some a4)) 5 (some a5)) 6 (some a6)) 7 (some a7)) 8 (some a8)) := by
  funext i
  match i with
  | 0 => rfl
  | 1 => rfl
  | 2 => rfl
  | 3 => rfl
  | 4 => rfl
  | 5 => rfl
  | 6 => rfl
  | 7 => rfl
  | 8 => rfl
  | n + 9 => simp [va_up]
