/-! THE MIRRORS: what each method does to the store, by program out of the decode rows (wip/whole/gen.py) -/
def qA_imageAt (a1 : Int32) : Option Nat :=
  (if a1 < 0 then gor [11, 14, 17, 20, 23, 26, 29, 32, 35] (8 : Int32) (fun r3 => some r3) else (if (8 : Int32) < a1 then gor [11, 14, 17, 20, 23, 26, 29, 32, 35] (8 : Int32) (fun r6 => some r6) else gor [11, 14, 17, 20, 23, 26, 29, 32, 35] a1 (fun r8 => some r8)))
def qA_addReached (σ : gS) (a1 : Int32) : Option gS :=
  (if a1 < 0 then some σ else (if (10 : Int32) ≤ a1 then some σ else gob a1 10 ((if (gM σ 39 a1.toNatClampNeg) = (-1 : Int32) then (if (gI σ 9 3) < 0 then some σ else (if (10 : Int32) ≤ (gI σ 9 3) then some σ else gob (gI (sM σ 39 a1.toNatClampNeg (gI σ 9 3)) 9 3) 10 (some (sI (sM (sM σ 39 a1.toNatClampNeg (gI σ 9 3)) 38 (gI (sM σ 39 a1.toNatClampNeg (gI σ 9 3)) 9 3).toNatClampNeg a1) 9 3 ((gI (sM (sM σ 39 a1.toNatClampNeg (gI σ 9 3)) 38 (gI (sM σ 39 a1.toNatClampNeg (gI σ 9 3)) 9 3).toNatClampNeg a1) 9 3) + (1 : Int32)))))) else some σ))))
def qS_sizeOf (σ : gS) (a1 : Int32) : Option Int32 :=
  (if a1 < 0 then some (0 : Int32) else (if (10 : Int32) ≤ a1 then some (0 : Int32) else gob a1 10 (some (gM σ 5 a1.toNatClampNeg))))
def qS_cellAt (σ : gS) (a1 : Int32) (a2 : Int32) : Option Int32 :=
  (if a1 < 0 then some (-1 : Int32) else (if (10 : Int32) ≤ a1 then some (-1 : Int32) else (if a2 < 0 then some (-1 : Int32) else (if (12 : Int32) ≤ a2 then some (-1 : Int32) else gob ((a1 * (12 : Int32)) + a2) 120 (some (gM σ 8 ((a1 * (12 : Int32)) + a2).toNatClampNeg))))))
def qF_isPointerCode (a1 : Int32) : Int32 :=
  (if a1 < (1000 : Int32) then (0 : Int32) else (1 : Int32))
theorem b01_X7_isPointerCode (a1 : Int32) : qF_isPointerCode a1 = 0 ∨ qF_isPointerCode a1 = 1 := by
  unfold qF_isPointerCode
  (repeat' split) <;> first | exact Or.inl rfl | exact Or.inr rfl
def qF_blockOfCode (a1 : Int32) : Int32 :=
  ((a1 - (1000 : Int32)) / (100 : Int32))
def qA_addTargets_2 (f2_2 : Int32) (k : gS → Option gS) : Nat → gS → Int32 → Option gS
  | 0, _, _ => none
  | n + 1, σ, v3 => (qS_sizeOf σ f2_2).bind (fun r1 => (if r1 ≤ v3 then k σ else (qS_cellAt σ f2_2 v3).bind (fun r3 => (if (qF_isPointerCode r3) = 0 then qA_addTargets_2 f2_2 k n σ (v3 + 1) else (qA_addReached σ (qF_blockOfCode r3)).bind (fun r5 => qA_addTargets_2 f2_2 k n r5 (v3 + 1))))))
def qA_addTargets (σ : gS) (a2 : Int32) : Option gS :=
  qA_addTargets_2 a2 (fun σ6 => some σ6) 8192 σ (0 : Int32)
def qA_reach_2 (f2_2 : Int32) (k : gS → Option (Int32 × gS)) : Nat → gS → Int32 → Option (Int32 × gS)
  | 0, _, _ => none
  | n + 1, σ, v3 => (if (10 : Int32) ≤ v3 then k σ else gob v3 10 (qA_reach_2 f2_2 k n (sM σ 39 v3.toNatClampNeg (-1 : Int32)) (v3 + 1)))
def qA_reach_33 (k : gS → Option (Int32 × gS)) : Nat → gS → Int32 → Option (Int32 × gS)
  | 0, _, _ => none
  | n + 1, σ, v3 => (if (gI σ 9 3) ≤ v3 then k σ else (if (10 : Int32) ≤ v3 then k σ else gob v3 10 ((qA_addTargets σ (gM σ 38 v3.toNatClampNeg)).bind (fun r8 => qA_reach_33 k n r8 (v3 + 1)))))
def qA_reach (σ : gS) (a2 : Int32) : Option (Int32 × gS) :=
  qA_reach_2 a2 (fun σ3 => (qA_addReached (sI σ3 9 3 (0 : Int32)) a2).bind (fun r4 => qA_reach_33 (fun σ9 => some ((gI σ9 9 3), σ9)) 8192 r4 (0 : Int32))) 8192 σ (0 : Int32)
def qS_isLive (σ : gS) (a1 : Int32) : Option Int32 :=
  (if a1 < 0 then some (0 : Int32) else (if (10 : Int32) ≤ a1 then some (0 : Int32) else gob a1 10 ((if (gM σ 6 a1.toNatClampNeg) = (1 : Int32) then some (1 : Int32) else some (0 : Int32)))))
def qA_allReachedLive_2 (σ : gS) (k : Unit → Option Int32) : Nat → Int32 → Option Int32
  | 0, _ => none
  | n + 1, v2 => (if (gI σ 9 3) ≤ v2 then k () else (if (10 : Int32) ≤ v2 then k () else gob v2 10 ((qS_isLive σ (gM σ 38 v2.toNatClampNeg)).bind (fun r4 => (if r4 = 0 then some (0 : Int32) else qA_allReachedLive_2 σ k n (v2 + 1))))))
def qA_allReachedLive (σ : gS) : Option Int32 :=
  qA_allReachedLive_2 σ (fun _ => some (1 : Int32)) 8192 (0 : Int32)
def qS_markConstant (σ : gS) (a1 : Int32) : Option gS :=
  (if a1 < 0 then some σ else (if (10 : Int32) ≤ a1 then some σ else gob a1 10 (some (sM σ 7 a1.toNatClampNeg (1 : Int32)))))
def qA_markReachedConstant_2 (k : gS → Option gS) : Nat → gS → Int32 → Option gS
  | 0, _, _ => none
  | n + 1, σ, v2 => (if (gI σ 9 3) ≤ v2 then k σ else (if (10 : Int32) ≤ v2 then k σ else gob v2 10 ((qS_markConstant σ (gM σ 38 v2.toNatClampNeg)).bind (fun r4 => qA_markReachedConstant_2 k n r4 (v2 + 1)))))
def qA_markReachedConstant (σ : gS) : Option gS :=
  qA_markReachedConstant_2 (fun σ5 => some σ5) 8192 σ (0 : Int32)
def qI_begin (σ : gS) (k : Nat) : Option gS :=
  some (sI σ k 2 (0 : Int32))
def qI_addNode (σ : gS) (k : Nat) (a1 : Int32) : Option gS :=
  (if (gI σ k 2) < 0 then some σ else (if (10 : Int32) ≤ (gI σ k 2) then some σ else gob (gI σ k 2) 10 (some (sI (sM σ (k + 1) (gI σ k 2).toNatClampNeg a1) k 2 ((gI (sM σ (k + 1) (gI σ k 2).toNatClampNeg a1) k 2) + (1 : Int32))))))
def qF_offsetOfCode (a1 : Int32) : Int32 :=
  ((a1 - (1000 : Int32)) - (a1 - (1000 : Int32)) / (100 : Int32) * (100 : Int32))
def qF_pointerCode (a1 : Int32) (a2 : Int32) : Int32 :=
  (((1000 : Int32) + ((100 : Int32) * a1)) + a2)
def qA_codeInImage (σ : gS) (a1 : Int32) : Option Int32 :=
  (if (qF_isPointerCode a1) = 0 then some a1 else (if (qF_blockOfCode a1) < 0 then some (qF_pointerCode (-1 : Int32) (qF_offsetOfCode a1)) else (if (10 : Int32) ≤ (qF_blockOfCode a1) then some (qF_pointerCode (-1 : Int32) (qF_offsetOfCode a1)) else gob (qF_blockOfCode a1) 10 (some (qF_pointerCode (gM σ 39 (qF_blockOfCode a1).toNatClampNeg) (qF_offsetOfCode a1))))))
def qI_putCell (σ : gS) (k : Nat) (a1 : Int32) (a2 : Int32) (a3 : Int32) : Option gS :=
  (if a1 < 0 then some σ else (if (10 : Int32) ≤ a1 then some σ else (if a2 < 0 then some σ else (if (12 : Int32) ≤ a2 then some σ else gob ((a1 * (12 : Int32)) + a2) 120 (some (sM σ (k + 2) ((a1 * (12 : Int32)) + a2).toNatClampNeg a3))))))
def qA_draw_50 (k50_2 : Nat) (f50_3 : Int32) (f50_4 : Int32) (k : gS → Option gS) : Nat → gS → Int32 → Option gS
  | 0, _, _ => none
  | n + 1, σ, v5 => (if (12 : Int32) ≤ v5 then k σ else (qS_cellAt σ f50_4 v5).bind (fun r9 => (qA_codeInImage σ r9).bind (fun r10 => (qI_putCell σ k50_2 f50_3 v5 r10).bind (fun r11 => qA_draw_50 k50_2 f50_3 f50_4 k n r11 (v5 + 1)))))
def qA_draw_15 (k15_2 : Nat) (k : gS → Option gS) : Nat → gS → Int32 → Option gS
  | 0, _, _ => none
  | n + 1, σ, v3 => (if (gI σ 9 3) ≤ v3 then k σ else (if (10 : Int32) ≤ v3 then k σ else gob v3 10 ((qS_sizeOf σ (gM σ 38 v3.toNatClampNeg)).bind (fun r6 => (qI_addNode σ k15_2 r6).bind (fun r7 => qA_draw_50 k15_2 v3 (gM σ 38 v3.toNatClampNeg) (fun σ12 => qA_draw_15 k15_2 k n σ12 (v3 + 1)) 8192 r7 (0 : Int32))))))
def qA_draw (σ : gS) : Option gS :=
  (qA_imageAt (gI σ 1 8)).bind (fun r1 => gim r1 ((qI_begin σ r1).bind (fun r2 => qA_draw_15 r1 (fun σ13 => some σ13) 8192 r2 (0 : Int32))))
def qI_isSameAs_15 (σ : gS) (k15_0 : Nat) (k15_1 : Nat) (k : Unit → Option Int32) : Nat → Int32 → Option Int32
  | 0, _ => none
  | n + 1, v2 => (if (gI σ k15_0 2) ≤ v2 then k () else (if (10 : Int32) ≤ v2 then k () else gob v2 10 ((if (gM σ (k15_0 + 1) v2.toNatClampNeg) = (gM σ (k15_1 + 1) v2.toNatClampNeg) then qI_isSameAs_15 σ k15_0 k15_1 k n (v2 + 1) else some (0 : Int32)))))
def qI_isSameAs_54 (σ : gS) (k54_0 : Nat) (k54_1 : Nat) (k : Unit → Option Int32) : Nat → Int32 → Option Int32
  | 0, _ => none
  | n + 1, v2 => (if ((gI σ k54_0 2) * (12 : Int32)) ≤ v2 then k () else (if (120 : Int32) ≤ v2 then k () else gob v2 120 ((if (gM σ (k54_0 + 2) v2.toNatClampNeg) = (gM σ (k54_1 + 2) v2.toNatClampNeg) then qI_isSameAs_54 σ k54_0 k54_1 k n (v2 + 1) else some (0 : Int32)))))
def qI_isSameAs (σ : gS) (k : Nat) (k2 : Nat) : Option Int32 :=
  (if (gI σ k 2) = (gI σ k2 2) then qI_isSameAs_15 σ k k2 (fun _ => qI_isSameAs_54 σ k k2 (fun _ => some (1 : Int32)) 8192 (0 : Int32)) 8192 (0 : Int32) else some (0 : Int32))
def qA_indexOfDrawn_11 (σ : gS) (k11_2 : Nat) (k : Unit → Option Int32) : Nat → Int32 → Option Int32
  | 0, _ => none
  | n + 1, v3 => (if (gI σ 1 8) ≤ v3 then k () else (qA_imageAt v3).bind (fun r3 => gim r3 ((qI_isSameAs σ r3 k11_2).bind (fun r4 => (if r4 = 0 then qA_indexOfDrawn_11 σ k11_2 k n (v3 + 1) else some v3)))))
def qA_indexOfDrawn (σ : gS) : Option Int32 :=
  (qA_imageAt (gI σ 1 8)).bind (fun r1 => gim r1 (qA_indexOfDrawn_11 σ r1 (fun _ => some (gI σ 1 8)) 8192 (0 : Int32)))
def qI_isNode (σ : gS) (k : Nat) (a1 : Int32) : Int32 :=
  (if a1 < 0 then (0 : Int32) else (if (gI σ k 2) ≤ a1 then (0 : Int32) else (if (10 : Int32) ≤ a1 then (0 : Int32) else (1 : Int32))))
theorem b01_X1_isNode (σ : gS) (k : Nat) (a1 : Int32) : qI_isNode σ k a1 = 0 ∨ qI_isNode σ k a1 = 1 := by
  unfold qI_isNode
  (repeat' split) <;> first | exact Or.inl rfl | exact Or.inr rfl
def qI_sizeOf (σ : gS) (k : Nat) (a1 : Int32) : Option Int32 :=
  (if a1 < 0 then some (0 : Int32) else (if (10 : Int32) ≤ a1 then some (0 : Int32) else gob a1 10 (some (gM σ (k + 1) a1.toNatClampNeg))))
def qI_cellAt (σ : gS) (k : Nat) (a1 : Int32) (a2 : Int32) : Option Int32 :=
  (if a1 < 0 then some (-1 : Int32) else (if (10 : Int32) ≤ a1 then some (-1 : Int32) else (if a2 < 0 then some (-1 : Int32) else (if (12 : Int32) ≤ a2 then some (-1 : Int32) else gob ((a1 * (12 : Int32)) + a2) 120 (some (gM σ (k + 2) ((a1 * (12 : Int32)) + a2).toNatClampNeg))))))
def qI_property_28 (σ : gS) (k28_0 : Nat) (f28_1 : Int32) (f28_2 : Int32) (f28_4 : Int32) (k : Int32 → Option Int32) : Nat → Int32 → Int32 → Option Int32
  | 0, _, _ => none
  | n + 1, v3, v5 => (qI_sizeOf σ k28_0 f28_4).bind (fun r3 => (if r3 ≤ v5 then k v3 else (qI_cellAt σ k28_0 f28_4 v5).bind (fun r5 => (if (qF_isPointerCode r5) = 0 then qI_property_28 σ k28_0 f28_1 f28_2 f28_4 k n v3 (v5 + 1) else qI_property_28 σ k28_0 f28_1 f28_2 f28_4 k n (v3 + 1) (v5 + 1)))))
def qI_property_7 (σ : gS) (k7_0 : Nat) (f7_1 : Int32) (k : Int32 → Int32 → Option Int32) : Nat → Int32 → Int32 → Int32 → Option Int32
  | 0, _, _, _ => none
  | n + 1, v2, v3, v4 => (if (gI σ k7_0 2) ≤ v4 then k v2 v3 else (qI_sizeOf σ k7_0 v4).bind (fun r2 => qI_property_28 σ k7_0 f7_1 (v2 + r2) v4 (fun x7 => qI_property_7 σ k7_0 f7_1 k n (v2 + r2) x7 (v4 + 1)) 8192 v3 (0 : Int32)))
def qI_property (σ : gS) (k : Nat) (a1 : Int32) : Option Int32 :=
  qI_property_7 σ k a1 (fun x8 x9 => (if a1 = (0 : Int32) then some (gI σ k 2) else if a1 = (1 : Int32) then some x8 else if a1 = (2 : Int32) then some x9 else some (-2 : Int32))) 8192 (0 : Int32) (0 : Int32) (0 : Int32)
def qF_isRegister (a1 : Int32) : Int32 :=
  (if a1 < 0 then (0 : Int32) else (if (6 : Int32) ≤ a1 then (0 : Int32) else (1 : Int32)))
theorem b01_X7_isRegister (a1 : Int32) : qF_isRegister a1 = 0 ∨ qF_isRegister a1 = 1 := by
  unfold qF_isRegister
  (repeat' split) <;> first | exact Or.inl rfl | exact Or.inr rfl
def qS_putCell (σ : gS) (a1 : Int32) (a2 : Int32) (a3 : Int32) : Option gS :=
  (if a1 < 0 then some σ else (if (10 : Int32) ≤ a1 then some σ else (if a2 < 0 then some σ else (if (12 : Int32) ≤ a2 then some σ else gob ((a1 * (12 : Int32)) + a2) 120 (some (sM σ 8 ((a1 * (12 : Int32)) + a2).toNatClampNeg a3))))))
def qS_addBlock_45 (f45_2 : Int32) (k : gS → Option gS) : Nat → gS → Int32 → Option gS
  | 0, _, _ => none
  | n + 1, σ, v3 => (if (12 : Int32) ≤ v3 then k σ else (qS_putCell σ f45_2 v3 (-1 : Int32)).bind (fun r5 => qS_addBlock_45 f45_2 k n r5 (v3 + 1)))
def qS_addBlock (σ : gS) (a1 : Int32) : Option gS :=
  (if (gI σ 1 7) < 0 then some σ else (if (10 : Int32) ≤ (gI σ 1 7) then some σ else gob (gI σ 1 7) 10 (qS_addBlock_45 (gI σ 1 7) (fun σ6 => some σ6) 8192 (sI (sM (sM (sM σ 5 (gI σ 1 7).toNatClampNeg a1) 6 (gI σ 1 7).toNatClampNeg (1 : Int32)) 7 (gI σ 1 7).toNatClampNeg (0 : Int32)) 1 7 ((gI σ 1 7) + (1 : Int32))) (0 : Int32))))
def qS_fillRegister (σ : gS) (a1 : Int32) (a2 : Int32) (a3 : Int32) (a4 : Int32) : Option gS :=
  (if a1 < 0 then some σ else (if (6 : Int32) ≤ a1 then some σ else gob a1 6 (some (sM (sM (sM σ 2 a1.toNatClampNeg a2) 3 a1.toNatClampNeg a3) 4 a1.toNatClampNeg a4))))
def qS_fillWithPointer (σ : gS) (a1 : Int32) (a2 : Int32) (a3 : Int32) : Option gS :=
  (qS_fillRegister σ a1 (2 : Int32) a2 a3).bind (fun r1 => some r1)
def qO_makeBlock (σ : gS) (a1 : Int32) (a2 : Int32) : Option (Int32 × gS) :=
  (if (qF_isRegister a1) = 0 then some ((-2 : Int32), σ) else (if a2 < (1 : Int32) then some ((-2 : Int32), σ) else (if a2 ≤ (12 : Int32) then (if (gI σ 1 7) < (10 : Int32) then (qS_addBlock σ a2).bind (fun r5 => (qS_fillWithPointer r5 a1 (gI σ 1 7) (0 : Int32)).bind (fun r6 => some ((gI σ 1 7), r6))) else some ((-4 : Int32), σ)) else some ((-2 : Int32), σ))))
def qS_kindOf (σ : gS) (a1 : Int32) : Option Int32 :=
  (if a1 < 0 then some (0 : Int32) else (if (6 : Int32) ≤ a1 then some (0 : Int32) else gob a1 6 (some (gM σ 2 a1.toNatClampNeg))))
def qS_valueOf (σ : gS) (a1 : Int32) : Option Int32 :=
  (if a1 < 0 then some (-1 : Int32) else (if (6 : Int32) ≤ a1 then some (-1 : Int32) else gob a1 6 (some (gM σ 3 a1.toNatClampNeg))))
def qO_fault (σ : gS) (a1 : Int32) : Option Int32 :=
  (qS_kindOf σ a1).bind (fun r1 => (if r1 = 0 then some (-11 : Int32) else (if r1 = (1 : Int32) then some (-12 : Int32) else (qS_valueOf σ a1).bind (fun r4 => (qS_isLive σ r4).bind (fun r5 => (if r5 = 0 then some (-13 : Int32) else some (0 : Int32)))))))
def qS_offsetOf (σ : gS) (a1 : Int32) : Option Int32 :=
  (if a1 < 0 then some (-1 : Int32) else (if (6 : Int32) ≤ a1 then some (-1 : Int32) else gob a1 6 (some (gM σ 4 a1.toNatClampNeg))))
def qO_faultAsBegin (σ : gS) (a1 : Int32) : Option Int32 :=
  (qO_fault σ a1).bind (fun r1 => (if r1 = 0 then (qS_offsetOf σ a1).bind (fun r3 => (if r3 = 0 then some (0 : Int32) else some (-19 : Int32))) else some r1))
def qS_isConstant (σ : gS) (a1 : Int32) : Option Int32 :=
  (if a1 < 0 then some (0 : Int32) else (if (10 : Int32) ≤ a1 then some (0 : Int32) else gob a1 10 ((if (gM σ 7 a1.toNatClampNeg) = (1 : Int32) then some (1 : Int32) else some (0 : Int32)))))
def qS_markEnded (σ : gS) (a1 : Int32) : Option gS :=
  (if a1 < 0 then some σ else (if (10 : Int32) ≤ a1 then some σ else gob a1 10 (some (sM σ 6 a1.toNatClampNeg (0 : Int32)))))
def qO_endBlock (σ : gS) (a1 : Int32) : Option (Int32 × gS) :=
  (if (qF_isRegister a1) = 0 then some ((-2 : Int32), σ) else (qO_faultAsBegin σ a1).bind (fun r2 => (if r2 = 0 then (qS_valueOf σ a1).bind (fun r4 => (qS_isConstant σ r4).bind (fun r5 => (if r5 = 0 then (qS_markEnded σ r4).bind (fun r7 => some (r4, r7)) else some ((-14 : Int32), σ)))) else some (r2, σ))))
def qS_fillWithNumber (σ : gS) (a1 : Int32) (a2 : Int32) : Option gS :=
  (qS_fillRegister σ a1 (1 : Int32) a2 (-1 : Int32)).bind (fun r1 => some r1)
def qO_setNumber (σ : gS) (a1 : Int32) (a2 : Int32) : Option (Int32 × gS) :=
  (if (qF_isRegister a1) = 0 then some ((-2 : Int32), σ) else (if a2 < 0 then some ((-2 : Int32), σ) else (if a2 < (65536 : Int32) then (qS_fillWithNumber σ a1 a2).bind (fun r4 => some (a2, r4)) else some ((-2 : Int32), σ))))
def qO_copyRegister (σ : gS) (a1 : Int32) (a2 : Int32) : Option (Int32 × gS) :=
  (if (qF_isRegister a1) = 0 then some ((-2 : Int32), σ) else (if (qF_isRegister a2) = 0 then some ((-2 : Int32), σ) else (qS_kindOf σ a2).bind (fun r3 => (qS_valueOf σ a2).bind (fun r4 => (qS_offsetOf σ a2).bind (fun r5 => (qS_fillRegister σ a1 r3 r4 r5).bind (fun r6 => some (r3, r6)))))))
def qO_forgetRegister (σ : gS) (a1 : Int32) : Option (Int32 × gS) :=
  (if (qF_isRegister a1) = 0 then some ((-2 : Int32), σ) else (qS_kindOf σ a1).bind (fun r2 => (qS_fillRegister σ a1 (0 : Int32) (-1 : Int32) (-1 : Int32)).bind (fun r3 => some (r2, r3))))
def qO_changeBudget (σ : gS) (a1 : Int32) : Option (Int32 × gS) :=
  (if a1 < (1 : Int32) then some ((-2 : Int32), σ) else (if a1 ≤ (60 : Int32) then some ((gI σ 1 9), (sI σ 1 9 a1)) else some ((-2 : Int32), σ)))
def qJ_floorMod (a1 : Int32) (a2 : Int32) : Option Int32 :=
  gnz a2 ((if 0 ≤ (a1 ^^^ a2) then some (a1 - a1 / a2 * a2) else (if (a1 - a1 / a2 * a2) = 0 then some (a1 - a1 / a2 * a2) else some ((a1 - a1 / a2 * a2) + a2))))
def qO_moveNumber (σ : gS) (a1 : Int32) (a2 : Int32) : Option (Int32 × gS) :=
  (qS_valueOf σ a1).bind (fun r1 => (qJ_floorMod (r1 + a2) (65536 : Int32)).bind (fun r2 => (qS_fillWithNumber σ a1 r2).bind (fun r3 => some (r2, r3))))
def qO_movePointer (σ : gS) (a1 : Int32) (a2 : Int32) : Option (Int32 × gS) :=
  (qS_valueOf σ a1).bind (fun r1 => (qS_isLive σ r1).bind (fun r2 => (if r2 = 0 then some ((-13 : Int32), σ) else (qS_offsetOf σ a1).bind (fun r4 => (if (r4 + a2) < 0 then some ((-15 : Int32), σ) else (qS_sizeOf σ r1).bind (fun r6 => (if (r4 + a2) ≤ r6 then (qS_fillWithPointer σ a1 r1 (r4 + a2)).bind (fun r8 => some ((r4 + a2), r8)) else some ((-15 : Int32), σ))))))))
def qO_moveRegister (σ : gS) (a1 : Int32) (a2 : Int32) : Option (Int32 × gS) :=
  (if (qF_isRegister a1) = 0 then some ((-2 : Int32), σ) else (if a2 < (-12 : Int32) then some ((-2 : Int32), σ) else (if a2 ≤ (12 : Int32) then (qS_kindOf σ a1).bind (fun r4 => (if r4 = 0 then some ((-11 : Int32), σ) else (if r4 = (1 : Int32) then (qO_moveNumber σ a1 a2).bind (fun r8 => some (r8.1, r8.2)) else (qO_movePointer σ a1 a2).bind (fun r7 => some (r7.1, r7.2))))) else some ((-2 : Int32), σ))))
def qO_hasBytes (σ : gS) (a1 : Int32) (a2 : Int32) : Option Int32 :=
  (qS_offsetOf σ a1).bind (fun r1 => (qS_valueOf σ a1).bind (fun r2 => (qS_sizeOf σ r2).bind (fun r3 => (if r3 < (r1 + a2) then some (0 : Int32) else some (1 : Int32)))))
def qO_faultForWriting (σ : gS) (a1 : Int32) (a2 : Int32) : Option Int32 :=
  (qO_fault σ a1).bind (fun r1 => (if r1 = 0 then (qS_valueOf σ a1).bind (fun r3 => (qS_isConstant σ r3).bind (fun r4 => (if r4 = 0 then (qO_hasBytes σ a1 a2).bind (fun r6 => (if r6 = 0 then some (-15 : Int32) else some (0 : Int32))) else some (-14 : Int32)))) else some r1))
def qO_splitPointers (σ : gS) (a1 : Int32) (a2 : Int32) (a3 : Int32) : Option gS :=
  (qS_cellAt σ a1 a2).bind (fun r1 => (if r1 = (999 : Int32) then (qS_putCell σ a1 (a2 - (1 : Int32)) (-1 : Int32)).bind (fun r6 => (qS_cellAt r6 a1 ((a2 + a3) - (1 : Int32))).bind (fun r7 => (if (qF_isPointerCode r7) = 0 then some r6 else (qS_putCell r6 a1 (a2 + a3) (-1 : Int32)).bind (fun r9 => some r9)))) else (qS_cellAt σ a1 ((a2 + a3) - (1 : Int32))).bind (fun r3 => (if (qF_isPointerCode r3) = 0 then some σ else (qS_putCell σ a1 (a2 + a3) (-1 : Int32)).bind (fun r5 => some r5)))))
def qO_putValue (σ : gS) (a1 : Int32) (a2 : Int32) (a3 : Int32) (a4 : Int32) : Option gS :=
  (qS_valueOf σ a3).bind (fun r1 => (qS_kindOf σ a3).bind (fun r2 => (if r2 = (2 : Int32) then (qS_offsetOf σ a3).bind (fun r7 => (qS_putCell σ a1 a2 (qF_pointerCode r1 r7)).bind (fun r8 => (qS_putCell r8 a1 (a2 + (1 : Int32)) (999 : Int32)).bind (fun r9 => some r9))) else (qS_putCell σ a1 a2 (r1 &&& (255 : Int32))).bind (fun r4 => (if a4 = (2 : Int32) then (qS_putCell r4 a1 (a2 + (1 : Int32)) ((r1 >>> ((8 : Int32) &&& 31)) &&& (255 : Int32))).bind (fun r6 => some r6) else some r4)))))
def qO_storeBytes (σ : gS) (a1 : Int32) (a2 : Int32) (a3 : Int32) : Option (Int32 × gS) :=
  (if (qF_isRegister a1) = 0 then some ((-2 : Int32), σ) else (if (qF_isRegister a2) = 0 then some ((-2 : Int32), σ) else (if a3 < (1 : Int32) then some ((-2 : Int32), σ) else (if a3 ≤ (2 : Int32) then (qO_faultForWriting σ a1 a3).bind (fun r5 => (if r5 = 0 then (qS_kindOf σ a2).bind (fun r7 => (if r7 = 0 then some ((-11 : Int32), σ) else (if a3 = (1 : Int32) then (if r7 = (2 : Int32) then some ((-17 : Int32), σ) else (qS_valueOf σ a1).bind (fun r15 => (qS_offsetOf σ a1).bind (fun r16 => (qO_splitPointers σ r15 r16 a3).bind (fun r17 => (qO_putValue r17 r15 r16 a2 a3).bind (fun r18 => some (r16, r18)))))) else (qS_valueOf σ a1).bind (fun r10 => (qS_offsetOf σ a1).bind (fun r11 => (qO_splitPointers σ r10 r11 a3).bind (fun r12 => (qO_putValue r12 r10 r11 a2 a3).bind (fun r13 => some (r11, r13)))))))) else some (r5, σ))) else some ((-2 : Int32), σ)))))
def qO_faultForReading (σ : gS) (a1 : Int32) (a2 : Int32) : Option Int32 :=
  (qO_fault σ a1).bind (fun r1 => (if r1 = 0 then (qO_hasBytes σ a1 a2).bind (fun r3 => (if r3 = 0 then some (-15 : Int32) else some (0 : Int32))) else some r1))
def qO_loadBytes (σ : gS) (a1 : Int32) (a2 : Int32) (a3 : Int32) : Option (Int32 × gS) :=
  (if (qF_isRegister a1) = 0 then some ((-2 : Int32), σ) else (if (qF_isRegister a2) = 0 then some ((-2 : Int32), σ) else (if a3 < (1 : Int32) then some ((-2 : Int32), σ) else (if a3 ≤ (2 : Int32) then (qO_faultForReading σ a2 a3).bind (fun r5 => (if r5 = 0 then (qS_valueOf σ a2).bind (fun r7 => (qS_offsetOf σ a2).bind (fun r8 => (qS_cellAt σ r7 r8).bind (fun r9 => (if a3 = (2 : Int32) then (qS_valueOf σ a2).bind (fun r17 => (qS_offsetOf σ a2).bind (fun r18 => (qS_cellAt σ r17 (r18 + (1 : Int32))).bind (fun r19 => (if (qF_isPointerCode r9) = 0 then (if (999 : Int32) ≤ r9 then some ((-16 : Int32), σ) else (if r19 < (999 : Int32) then (if r9 = (-1 : Int32) then some ((-11 : Int32), σ) else (if r19 = (-1 : Int32) then some ((-11 : Int32), σ) else (qS_fillWithNumber σ a1 ((r19 * (256 : Int32)) + r9)).bind (fun r26 => some ((1 : Int32), r26)))) else some ((-16 : Int32), σ))) else (qS_fillWithPointer σ a1 (qF_blockOfCode r9) (qF_offsetOfCode r9)).bind (fun r27 => some ((2 : Int32), r27)))))) else (if (999 : Int32) ≤ r9 then some ((-16 : Int32), σ) else (if r9 = (-1 : Int32) then some ((-11 : Int32), σ) else (qS_fillWithNumber σ a1 (((0 : Int32) * (256 : Int32)) + r9)).bind (fun r16 => some ((1 : Int32), r16)))))))) else some (r5, σ))) else some ((-2 : Int32), σ)))))
def qO_order (a1 : Int32) (a2 : Int32) : Int32 :=
  (if a1 = a2 then (1 : Int32) else (if a2 ≤ a1 then (2 : Int32) else (0 : Int32)))
def qO_compareRegisters (σ : gS) (a1 : Int32) (a2 : Int32) : Option Int32 :=
  (if (qF_isRegister a1) = 0 then some (-2 : Int32) else (if (qF_isRegister a2) = 0 then some (-2 : Int32) else (qS_kindOf σ a1).bind (fun r3 => (if r3 = 0 then some (-11 : Int32) else (qS_kindOf σ a2).bind (fun r5 => (if r5 = 0 then some (-11 : Int32) else (qS_kindOf σ a2).bind (fun r7 => (if r3 = r7 then (if r3 = (1 : Int32) then (qS_valueOf σ a1).bind (fun r15 => (qS_valueOf σ a2).bind (fun r16 => some (qO_order r15 r16))) else (qS_valueOf σ a1).bind (fun r10 => (qS_valueOf σ a2).bind (fun r11 => (if r10 = r11 then (qS_offsetOf σ a1).bind (fun r13 => (qS_offsetOf σ a2).bind (fun r14 => some (qO_order r13 r14))) else some (-18 : Int32))))) else some (-17 : Int32)))))))))
def qO_compareInto (σ : gS) (a1 : Int32) (a2 : Int32) (a3 : Int32) : Option (Int32 × gS) :=
  (if (qF_isRegister a3) = 0 then some ((-2 : Int32), σ) else (qO_compareRegisters σ a1 a2).bind (fun r2 => (if r2 < 0 then some (r2, σ) else (qS_fillWithNumber σ a3 r2).bind (fun r4 => some (r2, r4)))))
def qO_jumps (σ : gS) (a1 : Int32) : Option Int32 :=
  (if (qF_isRegister a1) = 0 then some (-2 : Int32) else (qS_kindOf σ a1).bind (fun r2 => (if r2 = 0 then some (-11 : Int32) else (if r2 = (2 : Int32) then some (-17 : Int32) else (qS_valueOf σ a1).bind (fun r5 => (if r5 = 0 then some (0 : Int32) else some (1 : Int32)))))))
def qO_cutsPointer (σ : gS) (a1 : Int32) (a2 : Int32) (a3 : Int32) : Option Int32 :=
  (qS_cellAt σ a1 a2).bind (fun r1 => (if r1 = (999 : Int32) then some (1 : Int32) else (qS_cellAt σ a1 ((a2 + a3) - (1 : Int32))).bind (fun r3 => (if (qF_isPointerCode r3) = 0 then some (0 : Int32) else some (1 : Int32)))))
def qO_carryBytes_3 (f3_1 : Int32) (f3_2 : Int32) (f3_3 : Int32) (k : gS → Option gS) : Nat → gS → Int32 → Option gS
  | 0, _, _ => none
  | n + 1, σ, v4 => (if f3_3 ≤ v4 then k σ else (if (12 : Int32) ≤ v4 then k σ else (qS_valueOf σ f3_2).bind (fun r3 => (qS_offsetOf σ f3_2).bind (fun r4 => (qS_cellAt σ r3 (r4 + v4)).bind (fun r5 => gob v4 12 (qO_carryBytes_3 f3_1 f3_2 f3_3 k n (sM σ 41 v4.toNatClampNeg r5) (v4 + 1)))))))
def qO_carryBytes_87 (f87_3 : Int32) (f87_4 : Int32) (f87_5 : Int32) (k : gS → Option gS) : Nat → gS → Int32 → Option gS
  | 0, _, _ => none
  | n + 1, σ, v6 => (if f87_3 ≤ v6 then k σ else (if (12 : Int32) ≤ v6 then k σ else gob v6 12 ((qS_putCell σ f87_4 (f87_5 + v6) (gM σ 41 v6.toNatClampNeg)).bind (fun r14 => qO_carryBytes_87 f87_3 f87_4 f87_5 k n r14 (v6 + 1)))))
def qO_carryBytes (σ : gS) (a1 : Int32) (a2 : Int32) (a3 : Int32) : Option gS :=
  qO_carryBytes_3 a1 a2 a3 (fun σ7 => (qS_valueOf σ7 a1).bind (fun r8 => (qS_offsetOf σ7 a1).bind (fun r9 => (qO_splitPointers σ7 r8 r9 a3).bind (fun r10 => qO_carryBytes_87 a3 r8 r9 (fun σ15 => some σ15) 8192 r10 (0 : Int32))))) 8192 σ (0 : Int32)
def qO_blitBytes (σ : gS) (a1 : Int32) (a2 : Int32) (a3 : Int32) : Option (Int32 × gS) :=
  (if (qF_isRegister a1) = 0 then some ((-2 : Int32), σ) else (if (qF_isRegister a2) = 0 then some ((-2 : Int32), σ) else (if a3 < (1 : Int32) then some ((-2 : Int32), σ) else (if a3 ≤ (12 : Int32) then (qO_faultForWriting σ a1 a3).bind (fun r5 => (if r5 = 0 then (qO_faultForReading σ a2 a3).bind (fun r8 => (if r8 = 0 then (qS_valueOf σ a2).bind (fun r10 => (qS_offsetOf σ a2).bind (fun r11 => (qO_cutsPointer σ r10 r11 a3).bind (fun r12 => (if r12 = 0 then (qO_carryBytes σ a1 a2 a3).bind (fun r14 => some (a3, r14)) else some ((-16 : Int32), σ))))) else some (r8, σ))) else some (r5, σ))) else some ((-2 : Int32), σ)))))
def qO_freezeBlocks (σ : gS) (a1 : Int32) : Option (Int32 × gS) :=
  (if (qF_isRegister a1) = 0 then some ((-2 : Int32), σ) else (qO_faultAsBegin σ a1).bind (fun r2 => (if r2 = 0 then (qS_valueOf σ a1).bind (fun r4 => (qA_reach σ r4).bind (fun r5 => (qA_allReachedLive r5.2).bind (fun r6 => (if r6 = 0 then some ((-13 : Int32), r5.2) else (qA_draw r5.2).bind (fun r8 => (qA_indexOfDrawn r8).bind (fun r9 => (if r9 < (8 : Int32) then (if r9 = (gI r8 1 8) then (qA_markReachedConstant (sI r8 1 8 (r9 + (1 : Int32)))).bind (fun r13 => some (r9, r13)) else (qA_markReachedConstant r8).bind (fun r12 => some (r9, r12))) else some ((-4 : Int32), r8)))))))) else some (r2, σ))))
def qH_waiting (σ : gS) : Option Nat :=
  (qJ_floorMod (gI σ 46 1) (6 : Int32)).bind (fun r1 => gor [48, 56, 64, 72, 80, 88] r1 (fun r3 => some r3))
def qS_become (σ : gS) (k : Nat) (k2 : Nat) : Option gS :=
  gnm (sA σ (k + 1) (va_cpy (gM σ (k2 + 1)) (gM σ (k + 1)) 0 0 6)) (fun σ1 => gnm (sA σ1 (k + 2) (va_cpy (gM σ1 (k2 + 2)) (gM σ1 (k + 2)) 0 0 6)) (fun σ2 => gnm (sA σ2 (k + 3) (va_cpy (gM σ2 (k2 + 3)) (gM σ2 (k + 3)) 0 0 6)) (fun σ3 => gnm (sA σ3 (k + 4) (va_cpy (gM σ3 (k2 + 4)) (gM σ3 (k + 4)) 0 0 10)) (fun σ4 => gnm (sA σ4 (k + 5) (va_cpy (gM σ4 (k2 + 5)) (gM σ4 (k + 5)) 0 0 10)) (fun σ5 => gnm (sA σ5 (k + 6) (va_cpy (gM σ5 (k2 + 6)) (gM σ5 (k + 6)) 0 0 10)) (fun σ6 => gnm (sA σ6 (k + 7) (va_cpy (gM σ6 (k2 + 7)) (gM σ6 (k + 7)) 0 0 120)) (fun σ7 => some (sI (sI (sI σ7 k 7 (gI σ7 k2 7)) k 8 (gI (sI σ7 k 7 (gI σ7 k2 7)) k2 8)) k 9 (gI (sI (sI σ7 k 7 (gI σ7 k2 7)) k 8 (gI (sI σ7 k 7 (gI σ7 k2 7)) k2 8)) k2 9)))))))))
def qH_stage (σ : gS) : Option gS :=
  (qH_waiting σ).bind (fun r1 => gst r1 ((qS_become σ r1 1).bind (fun r2 => some r2)))
def qH_keep (σ : gS) : Option gS :=
  (if (5 : Int32) ≤ (gI (sI σ 46 1 (((gI σ 46 1) + (1 : Int32)) - ((gI σ 46 1) + (1 : Int32)) / (6 : Int32) * (6 : Int32))) 46 2) then some (sI σ 46 1 (((gI σ 46 1) + (1 : Int32)) - ((gI σ 46 1) + (1 : Int32)) / (6 : Int32) * (6 : Int32))) else some (sI (sI σ 46 1 (((gI σ 46 1) + (1 : Int32)) - ((gI σ 46 1) + (1 : Int32)) / (6 : Int32) * (6 : Int32))) 46 2 ((gI (sI σ 46 1 (((gI σ 46 1) + (1 : Int32)) - ((gI σ 46 1) + (1 : Int32)) / (6 : Int32) * (6 : Int32))) 46 2) + (1 : Int32))))
def qH_undo (σ : gS) : Option gS :=
  (qH_waiting σ).bind (fun r1 => gst r1 ((qS_become σ 1 r1).bind (fun r2 => some r2)))
def qH_bringBack (σ : gS) : Option (Int32 × gS) :=
  (if (gI σ 46 2) = 0 then some ((-3 : Int32), σ) else (qH_waiting (sI (sI σ 46 1 ((((gI σ 46 1) + (6 : Int32)) - (1 : Int32)) - (((gI σ 46 1) + (6 : Int32)) - (1 : Int32)) / (6 : Int32) * (6 : Int32))) 46 2 ((gI (sI σ 46 1 ((((gI σ 46 1) + (6 : Int32)) - (1 : Int32)) - (((gI σ 46 1) + (6 : Int32)) - (1 : Int32)) / (6 : Int32) * (6 : Int32))) 46 2) - (1 : Int32)))).bind (fun r2 => gst r2 ((qS_become (sI (sI σ 46 1 ((((gI σ 46 1) + (6 : Int32)) - (1 : Int32)) - (((gI σ 46 1) + (6 : Int32)) - (1 : Int32)) / (6 : Int32) * (6 : Int32))) 46 2 ((gI (sI σ 46 1 ((((gI σ 46 1) + (6 : Int32)) - (1 : Int32)) - (((gI σ 46 1) + (6 : Int32)) - (1 : Int32)) / (6 : Int32) * (6 : Int32))) 46 2) - (1 : Int32))) 1 r2).bind (fun r3 => some ((gI r3 46 2), r3)))))
def qP_append (σ : gS) (a1 : Int32) : Option (Int32 × gS) :=
  (if a1 < 0 then some ((-2 : Int32), σ) else (if a1 ≤ (127 : Int32) then (if (gI σ 42 3) < 0 then some ((-4 : Int32), σ) else (if (gI σ 42 3) < (120 : Int32) then gob (gI σ 42 3) 120 (some ((gI (sI (sM σ 43 (gI σ 42 3).toNatClampNeg a1) 42 3 ((gI (sM σ 43 (gI σ 42 3).toNatClampNeg a1) 42 3) + (1 : Int32))) 42 3), (sI (sM σ 43 (gI σ 42 3).toNatClampNeg a1) 42 3 ((gI (sM σ 43 (gI σ 42 3).toNatClampNeg a1) 42 3) + (1 : Int32))))) else some ((-4 : Int32), σ))) else some ((-2 : Int32), σ)))
def qP_empty (σ : gS) : Option (Int32 × gS) :=
  some ((gI σ 42 3), (sI σ 42 3 (0 : Int32)))
def qP_operandsOf (a1 : Int32) : Int32 :=
  (if a1 = (98 : Int32) then (3 : Int32) else if a1 = (99 : Int32) then (2 : Int32) else if a1 = (100 : Int32) then (3 : Int32) else if a1 = (101 : Int32) then (1 : Int32) else if a1 = (106 : Int32) then (2 : Int32) else if a1 = (108 : Int32) then (3 : Int32) else if a1 = (109 : Int32) then (2 : Int32) else if a1 = (115 : Int32) then (2 : Int32) else if a1 = (118 : Int32) then (2 : Int32) else if a1 = (119 : Int32) then (3 : Int32) else if a1 = (122 : Int32) then (1 : Int32) else (0 : Int32))
def qP_acceptsLetter (σ : gS) (a1 : Int32) : Option (Int32 × gS) :=
  (if (qP_operandsOf a1) = 0 then some ((0 : Int32), σ) else (if (gI σ 42 4) < 0 then some ((0 : Int32), σ) else (if (gI σ 42 4) < (40 : Int32) then gob (gI σ 42 4) 40 (some ((1 : Int32), (sI (sI (sI (sI (sM σ 44 (gI σ 42 4).toNatClampNeg a1) 42 5 a1) 42 6 (0 : Int32)) 42 7 (0 : Int32)) 42 8 (0 : Int32)))) else some ((0 : Int32), σ))))
def qP_putOperand (σ : gS) (a1 : Int32) : Option gS :=
  (if ((((gI σ 42 4) * (3 : Int32)) + (gI σ 42 6)) - (1 : Int32)) < 0 then some σ else (if (120 : Int32) ≤ ((((gI σ 42 4) * (3 : Int32)) + (gI σ 42 6)) - (1 : Int32)) then some σ else gob ((((gI σ 42 4) * (3 : Int32)) + (gI σ 42 6)) - (1 : Int32)) 120 (some (sM σ 45 ((((gI σ 42 4) * (3 : Int32)) + (gI σ 42 6)) - (1 : Int32)).toNatClampNeg a1))))
def qP_operand (σ : gS) (a1 : Int32) (a2 : Int32) : Option Int32 :=
  (if ((a1 * (3 : Int32)) + a2) < 0 then some (0 : Int32) else (if (120 : Int32) ≤ ((a1 * (3 : Int32)) + a2) then some (0 : Int32) else gob ((a1 * (3 : Int32)) + a2) 120 (some (gM σ 45 ((a1 * (3 : Int32)) + a2).toNatClampNeg))))
def qP_acceptsDigit (σ : gS) (a1 : Int32) : Option (Int32 × gS) :=
  (if (gI σ 42 7) = 0 then (if (gI σ 42 6) = (qP_operandsOf (gI σ 42 5)) then some ((0 : Int32), σ) else (if (gI σ 42 8) = 0 then (qP_putOperand (sI (sI (sI σ 42 9 (1 : Int32)) 42 8 (0 : Int32)) 42 6 ((gI (sI (sI σ 42 9 (1 : Int32)) 42 8 (0 : Int32)) 42 6) + (1 : Int32))) (0 : Int32)).bind (fun r7 => (if (gI r7 42 7) = (5 : Int32) then some ((0 : Int32), r7) else (qP_operand (sI r7 42 7 ((gI r7 42 7) + (1 : Int32))) (gI (sI r7 42 7 ((gI r7 42 7) + (1 : Int32))) 42 4) ((gI (sI r7 42 7 ((gI r7 42 7) + (1 : Int32))) 42 6) - (1 : Int32))).bind (fun r9 => (qP_putOperand (sI r7 42 7 ((gI r7 42 7) + (1 : Int32))) ((r9 * (10 : Int32)) + ((gI (sI r7 42 7 ((gI r7 42 7) + (1 : Int32))) 42 9) * a1))).bind (fun r10 => some ((1 : Int32), r10))))) else (qP_putOperand (sI (sI (sI σ 42 9 (-1 : Int32)) 42 8 (0 : Int32)) 42 6 ((gI (sI (sI σ 42 9 (-1 : Int32)) 42 8 (0 : Int32)) 42 6) + (1 : Int32))) (0 : Int32)).bind (fun r11 => (if (gI r11 42 7) = (5 : Int32) then some ((0 : Int32), r11) else (qP_operand (sI r11 42 7 ((gI r11 42 7) + (1 : Int32))) (gI (sI r11 42 7 ((gI r11 42 7) + (1 : Int32))) 42 4) ((gI (sI r11 42 7 ((gI r11 42 7) + (1 : Int32))) 42 6) - (1 : Int32))).bind (fun r13 => (qP_putOperand (sI r11 42 7 ((gI r11 42 7) + (1 : Int32))) ((r13 * (10 : Int32)) + ((gI (sI r11 42 7 ((gI r11 42 7) + (1 : Int32))) 42 9) * a1))).bind (fun r14 => some ((1 : Int32), r14))))))) else (if (gI σ 42 7) = (5 : Int32) then some ((0 : Int32), σ) else (qP_operand (sI σ 42 7 ((gI σ 42 7) + (1 : Int32))) (gI (sI σ 42 7 ((gI σ 42 7) + (1 : Int32))) 42 4) ((gI (sI σ 42 7 ((gI σ 42 7) + (1 : Int32))) 42 6) - (1 : Int32))).bind (fun r3 => (qP_putOperand (sI σ 42 7 ((gI σ 42 7) + (1 : Int32))) ((r3 * (10 : Int32)) + ((gI (sI σ 42 7 ((gI σ 42 7) + (1 : Int32))) 42 9) * a1))).bind (fun r4 => some ((1 : Int32), r4)))))
def qP_acceptsMinus (σ : gS) : Option (Int32 × gS) :=
  (if (gI σ 42 5) = (118 : Int32) then (if (gI σ 42 6) = (1 : Int32) then some ((1 : Int32), (sI (sI σ 42 7 (0 : Int32)) 42 8 (1 : Int32))) else some ((0 : Int32), σ)) else some ((0 : Int32), σ))
def qP_acceptsSemicolon (σ : gS) : Option (Int32 × gS) :=
  (if (gI σ 42 6) = (qP_operandsOf (gI σ 42 5)) then some ((1 : Int32), (sI (sI σ 42 4 ((gI σ 42 4) + (1 : Int32))) 42 5 (-1 : Int32))) else some ((0 : Int32), σ))
def qP_accepts (σ : gS) (a1 : Int32) : Option (Int32 × gS) :=
  (if (gI σ 42 5) = (-1 : Int32) then (if a1 = (32 : Int32) then some ((1 : Int32), σ) else (qP_acceptsLetter σ a1).bind (fun r17 => (if r17.1 = 0 then some ((0 : Int32), r17.2) else some ((1 : Int32), r17.2)))) else (if a1 < (48 : Int32) then (if (gI σ 42 8) = 0 then (if a1 = (32 : Int32) then some ((1 : Int32), (sI σ 42 7 (0 : Int32))) else if a1 = (45 : Int32) then (qP_acceptsMinus σ).bind (fun r4 => gbo r4.1 (some (r4.1, r4.2))) else if a1 = (59 : Int32) then (qP_acceptsSemicolon σ).bind (fun r6 => gbo r6.1 (some (r6.1, r6.2))) else some ((0 : Int32), σ)) else some ((0 : Int32), σ)) else (if (57 : Int32) < a1 then (if (gI σ 42 8) = 0 then (if a1 = (32 : Int32) then some ((1 : Int32), (sI σ 42 7 (0 : Int32))) else if a1 = (45 : Int32) then (qP_acceptsMinus σ).bind (fun r10 => gbo r10.1 (some (r10.1, r10.2))) else if a1 = (59 : Int32) then (qP_acceptsSemicolon σ).bind (fun r12 => gbo r12.1 (some (r12.1, r12.2))) else some ((0 : Int32), σ)) else some ((0 : Int32), σ)) else (qP_acceptsDigit σ (a1 - (48 : Int32))).bind (fun r14 => gbo r14.1 (some (r14.1, r14.2))))))
def qP_parse_12 (k : gS → Option (Int32 × gS)) : Nat → gS → Int32 → Option (Int32 × gS)
  | 0, _, _ => none
  | n + 1, σ, v1 => (if (gI σ 42 3) ≤ v1 then k σ else (if (120 : Int32) ≤ v1 then k σ else gob v1 120 ((qP_accepts σ (gM σ 43 v1.toNatClampNeg)).bind (fun r4 => (if r4.1 = 0 then some (v1, r4.2) else qP_parse_12 k n r4.2 (v1 + 1))))))
def qP_parse (σ : gS) : Option (Int32 × gS) :=
  qP_parse_12 (fun σ6 => (if (gI σ6 42 5) = (-1 : Int32) then (if (gI σ6 42 4) ≤ 0 then some ((gI σ6 42 3), σ6) else some ((-1 : Int32), σ6)) else some ((gI σ6 42 3), σ6))) 8192 (sI (sI σ 42 4 (0 : Int32)) 42 5 (-1 : Int32)) (0 : Int32)
def qP_letterOf (σ : gS) (a1 : Int32) : Option Int32 :=
  (if a1 < 0 then some (-1 : Int32) else (if (40 : Int32) ≤ a1 then some (-1 : Int32) else gob a1 40 (some (gM σ 44 a1.toNatClampNeg))))
def qP_carryOut (σ : gS) (a2 : Int32) : Option (Int32 × gS) :=
  (qP_operand σ a2 (0 : Int32)).bind (fun r1 => (qP_operand σ a2 (1 : Int32)).bind (fun r2 => (qP_operand σ a2 (2 : Int32)).bind (fun r3 => (qP_letterOf σ a2).bind (fun r4 => (if r4 = (98 : Int32) then (qO_blitBytes σ r1 r2 r3).bind (fun r5 => some (r5.1, r5.2)) else if r4 = (99 : Int32) then (qO_copyRegister σ r1 r2).bind (fun r6 => some (r6.1, r6.2)) else if r4 = (100 : Int32) then (qO_compareInto σ r1 r2 r3).bind (fun r7 => some (r7.1, r7.2)) else if r4 = (101 : Int32) then (qO_endBlock σ r1).bind (fun r8 => some (r8.1, r8.2)) else if r4 = (106 : Int32) then (qO_jumps σ r1).bind (fun r9 => some (r9, σ)) else if r4 = (108 : Int32) then (qO_loadBytes σ r1 r2 r3).bind (fun r10 => some (r10.1, r10.2)) else if r4 = (109 : Int32) then (qO_makeBlock σ r1 r2).bind (fun r11 => some (r11.1, r11.2)) else if r4 = (115 : Int32) then (qO_setNumber σ r1 r2).bind (fun r12 => some (r12.1, r12.2)) else if r4 = (118 : Int32) then (qO_moveRegister σ r1 r2).bind (fun r13 => some (r13.1, r13.2)) else if r4 = (119 : Int32) then (qO_storeBytes σ r1 r2 r3).bind (fun r14 => some (r14.1, r14.2)) else if r4 = (122 : Int32) then (qO_freezeBlocks σ r1).bind (fun r15 => some (r15.1, r15.2)) else some ((-2 : Int32), σ))))))
def qP_failure (a1 : Int32) (a2 : Int32) : Int32 :=
  (if a1 = (-2 : Int32) then ((-2000 : Int32) - a2) else (if a1 = (-4 : Int32) then ((-3000 : Int32) - a2) else (((-4000 : Int32) - ((1000 : Int32) * ((-10 : Int32) - a1))) - a2)))
def qP_run_5 (f5_2 : Int32) (k : gS → Option (Int32 × gS)) : Nat → gS → Int32 → Int32 → Option (Int32 × gS)
  | 0, _, _, _ => none
  | n + 1, σ, v3, v4 => (if f5_2 < v4 then k σ else (if v3 < (gI σ 42 4) then (if f5_2 ≤ v4 then qP_run_5 f5_2 k n σ v3 (v4 + 1) else (qP_carryOut σ v3).bind (fun r4 => (if 0 ≤ r4.1 then (qP_letterOf r4.2 v3).bind (fun r6 => (if r6 = (106 : Int32) then (if r4.1 = (1 : Int32) then (qP_operand r4.2 v3 (1 : Int32)).bind (fun r9 => qP_run_5 f5_2 k n r4.2 r9 (v4 + 1)) else qP_run_5 f5_2 k n r4.2 (v3 + (1 : Int32)) (v4 + 1)) else qP_run_5 f5_2 k n r4.2 (v3 + (1 : Int32)) (v4 + 1))) else some ((qP_failure r4.1 v3), r4.2)))) else some (v4, σ)))
def qP_run (σ : gS) (a2 : Int32) : Option (Int32 × gS) :=
  qP_run_5 a2 (fun σ10 => some ((-500 : Int32), σ10)) 8192 σ (0 : Int32) (0 : Int32)
def qS_isBlock (σ : gS) (a1 : Int32) : Int32 :=
  (if a1 < 0 then (0 : Int32) else (if (gI σ 1 7) ≤ a1 then (0 : Int32) else (if (10 : Int32) ≤ a1 then (0 : Int32) else (1 : Int32))))
theorem b01_X5_isBlock (σ : gS) (a1 : Int32) : qS_isBlock σ a1 = 0 ∨ qS_isBlock σ a1 = 1 := by
  unfold qS_isBlock
  (repeat' split) <;> first | exact Or.inl rfl | exact Or.inr rfl
def qS_isImage (σ : gS) (a1 : Int32) : Int32 :=
  (if a1 < 0 then (0 : Int32) else (if (gI σ 1 8) ≤ a1 then (0 : Int32) else (1 : Int32)))
theorem b01_X5_isImage (σ : gS) (a1 : Int32) : qS_isImage σ a1 = 0 ∨ qS_isImage σ a1 = 1 := by
  unfold qS_isImage
  (repeat' split) <;> first | exact Or.inl rfl | exact Or.inr rfl
def qS_registerProperty (σ : gS) (a1 : Int32) (a2 : Int32) : Option Int32 :=
  (if (qF_isRegister a1) = 0 then some (-2 : Int32) else (if a2 = (0 : Int32) then gob a1 6 (some (gM σ 2 a1.toNatClampNeg)) else if a2 = (1 : Int32) then gob a1 6 ((if (gM σ 2 a1.toNatClampNeg) = 0 then some (-1 : Int32) else some (gM σ 3 a1.toNatClampNeg))) else if a2 = (2 : Int32) then gob a1 6 ((if (gM σ 2 a1.toNatClampNeg) = (2 : Int32) then some (gM σ 4 a1.toNatClampNeg) else some (-1 : Int32))) else some (-2 : Int32)))
def qS_liveBlocks_4 (σ : gS) (k : Int32 → Option Int32) : Nat → Int32 → Int32 → Option Int32
  | 0, _, _ => none
  | n + 1, v1, v2 => (if (gI σ 1 7) ≤ v2 then k v1 else (qS_isLive σ v2).bind (fun r2 => (if r2 = 0 then qS_liveBlocks_4 σ k n v1 (v2 + 1) else qS_liveBlocks_4 σ k n (v1 + 1) (v2 + 1))))
def qS_liveBlocks (σ : gS) : Option Int32 :=
  qS_liveBlocks_4 σ (fun x4 => some x4) 8192 (0 : Int32) (0 : Int32)
def qS_uninitializedIn_4 (σ : gS) (f4_1 : Int32) (k : Int32 → Option Int32) : Nat → Int32 → Int32 → Option Int32
  | 0, _, _ => none
  | n + 1, v2, v3 => (qS_sizeOf σ f4_1).bind (fun r1 => (if r1 ≤ v3 then k v2 else (qS_cellAt σ f4_1 v3).bind (fun r3 => (if r3 = (-1 : Int32) then qS_uninitializedIn_4 σ f4_1 k n (v2 + 1) (v3 + 1) else qS_uninitializedIn_4 σ f4_1 k n v2 (v3 + 1)))))
def qS_uninitializedIn (σ : gS) (a1 : Int32) : Option Int32 :=
  qS_uninitializedIn_4 σ a1 (fun x5 => some x5) 8192 (0 : Int32) (0 : Int32)
def qS_pointersIn_4 (σ : gS) (f4_1 : Int32) (k : Int32 → Option Int32) : Nat → Int32 → Int32 → Option Int32
  | 0, _, _ => none
  | n + 1, v2, v3 => (qS_sizeOf σ f4_1).bind (fun r1 => (if r1 ≤ v3 then k v2 else (qS_cellAt σ f4_1 v3).bind (fun r3 => (if (qF_isPointerCode r3) = 0 then qS_pointersIn_4 σ f4_1 k n v2 (v3 + 1) else qS_pointersIn_4 σ f4_1 k n (v2 + 1) (v3 + 1)))))
def qS_pointersIn (σ : gS) (a1 : Int32) : Option Int32 :=
  qS_pointersIn_4 σ a1 (fun x5 => some x5) 8192 (0 : Int32) (0 : Int32)
def qS_blockProperty (σ : gS) (a1 : Int32) (a2 : Int32) : Option Int32 :=
  (if (qS_isBlock σ a1) = 0 then some (-2 : Int32) else (if a2 = (0 : Int32) then gob a1 10 (some (gM σ 5 a1.toNatClampNeg)) else if a2 = (1 : Int32) then gob a1 10 (some (gM σ 6 a1.toNatClampNeg)) else if a2 = (2 : Int32) then gob a1 10 (some (gM σ 7 a1.toNatClampNeg)) else if a2 = (3 : Int32) then (qS_uninitializedIn σ a1).bind (fun r5 => some r5) else if a2 = (4 : Int32) then (qS_pointersIn σ a1).bind (fun r6 => some r6) else some (-2 : Int32)))
def qT_noted (σ : gS) (a1 : Int32) : Option (Int32 × gS) :=
  (if a1 = (-2 : Int32) then some (a1, (sI σ 96 1 ((gI σ 96 1) + (1 : Int32)))) else (if a1 = (-3 : Int32) then some (a1, (sI σ 96 2 ((gI σ 96 2) + (1 : Int32)))) else (if a1 = (-4 : Int32) then some (a1, (sI σ 96 3 ((gI σ 96 3) + (1 : Int32)))) else (if ((-10 : Int32) - a1) < (1 : Int32) then some (a1, σ) else (if (9 : Int32) < ((-10 : Int32) - a1) then some (a1, σ) else gob ((-10 : Int32) - a1) 10 (some (a1, (sM σ 97 ((-10 : Int32) - a1).toNatClampNeg ((gM σ 97 ((-10 : Int32) - a1).toNatClampNeg) + (1 : Int32))))))))))
def qT_ofReason (σ : gS) (a1 : Int32) : Option Int32 :=
  (if a1 < (1 : Int32) then some (-2 : Int32) else (if (9 : Int32) < a1 then some (-2 : Int32) else gob a1 10 (some (gM σ 97 a1.toNatClampNeg))))
def qT_ofAllReasons_4 (σ : gS) (k : Int32 → Option Int32) : Nat → Int32 → Int32 → Option Int32
  | 0, _, _ => none
  | n + 1, v1, v2 => (if (9 : Int32) < v2 then k v1 else gob v2 10 (qT_ofAllReasons_4 σ k n (v1 + (gM σ 97 v2.toNatClampNeg)) (v2 + 1)))
def qT_ofAllReasons (σ : gS) : Option Int32 :=
  qT_ofAllReasons_4 σ (fun x3 => some x3) 8192 (0 : Int32) (1 : Int32)
def qF_settled (σ : gS) (a1 : Int32) : Option (Int32 × gS) :=
  (if a1 < 0 then (qT_noted σ a1).bind (fun r2 => some (r2.1, r2.2)) else (qH_keep σ).bind (fun r3 => (qT_noted r3 a1).bind (fun r4 => some (r4.1, r4.2))))
def qF_make (σ : gS) (a1 : Int32) (a2 : Int32) : Option (Int32 × gS) :=
  (qH_stage σ).bind (fun r1 => (qO_makeBlock r1 a1 a2).bind (fun r2 => (qF_settled r2.2 r2.1).bind (fun r3 => some (r3.1, r3.2))))
def qF_end (σ : gS) (a1 : Int32) : Option (Int32 × gS) :=
  (qH_stage σ).bind (fun r1 => (qO_endBlock r1 a1).bind (fun r2 => (qF_settled r2.2 r2.1).bind (fun r3 => some (r3.1, r3.2))))
def qF_set (σ : gS) (a1 : Int32) (a2 : Int32) : Option (Int32 × gS) :=
  (qH_stage σ).bind (fun r1 => (qO_setNumber r1 a1 a2).bind (fun r2 => (qF_settled r2.2 r2.1).bind (fun r3 => some (r3.1, r3.2))))
def qF_copy (σ : gS) (a1 : Int32) (a2 : Int32) : Option (Int32 × gS) :=
  (qH_stage σ).bind (fun r1 => (qO_copyRegister r1 a1 a2).bind (fun r2 => (qF_settled r2.2 r2.1).bind (fun r3 => some (r3.1, r3.2))))
def qF_move (σ : gS) (a1 : Int32) (a2 : Int32) : Option (Int32 × gS) :=
  (qH_stage σ).bind (fun r1 => (qO_moveRegister r1 a1 a2).bind (fun r2 => (qF_settled r2.2 r2.1).bind (fun r3 => some (r3.1, r3.2))))
def qF_store (σ : gS) (a1 : Int32) (a2 : Int32) (a3 : Int32) : Option (Int32 × gS) :=
  (qH_stage σ).bind (fun r1 => (qO_storeBytes r1 a1 a2 a3).bind (fun r2 => (qF_settled r2.2 r2.1).bind (fun r3 => some (r3.1, r3.2))))
def qF_load (σ : gS) (a1 : Int32) (a2 : Int32) (a3 : Int32) : Option (Int32 × gS) :=
  (qH_stage σ).bind (fun r1 => (qO_loadBytes r1 a1 a2 a3).bind (fun r2 => (qF_settled r2.2 r2.1).bind (fun r3 => some (r3.1, r3.2))))
def qF_compare (σ : gS) (a1 : Int32) (a2 : Int32) : Option (Int32 × gS) :=
  (qO_compareRegisters σ a1 a2).bind (fun r1 => (qT_noted σ r1).bind (fun r2 => some (r2.1, r2.2)))
def qF_blit (σ : gS) (a1 : Int32) (a2 : Int32) (a3 : Int32) : Option (Int32 × gS) :=
  (qH_stage σ).bind (fun r1 => (qO_blitBytes r1 a1 a2 a3).bind (fun r2 => (qF_settled r2.2 r2.1).bind (fun r3 => some (r3.1, r3.2))))
def qF_freeze (σ : gS) (a1 : Int32) : Option (Int32 × gS) :=
  (qH_stage σ).bind (fun r1 => (qO_freezeBlocks r1 a1).bind (fun r2 => (qF_settled r2.2 r2.1).bind (fun r3 => some (r3.1, r3.2))))
def qF_forget (σ : gS) (a1 : Int32) : Option (Int32 × gS) :=
  (qH_stage σ).bind (fun r1 => (qO_forgetRegister r1 a1).bind (fun r2 => (qF_settled r2.2 r2.1).bind (fun r3 => some (r3.1, r3.2))))
def qF_budget (σ : gS) (a1 : Int32) : Option (Int32 × gS) :=
  (qH_stage σ).bind (fun r1 => (qO_changeBudget r1 a1).bind (fun r2 => (qF_settled r2.2 r2.1).bind (fun r3 => some (r3.1, r3.2))))
def qF_register (σ : gS) (a1 : Int32) (a2 : Int32) : Option (Int32 × gS) :=
  (qS_registerProperty σ a1 a2).bind (fun r1 => (qT_noted σ r1).bind (fun r2 => some (r2.1, r2.2)))
def qF_piece (σ : gS) (a1 : Int32) (a2 : Int32) : Option (Int32 × gS) :=
  (if (qS_isBlock σ a1) = 0 then (qS_blockProperty σ a1 a2).bind (fun r2 => (qT_noted σ r2).bind (fun r3 => some (r3.1, r3.2))) else (if a2 = (5 : Int32) then (qA_reach σ a1).bind (fun r7 => some (r7.1, r7.2)) else (qS_blockProperty σ a1 a2).bind (fun r5 => (qT_noted σ r5).bind (fun r6 => some (r6.1, r6.2)))))
def qF_at (σ : gS) (a1 : Int32) (a2 : Int32) : Option (Int32 × gS) :=
  (if (qS_isBlock σ a1) = 0 then (qT_noted σ (-2 : Int32)).bind (fun r3 => some (r3.1, r3.2)) else (if a2 < 0 then (qT_noted σ (-2 : Int32)).bind (fun r6 => some (r6.1, r6.2)) else (qS_sizeOf σ a1).bind (fun r7 => (if r7 ≤ a2 then (qT_noted σ (-2 : Int32)).bind (fun r10 => some (r10.1, r10.2)) else (qS_cellAt σ a1 a2).bind (fun r12 => (qT_noted σ r12).bind (fun r13 => some (r13.1, r13.2)))))))
def qF_image (σ : gS) (a1 : Int32) (a2 : Int32) : Option (Int32 × gS) :=
  (if (qS_isImage σ a1) = 0 then (qT_noted σ (-2 : Int32)).bind (fun r2 => some (r2.1, r2.2)) else (qA_imageAt a1).bind (fun r3 => gim r3 ((qI_property σ r3 a2).bind (fun r4 => (qT_noted σ r4).bind (fun r5 => some (r5.1, r5.2))))))
def qF_imaged (σ : gS) (a1 : Int32) (a2 : Int32) (a3 : Int32) : Option (Int32 × gS) :=
  (if (qS_isImage σ a1) = 0 then (qT_noted σ (-2 : Int32)).bind (fun r2 => some (r2.1, r2.2)) else (if 0 ≤ a3 then (qA_imageAt a1).bind (fun r4 => gim r4 ((if (qI_isNode σ r4 a2) = 0 then (qT_noted σ (-2 : Int32)).bind (fun r9 => some (r9.1, r9.2)) else (qI_sizeOf σ r4 a2).bind (fun r6 => (if r6 ≤ a3 then some ((-5 : Int32), σ) else (qI_cellAt σ r4 a2 a3).bind (fun r8 => some (r8, σ))))))) else (qT_noted σ (-2 : Int32)).bind (fun r10 => some (r10.1, r10.2))))
def qF_like (σ : gS) (a1 : Int32) : Option (Int32 × gS) :=
  (if (qS_isBlock σ a1) = 0 then (qT_noted σ (-2 : Int32)).bind (fun r9 => some (r9.1, r9.2)) else (qA_reach σ a1).bind (fun r2 => (qA_allReachedLive r2.2).bind (fun r3 => (if r3 = 0 then (qT_noted r2.2 (-3 : Int32)).bind (fun r8 => some (r8.1, r8.2)) else (qA_draw r2.2).bind (fun r5 => (qA_indexOfDrawn r5).bind (fun r6 => (if (gI r5 1 8) ≤ r6 then some ((-1 : Int32), r5) else some (r6, r5))))))))
def qF_counted (σ : gS) (a1 : Int32) : Option Int32 :=
  (if a1 = (0 : Int32) then some (gI σ 1 7) else if a1 = (1 : Int32) then some (gI σ 1 8) else if a1 = (2 : Int32) then (qS_liveBlocks σ).bind (fun r1 => some r1) else if a1 = (3 : Int32) then some (gI σ 1 9) else if a1 = (4 : Int32) then some (gI σ 96 1) else if a1 = (5 : Int32) then some (gI σ 96 2) else if a1 = (6 : Int32) then some (gI σ 96 3) else if a1 = (7 : Int32) then (qT_ofAllReasons σ).bind (fun r2 => some r2) else if a1 = (8 : Int32) then some (gI σ 42 3) else if a1 = (9 : Int32) then some (gI σ 46 2) else some (-2 : Int32))
def qF_count (σ : gS) (a1 : Int32) : Option (Int32 × gS) :=
  (qF_counted σ a1).bind (fun r1 => (qT_noted σ r1).bind (fun r2 => some (r2.1, r2.2)))
def qF_undefined (σ : gS) (a1 : Int32) : Option (Int32 × gS) :=
  (qT_ofReason σ a1).bind (fun r1 => (qT_noted σ r1).bind (fun r2 => some (r2.1, r2.2)))
def qF_type (σ : gS) (a1 : Int32) : Option (Int32 × gS) :=
  (qP_append σ a1).bind (fun r1 => (qT_noted r1.2 r1.1).bind (fun r2 => some (r2.1, r2.2)))
def qF_clear (σ : gS) : Option (Int32 × gS) :=
  (qP_empty σ).bind (fun r1 => some (r1.1, r1.2))
def qF_does (σ : gS) : Option (Int32 × gS) :=
  (qP_parse σ).bind (fun r1 => (if r1.1 < 0 then (qH_stage r1.2).bind (fun r3 => (qP_run r3 (gI r3 1 9)).bind (fun r4 => (if r4.1 < 0 then (qH_undo r4.2).bind (fun r6 => some (r4.1, r6)) else (qH_keep r4.2).bind (fun r7 => some (r4.1, r7))))) else some (((-10 : Int32) - r1.1), r1.2)))
def qF_back (σ : gS) : Option (Int32 × gS) :=
  (qH_bringBack σ).bind (fun r1 => (qT_noted r1.2 r1.1).bind (fun r2 => some (r2.1, r2.2)))
def qF_mixed (a1 : Int64) (a2 : Int32) : Int64 :=
  (((31 : Int64) * a1) + a2.toInt64)
def qF_digestOfBlock_6 (σ : gS) (f6_3 : Int32) (k : Int64 → Option Int64) : Nat → Int64 → Int32 → Option Int64
  | 0, _, _ => none
  | n + 1, v4, v6 => (if (4 : Int32) < v6 then k v4 else (qS_blockProperty σ f6_3 v6).bind (fun r2 => qF_digestOfBlock_6 σ f6_3 k n (qF_mixed v4 r2) (v6 + 1)))
def qF_digestOfBlock_38 (σ : gS) (f38_3 : Int32) (k : Int64 → Option Int64) : Nat → Int64 → Int32 → Option Int64
  | 0, _, _ => none
  | n + 1, v4, v6 => (qS_sizeOf σ f38_3).bind (fun r4 => (if r4 ≤ v6 then k v4 else (qS_cellAt σ f38_3 v6).bind (fun r6 => qF_digestOfBlock_38 σ f38_3 k n (qF_mixed v4 r6) (v6 + 1))))
def qF_digestOfBlock (σ : gS) (a1 : Int64) (a2 : Int32) : Option Int64 :=
  qF_digestOfBlock_6 σ a2 (fun x3 => qF_digestOfBlock_38 σ a2 (fun x7 => some x7) 8192 x3 (0 : Int32)) 8192 a1 (0 : Int32)
def qF_digestOfImage_16 (σ : gS) (k16_6 : Nat) (k : Int64 → Option Int64) : Nat → Int64 → Int32 → Option Int64
  | 0, _, _ => none
  | n + 1, v4, v7 => (if (2 : Int32) < v7 then k v4 else (qI_property σ k16_6 v7).bind (fun r3 => qF_digestOfImage_16 σ k16_6 k n (qF_mixed v4 r3) (v7 + 1)))
def qF_digestOfImage_58 (σ : gS) (k58_6 : Nat) (f58_7 : Int32) (k : Int64 → Option Int64) : Nat → Int64 → Int32 → Option Int64
  | 0, _, _ => none
  | n + 1, v4, v8 => (qI_sizeOf σ k58_6 f58_7).bind (fun r6 => (if r6 ≤ v8 then k v4 else (qI_cellAt σ k58_6 f58_7 v8).bind (fun r8 => qF_digestOfImage_58 σ k58_6 f58_7 k n (qF_mixed v4 r8) (v8 + 1))))
def qF_digestOfImage_45 (σ : gS) (k45_6 : Nat) (k : Int64 → Option Int64) : Nat → Int64 → Int32 → Option Int64
  | 0, _, _ => none
  | n + 1, v4, v7 => (if (gI σ k45_6 2) ≤ v7 then k v4 else qF_digestOfImage_58 σ k45_6 v7 (fun x9 => qF_digestOfImage_45 σ k45_6 k n x9 (v7 + 1)) 8192 v4 (0 : Int32))
def qF_digestOfImage (σ : gS) (a1 : Int64) (a2 : Int32) : Option Int64 :=
  (qA_imageAt a2).bind (fun r1 => gim r1 (qF_digestOfImage_16 σ r1 (fun x4 => qF_digestOfImage_45 σ r1 (fun x10 => some x10) 8192 x4 (0 : Int32)) 8192 a1 (0 : Int32)))
def qF_digest_6 (σ : gS) (k : Int64 → Option Int64) : Nat → Int64 → Int32 → Option Int64
  | 0, _, _ => none
  | n + 1, v1, v3 => (if (9 : Int32) < v3 then k v1 else (qF_counted σ v3).bind (fun r2 => qF_digest_6 σ k n (qF_mixed v1 r2) (v3 + 1)))
def qF_digest_30 (σ : gS) (k : Int64 → Option Int64) : Nat → Int64 → Int32 → Option Int64
  | 0, _, _ => none
  | n + 1, v1, v3 => (if (9 : Int32) < v3 then k v1 else (qT_ofReason σ v3).bind (fun r5 => qF_digest_30 σ k n (qF_mixed v1 r5) (v3 + 1)))
def qF_digest_66 (σ : gS) (f66_3 : Int32) (k : Int64 → Option Int64) : Nat → Int64 → Int32 → Option Int64
  | 0, _, _ => none
  | n + 1, v1, v4 => (if (2 : Int32) < v4 then k v1 else (qS_registerProperty σ f66_3 v4).bind (fun r9 => qF_digest_66 σ f66_3 k n (qF_mixed v1 r9) (v4 + 1)))
def qF_digest_57 (σ : gS) (k : Int64 → Option Int64) : Nat → Int64 → Int32 → Option Int64
  | 0, _, _ => none
  | n + 1, v1, v3 => (if (6 : Int32) ≤ v3 then k v1 else qF_digest_66 σ v3 (fun x10 => qF_digest_57 σ k n x10 (v3 + 1)) 8192 v1 (0 : Int32))
def qF_digest_101 (σ : gS) (k : Int64 → Option Int64) : Nat → Int64 → Int32 → Option Int64
  | 0, _, _ => none
  | n + 1, v1, v3 => (if (gI σ 1 7) ≤ v3 then k v1 else (qF_digestOfBlock σ v1 v3).bind (fun r13 => qF_digest_101 σ k n r13 (v3 + 1)))
def qF_digest_127 (σ : gS) (k : Int64 → Option Int64) : Nat → Int64 → Int32 → Option Int64
  | 0, _, _ => none
  | n + 1, v1, v3 => (if (gI σ 1 8) ≤ v3 then k v1 else (qF_digestOfImage σ v1 v3).bind (fun r16 => qF_digest_127 σ k n r16 (v3 + 1)))
def qF_digest (σ : gS) : Option Int64 :=
  qF_digest_6 σ (fun x3 => qF_digest_30 σ (fun x6 => qF_digest_57 σ (fun x11 => qF_digest_101 σ (fun x14 => qF_digest_127 σ (fun x17 => some x17) 8192 x14 (0 : Int32)) 8192 x11 (0 : Int32)) 8192 x6 (0 : Int32)) 8192 x3 (1 : Int32)) 8192 (2010 : Int64) (0 : Int32)
def qM_in (a1 : Int32) (a2 : Int32) (a3 : Int32) : Int32 :=
  (if a1 < a2 then (0 : Int32) else (if a3 < a1 then (0 : Int32) else (1 : Int32)))
theorem b01_X8_in (a1 : Int32) (a2 : Int32) (a3 : Int32) : qM_in a1 a2 a3 = 0 ∨ qM_in a1 a2 a3 = 1 := by
  unfold qM_in
  (repeat' split) <;> first | exact Or.inl rfl | exact Or.inr rfl
def qM_bad (σ : gS) : Option (Int32 × gS) :=
  some ((-2 : Int32), (sM σ 4 0 ((gM σ 4 0) + (1 : Int32))))
def qM_copies_2 (k : gS → Option gS) : Nat → gS → Int32 → Option gS
  | 0, _, _ => none
  | n + 1, σ, v1 => (if (1219 : Int32) ≤ v1 then k σ else gob v1 1219 (qM_copies_2 k n (sM σ 2 v1.toNatClampNeg (gM σ 1 v1.toNatClampNeg)) (v1 + 1)))
def qM_copies (σ : gS) : Option gS :=
  qM_copies_2 (fun σ3 => some σ3) 8192 σ (0 : Int32)
def qM_remembers_51 (k : gS → Option gS) : Nat → gS → Int32 → Option gS
  | 0, _, _ => none
  | n + 1, σ, v1 => (if (1219 : Int32) ≤ v1 then k σ else gob v1 1219 (gob (((1219 : Int32) * (gI σ 0 3)) + v1) 6095 (qM_remembers_51 k n (sM σ 3 (((1219 : Int32) * (gI σ 0 3)) + v1).toNatClampNeg (gM σ 2 v1.toNatClampNeg)) (v1 + 1))))
def qM_remembers_10 (k : gS → Option gS) : Nat → gS → Int32 → Option gS
  | 0, _, _ => none
  | n + 1, σ, v1 => (if (4876 : Int32) ≤ v1 then k σ else gob (v1 + (1219 : Int32)) 6095 (gob v1 6095 (qM_remembers_10 k n (sM σ 3 v1.toNatClampNeg (gM σ 3 (v1 + (1219 : Int32)).toNatClampNeg)) (v1 + 1))))
def qM_remembers (σ : gS) : Option gS :=
  (if (gI σ 0 3) = (5 : Int32) then qM_remembers_10 (fun σ9 => qM_remembers_51 (fun σ10 => some (sI σ10 0 3 ((gI σ10 0 3) + (1 : Int32)))) 8192 (sI σ9 0 3 ((gI σ9 0 3) - (1 : Int32))) (0 : Int32)) 8192 σ (0 : Int32) else qM_remembers_51 (fun σ5 => some (sI σ5 0 3 ((gI σ5 0 3) + (1 : Int32)))) 8192 σ (0 : Int32))
def qM_back_32 (k : gS → Option (Int32 × gS)) : Nat → gS → Int32 → Option (Int32 × gS)
  | 0, _, _ => none
  | n + 1, σ, v1 => (if (1219 : Int32) ≤ v1 then k σ else gob (((1219 : Int32) * (gI σ 0 3)) + v1) 6095 (gob v1 1219 (qM_back_32 k n (sM σ 1 v1.toNatClampNeg (gM σ 3 (((1219 : Int32) * (gI σ 0 3)) + v1).toNatClampNeg)) (v1 + 1))))
def qM_back (σ : gS) : Option (Int32 × gS) :=
  (if (gI σ 0 3) = 0 then some ((-3 : Int32), (sM σ 4 1 ((gM σ 4 1) + (1 : Int32)))) else qM_back_32 (fun σ5 => some ((gI σ5 0 3), σ5)) 8192 (sI σ 0 3 ((gI σ 0 3) - (1 : Int32))) (0 : Int32))
def qM_counted (σ : gS) (a1 : Int32) : Option (Int32 × gS) :=
  (if a1 = (-2 : Int32) then some (a1, (sM σ 4 0 ((gM σ 4 0) + (1 : Int32)))) else (if a1 = (-4 : Int32) then some (a1, (sM σ 4 2 ((gM σ 4 2) + (1 : Int32)))) else (if (-10 : Int32) < a1 then some (a1, σ) else gob ((-10 : Int32) - a1) 10 (some (a1, (sM (sM σ 5 ((-10 : Int32) - a1).toNatClampNeg ((gM σ 5 ((-10 : Int32) - a1).toNatClampNeg) + (1 : Int32))) 5 0 ((gM (sM σ 5 ((-10 : Int32) - a1).toNatClampNeg ((gM σ 5 ((-10 : Int32) - a1).toNatClampNeg) + (1 : Int32))) 5 0) + (1 : Int32))))))))
def qM_piecePlace (a1 : Int32) : Int32 :=
  ((1 : Int32) + ((15 : Int32) * a1))
def qM_sizeOf (σ : gS) (a1 : Int32) : Option Int32 :=
  gob (qM_piecePlace a1) 1219 (some (gM σ 1 (qM_piecePlace a1).toNatClampNeg))
def qM_isLive (σ : gS) (a1 : Int32) : Option Int32 :=
  gob ((qM_piecePlace a1) + (1 : Int32)) 1219 ((if (gM σ 1 ((qM_piecePlace a1) + (1 : Int32)).toNatClampNeg) = (1 : Int32) then some (1 : Int32) else some (0 : Int32)))
def qM_isFrozen (σ : gS) (a1 : Int32) : Option Int32 :=
  gob ((qM_piecePlace a1) + (2 : Int32)) 1219 ((if (gM σ 1 ((qM_piecePlace a1) + (2 : Int32)).toNatClampNeg) = (1 : Int32) then some (1 : Int32) else some (0 : Int32)))
def qM_bytePlace (a1 : Int32) (a2 : Int32) : Int32 :=
  (((qM_piecePlace a1) + (3 : Int32)) + a2)
def qM_isRegister (a1 : Int32) : Int32 :=
  (qM_in a1 (0 : Int32) (5 : Int32))
theorem b01_X8_isRegister (a1 : Int32) : qM_isRegister a1 = 0 ∨ qM_isRegister a1 = 1 := by
  unfold qM_isRegister
  (repeat' split) <;> first | exact Or.inl rfl | exact Or.inr rfl | exact b01_X8_in _ _ _
def qM_kindOf (σ : gS) (a1 : Int32) : Option Int32 :=
  gob ((151 : Int32) + ((3 : Int32) * a1)) 1219 (some (gM σ 1 ((151 : Int32) + ((3 : Int32) * a1)).toNatClampNeg))
def qM_valueOf (σ : gS) (a1 : Int32) : Option Int32 :=
  gob (((151 : Int32) + ((3 : Int32) * a1)) + (1 : Int32)) 1219 (some (gM σ 1 (((151 : Int32) + ((3 : Int32) * a1)) + (1 : Int32)).toNatClampNeg))
def qM_placeOf (σ : gS) (a1 : Int32) : Option Int32 :=
  gob (((151 : Int32) + ((3 : Int32) * a1)) + (2 : Int32)) 1219 (some (gM σ 1 (((151 : Int32) + ((3 : Int32) * a1)) + (2 : Int32)).toNatClampNeg))
def qM_tells (σ : gS) (a1 : Int32) (a2 : Int32) (a3 : Int32) (a4 : Int32) : Option (Int32 × gS) :=
  gob ((151 : Int32) + ((3 : Int32) * a1)) 1219 (gob (((151 : Int32) + ((3 : Int32) * a1)) + (1 : Int32)) 1219 (gob (((151 : Int32) + ((3 : Int32) * a1)) + (2 : Int32)) 1219 (some (a2, (sM (sM (sM σ 1 ((151 : Int32) + ((3 : Int32) * a1)).toNatClampNeg a2) 1 (((151 : Int32) + ((3 : Int32) * a1)) + (1 : Int32)).toNatClampNeg a3) 1 (((151 : Int32) + ((3 : Int32) * a1)) + (2 : Int32)).toNatClampNeg a4)))))
def qM_undefinedAs (a1 : Int32) : Int32 :=
  ((-10 : Int32) - a1)
def qM_notGood (σ : gS) (a1 : Int32) : Option Int32 :=
  (qM_kindOf σ a1).bind (fun r1 => (if r1 = (2 : Int32) then (qM_valueOf σ a1).bind (fun r3 => (qM_isLive σ r3).bind (fun r4 => (if r4 = 0 then some (3 : Int32) else some (0 : Int32)))) else (qM_kindOf σ a1).bind (fun r6 => (if r6 = 0 then some (1 : Int32) else some (2 : Int32)))))
def qM_isWithin (σ : gS) (a1 : Int32) (a2 : Int32) : Option Int32 :=
  (qM_placeOf σ a1).bind (fun r1 => (qM_valueOf σ a1).bind (fun r2 => (qM_sizeOf σ r2).bind (fun r3 => (if r3 < (r1 + a2) then some (0 : Int32) else some (1 : Int32)))))
def qM_notGoodFor (σ : gS) (a1 : Int32) (a2 : Int32) : Option Int32 :=
  (qM_notGood σ a1).bind (fun r1 => (if r1 = 0 then (qM_isWithin σ a1 a2).bind (fun r3 => (if r3 = 0 then some (5 : Int32) else some r1)) else some r1))
def qM_notToWrite (σ : gS) (a1 : Int32) (a2 : Int32) : Option Int32 :=
  (qM_notGood σ a1).bind (fun r1 => (if r1 = 0 then (qM_valueOf σ a1).bind (fun r3 => (qM_isFrozen σ r3).bind (fun r4 => (if r4 = 0 then (qM_isWithin σ a1 a2).bind (fun r6 => (if r6 = 0 then some (5 : Int32) else some (0 : Int32))) else some (4 : Int32)))) else some r1))
def qM_cuts (σ : gS) (a1 : Int32) (a2 : Int32) (a3 : Int32) : Option gS :=
  gob (qM_bytePlace a1 a2) 1219 ((if (gM σ 1 (qM_bytePlace a1 a2).toNatClampNeg) = (999 : Int32) then gob (qM_bytePlace a1 (a2 - (1 : Int32))) 1219 (gob (qM_bytePlace a1 ((a2 + a3) - (1 : Int32))) 1219 ((if (gM (sM σ 1 (qM_bytePlace a1 (a2 - (1 : Int32))).toNatClampNeg (-1 : Int32)) 1 (qM_bytePlace a1 ((a2 + a3) - (1 : Int32))).toNatClampNeg) < (1000 : Int32) then some (sM σ 1 (qM_bytePlace a1 (a2 - (1 : Int32))).toNatClampNeg (-1 : Int32)) else gob (qM_bytePlace a1 (a2 + a3)) 1219 (some (sM (sM σ 1 (qM_bytePlace a1 (a2 - (1 : Int32))).toNatClampNeg (-1 : Int32)) 1 (qM_bytePlace a1 (a2 + a3)).toNatClampNeg (-1 : Int32)))))) else gob (qM_bytePlace a1 ((a2 + a3) - (1 : Int32))) 1219 ((if (gM σ 1 (qM_bytePlace a1 ((a2 + a3) - (1 : Int32))).toNatClampNeg) < (1000 : Int32) then some σ else gob (qM_bytePlace a1 (a2 + a3)) 1219 (some (sM σ 1 (qM_bytePlace a1 (a2 + a3)).toNatClampNeg (-1 : Int32)))))))
def qM_makes_78 (f78_1 : Int32) (f78_2 : Int32) (f78_3 : Int32) (f78_4 : Int32) (k : gS → Option (Int32 × gS)) : Nat → gS → Int32 → Option (Int32 × gS)
  | 0, _, _ => none
  | n + 1, σ, v5 => (if (12 : Int32) ≤ v5 then k σ else (if f78_2 ≤ v5 then gob ((f78_4 + (3 : Int32)) + v5) 1219 (qM_makes_78 f78_1 f78_2 f78_3 f78_4 k n (sM σ 1 ((f78_4 + (3 : Int32)) + v5).toNatClampNeg (0 : Int32)) (v5 + 1)) else gob ((f78_4 + (3 : Int32)) + v5) 1219 (qM_makes_78 f78_1 f78_2 f78_3 f78_4 k n (sM σ 1 ((f78_4 + (3 : Int32)) + v5).toNatClampNeg (-1 : Int32)) (v5 + 1))))
def qM_makes (σ : gS) (a1 : Int32) (a2 : Int32) : Option (Int32 × gS) :=
  (if (qM_isRegister a1) = 0 then some ((-2 : Int32), σ) else (if (qM_in a2 (1 : Int32) (12 : Int32)) = 0 then some ((-2 : Int32), σ) else (if (gM σ 1 0) = (10 : Int32) then some ((-4 : Int32), σ) else gob (qM_piecePlace (gM σ 1 0)) 1219 (gob ((qM_piecePlace (gM σ 1 0)) + (1 : Int32)) 1219 (gob ((qM_piecePlace (gM σ 1 0)) + (2 : Int32)) 1219 (qM_makes_78 a1 a2 (gM σ 1 0) (qM_piecePlace (gM σ 1 0)) (fun σ11 => (qM_tells (sM σ11 1 0 ((gM σ11 1 0) + (1 : Int32))) a1 (2 : Int32) (gM σ 1 0) (0 : Int32)).bind (fun r12 => (if r12.1 = (2 : Int32) then some ((gM σ 1 0), r12.2) else some ((-1 : Int32), r12.2)))) 8192 (sM (sM (sM σ 1 (qM_piecePlace (gM σ 1 0)).toNatClampNeg a2) 1 ((qM_piecePlace (gM σ 1 0)) + (1 : Int32)).toNatClampNeg (1 : Int32)) 1 ((qM_piecePlace (gM σ 1 0)) + (2 : Int32)).toNatClampNeg (0 : Int32)) (0 : Int32)))))))
def qM_ends (σ : gS) (a1 : Int32) : Option (Int32 × gS) :=
  (if (qM_isRegister a1) = 0 then some ((-2 : Int32), σ) else (qM_notGood σ a1).bind (fun r2 => (if r2 = 0 then (qM_placeOf σ a1).bind (fun r5 => (if r5 = 0 then (qM_valueOf σ a1).bind (fun r7 => (qM_isFrozen σ r7).bind (fun r8 => (if r8 = 0 then (qM_valueOf σ a1).bind (fun r11 => gob ((qM_piecePlace r11) + (1 : Int32)) 1219 ((qM_valueOf (sM σ 1 ((qM_piecePlace r11) + (1 : Int32)).toNatClampNeg (0 : Int32)) a1).bind (fun r13 => some (r13, (sM σ 1 ((qM_piecePlace r11) + (1 : Int32)).toNatClampNeg (0 : Int32)))))) else some ((qM_undefinedAs (4 : Int32)), σ)))) else some ((qM_undefinedAs (9 : Int32)), σ))) else some ((qM_undefinedAs r2), σ))))
def qM_setsTo (σ : gS) (a1 : Int32) (a2 : Int32) : Option (Int32 × gS) :=
  (if (qM_isRegister a1) = 0 then some ((-2 : Int32), σ) else (if (qM_in a2 (0 : Int32) (65535 : Int32)) = 0 then some ((-2 : Int32), σ) else (qM_tells σ a1 (1 : Int32) a2 (0 : Int32)).bind (fun r3 => some ((r3.1 * a2), r3.2))))
def qM_copiesTo (σ : gS) (a1 : Int32) (a2 : Int32) : Option (Int32 × gS) :=
  (if (qM_isRegister a1) = 0 then some ((-2 : Int32), σ) else (if (qM_isRegister a2) = 0 then some ((-2 : Int32), σ) else (qM_kindOf σ a2).bind (fun r3 => (qM_valueOf σ a2).bind (fun r4 => (qM_placeOf σ a2).bind (fun r5 => (qM_tells σ a1 r3 r4 r5).bind (fun r6 => some (r6.1, r6.2)))))))
def qM_movesBy (σ : gS) (a1 : Int32) (a2 : Int32) : Option (Int32 × gS) :=
  (if (qM_isRegister a1) = 0 then some ((-2 : Int32), σ) else (if (qM_in a2 (-12 : Int32) (12 : Int32)) = 0 then some ((-2 : Int32), σ) else (qM_kindOf σ a1).bind (fun r3 => (if r3 = 0 then some ((qM_undefinedAs (1 : Int32)), σ) else (qM_valueOf σ a1).bind (fun r5 => (qM_kindOf σ a1).bind (fun r6 => (if r6 = (1 : Int32) then (qM_tells σ a1 (1 : Int32) (((r5 + a2) + (65536 : Int32)) - ((r5 + a2) + (65536 : Int32)) / (65536 : Int32) * (65536 : Int32)) (0 : Int32)).bind (fun r19 => some ((r19.1 * (((r5 + a2) + (65536 : Int32)) - ((r5 + a2) + (65536 : Int32)) / (65536 : Int32) * (65536 : Int32))), r19.2)) else (qM_placeOf σ a1).bind (fun r8 => (qM_isLive σ r5).bind (fun r9 => (if r9 = 0 then (qM_isLive σ r5).bind (fun r11 => (if r11 = 0 then some ((qM_undefinedAs (3 : Int32)), σ) else some ((qM_undefinedAs (5 : Int32)), σ))) else (qM_sizeOf σ r5).bind (fun r13 => (if (qM_in (r8 + a2) (0 : Int32) r13) = 0 then (qM_isLive σ r5).bind (fun r17 => (if r17 = 0 then some ((qM_undefinedAs (3 : Int32)), σ) else some ((qM_undefinedAs (5 : Int32)), σ))) else (qM_tells σ a1 (2 : Int32) r5 (r8 + a2)).bind (fun r15 => (if r15.1 = (2 : Int32) then some ((r8 + a2), r15.2) else some ((-1 : Int32), r15.2)))))))))))))))
def qM_storesAt (σ : gS) (a1 : Int32) (a2 : Int32) (a3 : Int32) : Option (Int32 × gS) :=
  (if (qM_isRegister a1) = 0 then some ((-2 : Int32), σ) else (if (qM_isRegister a2) = 0 then some ((-2 : Int32), σ) else (if (qM_in a3 (1 : Int32) (2 : Int32)) = 0 then some ((-2 : Int32), σ) else (qM_notToWrite σ a1 a3).bind (fun r4 => (if r4 = 0 then (qM_kindOf σ a2).bind (fun r7 => (if r7 = 0 then some ((qM_undefinedAs (1 : Int32)), σ) else (qM_kindOf σ a2).bind (fun r9 => (if r9 = (2 : Int32) then (if a3 = (1 : Int32) then some ((qM_undefinedAs (7 : Int32)), σ) else (qM_valueOf σ a1).bind (fun r31 => (qM_placeOf σ a1).bind (fun r32 => (qM_valueOf σ a2).bind (fun r33 => (qM_cuts σ r31 r32 a3).bind (fun r34 => (qM_kindOf r34 a2).bind (fun r35 => (if r35 = (2 : Int32) then (qM_placeOf r34 a2).bind (fun r43 => gob (qM_bytePlace r31 r32) 1219 ((if a3 = (2 : Int32) then gob (qM_bytePlace r31 (r32 + (1 : Int32))) 1219 (some (r32, (sM (sM r34 1 (qM_bytePlace r31 r32).toNatClampNeg (((1000 : Int32) + ((100 : Int32) * r33)) + r43)) 1 (qM_bytePlace r31 (r32 + (1 : Int32))).toNatClampNeg (999 : Int32)))) else some (r32, (sM r34 1 (qM_bytePlace r31 r32).toNatClampNeg (((1000 : Int32) + ((100 : Int32) * r33)) + r43)))))) else gob (qM_bytePlace r31 r32) 1219 ((if a3 = (2 : Int32) then gob (qM_bytePlace r31 (r32 + (1 : Int32))) 1219 (some (r32, (sM (sM r34 1 (qM_bytePlace r31 r32).toNatClampNeg (r33 &&& (255 : Int32))) 1 (qM_bytePlace r31 (r32 + (1 : Int32))).toNatClampNeg (r33 >>> ((8 : Int32) &&& 31))))) else some (r32, (sM r34 1 (qM_bytePlace r31 r32).toNatClampNeg (r33 &&& (255 : Int32))))))))))))) else (qM_valueOf σ a1).bind (fun r12 => (qM_placeOf σ a1).bind (fun r13 => (qM_valueOf σ a2).bind (fun r14 => (qM_cuts σ r12 r13 a3).bind (fun r15 => (qM_kindOf r15 a2).bind (fun r16 => (if r16 = (2 : Int32) then (qM_placeOf r15 a2).bind (fun r24 => gob (qM_bytePlace r12 r13) 1219 ((if a3 = (2 : Int32) then gob (qM_bytePlace r12 (r13 + (1 : Int32))) 1219 (some (r13, (sM (sM r15 1 (qM_bytePlace r12 r13).toNatClampNeg (((1000 : Int32) + ((100 : Int32) * r14)) + r24)) 1 (qM_bytePlace r12 (r13 + (1 : Int32))).toNatClampNeg (999 : Int32)))) else some (r13, (sM r15 1 (qM_bytePlace r12 r13).toNatClampNeg (((1000 : Int32) + ((100 : Int32) * r14)) + r24)))))) else gob (qM_bytePlace r12 r13) 1219 ((if a3 = (2 : Int32) then gob (qM_bytePlace r12 (r13 + (1 : Int32))) 1219 (some (r13, (sM (sM r15 1 (qM_bytePlace r12 r13).toNatClampNeg (r14 &&& (255 : Int32))) 1 (qM_bytePlace r12 (r13 + (1 : Int32))).toNatClampNeg (r14 >>> ((8 : Int32) &&& 31))))) else some (r13, (sM r15 1 (qM_bytePlace r12 r13).toNatClampNeg (r14 &&& (255 : Int32)))))))))))))))) else some ((qM_undefinedAs r4), σ))))))
def qM_loadsFrom (σ : gS) (a1 : Int32) (a2 : Int32) (a3 : Int32) : Option (Int32 × gS) :=
  (if (qM_isRegister a1) = 0 then some ((-2 : Int32), σ) else (if (qM_isRegister a2) = 0 then some ((-2 : Int32), σ) else (if (qM_in a3 (1 : Int32) (2 : Int32)) = 0 then some ((-2 : Int32), σ) else (qM_notGoodFor σ a2 a3).bind (fun r4 => (if r4 = 0 then (qM_valueOf σ a2).bind (fun r6 => (qM_placeOf σ a2).bind (fun r7 => gob (qM_bytePlace r6 r7) 1219 ((if a3 = (2 : Int32) then (qM_valueOf σ a2).bind (fun r16 => (qM_placeOf σ a2).bind (fun r17 => gob (qM_bytePlace r16 (r17 + (1 : Int32))) 1219 ((if (gM σ 1 (qM_bytePlace r6 r7).toNatClampNeg) < (1000 : Int32) then (if (999 : Int32) ≤ (gM σ 1 (qM_bytePlace r6 r7).toNatClampNeg) then some ((qM_undefinedAs (6 : Int32)), σ) else (if (gM σ 1 (qM_bytePlace r16 (r17 + (1 : Int32))).toNatClampNeg) < (999 : Int32) then (if (gM σ 1 (qM_bytePlace r6 r7).toNatClampNeg) = (-1 : Int32) then some ((qM_undefinedAs (1 : Int32)), σ) else (if (gM σ 1 (qM_bytePlace r16 (r17 + (1 : Int32))).toNatClampNeg) = (-1 : Int32) then some ((qM_undefinedAs (1 : Int32)), σ) else (qM_tells σ a1 (1 : Int32) ((gM σ 1 (qM_bytePlace r6 r7).toNatClampNeg) + ((256 : Int32) * (gM σ 1 (qM_bytePlace r16 (r17 + (1 : Int32))).toNatClampNeg))) (0 : Int32)).bind (fun r25 => some (r25.1, r25.2)))) else some ((qM_undefinedAs (6 : Int32)), σ))) else (qM_tells σ a1 (2 : Int32) (((gM σ 1 (qM_bytePlace r6 r7).toNatClampNeg) - (1000 : Int32)) / (100 : Int32)) (((gM σ 1 (qM_bytePlace r6 r7).toNatClampNeg) - (1000 : Int32)) - ((gM σ 1 (qM_bytePlace r6 r7).toNatClampNeg) - (1000 : Int32)) / (100 : Int32) * (100 : Int32))).bind (fun r26 => some (r26.1, r26.2)))))) else (if (999 : Int32) ≤ (gM σ 1 (qM_bytePlace r6 r7).toNatClampNeg) then some ((qM_undefinedAs (6 : Int32)), σ) else (if (gM σ 1 (qM_bytePlace r6 r7).toNatClampNeg) = (-1 : Int32) then some ((qM_undefinedAs (1 : Int32)), σ) else (qM_tells σ a1 (1 : Int32) ((gM σ 1 (qM_bytePlace r6 r7).toNatClampNeg) + ((256 : Int32) * (0 : Int32))) (0 : Int32)).bind (fun r15 => some (r15.1, r15.2)))))))) else some ((qM_undefinedAs r4), σ))))))
def qM_comparesTo (σ : gS) (a1 : Int32) (a2 : Int32) : Option Int32 :=
  (if (qM_isRegister a1) = 0 then some (-2 : Int32) else (if (qM_isRegister a2) = 0 then some (-2 : Int32) else (qM_kindOf σ a1).bind (fun r3 => (if r3 = 0 then some (qM_undefinedAs (1 : Int32)) else (qM_kindOf σ a2).bind (fun r5 => (if r5 = 0 then some (qM_undefinedAs (1 : Int32)) else (qM_kindOf σ a1).bind (fun r7 => (qM_kindOf σ a2).bind (fun r8 => (if r7 = r8 then (qM_kindOf σ a1).bind (fun r10 => (if r10 = (2 : Int32) then (qM_valueOf σ a1).bind (fun r20 => (qM_valueOf σ a2).bind (fun r21 => (if r20 = r21 then (qM_placeOf σ a1).bind (fun r24 => (qM_placeOf σ a2).bind (fun r26 => (if r26 ≤ r24 then (if r24 = r26 then some (1 : Int32) else some (2 : Int32)) else some (0 : Int32)))) else some (qM_undefinedAs (8 : Int32))))) else (qM_valueOf σ a1).bind (fun r14 => (qM_valueOf σ a2).bind (fun r16 => (if r16 ≤ r14 then (if r14 = r16 then some (1 : Int32) else some (2 : Int32)) else some (0 : Int32)))))) else some (qM_undefinedAs (7 : Int32)))))))))))
def qM_blits_62 (f62_1 : Int32) (f62_2 : Int32) (f62_3 : Int32) (k : gS → Option (Int32 × gS)) : Nat → gS → Int32 → Option (Int32 × gS)
  | 0, _, _ => none
  | n + 1, σ, v5 => (if f62_3 ≤ v5 then k σ else (qM_valueOf σ f62_2).bind (fun r10 => (qM_placeOf σ f62_2).bind (fun r11 => gob (qM_bytePlace r10 (r11 + v5)) 1219 (gob v5 12 (qM_blits_62 f62_1 f62_2 f62_3 k n (sM σ 7 v5.toNatClampNeg (gM σ 1 (qM_bytePlace r10 (r11 + v5)).toNatClampNeg)) (v5 + 1))))))
def qM_blits_152 (f152_1 : Int32) (f152_3 : Int32) (k : gS → Option (Int32 × gS)) : Nat → gS → Int32 → Option (Int32 × gS)
  | 0, _, _ => none
  | n + 1, σ, v5 => (if f152_3 ≤ v5 then k σ else (qM_valueOf σ f152_1).bind (fun r22 => (qM_placeOf σ f152_1).bind (fun r23 => gob v5 12 (gob (qM_bytePlace r22 (r23 + v5)) 1219 (qM_blits_152 f152_1 f152_3 k n (sM σ 1 (qM_bytePlace r22 (r23 + v5)).toNatClampNeg (gM σ 7 v5.toNatClampNeg)) (v5 + 1))))))
def qM_blits (σ : gS) (a1 : Int32) (a2 : Int32) (a3 : Int32) : Option (Int32 × gS) :=
  (if (qM_isRegister a1) = 0 then some ((-2 : Int32), σ) else (if (qM_isRegister a2) = 0 then some ((-2 : Int32), σ) else (if (qM_in a3 (1 : Int32) (12 : Int32)) = 0 then some ((-2 : Int32), σ) else (qM_notToWrite σ a1 a3).bind (fun r4 => (if r4 = 0 then (qM_notGoodFor σ a2 a3).bind (fun r7 => (if r7 = 0 then qM_blits_62 a1 a2 a3 (fun σ14 => (if (gM σ14 7 0) = (999 : Int32) then some ((qM_undefinedAs (6 : Int32)), σ14) else gob (a3 - (1 : Int32)) 12 ((if (gM σ14 7 (a3 - (1 : Int32)).toNatClampNeg) < (1000 : Int32) then (qM_valueOf σ14 a1).bind (fun r18 => (qM_placeOf σ14 a1).bind (fun r19 => (qM_cuts σ14 r18 r19 a3).bind (fun r20 => qM_blits_152 a1 a3 (fun σ26 => some (a3, σ26)) 8192 r20 (0 : Int32)))) else some ((qM_undefinedAs (6 : Int32)), σ14))))) 8192 σ (0 : Int32) else some ((qM_undefinedAs r7), σ))) else some ((qM_undefinedAs r4), σ))))))
def qM_nodeOf_4 (σ : gS) (f4_1 : Int32) (k : Int32 → Option Int32) : Nat → Int32 → Int32 → Option Int32
  | 0, _, _ => none
  | n + 1, v2, v3 => (if (gI σ 0 10) ≤ v3 then k v2 else gob v3 10 ((if (gM σ 8 v3.toNatClampNeg) = f4_1 then qM_nodeOf_4 σ f4_1 k n v3 (v3 + 1) else qM_nodeOf_4 σ f4_1 k n v2 (v3 + 1))))
def qM_nodeOf (σ : gS) (a1 : Int32) : Option Int32 :=
  qM_nodeOf_4 σ a1 (fun x4 => some x4) 8192 (-1 : Int32) (0 : Int32)
def qM_reaches_24 (f24_2 : Int32) (k : gS → Option gS) : Nat → gS → Int32 → Option gS
  | 0, _, _ => none
  | n + 1, σ, v3 => gob f24_2 10 ((qM_sizeOf σ (gM σ 8 f24_2.toNatClampNeg)).bind (fun r3 => (if r3 ≤ v3 then k σ else gob (qM_bytePlace (gM σ 8 f24_2.toNatClampNeg) v3) 1219 ((if (gM σ 1 (qM_bytePlace (gM σ 8 f24_2.toNatClampNeg) v3).toNatClampNeg) < (1000 : Int32) then qM_reaches_24 f24_2 k n σ (v3 + 1) else (if (((gM σ 1 (qM_bytePlace (gM σ 8 f24_2.toNatClampNeg) v3).toNatClampNeg) - (1000 : Int32)) / (100 : Int32)) = (-1 : Int32) then qM_reaches_24 f24_2 k n σ (v3 + 1) else (qM_nodeOf σ (((gM σ 1 (qM_bytePlace (gM σ 8 f24_2.toNatClampNeg) v3).toNatClampNeg) - (1000 : Int32)) / (100 : Int32))).bind (fun r9 => (if r9 = (-1 : Int32) then gob (gI σ 0 10) 10 (qM_reaches_24 f24_2 k n (sI (sM σ 8 (gI σ 0 10).toNatClampNeg (((gM σ 1 (qM_bytePlace (gM σ 8 f24_2.toNatClampNeg) v3).toNatClampNeg) - (1000 : Int32)) / (100 : Int32))) 0 10 ((gI (sM σ 8 (gI σ 0 10).toNatClampNeg (((gM σ 1 (qM_bytePlace (gM σ 8 f24_2.toNatClampNeg) v3).toNatClampNeg) - (1000 : Int32)) / (100 : Int32))) 0 10) + (1 : Int32))) (v3 + 1)) else qM_reaches_24 f24_2 k n σ (v3 + 1)))))))))
def qM_reaches_14 (k : gS → Option gS) : Nat → gS → Int32 → Option gS
  | 0, _, _ => none
  | n + 1, σ, v2 => (if (gI σ 0 10) ≤ v2 then k σ else qM_reaches_24 v2 (fun σ12 => qM_reaches_14 k n σ12 (v2 + 1)) 8192 σ (0 : Int32))
def qM_reaches (σ : gS) (a1 : Int32) : Option gS :=
  qM_reaches_14 (fun σ13 => some σ13) 8192 (sI (sM σ 8 0 a1) 0 10 (1 : Int32)) (0 : Int32)
def qM_allLive_4 (σ : gS) (k : Int32 → Option Int32) : Nat → Int32 → Int32 → Option Int32
  | 0, _, _ => none
  | n + 1, v1, v2 => (if (gI σ 0 10) ≤ v2 then k v1 else (if v1 = 0 then qM_allLive_4 σ k n (0 : Int32) (v2 + 1) else gob v2 10 ((qM_isLive σ (gM σ 8 v2.toNatClampNeg)).bind (fun r4 => (if r4 = 0 then qM_allLive_4 σ k n (0 : Int32) (v2 + 1) else qM_allLive_4 σ k n (1 : Int32) (v2 + 1))))))
def qM_allLive (σ : gS) : Option Int32 :=
  qM_allLive_4 σ (fun x6 => gbo x6 (some x6)) 8192 (1 : Int32) (0 : Int32)
def qM_laysImage_2 (k : gS → Option gS) : Nat → gS → Int32 → Option gS
  | 0, _, _ => none
  | n + 1, σ, v1 => (if (131 : Int32) ≤ v1 then k σ else gob v1 131 (qM_laysImage_2 k n (sM σ 9 v1.toNatClampNeg (0 : Int32)) (v1 + 1)))
def qM_laysImage_62 (f62_1 : Int32) (k : gS → Option gS) : Nat → gS → Int32 → Option gS
  | 0, _, _ => none
  | n + 1, σ, v2 => gob ((1 : Int32) + f62_1) 131 ((if (gM σ 9 ((1 : Int32) + f62_1).toNatClampNeg) ≤ v2 then k σ else gob f62_1 10 (gob (qM_bytePlace (gM σ 8 f62_1.toNatClampNeg) v2) 1219 ((if (gM σ 1 (qM_bytePlace (gM σ 8 f62_1.toNatClampNeg) v2).toNatClampNeg) < (1000 : Int32) then gob (((11 : Int32) + ((12 : Int32) * f62_1)) + v2) 131 (qM_laysImage_62 f62_1 k n (sM σ 9 (((11 : Int32) + ((12 : Int32) * f62_1)) + v2).toNatClampNeg (gM σ 1 (qM_bytePlace (gM σ 8 f62_1.toNatClampNeg) v2).toNatClampNeg)) (v2 + 1)) else (qM_nodeOf σ (((gM σ 1 (qM_bytePlace (gM σ 8 f62_1.toNatClampNeg) v2).toNatClampNeg) - (1000 : Int32)) / (100 : Int32))).bind (fun r14 => gob (((11 : Int32) + ((12 : Int32) * f62_1)) + v2) 131 (qM_laysImage_62 f62_1 k n (sM σ 9 (((11 : Int32) + ((12 : Int32) * f62_1)) + v2).toNatClampNeg (((1000 : Int32) + ((100 : Int32) * r14)) + (((gM σ 1 (qM_bytePlace (gM σ 8 f62_1.toNatClampNeg) v2).toNatClampNeg) - (1000 : Int32)) - ((gM σ 1 (qM_bytePlace (gM σ 8 f62_1.toNatClampNeg) v2).toNatClampNeg) - (1000 : Int32)) / (100 : Int32) * (100 : Int32)))) (v2 + 1))))))))
def qM_laysImage_34 (k : gS → Option gS) : Nat → gS → Int32 → Option gS
  | 0, _, _ => none
  | n + 1, σ, v1 => (if (gI σ 0 10) ≤ v1 then k σ else gob v1 10 ((qM_sizeOf σ (gM σ 8 v1.toNatClampNeg)).bind (fun r6 => gob ((1 : Int32) + v1) 131 (qM_laysImage_62 v1 (fun σ16 => qM_laysImage_34 k n σ16 (v1 + 1)) 8192 (sM σ 9 ((1 : Int32) + v1).toNatClampNeg r6) (0 : Int32)))))
def qM_laysImage (σ : gS) : Option gS :=
  qM_laysImage_2 (fun σ3 => qM_laysImage_34 (fun σ17 => some σ17) 8192 (sM σ3 9 0 (gI σ3 0 10)) (0 : Int32)) 8192 σ (0 : Int32)
def qM_imageLaid_18 (σ : gS) (f18_1 : Int32) (k : Int32 → Option Int32) : Nat → Int32 → Int32 → Option Int32
  | 0, _, _ => none
  | n + 1, v2, v3 => (if (131 : Int32) ≤ v3 then k v2 else (if v2 = 0 then k v2 else gob (((171 : Int32) + ((131 : Int32) * f18_1)) + v3) 1219 (gob v3 131 ((if (gM σ 1 (((171 : Int32) + ((131 : Int32) * f18_1)) + v3).toNatClampNeg) = (gM σ 9 v3.toNatClampNeg) then qM_imageLaid_18 σ f18_1 k n (1 : Int32) (v3 + 1) else qM_imageLaid_18 σ f18_1 k n (0 : Int32) (v3 + 1))))))
def qM_imageLaid_2 (σ : gS) (k : Unit → Option Int32) : Nat → Int32 → Option Int32
  | 0, _ => none
  | n + 1, v1 => (if (gM σ 1 170) ≤ v1 then k () else qM_imageLaid_18 σ v1 (fun x7 => (if x7 = 0 then qM_imageLaid_2 σ k n (v1 + 1) else some v1)) 8192 (1 : Int32) (0 : Int32))
def qM_imageLaid (σ : gS) : Option Int32 :=
  qM_imageLaid_2 σ (fun _ => some (-1 : Int32)) 8192 (0 : Int32)
def qM_freezes_154 (f154_3 : Int32) (k : gS → Option (Int32 × gS)) : Nat → gS → Int32 → Option (Int32 × gS)
  | 0, _, _ => none
  | n + 1, σ, v4 => (if (gI σ 0 10) ≤ v4 then k σ else gob v4 10 (gob ((qM_piecePlace (gM σ 8 v4.toNatClampNeg)) + (2 : Int32)) 1219 (qM_freezes_154 f154_3 k n (sM σ 1 ((qM_piecePlace (gM σ 8 v4.toNatClampNeg)) + (2 : Int32)).toNatClampNeg (1 : Int32)) (v4 + 1))))
def qM_freezes_101 (f101_3 : Int32) (k : gS → Option (Int32 × gS)) : Nat → gS → Int32 → Option (Int32 × gS)
  | 0, _, _ => none
  | n + 1, σ, v4 => (if (131 : Int32) ≤ v4 then k σ else gob v4 131 (gob (((171 : Int32) + ((131 : Int32) * f101_3)) + v4) 1219 (qM_freezes_101 f101_3 k n (sM σ 1 (((171 : Int32) + ((131 : Int32) * f101_3)) + v4).toNatClampNeg (gM σ 9 v4.toNatClampNeg)) (v4 + 1))))
def qM_freezes (σ : gS) (a1 : Int32) : Option (Int32 × gS) :=
  (if (qM_isRegister a1) = 0 then some ((-2 : Int32), σ) else (qM_notGood σ a1).bind (fun r2 => (if r2 = 0 then (qM_placeOf σ a1).bind (fun r6 => (if r6 = 0 then (qM_valueOf σ a1).bind (fun r9 => (qM_reaches σ r9).bind (fun r10 => (qM_allLive r10).bind (fun r11 => (if r11 = 0 then some ((qM_undefinedAs (3 : Int32)), r10) else (qM_laysImage r10).bind (fun r15 => (qM_imageLaid r15).bind (fun r16 => (if r16 = (-1 : Int32) then (if (gM r15 1 170) = (8 : Int32) then some ((-4 : Int32), r15) else qM_freezes_101 (gM r15 1 170) (fun σ26 => qM_freezes_154 (gM r15 1 170) (fun σ27 => some ((gM r15 1 170), σ27)) 8192 (sM σ26 1 170 ((gM σ26 1 170) + (1 : Int32))) (0 : Int32)) 8192 r15 (0 : Int32)) else qM_freezes_154 r16 (fun σ21 => some (r16, σ21)) 8192 r15 (0 : Int32)))))))) else some ((qM_undefinedAs (9 : Int32)), σ))) else some ((qM_undefinedAs r2), σ))))
def qM_acts (σ : gS) (a1 : Int32) (a2 : Int32) (a3 : Int32) (a4 : Int32) : Option (Int32 × gS) :=
  (if a1 = (98 : Int32) then (qM_blits σ a2 a3 a4).bind (fun r1 => some (r1.1, r1.2)) else if a1 = (99 : Int32) then (qM_copiesTo σ a2 a3).bind (fun r2 => some (r2.1, r2.2)) else if a1 = (101 : Int32) then (qM_ends σ a2).bind (fun r3 => some (r3.1, r3.2)) else if a1 = (108 : Int32) then (qM_loadsFrom σ a2 a3 a4).bind (fun r4 => some (r4.1, r4.2)) else if a1 = (109 : Int32) then (qM_makes σ a2 a3).bind (fun r5 => some (r5.1, r5.2)) else if a1 = (115 : Int32) then (qM_setsTo σ a2 a3).bind (fun r6 => some (r6.1, r6.2)) else if a1 = (118 : Int32) then (qM_movesBy σ a2 a3).bind (fun r7 => some (r7.1, r7.2)) else if a1 = (119 : Int32) then (qM_storesAt σ a2 a3 a4).bind (fun r8 => some (r8.1, r8.2)) else (qM_freezes σ a2).bind (fun r9 => some (r9.1, r9.2)))
def qM_calls (σ : gS) (a1 : Int32) (a2 : Int32) (a3 : Int32) (a4 : Int32) : Option (Int32 × gS) :=
  (qM_copies σ).bind (fun r1 => (qM_acts r1 a1 a2 a3 a4).bind (fun r2 => (if r2.1 < 0 then (qM_counted r2.2 r2.1).bind (fun r4 => some (r4.1, r4.2)) else (qM_remembers r2.2).bind (fun r5 => (qM_counted r5 r2.1).bind (fun r6 => some (r6.1, r6.2))))))
def qM_make (σ : gS) (a1 : Int32) (a2 : Int32) : Option (Int32 × gS) :=
  (qM_calls σ (109 : Int32) a1 a2 (0 : Int32)).bind (fun r1 => some (r1.1, r1.2))
def qM_end (σ : gS) (a1 : Int32) : Option (Int32 × gS) :=
  (qM_calls σ (101 : Int32) a1 (0 : Int32) (0 : Int32)).bind (fun r1 => some (r1.1, r1.2))
def qM_set (σ : gS) (a1 : Int32) (a2 : Int32) : Option (Int32 × gS) :=
  (qM_calls σ (115 : Int32) a1 a2 (0 : Int32)).bind (fun r1 => some (r1.1, r1.2))
def qM_copy (σ : gS) (a1 : Int32) (a2 : Int32) : Option (Int32 × gS) :=
  (qM_calls σ (99 : Int32) a1 a2 (0 : Int32)).bind (fun r1 => some (r1.1, r1.2))
def qM_move (σ : gS) (a1 : Int32) (a2 : Int32) : Option (Int32 × gS) :=
  (qM_calls σ (118 : Int32) a1 a2 (0 : Int32)).bind (fun r1 => some (r1.1, r1.2))
def qM_store (σ : gS) (a1 : Int32) (a2 : Int32) (a3 : Int32) : Option (Int32 × gS) :=
  (qM_calls σ (119 : Int32) a1 a2 a3).bind (fun r1 => some (r1.1, r1.2))
def qM_load (σ : gS) (a1 : Int32) (a2 : Int32) (a3 : Int32) : Option (Int32 × gS) :=
  (qM_calls σ (108 : Int32) a1 a2 a3).bind (fun r1 => some (r1.1, r1.2))
def qM_compare (σ : gS) (a1 : Int32) (a2 : Int32) : Option (Int32 × gS) :=
  (qM_comparesTo σ a1 a2).bind (fun r1 => (qM_counted σ r1).bind (fun r2 => some (r2.1, r2.2)))
def qM_blit (σ : gS) (a1 : Int32) (a2 : Int32) (a3 : Int32) : Option (Int32 × gS) :=
  (qM_calls σ (98 : Int32) a1 a2 a3).bind (fun r1 => some (r1.1, r1.2))
def qM_freeze (σ : gS) (a1 : Int32) : Option (Int32 × gS) :=
  (qM_calls σ (122 : Int32) a1 (0 : Int32) (0 : Int32)).bind (fun r1 => some (r1.1, r1.2))
def qM_forget (σ : gS) (a1 : Int32) : Option (Int32 × gS) :=
  (if (qM_isRegister a1) = 0 then (qM_bad σ).bind (fun r6 => some (r6.1, r6.2)) else (qM_copies σ).bind (fun r2 => (qM_remembers r2).bind (fun r3 => (qM_kindOf r3 a1).bind (fun r4 => (qM_tells r3 a1 (0 : Int32) (0 : Int32) (0 : Int32)).bind (fun r5 => some (r4, r5.2))))))
def qM_budget (σ : gS) (a1 : Int32) : Option (Int32 × gS) :=
  (if (qM_in a1 (1 : Int32) (60 : Int32)) = 0 then (qM_bad σ).bind (fun r4 => some (r4.1, r4.2)) else (qM_copies σ).bind (fun r2 => (qM_remembers r2).bind (fun r3 => some ((gM r3 1 169), (sM r3 1 169 a1)))))
def qM_ofRegister (σ : gS) (a1 : Int32) (a2 : Int32) : Option Int32 :=
  (if a2 = 0 then (qM_kindOf σ a1).bind (fun r9 => some r9) else (if a2 = (1 : Int32) then (qM_kindOf σ a1).bind (fun r6 => (if r6 = 0 then some (-1 : Int32) else (qM_valueOf σ a1).bind (fun r8 => some r8))) else (qM_kindOf σ a1).bind (fun r3 => (if r3 = (2 : Int32) then (qM_placeOf σ a1).bind (fun r5 => some r5) else some (-1 : Int32)))))
def qM_register (σ : gS) (a1 : Int32) (a2 : Int32) : Option (Int32 × gS) :=
  (if (qM_isRegister a1) = 0 then (qM_bad σ).bind (fun r2 => some (r2.1, r2.2)) else (if (qM_in a2 (0 : Int32) (2 : Int32)) = 0 then (qM_bad σ).bind (fun r4 => some (r4.1, r4.2)) else (qM_ofRegister σ a1 a2).bind (fun r5 => some (r5, σ))))
def qM_isPiece (σ : gS) (a1 : Int32) : Int32 :=
  (qM_in a1 (0 : Int32) ((gM σ 1 0) - (1 : Int32)))
theorem b01_X8_isPiece (σ : gS) (a1 : Int32) : qM_isPiece σ a1 = 0 ∨ qM_isPiece σ a1 = 1 := by
  unfold qM_isPiece
  (repeat' split) <;> first | exact Or.inl rfl | exact Or.inr rfl | exact b01_X8_in _ _ _
def qM_bytesOf_5 (σ : gS) (f5_1 : Int32) (f5_2 : Int32) (k : Int32 → Option Int32) : Nat → Int32 → Int32 → Option Int32
  | 0, _, _ => none
  | n + 1, v3, v4 => (qM_sizeOf σ f5_1).bind (fun r1 => (if r1 ≤ v4 then k v3 else gob (qM_bytePlace f5_1 v4) 1219 ((if f5_2 = 0 then (if (gM σ 1 (qM_bytePlace f5_1 v4).toNatClampNeg) = (-1 : Int32) then qM_bytesOf_5 σ f5_1 f5_2 k n (v3 + (1 : Int32)) (v4 + 1) else qM_bytesOf_5 σ f5_1 f5_2 k n (v3 + (0 : Int32)) (v4 + 1)) else (if (gM σ 1 (qM_bytePlace f5_1 v4).toNatClampNeg) < (1000 : Int32) then qM_bytesOf_5 σ f5_1 f5_2 k n (v3 + (0 : Int32)) (v4 + 1) else qM_bytesOf_5 σ f5_1 f5_2 k n (v3 + (1 : Int32)) (v4 + 1))))))
def qM_bytesOf (σ : gS) (a1 : Int32) (a2 : Int32) : Option Int32 :=
  qM_bytesOf_5 σ a1 a2 (fun x7 => some x7) 8192 (0 : Int32) (0 : Int32)
def qM_reachedOf (σ : gS) (a1 : Int32) : Option (Int32 × gS) :=
  (qM_reaches σ a1).bind (fun r1 => some ((gI r1 0 10), r1))
def qM_ofPiece (σ : gS) (a1 : Int32) (a2 : Int32) : Option (Int32 × gS) :=
  (if a2 = (3 : Int32) then (qM_bytesOf σ a1 (0 : Int32)).bind (fun r1 => some (r1, σ)) else if a2 = (4 : Int32) then (qM_bytesOf σ a1 (1 : Int32)).bind (fun r2 => some (r2, σ)) else if a2 = (5 : Int32) then (qM_reachedOf σ a1).bind (fun r3 => some (r3.1, r3.2)) else gob ((qM_piecePlace a1) + a2) 1219 (some ((gM σ 1 ((qM_piecePlace a1) + a2).toNatClampNeg), σ)))
def qM_piece (σ : gS) (a1 : Int32) (a2 : Int32) : Option (Int32 × gS) :=
  (if (qM_isPiece σ a1) = 0 then (qM_bad σ).bind (fun r2 => some (r2.1, r2.2)) else (if (qM_in a2 (0 : Int32) (5 : Int32)) = 0 then (qM_bad σ).bind (fun r4 => some (r4.1, r4.2)) else (qM_ofPiece σ a1 a2).bind (fun r5 => some (r5.1, r5.2))))
def qM_at (σ : gS) (a1 : Int32) (a2 : Int32) : Option (Int32 × gS) :=
  (if (qM_isPiece σ a1) = 0 then (qM_bad σ).bind (fun r2 => some (r2.1, r2.2)) else (qM_sizeOf σ a1).bind (fun r3 => (if (qM_in a2 (0 : Int32) (r3 - (1 : Int32))) = 0 then (qM_bad σ).bind (fun r5 => some (r5.1, r5.2)) else gob (qM_bytePlace a1 a2) 1219 (some ((gM σ 1 (qM_bytePlace a1 a2).toNatClampNeg), σ)))))
def qM_isImage (σ : gS) (a1 : Int32) : Int32 :=
  (qM_in a1 (0 : Int32) ((gM σ 1 170) - (1 : Int32)))
theorem b01_X8_isImage (σ : gS) (a1 : Int32) : qM_isImage σ a1 = 0 ∨ qM_isImage σ a1 = 1 := by
  unfold qM_isImage
  (repeat' split) <;> first | exact Or.inl rfl | exact Or.inr rfl | exact b01_X8_in _ _ _
def qM_ofImage_49 (σ : gS) (f49_2 : Int32) (f49_3 : Int32) (f49_4 : Int32) (f49_6 : Int32) (k : Int32 → Option Int32) : Nat → Int32 → Int32 → Option Int32
  | 0, _, _ => none
  | n + 1, v5, v7 => gob ((f49_3 + (1 : Int32)) + f49_6) 1219 ((if (gM σ 1 ((f49_3 + (1 : Int32)) + f49_6).toNatClampNeg) ≤ v7 then k v5 else gob (((f49_3 + (11 : Int32)) + ((12 : Int32) * f49_6)) + v7) 1219 ((if (gM σ 1 (((f49_3 + (11 : Int32)) + ((12 : Int32) * f49_6)) + v7).toNatClampNeg) < (1000 : Int32) then qM_ofImage_49 σ f49_2 f49_3 f49_4 f49_6 k n (v5 + (0 : Int32)) (v7 + 1) else qM_ofImage_49 σ f49_2 f49_3 f49_4 f49_6 k n (v5 + (1 : Int32)) (v7 + 1)))))
def qM_ofImage_19 (σ : gS) (f19_2 : Int32) (f19_3 : Int32) (k : Int32 → Int32 → Option Int32) : Nat → Int32 → Int32 → Int32 → Option Int32
  | 0, _, _, _ => none
  | n + 1, v4, v5, v6 => gob f19_3 1219 ((if (gM σ 1 f19_3.toNatClampNeg) ≤ v6 then k v4 v5 else gob ((f19_3 + (1 : Int32)) + v6) 1219 (qM_ofImage_49 σ f19_2 f19_3 (v4 + (gM σ 1 ((f19_3 + (1 : Int32)) + v6).toNatClampNeg)) v6 (fun x8 => qM_ofImage_19 σ f19_2 f19_3 k n (v4 + (gM σ 1 ((f19_3 + (1 : Int32)) + v6).toNatClampNeg)) x8 (v6 + 1)) 8192 v5 (0 : Int32))))
def qM_ofImage (σ : gS) (a1 : Int32) (a2 : Int32) : Option Int32 :=
  qM_ofImage_19 σ a2 ((171 : Int32) + ((131 : Int32) * a1)) (fun x9 x10 => (if a2 = 0 then gob ((171 : Int32) + ((131 : Int32) * a1)) 1219 (some (gM σ 1 ((171 : Int32) + ((131 : Int32) * a1)).toNatClampNeg)) else (if a2 = (1 : Int32) then some x9 else some x10))) 8192 (0 : Int32) (0 : Int32) (0 : Int32)
def qM_image (σ : gS) (a1 : Int32) (a2 : Int32) : Option (Int32 × gS) :=
  (if (qM_isImage σ a1) = 0 then (qM_bad σ).bind (fun r2 => some (r2.1, r2.2)) else (if (qM_in a2 (0 : Int32) (2 : Int32)) = 0 then (qM_bad σ).bind (fun r4 => some (r4.1, r4.2)) else (qM_ofImage σ a1 a2).bind (fun r5 => some (r5, σ))))
def qM_imaged (σ : gS) (a1 : Int32) (a2 : Int32) (a3 : Int32) : Option (Int32 × gS) :=
  (if (qM_isImage σ a1) = 0 then (qM_bad σ).bind (fun r2 => some (r2.1, r2.2)) else (if a3 < 0 then (qM_bad σ).bind (fun r4 => some (r4.1, r4.2)) else gob ((171 : Int32) + ((131 : Int32) * a1)) 1219 ((if (qM_in a2 (0 : Int32) ((gM σ 1 ((171 : Int32) + ((131 : Int32) * a1)).toNatClampNeg) - (1 : Int32))) = 0 then (qM_bad σ).bind (fun r10 => some (r10.1, r10.2)) else gob ((((171 : Int32) + ((131 : Int32) * a1)) + (1 : Int32)) + a2) 1219 ((if (gM σ 1 ((((171 : Int32) + ((131 : Int32) * a1)) + (1 : Int32)) + a2).toNatClampNeg) ≤ a3 then some ((-5 : Int32), σ) else gob (((((171 : Int32) + ((131 : Int32) * a1)) + (11 : Int32)) + ((12 : Int32) * a2)) + a3) 1219 (some ((gM σ 1 (((((171 : Int32) + ((131 : Int32) * a1)) + (11 : Int32)) + ((12 : Int32) * a2)) + a3).toNatClampNeg), σ))))))))
def qM_like (σ : gS) (a1 : Int32) : Option (Int32 × gS) :=
  (if (qM_isPiece σ a1) = 0 then (qM_bad σ).bind (fun r7 => some (r7.1, r7.2)) else (qM_reaches σ a1).bind (fun r2 => (qM_allLive r2).bind (fun r3 => (if r3 = 0 then some ((-3 : Int32), (sM r2 4 1 ((gM r2 4 1) + (1 : Int32)))) else (qM_laysImage r2).bind (fun r5 => (qM_imageLaid r5).bind (fun r6 => some (r6, r5)))))))
def qM_livePieces_4 (σ : gS) (k : Int32 → Option Int32) : Nat → Int32 → Int32 → Option Int32
  | 0, _, _ => none
  | n + 1, v1, v2 => (if (gM σ 1 0) ≤ v2 then k v1 else (qM_isLive σ v2).bind (fun r2 => (if r2 = 0 then qM_livePieces_4 σ k n (v1 + (0 : Int32)) (v2 + 1) else qM_livePieces_4 σ k n (v1 + (1 : Int32)) (v2 + 1))))
def qM_livePieces (σ : gS) : Option Int32 :=
  qM_livePieces_4 σ (fun x4 => some x4) 8192 (0 : Int32) (0 : Int32)
def qM_countOf (σ : gS) (a1 : Int32) : Option Int32 :=
  (if a1 = (0 : Int32) then some (gM σ 1 0) else if a1 = (1 : Int32) then some (gM σ 1 170) else if a1 = (2 : Int32) then (qM_livePieces σ).bind (fun r1 => some r1) else if a1 = (3 : Int32) then some (gM σ 1 169) else if a1 = (7 : Int32) then some (gM σ 5 0) else if a1 = (8 : Int32) then some (gI σ 0 7) else if a1 = (9 : Int32) then some (gI σ 0 3) else gob (a1 - (4 : Int32)) 3 (some (gM σ 4 (a1 - (4 : Int32)).toNatClampNeg)))
def qM_count (σ : gS) (a1 : Int32) : Option (Int32 × gS) :=
  (if (qM_in a1 (0 : Int32) (9 : Int32)) = 0 then (qM_bad σ).bind (fun r2 => some (r2.1, r2.2)) else (qM_countOf σ a1).bind (fun r3 => some (r3, σ)))
def qM_undefined (σ : gS) (a1 : Int32) : Option (Int32 × gS) :=
  (if (qM_in a1 (1 : Int32) (9 : Int32)) = 0 then (qM_bad σ).bind (fun r2 => some (r2.1, r2.2)) else gob a1 10 (some ((gM σ 5 a1.toNatClampNeg), σ)))
def qM_type (σ : gS) (a1 : Int32) : Option (Int32 × gS) :=
  (if (qM_in a1 (0 : Int32) (127 : Int32)) = 0 then (qM_bad σ).bind (fun r4 => some (r4.1, r4.2)) else (if (gI σ 0 7) = (120 : Int32) then some ((-4 : Int32), (sM σ 4 2 ((gM σ 4 2) + (1 : Int32)))) else gob (gI σ 0 7) 120 (some ((gI (sI (sM σ 6 (gI σ 0 7).toNatClampNeg a1) 0 7 ((gI (sM σ 6 (gI σ 0 7).toNatClampNeg a1) 0 7) + (1 : Int32))) 0 7), (sI (sM σ 6 (gI σ 0 7).toNatClampNeg a1) 0 7 ((gI (sM σ 6 (gI σ 0 7).toNatClampNeg a1) 0 7) + (1 : Int32)))))))
def qM_clear (σ : gS) : Option (Int32 × gS) :=
  some ((gI σ 0 7), (sI σ 0 7 (0 : Int32)))
def qM_isAt (σ : gS) (a1 : Int32) (a2 : Int32) : Option Int32 :=
  (if (gI σ 0 7) ≤ (gI σ 0 15) then some (0 : Int32) else gob (gI σ 0 15) 120 ((if (qM_in (gM σ 6 (gI σ 0 15).toNatClampNeg) a1 a2) = 0 then some (0 : Int32) else some (1 : Int32))))
def qM_blanks_0 (k : gS → Option gS) : Nat → gS → Option gS
  | 0, _ => none
  | n + 1, σ => (qM_isAt σ (32 : Int32) (32 : Int32)).bind (fun r1 => (if r1 = 0 then k σ else qM_blanks_0 k n (sI σ 0 15 ((gI σ 0 15) + (1 : Int32)))))
def qM_blanks (σ : gS) : Option gS :=
  qM_blanks_0 (fun σ3 => some σ3) 8192 σ
def qM_fails (σ : gS) (a1 : Int32) : Option (Int32 × gS) :=
  some ((0 : Int32), (sI σ 0 16 a1))
def qM_manyOf (a1 : Int32) : Int32 :=
  (if a1 = (98 : Int32) then (3 : Int32) else if a1 = (99 : Int32) then (2 : Int32) else if a1 = (100 : Int32) then (3 : Int32) else if a1 = (101 : Int32) then (1 : Int32) else if a1 = (106 : Int32) then (2 : Int32) else if a1 = (108 : Int32) then (3 : Int32) else if a1 = (109 : Int32) then (2 : Int32) else if a1 = (115 : Int32) then (2 : Int32) else if a1 = (118 : Int32) then (2 : Int32) else if a1 = (119 : Int32) then (3 : Int32) else if a1 = (122 : Int32) then (1 : Int32) else (-1 : Int32))
def qM_takesNumber_52 (f52_1 : Int32) (f52_3 : Int32) (f52_4 : Int32) (k : gS → Int32 → Option (Int32 × gS)) : Nat → gS → Int32 → Option (Int32 × gS)
  | 0, _, _ => none
  | n + 1, σ, v5 => (qM_isAt σ (48 : Int32) (57 : Int32)).bind (fun r4 => (if r4 = 0 then k σ v5 else (if (gI σ 0 15) = (f52_4 + (5 : Int32)) then (qM_fails σ (gI σ 0 15)).bind (fun r8 => gbo r8.1 (some (r8.1, r8.2))) else gob (gI σ 0 15) 120 (qM_takesNumber_52 f52_1 f52_3 f52_4 k n (sI σ 0 15 ((gI σ 0 15) + (1 : Int32))) ((((10 : Int32) * v5) + (gM σ 6 (gI σ 0 15).toNatClampNeg)) - (48 : Int32))))))
def qM_takesNumber (σ : gS) (a1 : Int32) (a2 : Int32) : Option (Int32 × gS) :=
  (qM_blanks σ).bind (fun r1 => (if a2 = 0 then qM_takesNumber_52 a1 (0 : Int32) (gI (sI r1 0 15 ((gI r1 0 15) + (0 : Int32))) 0 15) (fun σ10 x11 => gob a1 180 ((if (gI (sI r1 0 15 ((gI r1 0 15) + (0 : Int32))) 0 15) < (gI (sM σ10 11 a1.toNatClampNeg x11) 0 15) then some ((1 : Int32), (sM σ10 11 a1.toNatClampNeg x11)) else (qM_fails (sM σ10 11 a1.toNatClampNeg x11) (gI (sM σ10 11 a1.toNatClampNeg x11) 0 15)).bind (fun r15 => (if r15.1 = 0 then some ((0 : Int32), r15.2) else some ((1 : Int32), r15.2)))))) 8192 (sI r1 0 15 ((gI r1 0 15) + (0 : Int32))) (0 : Int32) else (qM_isAt r1 (45 : Int32) (45 : Int32)).bind (fun r17 => (if r17 = 0 then qM_takesNumber_52 a1 (0 : Int32) (gI (sI r1 0 15 ((gI r1 0 15) + (0 : Int32))) 0 15) (fun σ20 x21 => gob a1 180 ((if (gI (sI r1 0 15 ((gI r1 0 15) + (0 : Int32))) 0 15) < (gI (sM σ20 11 a1.toNatClampNeg x21) 0 15) then some ((1 : Int32), (sM σ20 11 a1.toNatClampNeg x21)) else (qM_fails (sM σ20 11 a1.toNatClampNeg x21) (gI (sM σ20 11 a1.toNatClampNeg x21) 0 15)).bind (fun r25 => (if r25.1 = 0 then some ((0 : Int32), r25.2) else some ((1 : Int32), r25.2)))))) 8192 (sI r1 0 15 ((gI r1 0 15) + (0 : Int32))) (0 : Int32) else qM_takesNumber_52 a1 (1 : Int32) (gI (sI r1 0 15 ((gI r1 0 15) + (1 : Int32))) 0 15) (fun σ28 x29 => gob a1 180 ((if (gI (sI r1 0 15 ((gI r1 0 15) + (1 : Int32))) 0 15) < (gI (sM σ28 11 a1.toNatClampNeg (-x29)) 0 15) then some ((1 : Int32), (sM σ28 11 a1.toNatClampNeg (-x29))) else (qM_fails (sM σ28 11 a1.toNatClampNeg (-x29)) (gI (sM σ28 11 a1.toNatClampNeg (-x29)) 0 15)).bind (fun r33 => (if r33.1 = 0 then some ((0 : Int32), r33.2) else some ((1 : Int32), r33.2)))))) 8192 (sI r1 0 15 ((gI r1 0 15) + (1 : Int32))) (0 : Int32)))))
def qM_takesOrder_50 (f50_1 : Int32) (f50_2 : Int32) (k : gS → Option (Int32 × gS)) : Nat → gS → Int32 → Option (Int32 × gS)
  | 0, _, _ => none
  | n + 1, σ, v3 => (if f50_2 ≤ v3 then k σ else (if f50_1 = (118 : Int32) then (if v3 = (1 : Int32) then (qM_takesNumber σ (((3 : Int32) * (gI σ 0 14)) + v3) (1 : Int32)).bind (fun r11 => (if r11.1 = 0 then some ((0 : Int32), r11.2) else qM_takesOrder_50 f50_1 f50_2 k n r11.2 (v3 + 1))) else (qM_takesNumber σ (((3 : Int32) * (gI σ 0 14)) + v3) (0 : Int32)).bind (fun r9 => (if r9.1 = 0 then some ((0 : Int32), r9.2) else qM_takesOrder_50 f50_1 f50_2 k n r9.2 (v3 + 1)))) else (qM_takesNumber σ (((3 : Int32) * (gI σ 0 14)) + v3) (0 : Int32)).bind (fun r6 => (if r6.1 = 0 then some ((0 : Int32), r6.2) else qM_takesOrder_50 f50_1 f50_2 k n r6.2 (v3 + 1)))))
def qM_takesOrder (σ : gS) : Option (Int32 × gS) :=
  gob (gI σ 0 15) 120 ((if 0 ≤ (qM_manyOf (gM σ 6 (gI σ 0 15).toNatClampNeg)) then gob (gI σ 0 14) 60 (qM_takesOrder_50 (gM σ 6 (gI σ 0 15).toNatClampNeg) (qM_manyOf (gM σ 6 (gI σ 0 15).toNatClampNeg)) (fun σ13 => (qM_blanks σ13).bind (fun r14 => (qM_isAt r14 (59 : Int32) (59 : Int32)).bind (fun r15 => (if r15 = 0 then (qM_fails r14 (gI r14 0 15)).bind (fun r17 => gbo r17.1 (some (r17.1, r17.2))) else some ((1 : Int32), (sI (sI r14 0 15 ((gI r14 0 15) + (1 : Int32))) 0 14 ((gI (sI r14 0 15 ((gI r14 0 15) + (1 : Int32))) 0 14) + (1 : Int32)))))))) 8192 (sI (sM σ 10 (gI σ 0 14).toNatClampNeg (gM σ 6 (gI σ 0 15).toNatClampNeg)) 0 15 ((gI (sM σ 10 (gI σ 0 14).toNatClampNeg (gM σ 6 (gI σ 0 15).toNatClampNeg)) 0 15) + (1 : Int32))) (0 : Int32)) else (qM_fails σ (gI σ 0 15)).bind (fun r19 => gbo r19.1 (some (r19.1, r19.2)))))
def qM_isRead_14 (k : gS → Option (Int32 × gS)) : Nat → gS → Option (Int32 × gS)
  | 0, _ => none
  | n + 1, σ => (if (gI σ 0 7) ≤ (gI σ 0 15) then k σ else (qM_takesOrder σ).bind (fun r3 => (if r3.1 = 0 then some ((0 : Int32), r3.2) else (qM_blanks r3.2).bind (fun r5 => qM_isRead_14 k n r5))))
def qM_isRead (σ : gS) : Option (Int32 × gS) :=
  (qM_blanks (sI (sI σ 0 15 (0 : Int32)) 0 14 (0 : Int32))).bind (fun r1 => qM_isRead_14 (fun σ6 => (if 0 < (gI σ6 0 14) then some ((1 : Int32), σ6) else (qM_fails σ6 (gI σ6 0 7)).bind (fun r8 => (if r8.1 = 0 then some ((0 : Int32), r8.2) else some ((1 : Int32), r8.2))))) 8192 r1)
def qM_jumps (σ : gS) (a1 : Int32) (a2 : Int32) : Option (Int32 × gS) :=
  (if (qM_isRegister a1) = 0 then some ((-2 : Int32), σ) else (qM_kindOf σ a1).bind (fun r2 => (if r2 = (1 : Int32) then (qM_valueOf σ a1).bind (fun r4 => (if r4 = 0 then some ((0 : Int32), (sI σ 0 17 (gI σ 0 17))) else some ((0 : Int32), (sI σ 0 17 a2)))) else (qM_kindOf σ a1).bind (fun r6 => (if r6 = 0 then some ((qM_undefinedAs (1 : Int32)), σ) else some ((qM_undefinedAs (7 : Int32)), σ))))))
def qM_steps (σ : gS) (a1 : Int32) : Option (Int32 × gS) :=
  gob ((3 : Int32) * a1) 180 (gob (((3 : Int32) * a1) + (1 : Int32)) 180 (gob (((3 : Int32) * a1) + (2 : Int32)) 180 (gob a1 60 ((if (gM (sI σ 0 17 (a1 + (1 : Int32))) 10 a1.toNatClampNeg) = (106 : Int32) then (qM_jumps (sI σ 0 17 (a1 + (1 : Int32))) (gM σ 11 ((3 : Int32) * a1).toNatClampNeg) (gM σ 11 (((3 : Int32) * a1) + (1 : Int32)).toNatClampNeg)).bind (fun r13 => some (r13.1, r13.2)) else (if (gM (sI σ 0 17 (a1 + (1 : Int32))) 10 a1.toNatClampNeg) = (100 : Int32) then (if (qM_isRegister (gM σ 11 (((3 : Int32) * a1) + (2 : Int32)).toNatClampNeg)) = 0 then some ((-2 : Int32), (sI σ 0 17 (a1 + (1 : Int32)))) else (qM_comparesTo (sI σ 0 17 (a1 + (1 : Int32))) (gM σ 11 ((3 : Int32) * a1).toNatClampNeg) (gM σ 11 (((3 : Int32) * a1) + (1 : Int32)).toNatClampNeg)).bind (fun r9 => (if 0 ≤ r9 then (qM_tells (sI σ 0 17 (a1 + (1 : Int32))) (gM σ 11 (((3 : Int32) * a1) + (2 : Int32)).toNatClampNeg) (1 : Int32) r9 (0 : Int32)).bind (fun r11 => some (r11.1, r11.2)) else some (r9, (sI σ 0 17 (a1 + (1 : Int32))))))) else (qM_acts (sI σ 0 17 (a1 + (1 : Int32))) (gM (sI σ 0 17 (a1 + (1 : Int32))) 10 a1.toNatClampNeg) (gM σ 11 ((3 : Int32) * a1).toNatClampNeg) (gM σ 11 (((3 : Int32) * a1) + (1 : Int32)).toNatClampNeg) (gM σ 11 (((3 : Int32) * a1) + (2 : Int32)).toNatClampNeg)).bind (fun r12 => some (r12.1, r12.2))))))))
def qM_toldAs (a1 : Int32) (a2 : Int32) : Int32 :=
  (if a1 = (-2 : Int32) then ((-2000 : Int32) - a2) else (if a1 = (-4 : Int32) then ((-3000 : Int32) - a2) else (((-4000 : Int32) - ((1000 : Int32) * ((-10 : Int32) - a1))) - a2)))
def qM_goes_4 (k : gS → Int32 → Option (Int32 × gS)) : Nat → gS → Int32 → Int32 → Option (Int32 × gS)
  | 0, _, _, _ => none
  | n + 1, σ, v1, v2 => (if (gI σ 0 14) ≤ v2 then k σ v1 else (if v1 = (gM σ 1 169) then some ((-500 : Int32), σ) else (qM_steps σ v2).bind (fun r3 => (if 0 ≤ r3.1 then qM_goes_4 k n r3.2 (v1 + 1) (gI r3.2 0 17) else some ((qM_toldAs r3.1 v2), r3.2)))))
def qM_goes (σ : gS) : Option (Int32 × gS) :=
  qM_goes_4 (fun σ5 x6 => some (x6, σ5)) 8192 σ (0 : Int32) (0 : Int32)
def qM_does_36 (f36_1 : Int32) (k : gS → Option (Int32 × gS)) : Nat → gS → Int32 → Option (Int32 × gS)
  | 0, _, _ => none
  | n + 1, σ, v2 => (if (1219 : Int32) ≤ v2 then k σ else gob v2 1219 (qM_does_36 f36_1 k n (sM σ 1 v2.toNatClampNeg (gM σ 2 v2.toNatClampNeg)) (v2 + 1)))
def qM_does (σ : gS) : Option (Int32 × gS) :=
  (qM_isRead σ).bind (fun r1 => (if r1.1 = 0 then some (((-10 : Int32) - (gI r1.2 0 16)), r1.2) else (qM_copies r1.2).bind (fun r3 => (qM_goes r3).bind (fun r4 => (if r4.1 < 0 then qM_does_36 r4.1 (fun σ8 => some (r4.1, σ8)) 8192 r4.2 (0 : Int32) else (qM_remembers r4.2).bind (fun r9 => some (r4.1, r9)))))))
def qM_mix (σ : gS) (a1 : Int64) : Option gS :=
  some (sL σ (((31 : Int64) * (gL σ)) + a1))
def qM_mixImage_12 (f12_1 : Int32) (f12_2 : Int32) (k : gS → Option gS) : Nat → gS → Int32 → Option gS
  | 0, _, _ => none
  | n + 1, σ, v3 => (if (3 : Int32) ≤ v3 then k σ else (qM_ofImage σ f12_1 v3).bind (fun r2 => (qM_mix σ r2.toInt64).bind (fun r3 => qM_mixImage_12 f12_1 f12_2 k n r3 (v3 + 1))))
def qM_mixImage_49 (f49_2 : Int32) (f49_3 : Int32) (k : gS → Option gS) : Nat → gS → Int32 → Option gS
  | 0, _, _ => none
  | n + 1, σ, v4 => gob ((f49_2 + (1 : Int32)) + f49_3) 1219 ((if (gM σ 1 ((f49_2 + (1 : Int32)) + f49_3).toNatClampNeg) ≤ v4 then k σ else gob (((f49_2 + (11 : Int32)) + ((12 : Int32) * f49_3)) + v4) 1219 ((qM_mix σ ((gM σ 1 (((f49_2 + (11 : Int32)) + ((12 : Int32) * f49_3)) + v4).toNatClampNeg).toInt64)).bind (fun r10 => qM_mixImage_49 f49_2 f49_3 k n r10 (v4 + 1)))))
def qM_mixImage_36 (f36_2 : Int32) (k : gS → Option gS) : Nat → gS → Int32 → Option gS
  | 0, _, _ => none
  | n + 1, σ, v3 => gob f36_2 1219 ((if (gM σ 1 f36_2.toNatClampNeg) ≤ v3 then k σ else qM_mixImage_49 f36_2 v3 (fun σ11 => qM_mixImage_36 f36_2 k n σ11 (v3 + 1)) 8192 σ (0 : Int32)))
def qM_mixImage (σ : gS) (a1 : Int32) : Option gS :=
  qM_mixImage_12 a1 ((171 : Int32) + ((131 : Int32) * a1)) (fun σ4 => qM_mixImage_36 ((171 : Int32) + ((131 : Int32) * a1)) (fun σ12 => some σ12) 8192 σ4 (0 : Int32)) 8192 σ (0 : Int32)
def qM_digest_9 (k : gS → Option (Int64 × gS)) : Nat → gS → Int32 → Option (Int64 × gS)
  | 0, _, _ => none
  | n + 1, σ, v1 => (if (10 : Int32) ≤ v1 then k σ else (qM_countOf σ v1).bind (fun r2 => (qM_mix σ r2.toInt64).bind (fun r3 => qM_digest_9 k n r3 (v1 + 1))))
def qM_digest_33 (k : gS → Option (Int64 × gS)) : Nat → gS → Int32 → Option (Int64 × gS)
  | 0, _, _ => none
  | n + 1, σ, v1 => (if (10 : Int32) ≤ v1 then k σ else gob v1 10 ((qM_mix σ ((gM σ 5 v1.toNatClampNeg).toInt64)).bind (fun r7 => qM_digest_33 k n r7 (v1 + 1))))
def qM_digest_66 (f66_1 : Int32) (k : gS → Option (Int64 × gS)) : Nat → gS → Int32 → Option (Int64 × gS)
  | 0, _, _ => none
  | n + 1, σ, v2 => (if (3 : Int32) ≤ v2 then k σ else (qM_ofRegister σ f66_1 v2).bind (fun r11 => (qM_mix σ r11.toInt64).bind (fun r12 => qM_digest_66 f66_1 k n r12 (v2 + 1))))
def qM_digest_58 (k : gS → Option (Int64 × gS)) : Nat → gS → Int32 → Option (Int64 × gS)
  | 0, _, _ => none
  | n + 1, σ, v1 => (if (6 : Int32) ≤ v1 then k σ else qM_digest_66 v1 (fun σ13 => qM_digest_58 k n σ13 (v1 + 1)) 8192 σ (0 : Int32))
def qM_digest_108 (f108_1 : Int32) (k : gS → Option (Int64 × gS)) : Nat → gS → Int32 → Option (Int64 × gS)
  | 0, _, _ => none
  | n + 1, σ, v2 => (if (5 : Int32) ≤ v2 then k σ else (qM_ofPiece σ f108_1 v2).bind (fun r17 => (qM_mix r17.2 r17.1.toInt64).bind (fun r18 => qM_digest_108 f108_1 k n r18 (v2 + 1))))
def qM_digest_132 (f132_1 : Int32) (k : gS → Option (Int64 × gS)) : Nat → gS → Int32 → Option (Int64 × gS)
  | 0, _, _ => none
  | n + 1, σ, v2 => (qM_sizeOf σ f132_1).bind (fun r20 => (if r20 ≤ v2 then k σ else gob (qM_bytePlace f132_1 v2) 1219 ((qM_mix σ ((gM σ 1 (qM_bytePlace f132_1 v2).toNatClampNeg).toInt64)).bind (fun r23 => qM_digest_132 f132_1 k n r23 (v2 + 1)))))
def qM_digest_96 (k : gS → Option (Int64 × gS)) : Nat → gS → Int32 → Option (Int64 × gS)
  | 0, _, _ => none
  | n + 1, σ, v1 => (if (gM σ 1 0) ≤ v1 then k σ else qM_digest_108 v1 (fun σ19 => qM_digest_132 v1 (fun σ24 => qM_digest_96 k n σ24 (v1 + 1)) 8192 σ19 (0 : Int32)) 8192 σ (0 : Int32))
def qM_digest_170 (k : gS → Option (Int64 × gS)) : Nat → gS → Int32 → Option (Int64 × gS)
  | 0, _, _ => none
  | n + 1, σ, v1 => (if (gM σ 1 170) ≤ v1 then k σ else (qM_mixImage σ v1).bind (fun r27 => qM_digest_170 k n r27 (v1 + 1)))
def qM_digest (σ : gS) : Option (Int64 × gS) :=
  qM_digest_9 (fun σ4 => qM_digest_33 (fun σ8 => qM_digest_58 (fun σ14 => qM_digest_96 (fun σ25 => qM_digest_170 (fun σ28 => some ((gL σ28), σ28)) 8192 σ25 (0 : Int32)) 8192 σ14 (0 : Int32)) 8192 σ8 (0 : Int32)) 8192 σ4 (1 : Int32)) 8192 (sL σ (2010 : Int64)) (0 : Int32)
