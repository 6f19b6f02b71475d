/-! the class's instant behind its solve -/
def cntB (f : Nat → Bool) : Nat → Nat
  | 0 => 0
  | k + 1 => if f k = true then cntB f k + 1 else cntB f k
theorem cntB_le (f : Nat → Bool) : ∀ k, cntB f k ≤ k
  | 0 => Nat.le_refl 0
  | k + 1 => by have := cntB_le f k; simp only [cntB]; split <;> omega
def jMask (f : Nat → Bool) : Nat → Int32
  | 0 => 0
  | k + 1 => if f k = true then jMask f k ||| ((1 : Int32) <<< (nI k &&& 31)) else jMask f k
/-- the registers behind the copies below k -/
def fR (P : yP) (S : yR) (rg : Nat → Bool) : Nat → Nat → Bool
  | 0 => rg
  | c + 1 => if P.kd c = 1 then fun i => if i = P.nm c then (yw S c 0 || (yw S c 2 && fR P S rg c i)) && !yw S c 3 else fR P S rg c i else fR P S rg c
section SPF
variable {l : Launch} {d : Nat} {g : zM} {r : Option Value → zM → Prop} {P : yP}
theorem sp_P_isMissing (h : r (some (.int (if g 12 10 = 0 then 1 else 0))) g) : qs_P_isMissing l (d + 1) [.ref 12] g r := by
  refine ss_P_isMissing fun K b0 b1 b2 => ?_
  refine b0 _ ?_
  simp only [bb_P_isMissing_0, oIload, oAload, oIstore, oInc, oConst, o2, oDup, oPop, oDupX1, oDupX2, oDup2, oIf, oIfN, oCmp, oCmpN, oSwitch, oGetR, oGetI, oPutI, oPutZ, oIald, oZald, oIast, oZast, oRetI, oRetZ, oRetV, oCall, oRecv, oMax, List.map_cons, List.map_nil, List.getElem?_cons_zero, List.getElem?_cons_succ, List.set_cons_zero, List.set_cons_succ, List.length_cons, List.length_nil, List.cons_append, List.nil_append, List.append_nil, List.take_succ_cons, List.take_zero, List.drop_succ_cons, List.drop_zero, List.reverse_cons, List.reverse_nil, Option.toList, Value.category, List.sum_cons, List.sum_nil, zk_0, zk_1, zk_12, zk_20, zk_23, zk_27, zn_2, zn_3, zn_4, zn_5, zn_6, zn_7, zn_8, zn_9, zn_10, zn_11, zn_13, zn_14, zn_15, zn_16, zn_17, zn_18, zn_19, zn_21, zn_22, zn_24, zn_25, zn_26, zn_28, zn_29, zn_30, zn_31, zn_32, zn_33, zn_34, zn_35, zn_36, zn_37, zn_38, zn_39, zn_40, zn_41, zn_42, zn_43, zn_44, zn_45, zn_46, Nat.reduceAdd, Nat.reduceSub, Nat.reduceLeDiff, true_and, and_true]
  repeat' first | (intro _) | (refine And.intro ?_ ?_) | (refine b1 _ ?_; simp only [bb_P_isMissing_1, oIload, oAload, oIstore, oInc, oConst, o2, oDup, oPop, oDupX1, oDupX2, oDup2, oIf, oIfN, oCmp, oCmpN, oSwitch, oGetR, oGetI, oPutI, oPutZ, oIald, oZald, oIast, oZast, oRetI, oRetZ, oRetV, oCall, oRecv, oMax, List.map_cons, List.map_nil, List.getElem?_cons_zero, List.getElem?_cons_succ, List.set_cons_zero, List.set_cons_succ, List.length_cons, List.length_nil, List.cons_append, List.nil_append, List.append_nil, List.take_succ_cons, List.take_zero, List.drop_succ_cons, List.drop_zero, List.reverse_cons, List.reverse_nil, Option.toList, Value.category, List.sum_cons, List.sum_nil, zk_0, zk_1, zk_12, zk_20, zk_23, zk_27, zn_2, zn_3, zn_4, zn_5, zn_6, zn_7, zn_8, zn_9, zn_10, zn_11, zn_13, zn_14, zn_15, zn_16, zn_17, zn_18, zn_19, zn_21, zn_22, zn_24, zn_25, zn_26, zn_28, zn_29, zn_30, zn_31, zn_32, zn_33, zn_34, zn_35, zn_36, zn_37, zn_38, zn_39, zn_40, zn_41, zn_42, zn_43, zn_44, zn_45, zn_46, Nat.reduceAdd, Nat.reduceSub, Nat.reduceLeDiff, true_and, and_true]) | (refine b2 _ ?_; simp only [bb_P_isMissing_2, oIload, oAload, oIstore, oInc, oConst, o2, oDup, oPop, oDupX1, oDupX2, oDup2, oIf, oIfN, oCmp, oCmpN, oSwitch, oGetR, oGetI, oPutI, oPutZ, oIald, oZald, oIast, oZast, oRetI, oRetZ, oRetV, oCall, oRecv, oMax, List.map_cons, List.map_nil, List.getElem?_cons_zero, List.getElem?_cons_succ, List.set_cons_zero, List.set_cons_succ, List.length_cons, List.length_nil, List.cons_append, List.nil_append, List.append_nil, List.take_succ_cons, List.take_zero, List.drop_succ_cons, List.drop_zero, List.reverse_cons, List.reverse_nil, Option.toList, Value.category, List.sum_cons, List.sum_nil, zk_0, zk_1, zk_12, zk_20, zk_23, zk_27, zn_2, zn_3, zn_4, zn_5, zn_6, zn_7, zn_8, zn_9, zn_10, zn_11, zn_13, zn_14, zn_15, zn_16, zn_17, zn_18, zn_19, zn_21, zn_22, zn_24, zn_25, zn_26, zn_28, zn_29, zn_30, zn_31, zn_32, zn_33, zn_34, zn_35, zn_36, zn_37, zn_38, zn_39, zn_40, zn_41, zn_42, zn_43, zn_44, zn_45, zn_46, Nat.reduceAdd, Nat.reduceSub, Nat.reduceLeDiff, true_and, and_true])
  all_goals first | (simp; done) | (simpa [*] using h)
theorem sp_P_isConstructive (hn : g 12 10 = nI P.n) (hn3 : P.n ≤ 300) (h1 : (∀ c, c < P.n → g 21 c = g 24 c) → r (some (.int 1)) g) (h0 : ¬ (∀ c, c < P.n → g 21 c = g 24 c) → r (some (.int 0)) g) : qs_P_isConstructive l (d + 1) [.ref 12] g r := by
  refine ss_P_isConstructive fun K b0 b1 b2 b3 => ?_
  have loop : ∀ n c, c + n = P.n → (∀ k, k < c → g 21 k = g 24 k) → K 1 ([some (.ref 12), some (.int (nI c))], [], g) := by
    intro n
    induction n with
    | zero =>
      intro c hc hk
      refine b1 _ ?_
      simp only [bb_P_isConstructive_1, oIload, oAload, oIstore, oInc, oConst, o2, oDup, oPop, oDupX1, oDupX2, oDup2, oIf, oIfN, oCmp, oCmpN, oSwitch, oGetR, oGetI, oPutI, oPutZ, oIald, oZald, oIast, oZast, oRetI, oRetZ, oRetV, oCall, oRecv, oMax, List.map_cons, List.map_nil, List.getElem?_cons_zero, List.getElem?_cons_succ, List.set_cons_zero, List.set_cons_succ, List.length_cons, List.length_nil, List.cons_append, List.nil_append, List.append_nil, List.take_succ_cons, List.take_zero, List.drop_succ_cons, List.drop_zero, List.reverse_cons, List.reverse_nil, Option.toList, Value.category, List.sum_cons, List.sum_nil, zk_0, zk_1, zk_12, zk_20, zk_23, zk_27, zn_2, zn_3, zn_4, zn_5, zn_6, zn_7, zn_8, zn_9, zn_10, zn_11, zn_13, zn_14, zn_15, zn_16, zn_17, zn_18, zn_19, zn_21, zn_22, zn_24, zn_25, zn_26, zn_28, zn_29, zn_30, zn_31, zn_32, zn_33, zn_34, zn_35, zn_36, zn_37, zn_38, zn_39, zn_40, zn_41, zn_42, zn_43, zn_44, zn_45, zn_46, Nat.reduceAdd, Nat.reduceSub, Nat.reduceLeDiff, true_and, and_true]
      rw [hn]
      refine ⟨fun _ => b3 _ ?_, fun e => absurd (nI_le (by omega) (by omega)) e⟩
      simp only [bb_P_isConstructive_3, oIload, oAload, oIstore, oInc, oConst, o2, oDup, oPop, oDupX1, oDupX2, oDup2, oIf, oIfN, oCmp, oCmpN, oSwitch, oGetR, oGetI, oPutI, oPutZ, oIald, oZald, oIast, oZast, oRetI, oRetZ, oRetV, oCall, oRecv, oMax, List.map_cons, List.map_nil, List.getElem?_cons_zero, List.getElem?_cons_succ, List.set_cons_zero, List.set_cons_succ, List.length_cons, List.length_nil, List.cons_append, List.nil_append, List.append_nil, List.take_succ_cons, List.take_zero, List.drop_succ_cons, List.drop_zero, List.reverse_cons, List.reverse_nil, Option.toList, Value.category, List.sum_cons, List.sum_nil, zk_0, zk_1, zk_12, zk_20, zk_23, zk_27, zn_2, zn_3, zn_4, zn_5, zn_6, zn_7, zn_8, zn_9, zn_10, zn_11, zn_13, zn_14, zn_15, zn_16, zn_17, zn_18, zn_19, zn_21, zn_22, zn_24, zn_25, zn_26, zn_28, zn_29, zn_30, zn_31, zn_32, zn_33, zn_34, zn_35, zn_36, zn_37, zn_38, zn_39, zn_40, zn_41, zn_42, zn_43, zn_44, zn_45, zn_46, Nat.reduceAdd, Nat.reduceSub, Nat.reduceLeDiff, true_and, and_true]
      exact ⟨by simp, h1 fun k hk' => hk k (by omega)⟩
    | succ n ih =>
      intro c hc hk
      refine b1 _ ?_
      simp only [bb_P_isConstructive_1, oIload, oAload, oIstore, oInc, oConst, o2, oDup, oPop, oDupX1, oDupX2, oDup2, oIf, oIfN, oCmp, oCmpN, oSwitch, oGetR, oGetI, oPutI, oPutZ, oIald, oZald, oIast, oZast, oRetI, oRetZ, oRetV, oCall, oRecv, oMax, List.map_cons, List.map_nil, List.getElem?_cons_zero, List.getElem?_cons_succ, List.set_cons_zero, List.set_cons_succ, List.length_cons, List.length_nil, List.cons_append, List.nil_append, List.append_nil, List.take_succ_cons, List.take_zero, List.drop_succ_cons, List.drop_zero, List.reverse_cons, List.reverse_nil, Option.toList, Value.category, List.sum_cons, List.sum_nil, zk_0, zk_1, zk_12, zk_20, zk_23, zk_27, zn_2, zn_3, zn_4, zn_5, zn_6, zn_7, zn_8, zn_9, zn_10, zn_11, zn_13, zn_14, zn_15, zn_16, zn_17, zn_18, zn_19, zn_21, zn_22, zn_24, zn_25, zn_26, zn_28, zn_29, zn_30, zn_31, zn_32, zn_33, zn_34, zn_35, zn_36, zn_37, zn_38, zn_39, zn_40, zn_41, zn_42, zn_43, zn_44, zn_45, zn_46, Nat.reduceAdd, Nat.reduceSub, Nat.reduceLeDiff, true_and, and_true]
      rw [hn]
      refine ⟨fun e => absurd e (nI_ge (by omega) (by omega)), fun _ => ⟨c, rfl, by omega, c, rfl, by omega, fun e => b2 _ ?_, fun e => ⟨by simp, h0 fun hq => e (hq c (by omega))⟩⟩⟩
      simp only [bb_P_isConstructive_2, oIload, oAload, oIstore, oInc, oConst, o2, oDup, oPop, oDupX1, oDupX2, oDup2, oIf, oIfN, oCmp, oCmpN, oSwitch, oGetR, oGetI, oPutI, oPutZ, oIald, oZald, oIast, oZast, oRetI, oRetZ, oRetV, oCall, oRecv, oMax, List.map_cons, List.map_nil, List.getElem?_cons_zero, List.getElem?_cons_succ, List.set_cons_zero, List.set_cons_succ, List.length_cons, List.length_nil, List.cons_append, List.nil_append, List.append_nil, List.take_succ_cons, List.take_zero, List.drop_succ_cons, List.drop_zero, List.reverse_cons, List.reverse_nil, Option.toList, Value.category, List.sum_cons, List.sum_nil, zk_0, zk_1, zk_12, zk_20, zk_23, zk_27, zn_2, zn_3, zn_4, zn_5, zn_6, zn_7, zn_8, zn_9, zn_10, zn_11, zn_13, zn_14, zn_15, zn_16, zn_17, zn_18, zn_19, zn_21, zn_22, zn_24, zn_25, zn_26, zn_28, zn_29, zn_30, zn_31, zn_32, zn_33, zn_34, zn_35, zn_36, zn_37, zn_38, zn_39, zn_40, zn_41, zn_42, zn_43, zn_44, zn_45, zn_46, Nat.reduceAdd, Nat.reduceSub, Nat.reduceLeDiff, true_and, and_true]
      rw [nI_1]
      refine ih (c + 1) (by omega) fun k hk' => ?_
      by_cases e2 : k = c
      · subst e2; exact e
      · exact hk k (by omega)
  refine b0 _ ?_
  simp only [bb_P_isConstructive_0, oIload, oAload, oIstore, oInc, oConst, o2, oDup, oPop, oDupX1, oDupX2, oDup2, oIf, oIfN, oCmp, oCmpN, oSwitch, oGetR, oGetI, oPutI, oPutZ, oIald, oZald, oIast, oZast, oRetI, oRetZ, oRetV, oCall, oRecv, oMax, List.map_cons, List.map_nil, List.getElem?_cons_zero, List.getElem?_cons_succ, List.set_cons_zero, List.set_cons_succ, List.length_cons, List.length_nil, List.cons_append, List.nil_append, List.append_nil, List.take_succ_cons, List.take_zero, List.drop_succ_cons, List.drop_zero, List.reverse_cons, List.reverse_nil, Option.toList, Value.category, List.sum_cons, List.sum_nil, zk_0, zk_1, zk_12, zk_20, zk_23, zk_27, zn_2, zn_3, zn_4, zn_5, zn_6, zn_7, zn_8, zn_9, zn_10, zn_11, zn_13, zn_14, zn_15, zn_16, zn_17, zn_18, zn_19, zn_21, zn_22, zn_24, zn_25, zn_26, zn_28, zn_29, zn_30, zn_31, zn_32, zn_33, zn_34, zn_35, zn_36, zn_37, zn_38, zn_39, zn_40, zn_41, zn_42, zn_43, zn_44, zn_45, zn_46, Nat.reduceAdd, Nat.reduceSub, Nat.reduceLeDiff, true_and, and_true]
  exact loop P.n 0 (by omega) fun k hk => absurd hk (by omega)
theorem zb_eqb (x y : Int32) : zb x = zb y ↔ (!decide (x = 0)) = (!decide (y = 0)) := by
  unfold zb
  by_cases hx : x = 0 <;> by_cases hy : y = 0 <;> simp [hx, hy]
theorem sp_P_countUnknownSignals (h : r (some (.int (nI (cntB (fun i => (!decide (g 22 i = 0)) != (!decide (g 25 i = 0))) 8)))) g) : qs_P_countUnknownSignals l (d + 1) [.ref 12] g r := by
  refine ss_P_countUnknownSignals fun K b0 b1 b2 b3 => ?_
  have loop : ∀ n i, i + n = 8 → K 1 ([some (.ref 12), some (.int (nI (cntB (fun i => (!decide (g 22 i = 0)) != (!decide (g 25 i = 0))) i))), some (.int (nI i))], [], g) := by
    intro n
    induction n with
    | zero =>
      intro i hi
      have : i = 8 := by omega
      subst this
      refine b1 _ ?_
      simp only [bb_P_countUnknownSignals_1, oIload, oAload, oIstore, oInc, oConst, o2, oDup, oPop, oDupX1, oDupX2, oDup2, oIf, oIfN, oCmp, oCmpN, oSwitch, oGetR, oGetI, oPutI, oPutZ, oIald, oZald, oIast, oZast, oRetI, oRetZ, oRetV, oCall, oRecv, oMax, List.map_cons, List.map_nil, List.getElem?_cons_zero, List.getElem?_cons_succ, List.set_cons_zero, List.set_cons_succ, List.length_cons, List.length_nil, List.cons_append, List.nil_append, List.append_nil, List.take_succ_cons, List.take_zero, List.drop_succ_cons, List.drop_zero, List.reverse_cons, List.reverse_nil, Option.toList, Value.category, List.sum_cons, List.sum_nil, zk_0, zk_1, zk_12, zk_20, zk_23, zk_27, zn_2, zn_3, zn_4, zn_5, zn_6, zn_7, zn_8, zn_9, zn_10, zn_11, zn_13, zn_14, zn_15, zn_16, zn_17, zn_18, zn_19, zn_21, zn_22, zn_24, zn_25, zn_26, zn_28, zn_29, zn_30, zn_31, zn_32, zn_33, zn_34, zn_35, zn_36, zn_37, zn_38, zn_39, zn_40, zn_41, zn_42, zn_43, zn_44, zn_45, zn_46, Nat.reduceAdd, Nat.reduceSub, Nat.reduceLeDiff, true_and, and_true]
      refine ⟨fun _ => b3 _ ?_, fun e => absurd (by decide) e⟩
      simp only [bb_P_countUnknownSignals_3, oIload, oAload, oIstore, oInc, oConst, o2, oDup, oPop, oDupX1, oDupX2, oDup2, oIf, oIfN, oCmp, oCmpN, oSwitch, oGetR, oGetI, oPutI, oPutZ, oIald, oZald, oIast, oZast, oRetI, oRetZ, oRetV, oCall, oRecv, oMax, List.map_cons, List.map_nil, List.getElem?_cons_zero, List.getElem?_cons_succ, List.set_cons_zero, List.set_cons_succ, List.length_cons, List.length_nil, List.cons_append, List.nil_append, List.append_nil, List.take_succ_cons, List.take_zero, List.drop_succ_cons, List.drop_zero, List.reverse_cons, List.reverse_nil, Option.toList, Value.category, List.sum_cons, List.sum_nil, zk_0, zk_1, zk_12, zk_20, zk_23, zk_27, zn_2, zn_3, zn_4, zn_5, zn_6, zn_7, zn_8, zn_9, zn_10, zn_11, zn_13, zn_14, zn_15, zn_16, zn_17, zn_18, zn_19, zn_21, zn_22, zn_24, zn_25, zn_26, zn_28, zn_29, zn_30, zn_31, zn_32, zn_33, zn_34, zn_35, zn_36, zn_37, zn_38, zn_39, zn_40, zn_41, zn_42, zn_43, zn_44, zn_45, zn_46, Nat.reduceAdd, Nat.reduceSub, Nat.reduceLeDiff, true_and, and_true]
      exact h
    | succ n ih =>
      intro i hi
      refine b1 _ ?_
      simp only [bb_P_countUnknownSignals_1, oIload, oAload, oIstore, oInc, oConst, o2, oDup, oPop, oDupX1, oDupX2, oDup2, oIf, oIfN, oCmp, oCmpN, oSwitch, oGetR, oGetI, oPutI, oPutZ, oIald, oZald, oIast, oZast, oRetI, oRetZ, oRetV, oCall, oRecv, oMax, List.map_cons, List.map_nil, List.getElem?_cons_zero, List.getElem?_cons_succ, List.set_cons_zero, List.set_cons_succ, List.length_cons, List.length_nil, List.cons_append, List.nil_append, List.append_nil, List.take_succ_cons, List.take_zero, List.drop_succ_cons, List.drop_zero, List.reverse_cons, List.reverse_nil, Option.toList, Value.category, List.sum_cons, List.sum_nil, zk_0, zk_1, zk_12, zk_20, zk_23, zk_27, zn_2, zn_3, zn_4, zn_5, zn_6, zn_7, zn_8, zn_9, zn_10, zn_11, zn_13, zn_14, zn_15, zn_16, zn_17, zn_18, zn_19, zn_21, zn_22, zn_24, zn_25, zn_26, zn_28, zn_29, zn_30, zn_31, zn_32, zn_33, zn_34, zn_35, zn_36, zn_37, zn_38, zn_39, zn_40, zn_41, zn_42, zn_43, zn_44, zn_45, zn_46, Nat.reduceAdd, Nat.reduceSub, Nat.reduceLeDiff, true_and, and_true]
      refine ⟨fun e => absurd e (nI_ge (a := i) (b := 8) (by omega) (by omega)), fun _ => ⟨i, rfl, by omega, i, rfl, by omega, ?_⟩⟩
      rw [zb_eqb]
      refine ⟨fun e => b2 _ ?_, fun e => b2 _ ?_⟩
      · simp only [bb_P_countUnknownSignals_2, oIload, oAload, oIstore, oInc, oConst, o2, oDup, oPop, oDupX1, oDupX2, oDup2, oIf, oIfN, oCmp, oCmpN, oSwitch, oGetR, oGetI, oPutI, oPutZ, oIald, oZald, oIast, oZast, oRetI, oRetZ, oRetV, oCall, oRecv, oMax, List.map_cons, List.map_nil, List.getElem?_cons_zero, List.getElem?_cons_succ, List.set_cons_zero, List.set_cons_succ, List.length_cons, List.length_nil, List.cons_append, List.nil_append, List.append_nil, List.take_succ_cons, List.take_zero, List.drop_succ_cons, List.drop_zero, List.reverse_cons, List.reverse_nil, Option.toList, Value.category, List.sum_cons, List.sum_nil, zk_0, zk_1, zk_12, zk_20, zk_23, zk_27, zn_2, zn_3, zn_4, zn_5, zn_6, zn_7, zn_8, zn_9, zn_10, zn_11, zn_13, zn_14, zn_15, zn_16, zn_17, zn_18, zn_19, zn_21, zn_22, zn_24, zn_25, zn_26, zn_28, zn_29, zn_30, zn_31, zn_32, zn_33, zn_34, zn_35, zn_36, zn_37, zn_38, zn_39, zn_40, zn_41, zn_42, zn_43, zn_44, zn_45, zn_46, Nat.reduceAdd, Nat.reduceSub, Nat.reduceLeDiff, true_and, and_true]
        rw [nI_1]
        have := ih (i + 1) (by omega)
        simp only [cntB, e, bne_self_eq_false, Bool.false_eq_true, if_false] at this
        exact this
      · simp only [bb_P_countUnknownSignals_2, oIload, oAload, oIstore, oInc, oConst, o2, oDup, oPop, oDupX1, oDupX2, oDup2, oIf, oIfN, oCmp, oCmpN, oSwitch, oGetR, oGetI, oPutI, oPutZ, oIald, oZald, oIast, oZast, oRetI, oRetZ, oRetV, oCall, oRecv, oMax, List.map_cons, List.map_nil, List.getElem?_cons_zero, List.getElem?_cons_succ, List.set_cons_zero, List.set_cons_succ, List.length_cons, List.length_nil, List.cons_append, List.nil_append, List.append_nil, List.take_succ_cons, List.take_zero, List.drop_succ_cons, List.drop_zero, List.reverse_cons, List.reverse_nil, Option.toList, Value.category, List.sum_cons, List.sum_nil, zk_0, zk_1, zk_12, zk_20, zk_23, zk_27, zn_2, zn_3, zn_4, zn_5, zn_6, zn_7, zn_8, zn_9, zn_10, zn_11, zn_13, zn_14, zn_15, zn_16, zn_17, zn_18, zn_19, zn_21, zn_22, zn_24, zn_25, zn_26, zn_28, zn_29, zn_30, zn_31, zn_32, zn_33, zn_34, zn_35, zn_36, zn_37, zn_38, zn_39, zn_40, zn_41, zn_42, zn_43, zn_44, zn_45, zn_46, Nat.reduceAdd, Nat.reduceSub, Nat.reduceLeDiff, true_and, and_true]
        rw [nI_1, nI_1]
        have := ih (i + 1) (by omega)
        have e2 : ((!decide (g 22 i = 0)) != (!decide (g 25 i = 0))) = true := by simpa [bne] using e
        simp only [cntB, e2, if_true] at this
        exact this
  refine b0 _ ?_
  simp only [bb_P_countUnknownSignals_0, oIload, oAload, oIstore, oInc, oConst, o2, oDup, oPop, oDupX1, oDupX2, oDup2, oIf, oIfN, oCmp, oCmpN, oSwitch, oGetR, oGetI, oPutI, oPutZ, oIald, oZald, oIast, oZast, oRetI, oRetZ, oRetV, oCall, oRecv, oMax, List.map_cons, List.map_nil, List.getElem?_cons_zero, List.getElem?_cons_succ, List.set_cons_zero, List.set_cons_succ, List.length_cons, List.length_nil, List.cons_append, List.nil_append, List.append_nil, List.take_succ_cons, List.take_zero, List.drop_succ_cons, List.drop_zero, List.reverse_cons, List.reverse_nil, Option.toList, Value.category, List.sum_cons, List.sum_nil, zk_0, zk_1, zk_12, zk_20, zk_23, zk_27, zn_2, zn_3, zn_4, zn_5, zn_6, zn_7, zn_8, zn_9, zn_10, zn_11, zn_13, zn_14, zn_15, zn_16, zn_17, zn_18, zn_19, zn_21, zn_22, zn_24, zn_25, zn_26, zn_28, zn_29, zn_30, zn_31, zn_32, zn_33, zn_34, zn_35, zn_36, zn_37, zn_38, zn_39, zn_40, zn_41, zn_42, zn_43, zn_44, zn_45, zn_46, Nat.reduceAdd, Nat.reduceSub, Nat.reduceLeDiff, true_and, and_true]
  exact loop 8 0 (by omega)
theorem sp_P_signalsThere (h : r (some (.int (jMask (fun i => !decide (g 22 i = 0)) 8))) g) : qs_P_signalsThere l (d + 1) [.ref 12] g r := by
  refine ss_P_signalsThere fun K b0 b1 b2 b3 => ?_
  have loop : ∀ n i, i + n = 8 → K 1 ([some (.ref 12), some (.int (jMask (fun i => !decide (g 22 i = 0)) i)), some (.int (nI i))], [], g) := by
    intro n
    induction n with
    | zero =>
      intro i hi
      have : i = 8 := by omega
      subst this
      refine b1 _ ?_
      simp only [bb_P_signalsThere_1, oIload, oAload, oIstore, oInc, oConst, o2, oDup, oPop, oDupX1, oDupX2, oDup2, oIf, oIfN, oCmp, oCmpN, oSwitch, oGetR, oGetI, oPutI, oPutZ, oIald, oZald, oIast, oZast, oRetI, oRetZ, oRetV, oCall, oRecv, oMax, List.map_cons, List.map_nil, List.getElem?_cons_zero, List.getElem?_cons_succ, List.set_cons_zero, List.set_cons_succ, List.length_cons, List.length_nil, List.cons_append, List.nil_append, List.append_nil, List.take_succ_cons, List.take_zero, List.drop_succ_cons, List.drop_zero, List.reverse_cons, List.reverse_nil, Option.toList, Value.category, List.sum_cons, List.sum_nil, zk_0, zk_1, zk_12, zk_20, zk_23, zk_27, zn_2, zn_3, zn_4, zn_5, zn_6, zn_7, zn_8, zn_9, zn_10, zn_11, zn_13, zn_14, zn_15, zn_16, zn_17, zn_18, zn_19, zn_21, zn_22, zn_24, zn_25, zn_26, zn_28, zn_29, zn_30, zn_31, zn_32, zn_33, zn_34, zn_35, zn_36, zn_37, zn_38, zn_39, zn_40, zn_41, zn_42, zn_43, zn_44, zn_45, zn_46, Nat.reduceAdd, Nat.reduceSub, Nat.reduceLeDiff, true_and, and_true]
      refine ⟨fun _ => b3 _ ?_, fun e => absurd (by decide) e⟩
      simp only [bb_P_signalsThere_3, oIload, oAload, oIstore, oInc, oConst, o2, oDup, oPop, oDupX1, oDupX2, oDup2, oIf, oIfN, oCmp, oCmpN, oSwitch, oGetR, oGetI, oPutI, oPutZ, oIald, oZald, oIast, oZast, oRetI, oRetZ, oRetV, oCall, oRecv, oMax, List.map_cons, List.map_nil, List.getElem?_cons_zero, List.getElem?_cons_succ, List.set_cons_zero, List.set_cons_succ, List.length_cons, List.length_nil, List.cons_append, List.nil_append, List.append_nil, List.take_succ_cons, List.take_zero, List.drop_succ_cons, List.drop_zero, List.reverse_cons, List.reverse_nil, Option.toList, Value.category, List.sum_cons, List.sum_nil, zk_0, zk_1, zk_12, zk_20, zk_23, zk_27, zn_2, zn_3, zn_4, zn_5, zn_6, zn_7, zn_8, zn_9, zn_10, zn_11, zn_13, zn_14, zn_15, zn_16, zn_17, zn_18, zn_19, zn_21, zn_22, zn_24, zn_25, zn_26, zn_28, zn_29, zn_30, zn_31, zn_32, zn_33, zn_34, zn_35, zn_36, zn_37, zn_38, zn_39, zn_40, zn_41, zn_42, zn_43, zn_44, zn_45, zn_46, Nat.reduceAdd, Nat.reduceSub, Nat.reduceLeDiff, true_and, and_true]
      exact h
    | succ n ih =>
      intro i hi
      refine b1 _ ?_
      simp only [bb_P_signalsThere_1, oIload, oAload, oIstore, oInc, oConst, o2, oDup, oPop, oDupX1, oDupX2, oDup2, oIf, oIfN, oCmp, oCmpN, oSwitch, oGetR, oGetI, oPutI, oPutZ, oIald, oZald, oIast, oZast, oRetI, oRetZ, oRetV, oCall, oRecv, oMax, List.map_cons, List.map_nil, List.getElem?_cons_zero, List.getElem?_cons_succ, List.set_cons_zero, List.set_cons_succ, List.length_cons, List.length_nil, List.cons_append, List.nil_append, List.append_nil, List.take_succ_cons, List.take_zero, List.drop_succ_cons, List.drop_zero, List.reverse_cons, List.reverse_nil, Option.toList, Value.category, List.sum_cons, List.sum_nil, zk_0, zk_1, zk_12, zk_20, zk_23, zk_27, zn_2, zn_3, zn_4, zn_5, zn_6, zn_7, zn_8, zn_9, zn_10, zn_11, zn_13, zn_14, zn_15, zn_16, zn_17, zn_18, zn_19, zn_21, zn_22, zn_24, zn_25, zn_26, zn_28, zn_29, zn_30, zn_31, zn_32, zn_33, zn_34, zn_35, zn_36, zn_37, zn_38, zn_39, zn_40, zn_41, zn_42, zn_43, zn_44, zn_45, zn_46, Nat.reduceAdd, Nat.reduceSub, Nat.reduceLeDiff, true_and, and_true]
      refine ⟨fun e => absurd e (nI_ge (a := i) (b := 8) (by omega) (by omega)), fun _ => ⟨i, rfl, by omega, ?_⟩⟩
      rw [zb_0]
      refine ⟨fun e => b2 _ ?_, fun e => b2 _ ?_⟩
      · simp only [bb_P_signalsThere_2, oIload, oAload, oIstore, oInc, oConst, o2, oDup, oPop, oDupX1, oDupX2, oDup2, oIf, oIfN, oCmp, oCmpN, oSwitch, oGetR, oGetI, oPutI, oPutZ, oIald, oZald, oIast, oZast, oRetI, oRetZ, oRetV, oCall, oRecv, oMax, List.map_cons, List.map_nil, List.getElem?_cons_zero, List.getElem?_cons_succ, List.set_cons_zero, List.set_cons_succ, List.length_cons, List.length_nil, List.cons_append, List.nil_append, List.append_nil, List.take_succ_cons, List.take_zero, List.drop_succ_cons, List.drop_zero, List.reverse_cons, List.reverse_nil, Option.toList, Value.category, List.sum_cons, List.sum_nil, zk_0, zk_1, zk_12, zk_20, zk_23, zk_27, zn_2, zn_3, zn_4, zn_5, zn_6, zn_7, zn_8, zn_9, zn_10, zn_11, zn_13, zn_14, zn_15, zn_16, zn_17, zn_18, zn_19, zn_21, zn_22, zn_24, zn_25, zn_26, zn_28, zn_29, zn_30, zn_31, zn_32, zn_33, zn_34, zn_35, zn_36, zn_37, zn_38, zn_39, zn_40, zn_41, zn_42, zn_43, zn_44, zn_45, zn_46, Nat.reduceAdd, Nat.reduceSub, Nat.reduceLeDiff, true_and, and_true]
        rw [nI_1]
        have := ih (i + 1) (by omega)
        simp only [jMask, e, decide_true, Bool.not_true, Bool.false_eq_true, if_false] at this
        exact this
      · simp only [bb_P_signalsThere_2, oIload, oAload, oIstore, oInc, oConst, o2, oDup, oPop, oDupX1, oDupX2, oDup2, oIf, oIfN, oCmp, oCmpN, oSwitch, oGetR, oGetI, oPutI, oPutZ, oIald, oZald, oIast, oZast, oRetI, oRetZ, oRetV, oCall, oRecv, oMax, List.map_cons, List.map_nil, List.getElem?_cons_zero, List.getElem?_cons_succ, List.set_cons_zero, List.set_cons_succ, List.length_cons, List.length_nil, List.cons_append, List.nil_append, List.append_nil, List.take_succ_cons, List.take_zero, List.drop_succ_cons, List.drop_zero, List.reverse_cons, List.reverse_nil, Option.toList, Value.category, List.sum_cons, List.sum_nil, zk_0, zk_1, zk_12, zk_20, zk_23, zk_27, zn_2, zn_3, zn_4, zn_5, zn_6, zn_7, zn_8, zn_9, zn_10, zn_11, zn_13, zn_14, zn_15, zn_16, zn_17, zn_18, zn_19, zn_21, zn_22, zn_24, zn_25, zn_26, zn_28, zn_29, zn_30, zn_31, zn_32, zn_33, zn_34, zn_35, zn_36, zn_37, zn_38, zn_39, zn_40, zn_41, zn_42, zn_43, zn_44, zn_45, zn_46, Nat.reduceAdd, Nat.reduceSub, Nat.reduceLeDiff, true_and, and_true]
        rw [nI_1]
        have := ih (i + 1) (by omega)
        simp only [jMask, e, decide_false, Bool.not_false, if_true] at this
        exact this
  refine b0 _ ?_
  simp only [bb_P_signalsThere_0, oIload, oAload, oIstore, oInc, oConst, o2, oDup, oPop, oDupX1, oDupX2, oDup2, oIf, oIfN, oCmp, oCmpN, oSwitch, oGetR, oGetI, oPutI, oPutZ, oIald, oZald, oIast, oZast, oRetI, oRetZ, oRetV, oCall, oRecv, oMax, List.map_cons, List.map_nil, List.getElem?_cons_zero, List.getElem?_cons_succ, List.set_cons_zero, List.set_cons_succ, List.length_cons, List.length_nil, List.cons_append, List.nil_append, List.append_nil, List.take_succ_cons, List.take_zero, List.drop_succ_cons, List.drop_zero, List.reverse_cons, List.reverse_nil, Option.toList, Value.category, List.sum_cons, List.sum_nil, zk_0, zk_1, zk_12, zk_20, zk_23, zk_27, zn_2, zn_3, zn_4, zn_5, zn_6, zn_7, zn_8, zn_9, zn_10, zn_11, zn_13, zn_14, zn_15, zn_16, zn_17, zn_18, zn_19, zn_21, zn_22, zn_24, zn_25, zn_26, zn_28, zn_29, zn_30, zn_31, zn_32, zn_33, zn_34, zn_35, zn_36, zn_37, zn_38, zn_39, zn_40, zn_41, zn_42, zn_43, zn_44, zn_45, zn_46, Nat.reduceAdd, Nat.reduceSub, Nat.reduceLeDiff, true_and, and_true]
  exact loop 8 0 (by omega)
set_option maxHeartbeats 4000000 in
theorem sp_P_setRegister {c : Nat} (hP : ∀ c, c < P.n → zPc1 g P c) (hn : P.n ≤ 300) (hc : c < P.n) (hk1 : P.kd c = 1)
    (h : ∀ v : Int32, (!decide (v = 0)) = ((yw (zr g P 20) c 0 || (yw (zr g P 20) c 2 && !decide (g 26 (P.nm c) = 0))) && !yw (zr g P 20) c 3) → r none (zU g 26 (P.nm c) v)) : qs_P_setRegister l (d + 2) [.ref 12, .int (nI c)] g r := by
  obtain ⟨-, -, q3, q4, -⟩ := hP c hc
  have n1 := q3 (by omega)
  have n2 := q4 hk1
  have w0 : yw (zr g P 20) c 0 = bt (g 21 c) 7 := by rw [zr_w hc (by omega)]; rfl
  have w2 : yw (zr g P 20) c 2 = bt (g 21 c) 9 := by rw [zr_w hc (by omega)]; rfl
  have w3 : yw (zr g P 20) c 3 = bt (g 21 c) 10 := by rw [zr_w hc (by omega)]; rfl
  refine ss_P_setRegister fun K b0 b1 b2 b3 b4 b5 => ?_
  have k5 : ∀ (v : Int32) ls, (v = 0 ∨ v = 1) → (!decide (v = 0)) = ((yw (zr g P 20) c 0 || (yw (zr g P 20) c 2 && !decide (g 26 (P.nm c) = 0))) && !yw (zr g P 20) c 3) → K 5 (ls, [.int v, .int (nI (P.nm c)), .ref 26], g) := by
    intro v ls h01 hv
    refine b5 _ ?_
    simp only [bb_P_setRegister_5, oIload, oAload, oIstore, oInc, oConst, o2, oDup, oPop, oDupX1, oDupX2, oDup2, oIf, oIfN, oCmp, oCmpN, oSwitch, oGetR, oGetI, oPutI, oPutZ, oIald, oZald, oIast, oZast, oRetI, oRetZ, oRetV, oCall, oRecv, oMax, List.map_cons, List.map_nil, List.getElem?_cons_zero, List.getElem?_cons_succ, List.set_cons_zero, List.set_cons_succ, List.length_cons, List.length_nil, List.cons_append, List.nil_append, List.append_nil, List.take_succ_cons, List.take_zero, List.drop_succ_cons, List.drop_zero, List.reverse_cons, List.reverse_nil, Option.toList, Value.category, List.sum_cons, List.sum_nil, zk_0, zk_1, zk_12, zk_20, zk_23, zk_27, zn_2, zn_3, zn_4, zn_5, zn_6, zn_7, zn_8, zn_9, zn_10, zn_11, zn_13, zn_14, zn_15, zn_16, zn_17, zn_18, zn_19, zn_21, zn_22, zn_24, zn_25, zn_26, zn_28, zn_29, zn_30, zn_31, zn_32, zn_33, zn_34, zn_35, zn_36, zn_37, zn_38, zn_39, zn_40, zn_41, zn_42, zn_43, zn_44, zn_45, zn_46, Nat.reduceAdd, Nat.reduceSub, Nat.reduceLeDiff, true_and, and_true]
    exact ⟨P.nm c, rfl, by omega, h01, h _ hv⟩
  have k4 : ∀ ls, ((yw (zr g P 20) c 0 || (yw (zr g P 20) c 2 && !decide (g 26 (P.nm c) = 0))) && !yw (zr g P 20) c 3) = false → K 4 (ls, [.int (nI (P.nm c)), .ref 26], g) := by
    intro ls e
    refine b4 _ ?_
    simp only [bb_P_setRegister_4, oIload, oAload, oIstore, oInc, oConst, o2, oDup, oPop, oDupX1, oDupX2, oDup2, oIf, oIfN, oCmp, oCmpN, oSwitch, oGetR, oGetI, oPutI, oPutZ, oIald, oZald, oIast, oZast, oRetI, oRetZ, oRetV, oCall, oRecv, oMax, List.map_cons, List.map_nil, List.getElem?_cons_zero, List.getElem?_cons_succ, List.set_cons_zero, List.set_cons_succ, List.length_cons, List.length_nil, List.cons_append, List.nil_append, List.append_nil, List.take_succ_cons, List.take_zero, List.drop_succ_cons, List.drop_zero, List.reverse_cons, List.reverse_nil, Option.toList, Value.category, List.sum_cons, List.sum_nil, zk_0, zk_1, zk_12, zk_20, zk_23, zk_27, zn_2, zn_3, zn_4, zn_5, zn_6, zn_7, zn_8, zn_9, zn_10, zn_11, zn_13, zn_14, zn_15, zn_16, zn_17, zn_18, zn_19, zn_21, zn_22, zn_24, zn_25, zn_26, zn_28, zn_29, zn_30, zn_31, zn_32, zn_33, zn_34, zn_35, zn_36, zn_37, zn_38, zn_39, zn_40, zn_41, zn_42, zn_43, zn_44, zn_45, zn_46, Nat.reduceAdd, Nat.reduceSub, Nat.reduceLeDiff, true_and, and_true]
    exact k5 _ _ (Or.inl rfl) (by rw [e]; rfl)
  have k3 : ∀ y2 y3, (yw (zr g P 20) c 0 || (yw (zr g P 20) c 2 && !decide (g 26 (P.nm c) = 0))) = true → K 3 ([some (.ref 12), some (.int (nI c)), y2, y3], [.int (nI (P.nm c)), .ref 26], g) := by
    intro y2 y3 e
    refine b3 _ ?_
    simp only [bb_P_setRegister_3, oIload, oAload, oIstore, oInc, oConst, o2, oDup, oPop, oDupX1, oDupX2, oDup2, oIf, oIfN, oCmp, oCmpN, oSwitch, oGetR, oGetI, oPutI, oPutZ, oIald, oZald, oIast, oZast, oRetI, oRetZ, oRetV, oCall, oRecv, oMax, List.map_cons, List.map_nil, List.getElem?_cons_zero, List.getElem?_cons_succ, List.set_cons_zero, List.set_cons_succ, List.length_cons, List.length_nil, List.cons_append, List.nil_append, List.append_nil, List.take_succ_cons, List.take_zero, List.drop_succ_cons, List.drop_zero, List.reverse_cons, List.reverse_nil, Option.toList, Value.category, List.sum_cons, List.sum_nil, zk_0, zk_1, zk_12, zk_20, zk_23, zk_27, zn_2, zn_3, zn_4, zn_5, zn_6, zn_7, zn_8, zn_9, zn_10, zn_11, zn_13, zn_14, zn_15, zn_16, zn_17, zn_18, zn_19, zn_21, zn_22, zn_24, zn_25, zn_26, zn_28, zn_29, zn_30, zn_31, zn_32, zn_33, zn_34, zn_35, zn_36, zn_37, zn_38, zn_39, zn_40, zn_41, zn_42, zn_43, zn_44, zn_45, zn_46, Nat.reduceAdd, Nat.reduceSub, Nat.reduceLeDiff, true_and, and_true]
    refine sp_R_has (Or.inl rfl) (by omega) ?_
    simp only [oIload, oAload, oIstore, oInc, oConst, o2, oDup, oPop, oDupX1, oDupX2, oDup2, oIf, oIfN, oCmp, oCmpN, oSwitch, oGetR, oGetI, oPutI, oPutZ, oIald, oZald, oIast, oZast, oRetI, oRetZ, oRetV, oCall, oRecv, oMax, List.map_cons, List.map_nil, List.getElem?_cons_zero, List.getElem?_cons_succ, List.set_cons_zero, List.set_cons_succ, List.length_cons, List.length_nil, List.cons_append, List.nil_append, List.append_nil, List.take_succ_cons, List.take_zero, List.drop_succ_cons, List.drop_zero, List.reverse_cons, List.reverse_nil, Option.toList, Value.category, List.sum_cons, List.sum_nil, zk_0, zk_1, zk_12, zk_20, zk_23, zk_27, zn_2, zn_3, zn_4, zn_5, zn_6, zn_7, zn_8, zn_9, zn_10, zn_11, zn_13, zn_14, zn_15, zn_16, zn_17, zn_18, zn_19, zn_21, zn_22, zn_24, zn_25, zn_26, zn_28, zn_29, zn_30, zn_31, zn_32, zn_33, zn_34, zn_35, zn_36, zn_37, zn_38, zn_39, zn_40, zn_41, zn_42, zn_43, zn_44, zn_45, zn_46, Nat.reduceAdd, Nat.reduceSub, Nat.reduceLeDiff, true_and, and_true]
    refine ⟨fun e5 => k4 _ ?_, fun e5 => ?_⟩
    · have e6 := (has_nz 10 (by omega) bm_1024).mp e5
      simp [e, w3, e6]
    · have e6 := (has_z 10 (by omega) bm_1024).mp e5
      exact k5 _ _ (Or.inr rfl) (by rw [e, w3, e6]; rfl)
  have k2 : ∀ (b : Int32) y3, (b = 0 ↔ (yw (zr g P 20) c 2 && !decide (g 26 (P.nm c) = 0)) = false) → K 2 ([some (.ref 12), some (.int (nI c)), some (.int (nI (P.nm c))), y3], [.int b], g) := by
    intro b y3 hb
    refine b2 _ ?_
    simp only [bb_P_setRegister_2, oIload, oAload, oIstore, oInc, oConst, o2, oDup, oPop, oDupX1, oDupX2, oDup2, oIf, oIfN, oCmp, oCmpN, oSwitch, oGetR, oGetI, oPutI, oPutZ, oIald, oZald, oIast, oZast, oRetI, oRetZ, oRetV, oCall, oRecv, oMax, List.map_cons, List.map_nil, List.getElem?_cons_zero, List.getElem?_cons_succ, List.set_cons_zero, List.set_cons_succ, List.length_cons, List.length_nil, List.cons_append, List.nil_append, List.append_nil, List.take_succ_cons, List.take_zero, List.drop_succ_cons, List.drop_zero, List.reverse_cons, List.reverse_nil, Option.toList, Value.category, List.sum_cons, List.sum_nil, zk_0, zk_1, zk_12, zk_20, zk_23, zk_27, zn_2, zn_3, zn_4, zn_5, zn_6, zn_7, zn_8, zn_9, zn_10, zn_11, zn_13, zn_14, zn_15, zn_16, zn_17, zn_18, zn_19, zn_21, zn_22, zn_24, zn_25, zn_26, zn_28, zn_29, zn_30, zn_31, zn_32, zn_33, zn_34, zn_35, zn_36, zn_37, zn_38, zn_39, zn_40, zn_41, zn_42, zn_43, zn_44, zn_45, zn_46, Nat.reduceAdd, Nat.reduceSub, Nat.reduceLeDiff, true_and, and_true]
    refine sp_R_has (Or.inl rfl) (by omega) ?_
    simp only [oIload, oAload, oIstore, oInc, oConst, o2, oDup, oPop, oDupX1, oDupX2, oDup2, oIf, oIfN, oCmp, oCmpN, oSwitch, oGetR, oGetI, oPutI, oPutZ, oIald, oZald, oIast, oZast, oRetI, oRetZ, oRetV, oCall, oRecv, oMax, List.map_cons, List.map_nil, List.getElem?_cons_zero, List.getElem?_cons_succ, List.set_cons_zero, List.set_cons_succ, List.length_cons, List.length_nil, List.cons_append, List.nil_append, List.append_nil, List.take_succ_cons, List.take_zero, List.drop_succ_cons, List.drop_zero, List.reverse_cons, List.reverse_nil, Option.toList, Value.category, List.sum_cons, List.sum_nil, zk_0, zk_1, zk_12, zk_20, zk_23, zk_27, zn_2, zn_3, zn_4, zn_5, zn_6, zn_7, zn_8, zn_9, zn_10, zn_11, zn_13, zn_14, zn_15, zn_16, zn_17, zn_18, zn_19, zn_21, zn_22, zn_24, zn_25, zn_26, zn_28, zn_29, zn_30, zn_31, zn_32, zn_33, zn_34, zn_35, zn_36, zn_37, zn_38, zn_39, zn_40, zn_41, zn_42, zn_43, zn_44, zn_45, zn_46, Nat.reduceAdd, Nat.reduceSub, Nat.reduceLeDiff, true_and, and_true]
    refine ⟨fun e5 => k3 _ _ ?_, fun e5 => ?_⟩
    · have e6 := (has_nz 7 (by omega) bm_128).mp e5
      simp [w0, e6]
    · have e6 := (has_z 7 (by omega) bm_128).mp e5
      refine ⟨fun e => k4 _ ?_, fun e => k3 _ _ ?_⟩
      · rw [hb.mp e, w0, e6]; rfl
      · have : (yw (zr g P 20) c 2 && !decide (g 26 (P.nm c) = 0)) = true := by
          cases hq : (yw (zr g P 20) c 2 && !decide (g 26 (P.nm c) = 0)) with
          | true => rfl
          | false => exact absurd (hb.mpr hq) e
        rw [this]; simp
  have k1 : ∀ y3, (yw (zr g P 20) c 2 && !decide (g 26 (P.nm c) = 0)) = false → K 1 ([some (.ref 12), some (.int (nI c)), some (.int (nI (P.nm c))), y3], [], g) := by
    intro y3 e
    refine b1 _ ?_
    simp only [bb_P_setRegister_1, oIload, oAload, oIstore, oInc, oConst, o2, oDup, oPop, oDupX1, oDupX2, oDup2, oIf, oIfN, oCmp, oCmpN, oSwitch, oGetR, oGetI, oPutI, oPutZ, oIald, oZald, oIast, oZast, oRetI, oRetZ, oRetV, oCall, oRecv, oMax, List.map_cons, List.map_nil, List.getElem?_cons_zero, List.getElem?_cons_succ, List.set_cons_zero, List.set_cons_succ, List.length_cons, List.length_nil, List.cons_append, List.nil_append, List.append_nil, List.take_succ_cons, List.take_zero, List.drop_succ_cons, List.drop_zero, List.reverse_cons, List.reverse_nil, Option.toList, Value.category, List.sum_cons, List.sum_nil, zk_0, zk_1, zk_12, zk_20, zk_23, zk_27, zn_2, zn_3, zn_4, zn_5, zn_6, zn_7, zn_8, zn_9, zn_10, zn_11, zn_13, zn_14, zn_15, zn_16, zn_17, zn_18, zn_19, zn_21, zn_22, zn_24, zn_25, zn_26, zn_28, zn_29, zn_30, zn_31, zn_32, zn_33, zn_34, zn_35, zn_36, zn_37, zn_38, zn_39, zn_40, zn_41, zn_42, zn_43, zn_44, zn_45, zn_46, Nat.reduceAdd, Nat.reduceSub, Nat.reduceLeDiff, true_and, and_true]
    exact k2 _ _ (by simp [e])
  refine b0 _ ?_
  simp only [bb_P_setRegister_0, oIload, oAload, oIstore, oInc, oConst, o2, oDup, oPop, oDupX1, oDupX2, oDup2, oIf, oIfN, oCmp, oCmpN, oSwitch, oGetR, oGetI, oPutI, oPutZ, oIald, oZald, oIast, oZast, oRetI, oRetZ, oRetV, oCall, oRecv, oMax, List.map_cons, List.map_nil, List.getElem?_cons_zero, List.getElem?_cons_succ, List.set_cons_zero, List.set_cons_succ, List.length_cons, List.length_nil, List.cons_append, List.nil_append, List.append_nil, List.take_succ_cons, List.take_zero, List.drop_succ_cons, List.drop_zero, List.reverse_cons, List.reverse_nil, Option.toList, Value.category, List.sum_cons, List.sum_nil, zk_0, zk_1, zk_12, zk_20, zk_23, zk_27, zn_2, zn_3, zn_4, zn_5, zn_6, zn_7, zn_8, zn_9, zn_10, zn_11, zn_13, zn_14, zn_15, zn_16, zn_17, zn_18, zn_19, zn_21, zn_22, zn_24, zn_25, zn_26, zn_28, zn_29, zn_30, zn_31, zn_32, zn_33, zn_34, zn_35, zn_36, zn_37, zn_38, zn_39, zn_40, zn_41, zn_42, zn_43, zn_44, zn_45, zn_46, Nat.reduceAdd, Nat.reduceSub, Nat.reduceLeDiff, true_and, and_true]
  refine ⟨c, rfl, by omega, ?_⟩
  rw [n1]
  refine sp_R_has (Or.inl rfl) (by omega) ?_
  simp only [oIload, oAload, oIstore, oInc, oConst, o2, oDup, oPop, oDupX1, oDupX2, oDup2, oIf, oIfN, oCmp, oCmpN, oSwitch, oGetR, oGetI, oPutI, oPutZ, oIald, oZald, oIast, oZast, oRetI, oRetZ, oRetV, oCall, oRecv, oMax, List.map_cons, List.map_nil, List.getElem?_cons_zero, List.getElem?_cons_succ, List.set_cons_zero, List.set_cons_succ, List.length_cons, List.length_nil, List.cons_append, List.nil_append, List.append_nil, List.take_succ_cons, List.take_zero, List.drop_succ_cons, List.drop_zero, List.reverse_cons, List.reverse_nil, Option.toList, Value.category, List.sum_cons, List.sum_nil, zk_0, zk_1, zk_12, zk_20, zk_23, zk_27, zn_2, zn_3, zn_4, zn_5, zn_6, zn_7, zn_8, zn_9, zn_10, zn_11, zn_13, zn_14, zn_15, zn_16, zn_17, zn_18, zn_19, zn_21, zn_22, zn_24, zn_25, zn_26, zn_28, zn_29, zn_30, zn_31, zn_32, zn_33, zn_34, zn_35, zn_36, zn_37, zn_38, zn_39, zn_40, zn_41, zn_42, zn_43, zn_44, zn_45, zn_46, Nat.reduceAdd, Nat.reduceSub, Nat.reduceLeDiff, true_and, and_true]
  refine ⟨fun e5 => k1 _ ?_, fun e5 => ?_⟩
  · have e6 := (has_z 9 (by omega) bm_512).mp e5
    simp [w2, e6]
  · have e6 := (has_nz 9 (by omega) bm_512).mp e5
    refine ⟨P.nm c, rfl, by omega, ?_⟩
    rw [zb_0]
    refine ⟨fun e => k1 _ (by simp [e]), fun e => k2 _ _ (by simp [w2, e6, e])⟩
/-- what the end of an instant may change in the class -/
def zFi (g g' : zM) : Prop := (∀ k, k ≠ 26 → k ≠ 12 → g' k = g k) ∧ ∀ j, j ≠ 14 → j ≠ 16 → g' 12 j = g 12 j
set_option maxHeartbeats 4000000 in
theorem sp_P_finishInstant (hP : zPr g P)
    (h : ∀ g1, zFi g g1 → (∀ i, i < 60 → (!decide (g1 26 i = 0)) = fR P (zr g P 20) P.rg P.n i) → g1 12 16 = (if yw (zr g P 20) 0 5 = true then 1 else 0) → g1 12 14 = g 12 14 + 1 → r none g1) : qs_P_finishInstant l (d + 3) [.ref 12] g r := by
  obtain ⟨p1, p2, p3, p4, p5, p6, p7, p8, p9⟩ := hP
  refine ss_P_finishInstant fun K b0 b1 b2 b3 => ?_
  have loop : ∀ n c g1, c + n = P.n → (∀ k, k ≠ 26 → g1 k = g k) → (∀ i, i < 60 → (!decide (g1 26 i = 0)) = fR P (zr g P 20) P.rg c i) → K 1 ([some (.ref 12), some (.int (nI c))], [], g1) := by
    intro n
    induction n with
    | zero =>
      intro c g1 hc hf hr
      have w5 : yw (zr g P 20) 0 5 = bt (g 21 0) 0 := by rw [zr_w (by omega) (by omega)]; rfl
      refine b1 _ ?_
      simp only [bb_P_finishInstant_1, oIload, oAload, oIstore, oInc, oConst, o2, oDup, oPop, oDupX1, oDupX2, oDup2, oIf, oIfN, oCmp, oCmpN, oSwitch, oGetR, oGetI, oPutI, oPutZ, oIald, oZald, oIast, oZast, oRetI, oRetZ, oRetV, oCall, oRecv, oMax, List.map_cons, List.map_nil, List.getElem?_cons_zero, List.getElem?_cons_succ, List.set_cons_zero, List.set_cons_succ, List.length_cons, List.length_nil, List.cons_append, List.nil_append, List.append_nil, List.take_succ_cons, List.take_zero, List.drop_succ_cons, List.drop_zero, List.reverse_cons, List.reverse_nil, Option.toList, Value.category, List.sum_cons, List.sum_nil, zk_0, zk_1, zk_12, zk_20, zk_23, zk_27, zn_2, zn_3, zn_4, zn_5, zn_6, zn_7, zn_8, zn_9, zn_10, zn_11, zn_13, zn_14, zn_15, zn_16, zn_17, zn_18, zn_19, zn_21, zn_22, zn_24, zn_25, zn_26, zn_28, zn_29, zn_30, zn_31, zn_32, zn_33, zn_34, zn_35, zn_36, zn_37, zn_38, zn_39, zn_40, zn_41, zn_42, zn_43, zn_44, zn_45, zn_46, Nat.reduceAdd, Nat.reduceSub, Nat.reduceLeDiff, true_and, and_true]
      rw [hf 12 (by omega), p1]
      refine ⟨fun _ => b3 _ ?_, fun e => absurd (nI_le (by omega) (by omega)) e⟩
      simp only [bb_P_finishInstant_3, oIload, oAload, oIstore, oInc, oConst, o2, oDup, oPop, oDupX1, oDupX2, oDup2, oIf, oIfN, oCmp, oCmpN, oSwitch, oGetR, oGetI, oPutI, oPutZ, oIald, oZald, oIast, oZast, oRetI, oRetZ, oRetV, oCall, oRecv, oMax, List.map_cons, List.map_nil, List.getElem?_cons_zero, List.getElem?_cons_succ, List.set_cons_zero, List.set_cons_succ, List.length_cons, List.length_nil, List.cons_append, List.nil_append, List.append_nil, List.take_succ_cons, List.take_zero, List.drop_succ_cons, List.drop_zero, List.reverse_cons, List.reverse_nil, Option.toList, Value.category, List.sum_cons, List.sum_nil, zk_0, zk_1, zk_12, zk_20, zk_23, zk_27, zn_2, zn_3, zn_4, zn_5, zn_6, zn_7, zn_8, zn_9, zn_10, zn_11, zn_13, zn_14, zn_15, zn_16, zn_17, zn_18, zn_19, zn_21, zn_22, zn_24, zn_25, zn_26, zn_28, zn_29, zn_30, zn_31, zn_32, zn_33, zn_34, zn_35, zn_36, zn_37, zn_38, zn_39, zn_40, zn_41, zn_42, zn_43, zn_44, zn_45, zn_46, Nat.reduceAdd, Nat.reduceSub, Nat.reduceLeDiff, true_and, and_true]
      refine sp_R_has (c := 0) (Or.inl rfl) (by omega) ?_
      simp only [oIload, oAload, oIstore, oInc, oConst, o2, oDup, oPop, oDupX1, oDupX2, oDup2, oIf, oIfN, oCmp, oCmpN, oSwitch, oGetR, oGetI, oPutI, oPutZ, oIald, oZald, oIast, oZast, oRetI, oRetZ, oRetV, oCall, oRecv, oMax, List.map_cons, List.map_nil, List.getElem?_cons_zero, List.getElem?_cons_succ, List.set_cons_zero, List.set_cons_succ, List.length_cons, List.length_nil, List.cons_append, List.nil_append, List.append_nil, List.take_succ_cons, List.take_zero, List.drop_succ_cons, List.drop_zero, List.reverse_cons, List.reverse_nil, Option.toList, Value.category, List.sum_cons, List.sum_nil, zk_0, zk_1, zk_12, zk_20, zk_23, zk_27, zn_2, zn_3, zn_4, zn_5, zn_6, zn_7, zn_8, zn_9, zn_10, zn_11, zn_13, zn_14, zn_15, zn_16, zn_17, zn_18, zn_19, zn_21, zn_22, zn_24, zn_25, zn_26, zn_28, zn_29, zn_30, zn_31, zn_32, zn_33, zn_34, zn_35, zn_36, zn_37, zn_38, zn_39, zn_40, zn_41, zn_42, zn_43, zn_44, zn_45, zn_46, Nat.reduceAdd, Nat.reduceSub, Nat.reduceLeDiff, true_and, and_true]
      refine ⟨by split <;> simp, ?_⟩
      refine h _ ⟨fun k h1 h2 => ?_, fun j h1 h2 => ?_⟩ (fun i hi => ?_) ?_ ?_
      · rw [zU_ne _ 12 _ _ h2, zU_ne _ 12 _ _ h2]; exact hf k h1
      · rw [zU_off _ 12 14 _ h1, zU_off _ 12 16 _ h2, hf 12 (by omega)]
      · rw [zU_ne _ 12 _ _ (x := 26) (by omega), zU_ne _ 12 _ _ (x := 26) (by omega), hr i hi, show c = P.n by omega]
      · rw [zU_off _ 12 14 _ (by omega), zU_at, hf 21 (by omega), w5]
        by_cases e : g 21 0 &&& 1 = 0
        · rw [if_pos e, (bm_has 0 (by omega) bm_1).mp e]; rfl
        · have : bt (g 21 0) 0 = true := by
            cases hb : bt (g 21 0) 0 with
            | true => rfl
            | false => exact absurd ((bm_has 0 (by omega) bm_1).mpr hb) e
          rw [if_neg e, this]; rfl
      · rw [zU_at, zU_off _ 12 16 _ (by omega), hf 12 (by omega)]
    | succ n ih =>
      intro c g1 hc hf hr
      have hcn : c < P.n := by omega
      obtain ⟨q1, q2, -⟩ := p7 c hcn
      have x1 : nI (P.kd c) = 1 ↔ P.kd c = 1 := nI_is 1 rfl (by omega) (by omega)
      have k2 : ∀ g2, (∀ k, k ≠ 26 → g2 k = g k) → (∀ i, i < 60 → (!decide (g2 26 i = 0)) = fR P (zr g P 20) P.rg (c + 1) i) → K 2 ([some (.ref 12), some (.int (nI c))], [], g2) := by
        intro g2 hf2 hr2
        refine b2 _ ?_
        simp only [bb_P_finishInstant_2, oIload, oAload, oIstore, oInc, oConst, o2, oDup, oPop, oDupX1, oDupX2, oDup2, oIf, oIfN, oCmp, oCmpN, oSwitch, oGetR, oGetI, oPutI, oPutZ, oIald, oZald, oIast, oZast, oRetI, oRetZ, oRetV, oCall, oRecv, oMax, List.map_cons, List.map_nil, List.getElem?_cons_zero, List.getElem?_cons_succ, List.set_cons_zero, List.set_cons_succ, List.length_cons, List.length_nil, List.cons_append, List.nil_append, List.append_nil, List.take_succ_cons, List.take_zero, List.drop_succ_cons, List.drop_zero, List.reverse_cons, List.reverse_nil, Option.toList, Value.category, List.sum_cons, List.sum_nil, zk_0, zk_1, zk_12, zk_20, zk_23, zk_27, zn_2, zn_3, zn_4, zn_5, zn_6, zn_7, zn_8, zn_9, zn_10, zn_11, zn_13, zn_14, zn_15, zn_16, zn_17, zn_18, zn_19, zn_21, zn_22, zn_24, zn_25, zn_26, zn_28, zn_29, zn_30, zn_31, zn_32, zn_33, zn_34, zn_35, zn_36, zn_37, zn_38, zn_39, zn_40, zn_41, zn_42, zn_43, zn_44, zn_45, zn_46, Nat.reduceAdd, Nat.reduceSub, Nat.reduceLeDiff, true_and, and_true]
        rw [nI_1]
        exact ih (c + 1) g2 (by omega) hf2 hr2
      refine b1 _ ?_
      simp only [bb_P_finishInstant_1, oIload, oAload, oIstore, oInc, oConst, o2, oDup, oPop, oDupX1, oDupX2, oDup2, oIf, oIfN, oCmp, oCmpN, oSwitch, oGetR, oGetI, oPutI, oPutZ, oIald, oZald, oIast, oZast, oRetI, oRetZ, oRetV, oCall, oRecv, oMax, List.map_cons, List.map_nil, List.getElem?_cons_zero, List.getElem?_cons_succ, List.set_cons_zero, List.set_cons_succ, List.length_cons, List.length_nil, List.cons_append, List.nil_append, List.append_nil, List.take_succ_cons, List.take_zero, List.drop_succ_cons, List.drop_zero, List.reverse_cons, List.reverse_nil, Option.toList, Value.category, List.sum_cons, List.sum_nil, zk_0, zk_1, zk_12, zk_20, zk_23, zk_27, zn_2, zn_3, zn_4, zn_5, zn_6, zn_7, zn_8, zn_9, zn_10, zn_11, zn_13, zn_14, zn_15, zn_16, zn_17, zn_18, zn_19, zn_21, zn_22, zn_24, zn_25, zn_26, zn_28, zn_29, zn_30, zn_31, zn_32, zn_33, zn_34, zn_35, zn_36, zn_37, zn_38, zn_39, zn_40, zn_41, zn_42, zn_43, zn_44, zn_45, zn_46, Nat.reduceAdd, Nat.reduceSub, Nat.reduceLeDiff, true_and, and_true]
      rw [hf 12 (by omega), p1]
      refine ⟨fun e => absurd e (nI_ge (by omega) (by omega)), fun _ => ⟨c, rfl, by omega, ?_⟩⟩
      rw [hf 13 (by omega), q1, x1]
      refine ⟨fun e => k2 _ hf fun i hi => ?_, fun e => ?_⟩
      · rw [hr i hi]; simp only [fR, if_neg e]
      · have hP1 : ∀ c, c < P.n → zPc1 g1 P c := by
          intro c' hc'
          have := p7 c' hc'
          unfold zPc1 at this ⊢
          rw [hf 13 (by omega), hf 14 (by omega), hf 15 (by omega), hf 16 (by omega), hf 17 (by omega)]
          exact this
        have ez : zr g1 P 20 = zr g P 20 := by
          funext u
          obtain ⟨y, j⟩ := u
          cases y with
          | zero => simp only [zr]; rw [hf 22 (by omega)]
          | succ c' => simp only [zr]; rw [hf 21 (by omega)]
        have n2 := (p7 c hcn).2.2.2.1 e
        refine sp_P_setRegister hP1 p3 hcn e fun v hv => ?_
        simp only [oIload, oAload, oIstore, oInc, oConst, o2, oDup, oPop, oDupX1, oDupX2, oDup2, oIf, oIfN, oCmp, oCmpN, oSwitch, oGetR, oGetI, oPutI, oPutZ, oIald, oZald, oIast, oZast, oRetI, oRetZ, oRetV, oCall, oRecv, oMax, List.map_cons, List.map_nil, List.getElem?_cons_zero, List.getElem?_cons_succ, List.set_cons_zero, List.set_cons_succ, List.length_cons, List.length_nil, List.cons_append, List.nil_append, List.append_nil, List.take_succ_cons, List.take_zero, List.drop_succ_cons, List.drop_zero, List.reverse_cons, List.reverse_nil, Option.toList, Value.category, List.sum_cons, List.sum_nil, zk_0, zk_1, zk_12, zk_20, zk_23, zk_27, zn_2, zn_3, zn_4, zn_5, zn_6, zn_7, zn_8, zn_9, zn_10, zn_11, zn_13, zn_14, zn_15, zn_16, zn_17, zn_18, zn_19, zn_21, zn_22, zn_24, zn_25, zn_26, zn_28, zn_29, zn_30, zn_31, zn_32, zn_33, zn_34, zn_35, zn_36, zn_37, zn_38, zn_39, zn_40, zn_41, zn_42, zn_43, zn_44, zn_45, zn_46, Nat.reduceAdd, Nat.reduceSub, Nat.reduceLeDiff, true_and, and_true]
        refine k2 _ (fun k hk => by rw [zU_ne _ 26 _ _ hk]; exact hf k hk) fun i hi => ?_
        simp only [fR, if_pos e]
        by_cases ei : i = P.nm c
        · subst ei
          rw [zU_at, hv, ez, hr _ hi, if_pos rfl]
        · rw [zU_off _ 26 _ _ ei, hr i hi, if_neg ei]
  refine b0 _ ?_
  simp only [bb_P_finishInstant_0, oIload, oAload, oIstore, oInc, oConst, o2, oDup, oPop, oDupX1, oDupX2, oDup2, oIf, oIfN, oCmp, oCmpN, oSwitch, oGetR, oGetI, oPutI, oPutZ, oIald, oZald, oIast, oZast, oRetI, oRetZ, oRetV, oCall, oRecv, oMax, List.map_cons, List.map_nil, List.getElem?_cons_zero, List.getElem?_cons_succ, List.set_cons_zero, List.set_cons_succ, List.length_cons, List.length_nil, List.cons_append, List.nil_append, List.append_nil, List.take_succ_cons, List.take_zero, List.drop_succ_cons, List.drop_zero, List.reverse_cons, List.reverse_nil, Option.toList, Value.category, List.sum_cons, List.sum_nil, zk_0, zk_1, zk_12, zk_20, zk_23, zk_27, zn_2, zn_3, zn_4, zn_5, zn_6, zn_7, zn_8, zn_9, zn_10, zn_11, zn_13, zn_14, zn_15, zn_16, zn_17, zn_18, zn_19, zn_21, zn_22, zn_24, zn_25, zn_26, zn_28, zn_29, zn_30, zn_31, zn_32, zn_33, zn_34, zn_35, zn_36, zn_37, zn_38, zn_39, zn_40, zn_41, zn_42, zn_43, zn_44, zn_45, zn_46, Nat.reduceAdd, Nat.reduceSub, Nat.reduceLeDiff, true_and, and_true]
  exact loop P.n 0 g (by omega) (fun _ _ => rfl) fun i hi => (p8 i hi).symm
end SPF
