/-! signals out of the wires; the unknown start -/
def zFs (a : Nat) (g g' : zM) : Prop := (∀ k, k ≠ a + 2 → g' k = g k) ∧ ∀ i, i < 3 → g' (a + 2) i = g (a + 2) i
theorem zFs.put {a i : Nat} {g g1 : zM} {v : Int32} (h : zFs a g g1) (hi : 3 ≤ i) : zFs a g (zU g1 (a + 2) i v) := by
  refine ⟨fun k hk => ?_, fun j hj => ?_⟩
  · rw [zU_ne g1 (a + 2) i v hk]; exact h.1 k hk
  · rw [zU_off g1 (a + 2) i v (by omega)]; exact h.2 j hj
def eEm (P : yP) (r : yR) (i n : Nat) : Bool := (List.range n).any fun c => P.kd c == 2 && P.nm c == i && yw r c 0
theorem eEm_succ (P : yP) (r : yR) (i n : Nat) : eEm P r i (n + 1) = (eEm P r i n || (P.kd n == 2 && P.nm n == i && yw r n 0)) := by
  simp [eEm, List.range_succ]
set_option maxHeartbeats 4000000 in
theorem sp_P_gatherSignals {l : Launch} {d : Nat} {g : zM} {r : Option Value → zM → Prop} {P : yP} {a : Nat} (hP : zPr g P) (hE : ∀ c, c < P.n → P.kd c = 2 → 3 ≤ P.nm c) (ha : a = 20 ∨ a = 23)
    (h : ∀ g1, zFs a g g1 → (∀ i, 3 ≤ i → i < P.ns → (g1 (a + 2) i = 0 ↔ eSig P (zr g P a) i = false)) → r none g1) : qs_P_gatherSignals l (d + 2) [.ref 12, .ref a] g r := by
  have hP0 := hP
  obtain ⟨p1, p2, p3, p4, p5, p6, p7, p8, p9⟩ := hP
  have hk : zk zT a 3 := by rcases ha with rfl | rfl <;> rfl
  have hz : zn zT 1 (a + 2) = 308 := by rcases ha with rfl | rfl <;> rfl
  have h12 : (12 : Nat) ≠ a + 2 := by omega
  refine ss_P_gatherSignals fun K b0 b1 b2 b3 b4 b5 => ?_
  have loop2 : ∀ n c g1, c + n = P.n → zFs a g g1 → (∀ i, 3 ≤ i → i < P.ns → (g1 (a + 2) i = 0 ↔ eEm P (zr g P a) i c = false)) → K 3 ([some (.ref 12), some (.ref a), some (.int (nI c))], [], g1) := by
    intro n
    induction n with
    | zero =>
      intro c g1 hcn hf hi
      refine b3 _ ?_
      simp only [bb_P_gatherSignals_3, oIload, oAload, oIstore, oInc, oConst, o2, oDup, oPop, oDupX1, oDupX2, oDup2, oIf, oIfN, oCmp, oCmpN, oSwitch, oGetR, oGetI, oPutI, oPutZ, oIald, oZald, oIast, oZast, oRetI, oRetZ, oRetV, oCall, oRecv, oMax, List.map_cons, List.map_nil, List.getElem?_cons_zero, List.getElem?_cons_succ, List.set_cons_zero, List.set_cons_succ, List.length_cons, List.length_nil, List.cons_append, List.nil_append, List.append_nil, List.take_succ_cons, List.take_zero, List.drop_succ_cons, List.drop_zero, List.reverse_cons, List.reverse_nil, Option.toList, Value.category, List.sum_cons, List.sum_nil, zk_0, zk_1, zk_12, zk_20, zk_23, zk_27, zn_2, zn_3, zn_4, zn_5, zn_6, zn_7, zn_8, zn_9, zn_10, zn_11, zn_13, zn_14, zn_15, zn_16, zn_17, zn_18, zn_19, zn_21, zn_22, zn_24, zn_25, zn_26, zn_28, zn_29, zn_30, zn_31, zn_32, zn_33, zn_34, zn_35, zn_36, zn_37, zn_38, zn_39, zn_40, zn_41, zn_42, zn_43, zn_44, zn_45, zn_46, Nat.reduceAdd, Nat.reduceSub, Nat.reduceLeDiff, true_and, and_true]
      rw [hf.1 12 h12, p1]
      refine ⟨fun _ => b5 _ ?_, fun e => absurd (nI_le (by omega) (by omega)) e⟩
      simp only [bb_P_gatherSignals_5, oIload, oAload, oIstore, oInc, oConst, o2, oDup, oPop, oDupX1, oDupX2, oDup2, oIf, oIfN, oCmp, oCmpN, oSwitch, oGetR, oGetI, oPutI, oPutZ, oIald, oZald, oIast, oZast, oRetI, oRetZ, oRetV, oCall, oRecv, oMax, List.map_cons, List.map_nil, List.getElem?_cons_zero, List.getElem?_cons_succ, List.set_cons_zero, List.set_cons_succ, List.length_cons, List.length_nil, List.cons_append, List.nil_append, List.append_nil, List.take_succ_cons, List.take_zero, List.drop_succ_cons, List.drop_zero, List.reverse_cons, List.reverse_nil, Option.toList, Value.category, List.sum_cons, List.sum_nil, zk_0, zk_1, zk_12, zk_20, zk_23, zk_27, zn_2, zn_3, zn_4, zn_5, zn_6, zn_7, zn_8, zn_9, zn_10, zn_11, zn_13, zn_14, zn_15, zn_16, zn_17, zn_18, zn_19, zn_21, zn_22, zn_24, zn_25, zn_26, zn_28, zn_29, zn_30, zn_31, zn_32, zn_33, zn_34, zn_35, zn_36, zn_37, zn_38, zn_39, zn_40, zn_41, zn_42, zn_43, zn_44, zn_45, zn_46, Nat.reduceAdd, Nat.reduceSub, Nat.reduceLeDiff, true_and, and_true]
      refine h _ hf fun i h3 hn => ?_
      rw [hi i h3 hn, show c = P.n by omega]
      simp [eSig, eEm, show ¬ i < 3 by omega]
    | succ n ih =>
      intro c g1 hcn hf hi
      have hc : c < P.n := by omega
      obtain ⟨q1, q2, q3, -, -, q6, -⟩ := p7 c hc
      have w0 : yw (zr g P a) c 0 = bt (g (a + 1) c) 7 := by rw [zr_w hc (by omega)]; rfl
      have k4 : ∀ g2, zFs a g g2 → (∀ i, 3 ≤ i → i < P.ns → (g2 (a + 2) i = 0 ↔ eEm P (zr g P a) i (c + 1) = false)) → K 4 ([some (.ref 12), some (.ref a), some (.int (nI c))], [], g2) := by
        intro g2 hf2 hi2
        refine b4 _ ?_
        simp only [bb_P_gatherSignals_4, oIload, oAload, oIstore, oInc, oConst, o2, oDup, oPop, oDupX1, oDupX2, oDup2, oIf, oIfN, oCmp, oCmpN, oSwitch, oGetR, oGetI, oPutI, oPutZ, oIald, oZald, oIast, oZast, oRetI, oRetZ, oRetV, oCall, oRecv, oMax, List.map_cons, List.map_nil, List.getElem?_cons_zero, List.getElem?_cons_succ, List.set_cons_zero, List.set_cons_succ, List.length_cons, List.length_nil, List.cons_append, List.nil_append, List.append_nil, List.take_succ_cons, List.take_zero, List.drop_succ_cons, List.drop_zero, List.reverse_cons, List.reverse_nil, Option.toList, Value.category, List.sum_cons, List.sum_nil, zk_0, zk_1, zk_12, zk_20, zk_23, zk_27, zn_2, zn_3, zn_4, zn_5, zn_6, zn_7, zn_8, zn_9, zn_10, zn_11, zn_13, zn_14, zn_15, zn_16, zn_17, zn_18, zn_19, zn_21, zn_22, zn_24, zn_25, zn_26, zn_28, zn_29, zn_30, zn_31, zn_32, zn_33, zn_34, zn_35, zn_36, zn_37, zn_38, zn_39, zn_40, zn_41, zn_42, zn_43, zn_44, zn_45, zn_46, Nat.reduceAdd, Nat.reduceSub, Nat.reduceLeDiff, true_and, and_true]
        rw [nI_1]
        exact ih (c + 1) g2 (by omega) hf2 hi2
      refine b3 _ ?_
      simp only [bb_P_gatherSignals_3, oIload, oAload, oIstore, oInc, oConst, o2, oDup, oPop, oDupX1, oDupX2, oDup2, oIf, oIfN, oCmp, oCmpN, oSwitch, oGetR, oGetI, oPutI, oPutZ, oIald, oZald, oIast, oZast, oRetI, oRetZ, oRetV, oCall, oRecv, oMax, List.map_cons, List.map_nil, List.getElem?_cons_zero, List.getElem?_cons_succ, List.set_cons_zero, List.set_cons_succ, List.length_cons, List.length_nil, List.cons_append, List.nil_append, List.append_nil, List.take_succ_cons, List.take_zero, List.drop_succ_cons, List.drop_zero, List.reverse_cons, List.reverse_nil, Option.toList, Value.category, List.sum_cons, List.sum_nil, zk_0, zk_1, zk_12, zk_20, zk_23, zk_27, zn_2, zn_3, zn_4, zn_5, zn_6, zn_7, zn_8, zn_9, zn_10, zn_11, zn_13, zn_14, zn_15, zn_16, zn_17, zn_18, zn_19, zn_21, zn_22, zn_24, zn_25, zn_26, zn_28, zn_29, zn_30, zn_31, zn_32, zn_33, zn_34, zn_35, zn_36, zn_37, zn_38, zn_39, zn_40, zn_41, zn_42, zn_43, zn_44, zn_45, zn_46, Nat.reduceAdd, Nat.reduceSub, Nat.reduceLeDiff, true_and, and_true]
      rw [hf.1 12 h12, p1]
      refine ⟨fun e => absurd e (nI_ge (by omega) (by omega)), fun _ => ⟨c, rfl, by omega, ?_⟩⟩
      rw [hf.1 13 (by omega), q1]
      refine ⟨fun e => k4 _ hf fun i h3 hn => ?_, fun e => ?_⟩
      · have hne : ¬ P.kd c = 2 := fun e2 => e (by rw [e2]; rfl)
        rw [hi i h3 hn, eEm_succ]
        simp [hne]
      · have e2 : P.kd c = 2 := nI_inj (by omega) (by omega) e
        have n1 := q3 (by omega)
        have n2 := q6 (by omega)
        have n3 := hE c hc e2
        have ew : g1 (a + 1) c = g (a + 1) c := by rw [hf.1 (a + 1) (by omega)]
        refine ⟨hk, sp_R_has ha (by omega) ?_⟩
        rw [ew]
        simp only [oIload, oAload, oIstore, oInc, oConst, o2, oDup, oPop, oDupX1, oDupX2, oDup2, oIf, oIfN, oCmp, oCmpN, oSwitch, oGetR, oGetI, oPutI, oPutZ, oIald, oZald, oIast, oZast, oRetI, oRetZ, oRetV, oCall, oRecv, oMax, List.map_cons, List.map_nil, List.getElem?_cons_zero, List.getElem?_cons_succ, List.set_cons_zero, List.set_cons_succ, List.length_cons, List.length_nil, List.cons_append, List.nil_append, List.append_nil, List.take_succ_cons, List.take_zero, List.drop_succ_cons, List.drop_zero, List.reverse_cons, List.reverse_nil, Option.toList, Value.category, List.sum_cons, List.sum_nil, zk_0, zk_1, zk_12, zk_20, zk_23, zk_27, zn_2, zn_3, zn_4, zn_5, zn_6, zn_7, zn_8, zn_9, zn_10, zn_11, zn_13, zn_14, zn_15, zn_16, zn_17, zn_18, zn_19, zn_21, zn_22, zn_24, zn_25, zn_26, zn_28, zn_29, zn_30, zn_31, zn_32, zn_33, zn_34, zn_35, zn_36, zn_37, zn_38, zn_39, zn_40, zn_41, zn_42, zn_43, zn_44, zn_45, zn_46, Nat.reduceAdd, Nat.reduceSub, Nat.reduceLeDiff, true_and, and_true]
        refine ⟨fun e5 => k4 _ hf fun i h3 hn => ?_, fun e5 => ⟨hk, c, rfl, by omega, P.nm c, ?_, by omega, by simp, k4 _ (hf.put n3) fun i h3 hn => ?_⟩⟩
        · have e6 := (has_z 7 (by omega) bm_128).mp e5
          rw [hi i h3 hn, eEm_succ]
          simp [w0, e6]
        · rw [hf.1 14 (by omega)]; exact n1
        · have e6 := (has_nz 7 (by omega) bm_128).mp e5
          rw [eEm_succ]
          by_cases hin : i = P.nm c
          · subst hin
            rw [zU_at]
            simp [e2, w0, e6]
          · rw [zU_off g1 (a + 2) (P.nm c) 1 hin, hi i h3 hn]
            simp [e2, Ne.symm hin]
  have loop1 : ∀ n i g1, i + n = P.ns → 3 ≤ i → zFs a g g1 → (∀ j, 3 ≤ j → j < i → g1 (a + 2) j = 0) → K 1 ([some (.ref 12), some (.ref a), some (.int (nI i))], [], g1) := by
    intro n
    induction n with
    | zero =>
      intro i g1 hin h3 hf hi
      refine b1 _ ?_
      simp only [bb_P_gatherSignals_1, oIload, oAload, oIstore, oInc, oConst, o2, oDup, oPop, oDupX1, oDupX2, oDup2, oIf, oIfN, oCmp, oCmpN, oSwitch, oGetR, oGetI, oPutI, oPutZ, oIald, oZald, oIast, oZast, oRetI, oRetZ, oRetV, oCall, oRecv, oMax, List.map_cons, List.map_nil, List.getElem?_cons_zero, List.getElem?_cons_succ, List.set_cons_zero, List.set_cons_succ, List.length_cons, List.length_nil, List.cons_append, List.nil_append, List.append_nil, List.take_succ_cons, List.take_zero, List.drop_succ_cons, List.drop_zero, List.reverse_cons, List.reverse_nil, Option.toList, Value.category, List.sum_cons, List.sum_nil, zk_0, zk_1, zk_12, zk_20, zk_23, zk_27, zn_2, zn_3, zn_4, zn_5, zn_6, zn_7, zn_8, zn_9, zn_10, zn_11, zn_13, zn_14, zn_15, zn_16, zn_17, zn_18, zn_19, zn_21, zn_22, zn_24, zn_25, zn_26, zn_28, zn_29, zn_30, zn_31, zn_32, zn_33, zn_34, zn_35, zn_36, zn_37, zn_38, zn_39, zn_40, zn_41, zn_42, zn_43, zn_44, zn_45, zn_46, Nat.reduceAdd, Nat.reduceSub, Nat.reduceLeDiff, true_and, and_true]
      rw [hf.1 12 h12, p4]
      refine ⟨fun _ => b2 _ ?_, fun e => absurd (nI_le (by omega) (by omega)) e⟩
      simp only [bb_P_gatherSignals_2, oIload, oAload, oIstore, oInc, oConst, o2, oDup, oPop, oDupX1, oDupX2, oDup2, oIf, oIfN, oCmp, oCmpN, oSwitch, oGetR, oGetI, oPutI, oPutZ, oIald, oZald, oIast, oZast, oRetI, oRetZ, oRetV, oCall, oRecv, oMax, List.map_cons, List.map_nil, List.getElem?_cons_zero, List.getElem?_cons_succ, List.set_cons_zero, List.set_cons_succ, List.length_cons, List.length_nil, List.cons_append, List.nil_append, List.append_nil, List.take_succ_cons, List.take_zero, List.drop_succ_cons, List.drop_zero, List.reverse_cons, List.reverse_nil, Option.toList, Value.category, List.sum_cons, List.sum_nil, zk_0, zk_1, zk_12, zk_20, zk_23, zk_27, zn_2, zn_3, zn_4, zn_5, zn_6, zn_7, zn_8, zn_9, zn_10, zn_11, zn_13, zn_14, zn_15, zn_16, zn_17, zn_18, zn_19, zn_21, zn_22, zn_24, zn_25, zn_26, zn_28, zn_29, zn_30, zn_31, zn_32, zn_33, zn_34, zn_35, zn_36, zn_37, zn_38, zn_39, zn_40, zn_41, zn_42, zn_43, zn_44, zn_45, zn_46, Nat.reduceAdd, Nat.reduceSub, Nat.reduceLeDiff, true_and, and_true]
      refine loop2 P.n 0 g1 (by omega) hf fun j h3 hj => ?_
      rw [hi j h3 (by omega)]
      simp [eEm]
    | succ n ih =>
      intro i g1 hin h3 hf hi
      refine b1 _ ?_
      simp only [bb_P_gatherSignals_1, oIload, oAload, oIstore, oInc, oConst, o2, oDup, oPop, oDupX1, oDupX2, oDup2, oIf, oIfN, oCmp, oCmpN, oSwitch, oGetR, oGetI, oPutI, oPutZ, oIald, oZald, oIast, oZast, oRetI, oRetZ, oRetV, oCall, oRecv, oMax, List.map_cons, List.map_nil, List.getElem?_cons_zero, List.getElem?_cons_succ, List.set_cons_zero, List.set_cons_succ, List.length_cons, List.length_nil, List.cons_append, List.nil_append, List.append_nil, List.take_succ_cons, List.take_zero, List.drop_succ_cons, List.drop_zero, List.reverse_cons, List.reverse_nil, Option.toList, Value.category, List.sum_cons, List.sum_nil, zk_0, zk_1, zk_12, zk_20, zk_23, zk_27, zn_2, zn_3, zn_4, zn_5, zn_6, zn_7, zn_8, zn_9, zn_10, zn_11, zn_13, zn_14, zn_15, zn_16, zn_17, zn_18, zn_19, zn_21, zn_22, zn_24, zn_25, zn_26, zn_28, zn_29, zn_30, zn_31, zn_32, zn_33, zn_34, zn_35, zn_36, zn_37, zn_38, zn_39, zn_40, zn_41, zn_42, zn_43, zn_44, zn_45, zn_46, Nat.reduceAdd, Nat.reduceSub, Nat.reduceLeDiff, true_and, and_true]
      rw [hf.1 12 h12, p4]
      refine ⟨fun e => absurd e (nI_ge (by omega) (by omega)), fun _ => ⟨hk, i, rfl, by omega, ?_⟩⟩
      rw [nI_1]
      refine ⟨by simp, ih (i + 1) _ (by omega) (by omega) (hf.put h3) fun j hj1 hj2 => ?_⟩
      by_cases e : j = i
      · subst e; exact zU_at _ _ _ _
      · rw [zU_off g1 (a + 2) i 0 e]; exact hi j hj1 (by omega)
  refine b0 _ ?_
  simp only [bb_P_gatherSignals_0, oIload, oAload, oIstore, oInc, oConst, o2, oDup, oPop, oDupX1, oDupX2, oDup2, oIf, oIfN, oCmp, oCmpN, oSwitch, oGetR, oGetI, oPutI, oPutZ, oIald, oZald, oIast, oZast, oRetI, oRetZ, oRetV, oCall, oRecv, oMax, List.map_cons, List.map_nil, List.getElem?_cons_zero, List.getElem?_cons_succ, List.set_cons_zero, List.set_cons_succ, List.length_cons, List.length_nil, List.cons_append, List.nil_append, List.append_nil, List.take_succ_cons, List.take_zero, List.drop_succ_cons, List.drop_zero, List.reverse_cons, List.reverse_nil, Option.toList, Value.category, List.sum_cons, List.sum_nil, zk_0, zk_1, zk_12, zk_20, zk_23, zk_27, zn_2, zn_3, zn_4, zn_5, zn_6, zn_7, zn_8, zn_9, zn_10, zn_11, zn_13, zn_14, zn_15, zn_16, zn_17, zn_18, zn_19, zn_21, zn_22, zn_24, zn_25, zn_26, zn_28, zn_29, zn_30, zn_31, zn_32, zn_33, zn_34, zn_35, zn_36, zn_37, zn_38, zn_39, zn_40, zn_41, zn_42, zn_43, zn_44, zn_45, zn_46, Nat.reduceAdd, Nat.reduceSub, Nat.reduceLeDiff, true_and, and_true]
  exact loop1 (P.ns - 3) 3 g (by omega) (by omega) ⟨fun _ _ => rfl, fun _ _ => rfl⟩ fun j h1 h2 => absurd h2 (by omega)
/-- what a solve may change: the rows' cells alone -/
def zF4 (g g' : zM) : Prop := ∀ k, (k < 20 ∨ 25 < k) → g' k = g k
def jIn (x : Int32) (i : Nat) : Int32 := if (x >>> (nI i &&& 31)) &&& 1 = 0 then 0 else 1
set_option maxHeartbeats 4000000 in
theorem sp_P_makeUnknown {l : Launch} {d : Nat} {g : zM} {r : Option Value → zM → Prop} {P : yP} {x : Int32} (hP : zPr g P)
    (h : ∀ g1, zF4 g g1 → (∀ c, c < P.n → g1 21 c = 0 ∧ g1 24 c = 2047) → (∀ i, i < 3 → g1 22 i = jIn x i ∧ g1 25 i = jIn x i) → r none g1) : qs_P_makeUnknown l (d + 1) [.ref 12, .int x] g r := by
  obtain ⟨p1, p2, p3, -⟩ := hP
  refine ss_P_makeUnknown fun K b0 b1 b2 b3 b4 b5 b6 => ?_
  have loop2 : ∀ n i g1 y, i + n = 3 → zF4 g g1 → (∀ c, c < P.n → g1 21 c = 0 ∧ g1 24 c = 2047) → (∀ j, j < i → g1 22 j = jIn x j ∧ g1 25 j = jIn x j) → K 3 ([some (.ref 12), some (.int x), some (.int (nI i)), y], [], g1) := by
    intro n
    induction n with
    | zero =>
      intro i g1 y hin hf hw hs
      have hi3 : i = 3 := by omega
      subst hi3
      refine b3 _ ?_
      simp only [bb_P_makeUnknown_3, oIload, oAload, oIstore, oInc, oConst, o2, oDup, oPop, oDupX1, oDupX2, oDup2, oIf, oIfN, oCmp, oCmpN, oSwitch, oGetR, oGetI, oPutI, oPutZ, oIald, oZald, oIast, oZast, oRetI, oRetZ, oRetV, oCall, oRecv, oMax, List.map_cons, List.map_nil, List.getElem?_cons_zero, List.getElem?_cons_succ, List.set_cons_zero, List.set_cons_succ, List.length_cons, List.length_nil, List.cons_append, List.nil_append, List.append_nil, List.take_succ_cons, List.take_zero, List.drop_succ_cons, List.drop_zero, List.reverse_cons, List.reverse_nil, Option.toList, Value.category, List.sum_cons, List.sum_nil, zk_0, zk_1, zk_12, zk_20, zk_23, zk_27, zn_2, zn_3, zn_4, zn_5, zn_6, zn_7, zn_8, zn_9, zn_10, zn_11, zn_13, zn_14, zn_15, zn_16, zn_17, zn_18, zn_19, zn_21, zn_22, zn_24, zn_25, zn_26, zn_28, zn_29, zn_30, zn_31, zn_32, zn_33, zn_34, zn_35, zn_36, zn_37, zn_38, zn_39, zn_40, zn_41, zn_42, zn_43, zn_44, zn_45, zn_46, Nat.reduceAdd, Nat.reduceSub, Nat.reduceLeDiff, true_and, and_true]
      refine ⟨fun _ => b6 _ ?_, fun e => absurd (by decide) e⟩
      simp only [bb_P_makeUnknown_6, oIload, oAload, oIstore, oInc, oConst, o2, oDup, oPop, oDupX1, oDupX2, oDup2, oIf, oIfN, oCmp, oCmpN, oSwitch, oGetR, oGetI, oPutI, oPutZ, oIald, oZald, oIast, oZast, oRetI, oRetZ, oRetV, oCall, oRecv, oMax, List.map_cons, List.map_nil, List.getElem?_cons_zero, List.getElem?_cons_succ, List.set_cons_zero, List.set_cons_succ, List.length_cons, List.length_nil, List.cons_append, List.nil_append, List.append_nil, List.take_succ_cons, List.take_zero, List.drop_succ_cons, List.drop_zero, List.reverse_cons, List.reverse_nil, Option.toList, Value.category, List.sum_cons, List.sum_nil, zk_0, zk_1, zk_12, zk_20, zk_23, zk_27, zn_2, zn_3, zn_4, zn_5, zn_6, zn_7, zn_8, zn_9, zn_10, zn_11, zn_13, zn_14, zn_15, zn_16, zn_17, zn_18, zn_19, zn_21, zn_22, zn_24, zn_25, zn_26, zn_28, zn_29, zn_30, zn_31, zn_32, zn_33, zn_34, zn_35, zn_36, zn_37, zn_38, zn_39, zn_40, zn_41, zn_42, zn_43, zn_44, zn_45, zn_46, Nat.reduceAdd, Nat.reduceSub, Nat.reduceLeDiff, true_and, and_true]
      exact h _ hf hw hs
    | succ n ih =>
      intro i g1 y hin hf hw hs
      have k5 : ∀ v z, v = jIn x i → K 5 ([some (.ref 12), some (.int x), some (.int (nI i)), z], [.int v], g1) := by
        intro v z hv
        have h01 : v = 0 ∨ v = 1 := by rw [hv]; unfold jIn; split <;> simp
        refine b5 _ ?_
        simp only [bb_P_makeUnknown_5, oIload, oAload, oIstore, oInc, oConst, o2, oDup, oPop, oDupX1, oDupX2, oDup2, oIf, oIfN, oCmp, oCmpN, oSwitch, oGetR, oGetI, oPutI, oPutZ, oIald, oZald, oIast, oZast, oRetI, oRetZ, oRetV, oCall, oRecv, oMax, List.map_cons, List.map_nil, List.getElem?_cons_zero, List.getElem?_cons_succ, List.set_cons_zero, List.set_cons_succ, List.length_cons, List.length_nil, List.cons_append, List.nil_append, List.append_nil, List.take_succ_cons, List.take_zero, List.drop_succ_cons, List.drop_zero, List.reverse_cons, List.reverse_nil, Option.toList, Value.category, List.sum_cons, List.sum_nil, zk_0, zk_1, zk_12, zk_20, zk_23, zk_27, zn_2, zn_3, zn_4, zn_5, zn_6, zn_7, zn_8, zn_9, zn_10, zn_11, zn_13, zn_14, zn_15, zn_16, zn_17, zn_18, zn_19, zn_21, zn_22, zn_24, zn_25, zn_26, zn_28, zn_29, zn_30, zn_31, zn_32, zn_33, zn_34, zn_35, zn_36, zn_37, zn_38, zn_39, zn_40, zn_41, zn_42, zn_43, zn_44, zn_45, zn_46, Nat.reduceAdd, Nat.reduceSub, Nat.reduceLeDiff, true_and, and_true]
        refine ⟨i, rfl, by omega, h01, i, rfl, by omega, h01, ?_⟩
        rw [nI_1]
        refine ih (i + 1) _ _ (by omega) ?_ ?_ ?_
        · intro k hk
          rw [zU_ne _ 25 i v (x := k) (by omega), zU_ne g1 22 i v (x := k) (by omega)]
          exact hf k hk
        · intro c hc
          rw [zU_ne _ 25 i v (x := 21) (by omega), zU_ne g1 22 i v (x := 21) (by omega), zU_ne _ 25 i v (x := 24) (by omega), zU_ne g1 22 i v (x := 24) (by omega)]
          exact hw c hc
        · intro j hj
          rw [zU_ne _ 25 i v (x := 22) (by omega)]
          by_cases e : j = i
          · subst e
            rw [zU_at, zU_at]; exact ⟨hv, hv⟩
          · rw [zU_off _ 25 i v e, zU_off g1 22 i v e, zU_ne g1 22 i v (x := 25) (by omega)]
            exact hs j (by omega)
      refine b3 _ ?_
      simp only [bb_P_makeUnknown_3, oIload, oAload, oIstore, oInc, oConst, o2, oDup, oPop, oDupX1, oDupX2, oDup2, oIf, oIfN, oCmp, oCmpN, oSwitch, oGetR, oGetI, oPutI, oPutZ, oIald, oZald, oIast, oZast, oRetI, oRetZ, oRetV, oCall, oRecv, oMax, List.map_cons, List.map_nil, List.getElem?_cons_zero, List.getElem?_cons_succ, List.set_cons_zero, List.set_cons_succ, List.length_cons, List.length_nil, List.cons_append, List.nil_append, List.append_nil, List.take_succ_cons, List.take_zero, List.drop_succ_cons, List.drop_zero, List.reverse_cons, List.reverse_nil, Option.toList, Value.category, List.sum_cons, List.sum_nil, zk_0, zk_1, zk_12, zk_20, zk_23, zk_27, zn_2, zn_3, zn_4, zn_5, zn_6, zn_7, zn_8, zn_9, zn_10, zn_11, zn_13, zn_14, zn_15, zn_16, zn_17, zn_18, zn_19, zn_21, zn_22, zn_24, zn_25, zn_26, zn_28, zn_29, zn_30, zn_31, zn_32, zn_33, zn_34, zn_35, zn_36, zn_37, zn_38, zn_39, zn_40, zn_41, zn_42, zn_43, zn_44, zn_45, zn_46, Nat.reduceAdd, Nat.reduceSub, Nat.reduceLeDiff, true_and, and_true]
      refine ⟨fun e => absurd e (nI_ge (a := i) (b := 3) (by omega) (by omega)), fun _ => ⟨fun e => b4 _ ?_, fun e => k5 _ _ (by simp [jIn, e])⟩⟩
      simp only [bb_P_makeUnknown_4, oIload, oAload, oIstore, oInc, oConst, o2, oDup, oPop, oDupX1, oDupX2, oDup2, oIf, oIfN, oCmp, oCmpN, oSwitch, oGetR, oGetI, oPutI, oPutZ, oIald, oZald, oIast, oZast, oRetI, oRetZ, oRetV, oCall, oRecv, oMax, List.map_cons, List.map_nil, List.getElem?_cons_zero, List.getElem?_cons_succ, List.set_cons_zero, List.set_cons_succ, List.length_cons, List.length_nil, List.cons_append, List.nil_append, List.append_nil, List.take_succ_cons, List.take_zero, List.drop_succ_cons, List.drop_zero, List.reverse_cons, List.reverse_nil, Option.toList, Value.category, List.sum_cons, List.sum_nil, zk_0, zk_1, zk_12, zk_20, zk_23, zk_27, zn_2, zn_3, zn_4, zn_5, zn_6, zn_7, zn_8, zn_9, zn_10, zn_11, zn_13, zn_14, zn_15, zn_16, zn_17, zn_18, zn_19, zn_21, zn_22, zn_24, zn_25, zn_26, zn_28, zn_29, zn_30, zn_31, zn_32, zn_33, zn_34, zn_35, zn_36, zn_37, zn_38, zn_39, zn_40, zn_41, zn_42, zn_43, zn_44, zn_45, zn_46, Nat.reduceAdd, Nat.reduceSub, Nat.reduceLeDiff, true_and, and_true]
      exact k5 _ _ (by simp [jIn, e])
  have loop1 : ∀ n c g1 y, c + n = P.n → zF4 g g1 → (∀ c', c' < c → g1 21 c' = 0 ∧ g1 24 c' = 2047) → K 1 ([some (.ref 12), some (.int x), some (.int (nI c)), y], [], g1) := by
    intro n
    induction n with
    | zero =>
      intro c g1 y hcn hf hw
      refine b1 _ ?_
      simp only [bb_P_makeUnknown_1, oIload, oAload, oIstore, oInc, oConst, o2, oDup, oPop, oDupX1, oDupX2, oDup2, oIf, oIfN, oCmp, oCmpN, oSwitch, oGetR, oGetI, oPutI, oPutZ, oIald, oZald, oIast, oZast, oRetI, oRetZ, oRetV, oCall, oRecv, oMax, List.map_cons, List.map_nil, List.getElem?_cons_zero, List.getElem?_cons_succ, List.set_cons_zero, List.set_cons_succ, List.length_cons, List.length_nil, List.cons_append, List.nil_append, List.append_nil, List.take_succ_cons, List.take_zero, List.drop_succ_cons, List.drop_zero, List.reverse_cons, List.reverse_nil, Option.toList, Value.category, List.sum_cons, List.sum_nil, zk_0, zk_1, zk_12, zk_20, zk_23, zk_27, zn_2, zn_3, zn_4, zn_5, zn_6, zn_7, zn_8, zn_9, zn_10, zn_11, zn_13, zn_14, zn_15, zn_16, zn_17, zn_18, zn_19, zn_21, zn_22, zn_24, zn_25, zn_26, zn_28, zn_29, zn_30, zn_31, zn_32, zn_33, zn_34, zn_35, zn_36, zn_37, zn_38, zn_39, zn_40, zn_41, zn_42, zn_43, zn_44, zn_45, zn_46, Nat.reduceAdd, Nat.reduceSub, Nat.reduceLeDiff, true_and, and_true]
      rw [hf 12 (by omega), p1]
      refine ⟨fun _ => b2 _ ?_, fun e => absurd (nI_le (by omega) (by omega)) e⟩
      simp only [bb_P_makeUnknown_2, oIload, oAload, oIstore, oInc, oConst, o2, oDup, oPop, oDupX1, oDupX2, oDup2, oIf, oIfN, oCmp, oCmpN, oSwitch, oGetR, oGetI, oPutI, oPutZ, oIald, oZald, oIast, oZast, oRetI, oRetZ, oRetV, oCall, oRecv, oMax, List.map_cons, List.map_nil, List.getElem?_cons_zero, List.getElem?_cons_succ, List.set_cons_zero, List.set_cons_succ, List.length_cons, List.length_nil, List.cons_append, List.nil_append, List.append_nil, List.take_succ_cons, List.take_zero, List.drop_succ_cons, List.drop_zero, List.reverse_cons, List.reverse_nil, Option.toList, Value.category, List.sum_cons, List.sum_nil, zk_0, zk_1, zk_12, zk_20, zk_23, zk_27, zn_2, zn_3, zn_4, zn_5, zn_6, zn_7, zn_8, zn_9, zn_10, zn_11, zn_13, zn_14, zn_15, zn_16, zn_17, zn_18, zn_19, zn_21, zn_22, zn_24, zn_25, zn_26, zn_28, zn_29, zn_30, zn_31, zn_32, zn_33, zn_34, zn_35, zn_36, zn_37, zn_38, zn_39, zn_40, zn_41, zn_42, zn_43, zn_44, zn_45, zn_46, Nat.reduceAdd, Nat.reduceSub, Nat.reduceLeDiff, true_and, and_true]
      exact loop2 3 0 g1 _ (by omega) hf (fun c' hc' => hw c' (by omega)) fun j hj => absurd hj (by omega)
    | succ n ih =>
      intro c g1 y hcn hf hw
      refine b1 _ ?_
      simp only [bb_P_makeUnknown_1, oIload, oAload, oIstore, oInc, oConst, o2, oDup, oPop, oDupX1, oDupX2, oDup2, oIf, oIfN, oCmp, oCmpN, oSwitch, oGetR, oGetI, oPutI, oPutZ, oIald, oZald, oIast, oZast, oRetI, oRetZ, oRetV, oCall, oRecv, oMax, List.map_cons, List.map_nil, List.getElem?_cons_zero, List.getElem?_cons_succ, List.set_cons_zero, List.set_cons_succ, List.length_cons, List.length_nil, List.cons_append, List.nil_append, List.append_nil, List.take_succ_cons, List.take_zero, List.drop_succ_cons, List.drop_zero, List.reverse_cons, List.reverse_nil, Option.toList, Value.category, List.sum_cons, List.sum_nil, zk_0, zk_1, zk_12, zk_20, zk_23, zk_27, zn_2, zn_3, zn_4, zn_5, zn_6, zn_7, zn_8, zn_9, zn_10, zn_11, zn_13, zn_14, zn_15, zn_16, zn_17, zn_18, zn_19, zn_21, zn_22, zn_24, zn_25, zn_26, zn_28, zn_29, zn_30, zn_31, zn_32, zn_33, zn_34, zn_35, zn_36, zn_37, zn_38, zn_39, zn_40, zn_41, zn_42, zn_43, zn_44, zn_45, zn_46, Nat.reduceAdd, Nat.reduceSub, Nat.reduceLeDiff, true_and, and_true]
      rw [hf 12 (by omega), p1]
      refine ⟨fun e => absurd e (nI_ge (by omega) (by omega)), fun _ => ⟨c, rfl, by omega, c, rfl, by omega, ?_⟩⟩
      rw [nI_1]
      refine ih (c + 1) _ _ (by omega) ?_ ?_
      · intro k hk
        rw [zU_ne _ 24 c 2047 (x := k) (by omega), zU_ne g1 21 c 0 (x := k) (by omega)]
        exact hf k hk
      · intro c' hc'
        rw [zU_ne _ 24 c 2047 (x := 21) (by omega)]
        by_cases e : c' = c
        · subst e; rw [zU_at, zU_at]; exact ⟨rfl, rfl⟩
        · rw [zU_off g1 21 c 0 e, zU_off _ 24 c 2047 e, zU_ne g1 21 c 0 (x := 24) (by omega)]
          exact hw c' (by omega)
  refine b0 _ ?_
  simp only [bb_P_makeUnknown_0, oIload, oAload, oIstore, oInc, oConst, o2, oDup, oPop, oDupX1, oDupX2, oDup2, oIf, oIfN, oCmp, oCmpN, oSwitch, oGetR, oGetI, oPutI, oPutZ, oIald, oZald, oIast, oZast, oRetI, oRetZ, oRetV, oCall, oRecv, oMax, List.map_cons, List.map_nil, List.getElem?_cons_zero, List.getElem?_cons_succ, List.set_cons_zero, List.set_cons_succ, List.length_cons, List.length_nil, List.cons_append, List.nil_append, List.append_nil, List.take_succ_cons, List.take_zero, List.drop_succ_cons, List.drop_zero, List.reverse_cons, List.reverse_nil, Option.toList, Value.category, List.sum_cons, List.sum_nil, zk_0, zk_1, zk_12, zk_20, zk_23, zk_27, zn_2, zn_3, zn_4, zn_5, zn_6, zn_7, zn_8, zn_9, zn_10, zn_11, zn_13, zn_14, zn_15, zn_16, zn_17, zn_18, zn_19, zn_21, zn_22, zn_24, zn_25, zn_26, zn_28, zn_29, zn_30, zn_31, zn_32, zn_33, zn_34, zn_35, zn_36, zn_37, zn_38, zn_39, zn_40, zn_41, zn_42, zn_43, zn_44, zn_45, zn_46, Nat.reduceAdd, Nat.reduceSub, Nat.reduceLeDiff, true_and, and_true]
  exact loop1 P.n 0 g _ (by omega) (fun _ _ => rfl) fun c' hc' => absurd hc' (by omega)
