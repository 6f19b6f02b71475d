set_option maxHeartbeats 8000000 in
set_option maxRecDepth 20000 in
theorem sp_M_goes1 {l : Launch} {d : Nat} {g : zM} {r : Option Value → zM → Prop} {F : yF} {i0 : Nat} (hF : zFre g F) (hw : yFw F) (hi0 : i0 < F.n) (ho : yOkc F i0 0 0 0) (hr0 : g 27 21 = 0) (hs0 : g 27 22 = 8)
    (h : ∀ G, zGp F g G yS0 (yTop F i0) 0 (-1) 0 → r (some (.int 1)) G) : qs_M_goes l (d + 3) [.ref 27, .int (nI i0), .int 1] g r := by
  refine ss_M_goes fun K b0 b1 b2 b3 b4 b5 b6 b7 b8 b9 b10 b11 b12 b13 b14 b15 b16 => ?_
  have kN : ∀ (gg : zM) (q i t c p : Nat) y3 y4 y5 y6 y7, i < F.n → zFre gg F → gg 27 8 = nI (q + 1) → q < 63 → gg 34 (4 * q) = nI i → gg 34 (4 * q + 3) = nI t → t < 100 → gg 27 10 = nI c → c ≤ 300 → gg 27 11 = nI p → p ≤ 60 → (¬ yLoc F i t c p → r (some (.int 0)) (zU gg 27 8 (nI q))) → (yLoc F i t c p → K 7 ([some (.ref 27), some (.int (nI i0)), some (.int 1), some (.int (nI i)), some (.int (nI t)), some (.int 0), y6, y7], [], zU gg 27 8 (nI q))) → K 1 ([some (.ref 27), some (.int (nI i0)), some (.int 1), y3, y4, y5, y6, y7], [], gg) := by
    intro gg q i t c p y3 y4 y5 y6 y7 hi hF h8 hq e0 e3 ht h10 hc h11 hp hbad hgood
    obtain ⟨u1, u2, u3, u4, u5, u6⟩ := hF.2 i hi
    obtain ⟨q1, q2, q3, q4, q5, q6, q7, q8, q9, q10, -⟩ := hw.2.2 i hi
    have hn := hw.1
    have x5 : nI (F.kd i) = 5 ↔ F.kd i = 5 := nI_is 5 rfl (by omega) (by omega)
    have x10 : nI (F.kd i) = 10 ↔ F.kd i = 10 := nI_is 10 rfl (by omega) (by omega)
    have x1 : nI (F.kd i) = 1 ↔ F.kd i = 1 := nI_is 1 rfl (by omega) (by omega)
    have zk : ∀ k, k ≠ 27 → zU gg 27 8 (nI q) k = gg k := fun k hk => zU_ne _ _ _ _ hk
    have zj : ∀ j, j ≠ 8 → zU gg 27 8 (nI q) 27 j = gg 27 j := fun j hj => zU_off _ _ _ _ hj
    have k6 : ∀ y5, ¬ yLoc F i t c p → K 6 ([some (.ref 27), some (.int (nI i0)), some (.int 1), some (.int (nI i)), some (.int (nI t)), y5, y6, y7], [], zU gg 27 8 (nI q)) := by
      intro y5 hb
      refine b6 _ ?_
      simp only [bb_M_goes_6, oIload, oAload, oIstore, oInc, oConst, o2, oDup, oPop, oDupX1, oDupX2, oDup2, oIf, oIfN, oCmp, oCmpN, oSwitch, oGetR, oGetI, oPutI, oPutZ, oIald, oZald, oIast, oZast, oRetI, oRetZ, oRetV, oCall, oRecv, oMax, List.map_cons, List.map_nil, List.getElem?_cons_zero, List.getElem?_cons_succ, List.set_cons_zero, List.set_cons_succ, List.length_cons, List.length_nil, List.cons_append, List.nil_append, List.append_nil, List.take_succ_cons, List.take_zero, List.drop_succ_cons, List.drop_zero, List.reverse_cons, List.reverse_nil, Option.toList, Value.category, List.sum_cons, List.sum_nil, zk_0, zk_1, zk_12, zk_20, zk_23, zk_27, zn_2, zn_3, zn_4, zn_5, zn_6, zn_7, zn_8, zn_9, zn_10, zn_11, zn_13, zn_14, zn_15, zn_16, zn_17, zn_18, zn_19, zn_21, zn_22, zn_24, zn_25, zn_26, zn_28, zn_29, zn_30, zn_31, zn_32, zn_33, zn_34, zn_35, zn_36, zn_37, zn_38, zn_39, zn_40, zn_41, zn_42, zn_43, zn_44, zn_45, zn_46, Nat.reduceAdd, Nat.reduceSub, Nat.reduceLeDiff, true_and, and_true]
      exact ⟨by simp, hbad hb⟩
    have k3 : ∀ y5, ¬ yLoc F i t c p → K 3 ([some (.ref 27), some (.int (nI i0)), some (.int 1), some (.int (nI i)), some (.int (nI t)), y5, y6, y7], [], zU gg 27 8 (nI q)) := by
      intro y5 hb
      refine b3 _ ?_
      simp only [bb_M_goes_3, oIload, oAload, oIstore, oInc, oConst, o2, oDup, oPop, oDupX1, oDupX2, oDup2, oIf, oIfN, oCmp, oCmpN, oSwitch, oGetR, oGetI, oPutI, oPutZ, oIald, oZald, oIast, oZast, oRetI, oRetZ, oRetV, oCall, oRecv, oMax, List.map_cons, List.map_nil, List.getElem?_cons_zero, List.getElem?_cons_succ, List.set_cons_zero, List.set_cons_succ, List.length_cons, List.length_nil, List.cons_append, List.nil_append, List.append_nil, List.take_succ_cons, List.take_zero, List.drop_succ_cons, List.drop_zero, List.reverse_cons, List.reverse_nil, Option.toList, Value.category, List.sum_cons, List.sum_nil, zk_0, zk_1, zk_12, zk_20, zk_23, zk_27, zn_2, zn_3, zn_4, zn_5, zn_6, zn_7, zn_8, zn_9, zn_10, zn_11, zn_13, zn_14, zn_15, zn_16, zn_17, zn_18, zn_19, zn_21, zn_22, zn_24, zn_25, zn_26, zn_28, zn_29, zn_30, zn_31, zn_32, zn_33, zn_34, zn_35, zn_36, zn_37, zn_38, zn_39, zn_40, zn_41, zn_42, zn_43, zn_44, zn_45, zn_46, Nat.reduceAdd, Nat.reduceSub, Nat.reduceLeDiff, true_and, and_true]
      refine b5 _ ?_
      simp only [bb_M_goes_5, oIload, oAload, oIstore, oInc, oConst, o2, oDup, oPop, oDupX1, oDupX2, oDup2, oIf, oIfN, oCmp, oCmpN, oSwitch, oGetR, oGetI, oPutI, oPutZ, oIald, oZald, oIast, oZast, oRetI, oRetZ, oRetV, oCall, oRecv, oMax, List.map_cons, List.map_nil, List.getElem?_cons_zero, List.getElem?_cons_succ, List.set_cons_zero, List.set_cons_succ, List.length_cons, List.length_nil, List.cons_append, List.nil_append, List.append_nil, List.take_succ_cons, List.take_zero, List.drop_succ_cons, List.drop_zero, List.reverse_cons, List.reverse_nil, Option.toList, Value.category, List.sum_cons, List.sum_nil, zk_0, zk_1, zk_12, zk_20, zk_23, zk_27, zn_2, zn_3, zn_4, zn_5, zn_6, zn_7, zn_8, zn_9, zn_10, zn_11, zn_13, zn_14, zn_15, zn_16, zn_17, zn_18, zn_19, zn_21, zn_22, zn_24, zn_25, zn_26, zn_28, zn_29, zn_30, zn_31, zn_32, zn_33, zn_34, zn_35, zn_36, zn_37, zn_38, zn_39, zn_40, zn_41, zn_42, zn_43, zn_44, zn_45, zn_46, Nat.reduceAdd, Nat.reduceSub, Nat.reduceLeDiff, true_and, and_true]
      exact ⟨fun _ => k6 _ hb, fun q => absurd q (by decide)⟩
    have k4 : ∀ y5, ¬ (F.kd i = 5 ∧ F.cd (F.fi i) % 2 = 1) → (F.kd i = 10 → F.nm i + 1 ≤ t) → K 4 ([some (.ref 27), some (.int (nI i0)), some (.int 1), some (.int (nI i)), some (.int (nI t)), y5, y6, y7], [], zU gg 27 8 (nI q)) := by
      intro y5 l1 l2
      refine b4 _ ?_
      simp only [bb_M_goes_4, oIload, oAload, oIstore, oInc, oConst, o2, oDup, oPop, oDupX1, oDupX2, oDup2, oIf, oIfN, oCmp, oCmpN, oSwitch, oGetR, oGetI, oPutI, oPutZ, oIald, oZald, oIast, oZast, oRetI, oRetZ, oRetV, oCall, oRecv, oMax, List.map_cons, List.map_nil, List.getElem?_cons_zero, List.getElem?_cons_succ, List.set_cons_zero, List.set_cons_succ, List.length_cons, List.length_nil, List.cons_append, List.nil_append, List.append_nil, List.take_succ_cons, List.take_zero, List.drop_succ_cons, List.drop_zero, List.reverse_cons, List.reverse_nil, Option.toList, Value.category, List.sum_cons, List.sum_nil, zk_0, zk_1, zk_12, zk_20, zk_23, zk_27, zn_2, zn_3, zn_4, zn_5, zn_6, zn_7, zn_8, zn_9, zn_10, zn_11, zn_13, zn_14, zn_15, zn_16, zn_17, zn_18, zn_19, zn_21, zn_22, zn_24, zn_25, zn_26, zn_28, zn_29, zn_30, zn_31, zn_32, zn_33, zn_34, zn_35, zn_36, zn_37, zn_38, zn_39, zn_40, zn_41, zn_42, zn_43, zn_44, zn_45, zn_46, Nat.reduceAdd, Nat.reduceSub, Nat.reduceLeDiff, true_and, and_true]
      refine b5 _ ?_
      simp only [bb_M_goes_5, oIload, oAload, oIstore, oInc, oConst, o2, oDup, oPop, oDupX1, oDupX2, oDup2, oIf, oIfN, oCmp, oCmpN, oSwitch, oGetR, oGetI, oPutI, oPutZ, oIald, oZald, oIast, oZast, oRetI, oRetZ, oRetV, oCall, oRecv, oMax, List.map_cons, List.map_nil, List.getElem?_cons_zero, List.getElem?_cons_succ, List.set_cons_zero, List.set_cons_succ, List.length_cons, List.length_nil, List.cons_append, List.nil_append, List.append_nil, List.take_succ_cons, List.take_zero, List.drop_succ_cons, List.drop_zero, List.reverse_cons, List.reverse_nil, Option.toList, Value.category, List.sum_cons, List.sum_nil, zk_0, zk_1, zk_12, zk_20, zk_23, zk_27, zn_2, zn_3, zn_4, zn_5, zn_6, zn_7, zn_8, zn_9, zn_10, zn_11, zn_13, zn_14, zn_15, zn_16, zn_17, zn_18, zn_19, zn_21, zn_22, zn_24, zn_25, zn_26, zn_28, zn_29, zn_30, zn_31, zn_32, zn_33, zn_34, zn_35, zn_36, zn_37, zn_38, zn_39, zn_40, zn_41, zn_42, zn_43, zn_44, zn_45, zn_46, Nat.reduceAdd, Nat.reduceSub, Nat.reduceLeDiff, true_and, and_true]
      refine ⟨fun q => absurd trivial q, fun _ => ?_⟩
      rw [zj 10 (by omega), h10]
      refine pk_eq c 300 (fun e => k6 _ (fun q => q.2.2.1 e)) (fun e => ?_)
      refine ⟨i, rfl, by omega, ?_⟩
      rw [zk 28 (by omega), u1, x1]
      refine ⟨fun e1 => hgood ⟨l1, l2, e, fun q => absurd q e1⟩, fun e1 => ?_⟩
      rw [zj 11 (by omega), h11, show nI p = 60 ↔ p = 60 from nI_is 60 rfl (by omega) (by omega)]
      exact ⟨fun e2 => hgood ⟨l1, l2, e, fun _ => e2⟩, fun e2 => k6 _ (fun q => q.2.2.2 e1 e2)⟩
    have k2 : ∀ y5, ¬ (F.kd i = 5 ∧ F.cd (F.fi i) % 2 = 1) → K 2 ([some (.ref 27), some (.int (nI i0)), some (.int 1), some (.int (nI i)), some (.int (nI t)), y5, y6, y7], [], zU gg 27 8 (nI q)) := by
      intro y5 l1
      refine b2 _ ?_
      simp only [bb_M_goes_2, oIload, oAload, oIstore, oInc, oConst, o2, oDup, oPop, oDupX1, oDupX2, oDup2, oIf, oIfN, oCmp, oCmpN, oSwitch, oGetR, oGetI, oPutI, oPutZ, oIald, oZald, oIast, oZast, oRetI, oRetZ, oRetV, oCall, oRecv, oMax, List.map_cons, List.map_nil, List.getElem?_cons_zero, List.getElem?_cons_succ, List.set_cons_zero, List.set_cons_succ, List.length_cons, List.length_nil, List.cons_append, List.nil_append, List.append_nil, List.take_succ_cons, List.take_zero, List.drop_succ_cons, List.drop_zero, List.reverse_cons, List.reverse_nil, Option.toList, Value.category, List.sum_cons, List.sum_nil, zk_0, zk_1, zk_12, zk_20, zk_23, zk_27, zn_2, zn_3, zn_4, zn_5, zn_6, zn_7, zn_8, zn_9, zn_10, zn_11, zn_13, zn_14, zn_15, zn_16, zn_17, zn_18, zn_19, zn_21, zn_22, zn_24, zn_25, zn_26, zn_28, zn_29, zn_30, zn_31, zn_32, zn_33, zn_34, zn_35, zn_36, zn_37, zn_38, zn_39, zn_40, zn_41, zn_42, zn_43, zn_44, zn_45, zn_46, Nat.reduceAdd, Nat.reduceSub, Nat.reduceLeDiff, true_and, and_true]
      refine ⟨i, rfl, by omega, ?_⟩
      rw [zk 28 (by omega), u1, x10]
      refine ⟨fun e1 => k4 _ l1 (fun q => absurd q e1), fun e1 => ?_⟩
      refine ⟨i, rfl, by omega, ?_⟩
      have := q4 e1
      rw [zk 29 (by omega), u2 (by unfold yNb; omega), nI_1]
      exact pk_le (F.nm i + 1) t (fun e => k4 _ l1 (fun _ => e)) (fun e => k3 _ (fun q => by have := q.2.1 e1; omega))
    refine b1 _ ?_
    simp only [bb_M_goes_1, oIload, oAload, oIstore, oInc, oConst, o2, oDup, oPop, oDupX1, oDupX2, oDup2, oIf, oIfN, oCmp, oCmpN, oSwitch, oGetR, oGetI, oPutI, oPutZ, oIald, oZald, oIast, oZast, oRetI, oRetZ, oRetV, oCall, oRecv, oMax, List.map_cons, List.map_nil, List.getElem?_cons_zero, List.getElem?_cons_succ, List.set_cons_zero, List.set_cons_succ, List.length_cons, List.length_nil, List.cons_append, List.nil_append, List.append_nil, List.take_succ_cons, List.take_zero, List.drop_succ_cons, List.drop_zero, List.reverse_cons, List.reverse_nil, Option.toList, Value.category, List.sum_cons, List.sum_nil, zk_0, zk_1, zk_12, zk_20, zk_23, zk_27, zn_2, zn_3, zn_4, zn_5, zn_6, zn_7, zn_8, zn_9, zn_10, zn_11, zn_13, zn_14, zn_15, zn_16, zn_17, zn_18, zn_19, zn_21, zn_22, zn_24, zn_25, zn_26, zn_28, zn_29, zn_30, zn_31, zn_32, zn_33, zn_34, zn_35, zn_36, zn_37, zn_38, zn_39, zn_40, zn_41, zn_42, zn_43, zn_44, zn_45, zn_46, Nat.reduceAdd, Nat.reduceSub, Nat.reduceLeDiff, true_and, and_true]
    rw [h8]
    refine ⟨fun e => absurd e (nI_nle (by omega) (by omega)), fun _ => ?_⟩
    rw [nI_pred, zU_at, show (4 : Int32) * nI q = nI (4 * q) from pk_mul 4 q, show nI (4 * q) + 3 = nI (4 * q + 3) from nI_add _ 3]
    refine ⟨4 * q, rfl, by omega, 4 * q + 3, rfl, by omega, ?_⟩
    rw [zk 34 (by omega), e0, e3]
    refine ⟨i, rfl, by omega, ?_⟩
    rw [zk 28 (by omega), u1, x5]
    refine ⟨fun e => k2 _ (fun q => e q.1), fun e => ?_⟩
    have hf := q5 (by omega)
    refine ⟨i, rfl, by omega, ?_⟩
    rw [zk 30 (by omega), u3 (by omega)]
    refine ⟨F.fi i, rfl, by omega, ?_⟩
    rw [zk 33 (by omega), (hF.2 (F.fi i) (by omega)).2.2.2.2.2]
    have hcd := (hw.2.2 (F.fi i) (by omega)).2.2.2.2.2.2.2.2.2.1
    have hb := bit0 _ hcd
    rcases and1 (nI (F.cd (F.fi i))) with e2 | e2
    · rw [e2]
      exact ⟨fun q => absurd q (by decide), fun _ => k2 _ (fun q => (hb.mp e2) q.2)⟩
    · rw [e2]
      refine ⟨fun _ => k3 _ (fun q => q.1 ⟨e, ?_⟩), fun q => absurd rfl q⟩
      refine Classical.byContradiction fun hq => ?_
      rw [hb.mpr hq] at e2
      exact absurd e2 (by decide)
  have kE : ∀ (gg : zM) (q i t c p : Nat) y5 y6 y7, i < F.n → zFre gg F → gg 27 8 = nI q → q < 62 → t < 100 → gg 27 10 = nI c → c < 300 → gg 27 11 = nI p → p ≤ 60 → (∀ G y3 y4 y5 y6 y7, zNx F gg G i q t c p → K 1 ([some (.ref 27), some (.int (nI i0)), some (.int 1), y3, y4, y5, y6, y7], [], G)) → K 8 ([some (.ref 27), some (.int (nI i0)), some (.int 1), some (.int (nI i)), some (.int (nI t)), y5, y6, y7], [], gg) := by
    intro gg q i t c p y5 y6 y7 hi hF h8 hq ht h10 hc h11 hp hK
    obtain ⟨u1, u2, u3, u4, u5, u6⟩ := hF.2 i hi
    obtain ⟨q1, q2, q3, q4, q5, q6, q7, q8, q9, q10, -⟩ := hw.2.2 i hi
    have hn := hw.1
    have x5 : nI (F.kd i) = 5 ↔ F.kd i = 5 := nI_is 5 rfl (by omega) (by omega)
    have x9 : nI (F.kd i) = 9 ↔ F.kd i = 9 := nI_is 9 rfl (by omega) (by omega)
    have x1 : nI (F.kd i) = 1 ↔ F.kd i = 1 := nI_is 1 rfl (by omega) (by omega)
    have k15 : ∀ G y3 y4 y5 y6 y7, zNx F gg G i q t c p → K 15 ([some (.ref 27), some (.int (nI i0)), some (.int 1), y3, y4, y5, y6, y7], [], G) := by
      intro G y3 y4 y5 y6 y7 hx
      refine b15 _ ?_
      simp only [bb_M_goes_15, oIload, oAload, oIstore, oInc, oConst, o2, oDup, oPop, oDupX1, oDupX2, oDup2, oIf, oIfN, oCmp, oCmpN, oSwitch, oGetR, oGetI, oPutI, oPutZ, oIald, oZald, oIast, oZast, oRetI, oRetZ, oRetV, oCall, oRecv, oMax, List.map_cons, List.map_nil, List.getElem?_cons_zero, List.getElem?_cons_succ, List.set_cons_zero, List.set_cons_succ, List.length_cons, List.length_nil, List.cons_append, List.nil_append, List.append_nil, List.take_succ_cons, List.take_zero, List.drop_succ_cons, List.drop_zero, List.reverse_cons, List.reverse_nil, Option.toList, Value.category, List.sum_cons, List.sum_nil, zk_0, zk_1, zk_12, zk_20, zk_23, zk_27, zn_2, zn_3, zn_4, zn_5, zn_6, zn_7, zn_8, zn_9, zn_10, zn_11, zn_13, zn_14, zn_15, zn_16, zn_17, zn_18, zn_19, zn_21, zn_22, zn_24, zn_25, zn_26, zn_28, zn_29, zn_30, zn_31, zn_32, zn_33, zn_34, zn_35, zn_36, zn_37, zn_38, zn_39, zn_40, zn_41, zn_42, zn_43, zn_44, zn_45, zn_46, Nat.reduceAdd, Nat.reduceSub, Nat.reduceLeDiff, true_and, and_true]
      exact hK _ _ _ _ _ _ hx
    -- the first part
    have k14 : ∀ G y5, (∀ k, k ≠ 27 → k ≠ 34 → G k = gg k) → (∀ j, j ≠ 8 → j ≠ 10 → j ≠ 11 → G 27 j = gg 27 j) → G 27 10 = nI (c + 1) → G 27 11 = nI (yR1 F i p) → (∀ x, x < 4 * q → G 34 x = gg 34 x) → (((3 ≤ F.kd i ∧ F.kd i ≤ 6) ∧ G 27 8 = nI (q + 1) ∧ zEnt G q (F.se i) (nI c) 1 (yT9 F i t)) ∨ (¬ (3 ≤ F.kd i ∧ F.kd i ≤ 6) ∧ G 27 8 = nI q)) → K 14 ([some (.ref 27), some (.int (nI i0)), some (.int 1), some (.int (nI i)), some (.int (nI t)), y5, some (.int (nI c)), some (.int (nI (yT9 F i t)))], [], G) := by
      intro G y5 g1 g2 g3 g4 g5 g6
      refine b14 _ ?_
      simp only [bb_M_goes_14, oIload, oAload, oIstore, oInc, oConst, o2, oDup, oPop, oDupX1, oDupX2, oDup2, oIf, oIfN, oCmp, oCmpN, oSwitch, oGetR, oGetI, oPutI, oPutZ, oIald, oZald, oIast, oZast, oRetI, oRetZ, oRetV, oCall, oRecv, oMax, List.map_cons, List.map_nil, List.getElem?_cons_zero, List.getElem?_cons_succ, List.set_cons_zero, List.set_cons_succ, List.length_cons, List.length_nil, List.cons_append, List.nil_append, List.append_nil, List.take_succ_cons, List.take_zero, List.drop_succ_cons, List.drop_zero, List.reverse_cons, List.reverse_nil, Option.toList, Value.category, List.sum_cons, List.sum_nil, zk_0, zk_1, zk_12, zk_20, zk_23, zk_27, zn_2, zn_3, zn_4, zn_5, zn_6, zn_7, zn_8, zn_9, zn_10, zn_11, zn_13, zn_14, zn_15, zn_16, zn_17, zn_18, zn_19, zn_21, zn_22, zn_24, zn_25, zn_26, zn_28, zn_29, zn_30, zn_31, zn_32, zn_33, zn_34, zn_35, zn_36, zn_37, zn_38, zn_39, zn_40, zn_41, zn_42, zn_43, zn_44, zn_45, zn_46, Nat.reduceAdd, Nat.reduceSub, Nat.reduceLeDiff, true_and, and_true]
      refine ⟨i, rfl, by omega, ?_⟩
      rw [g1 28 (by omega) (by omega), u1]
      refine sp_M_parts ?_
      rw [np_k _ q1]
      simp only [oIload, oAload, oIstore, oInc, oConst, o2, oDup, oPop, oDupX1, oDupX2, oDup2, oIf, oIfN, oCmp, oCmpN, oSwitch, oGetR, oGetI, oPutI, oPutZ, oIald, oZald, oIast, oZast, oRetI, oRetZ, oRetV, oCall, oRecv, oMax, List.map_cons, List.map_nil, List.getElem?_cons_zero, List.getElem?_cons_succ, List.set_cons_zero, List.set_cons_succ, List.length_cons, List.length_nil, List.cons_append, List.nil_append, List.append_nil, List.take_succ_cons, List.take_zero, List.drop_succ_cons, List.drop_zero, List.reverse_cons, List.reverse_nil, Option.toList, Value.category, List.sum_cons, List.sum_nil, zk_0, zk_1, zk_12, zk_20, zk_23, zk_27, zn_2, zn_3, zn_4, zn_5, zn_6, zn_7, zn_8, zn_9, zn_10, zn_11, zn_13, zn_14, zn_15, zn_16, zn_17, zn_18, zn_19, zn_21, zn_22, zn_24, zn_25, zn_26, zn_28, zn_29, zn_30, zn_31, zn_32, zn_33, zn_34, zn_35, zn_36, zn_37, zn_38, zn_39, zn_40, zn_41, zn_42, zn_43, zn_44, zn_45, zn_46, Nat.reduceAdd, Nat.reduceSub, Nat.reduceLeDiff, true_and, and_true]
      rw [np_0 _ q1]
      refine ⟨fun e => k15 _ _ _ _ _ _ ⟨g1, g2, ?_, g3, g4, g5, fun h => absurd (by omega) e, fun h => absurd (by omega) e⟩, fun e => ?_⟩
      · have : yPn (F.kd i) = 0 := by unfold yPn; rw [if_neg (by omega), if_neg e]
        rw [this]
        exact g6.elim (fun h => absurd (by omega) e) (fun h => h.2)
      · have e := Classical.not_not.mp e
        refine ⟨i, rfl, by omega, ?_⟩
        rw [g1 30 (by omega) (by omega), u3 e]
        rcases g6 with ⟨c1, c2, c3⟩ | ⟨c1, c2⟩
        · refine sp_M_push (q := q + 1) c2 (by omega) ?_
          intro H p1 p2 p3 p4 p5 p6 p7 p8
          simp only [oIload, oAload, oIstore, oInc, oConst, o2, oDup, oPop, oDupX1, oDupX2, oDup2, oIf, oIfN, oCmp, oCmpN, oSwitch, oGetR, oGetI, oPutI, oPutZ, oIald, oZald, oIast, oZast, oRetI, oRetZ, oRetV, oCall, oRecv, oMax, List.map_cons, List.map_nil, List.getElem?_cons_zero, List.getElem?_cons_succ, List.set_cons_zero, List.set_cons_succ, List.length_cons, List.length_nil, List.cons_append, List.nil_append, List.append_nil, List.take_succ_cons, List.take_zero, List.drop_succ_cons, List.drop_zero, List.reverse_cons, List.reverse_nil, Option.toList, Value.category, List.sum_cons, List.sum_nil, zk_0, zk_1, zk_12, zk_20, zk_23, zk_27, zn_2, zn_3, zn_4, zn_5, zn_6, zn_7, zn_8, zn_9, zn_10, zn_11, zn_13, zn_14, zn_15, zn_16, zn_17, zn_18, zn_19, zn_21, zn_22, zn_24, zn_25, zn_26, zn_28, zn_29, zn_30, zn_31, zn_32, zn_33, zn_34, zn_35, zn_36, zn_37, zn_38, zn_39, zn_40, zn_41, zn_42, zn_43, zn_44, zn_45, zn_46, Nat.reduceAdd, Nat.reduceSub, Nat.reduceLeDiff, true_and, and_true]
          refine k15 _ _ _ _ _ _ ⟨fun k h1 h2 => by rw [p1 k h1 h2]; exact g1 k h1 h2, fun j h1 h2 h3 => by rw [p2 j h1]; exact g2 j h1 h2 h3, ?_, by rw [p2 10 (by omega)]; exact g3, by rw [p2 11 (by omega)]; exact g4, fun x hx => by rw [p4 x (by omega)]; exact g5 x hx, fun _ => ⟨c3.fr (m := q + 1) (by omega) p4, p5, p6, p7, p8⟩, fun h => by omega⟩
          have : yPn (F.kd i) = 2 := if_pos c1
          rw [this, p3]
        · refine sp_M_push (q := q) c2 (by omega) ?_
          intro H p1 p2 p3 p4 p5 p6 p7 p8
          simp only [oIload, oAload, oIstore, oInc, oConst, o2, oDup, oPop, oDupX1, oDupX2, oDup2, oIf, oIfN, oCmp, oCmpN, oSwitch, oGetR, oGetI, oPutI, oPutZ, oIald, oZald, oIast, oZast, oRetI, oRetZ, oRetV, oCall, oRecv, oMax, List.map_cons, List.map_nil, List.getElem?_cons_zero, List.getElem?_cons_succ, List.set_cons_zero, List.set_cons_succ, List.length_cons, List.length_nil, List.cons_append, List.nil_append, List.append_nil, List.take_succ_cons, List.take_zero, List.drop_succ_cons, List.drop_zero, List.reverse_cons, List.reverse_nil, Option.toList, Value.category, List.sum_cons, List.sum_nil, zk_0, zk_1, zk_12, zk_20, zk_23, zk_27, zn_2, zn_3, zn_4, zn_5, zn_6, zn_7, zn_8, zn_9, zn_10, zn_11, zn_13, zn_14, zn_15, zn_16, zn_17, zn_18, zn_19, zn_21, zn_22, zn_24, zn_25, zn_26, zn_28, zn_29, zn_30, zn_31, zn_32, zn_33, zn_34, zn_35, zn_36, zn_37, zn_38, zn_39, zn_40, zn_41, zn_42, zn_43, zn_44, zn_45, zn_46, Nat.reduceAdd, Nat.reduceSub, Nat.reduceLeDiff, true_and, and_true]
          refine k15 _ _ _ _ _ _ ⟨fun k h1 h2 => by rw [p1 k h1 h2]; exact g1 k h1 h2, fun j h1 h2 h3 => by rw [p2 j h1]; exact g2 j h1 h2 h3, ?_, by rw [p2 10 (by omega)]; exact g3, by rw [p2 11 (by omega)]; exact g4, fun x hx => by rw [p4 x hx]; exact g5 x hx, fun h => absurd h c1, fun _ => ⟨p5, p6, p7, p8⟩⟩
          have : yPn (F.kd i) = 1 := by unfold yPn; rw [if_neg c1, if_pos e]
          rw [this, p3]
    have k12 : ∀ G y5 y7, (∀ k, k ≠ 27 → k ≠ 34 → G k = gg k) → (∀ j, j ≠ 8 → j ≠ 10 → j ≠ 11 → G 27 j = gg 27 j) → G 27 10 = nI (c + 1) → G 27 11 = nI (yR1 F i p) → (∀ x, x < 4 * q → G 34 x = gg 34 x) → G 27 8 = nI q → K 12 ([some (.ref 27), some (.int (nI i0)), some (.int 1), some (.int (nI i)), some (.int (nI t)), y5, some (.int (nI c)), y7], [.int (nI (yT9 F i t))], G) := by
      intro G y5 y7 g1 g2 g3 g4 g5 g6
      refine b12 _ ?_
      simp only [bb_M_goes_12, oIload, oAload, oIstore, oInc, oConst, o2, oDup, oPop, oDupX1, oDupX2, oDup2, oIf, oIfN, oCmp, oCmpN, oSwitch, oGetR, oGetI, oPutI, oPutZ, oIald, oZald, oIast, oZast, oRetI, oRetZ, oRetV, oCall, oRecv, oMax, List.map_cons, List.map_nil, List.getElem?_cons_zero, List.getElem?_cons_succ, List.set_cons_zero, List.set_cons_succ, List.length_cons, List.length_nil, List.cons_append, List.nil_append, List.append_nil, List.take_succ_cons, List.take_zero, List.drop_succ_cons, List.drop_zero, List.reverse_cons, List.reverse_nil, Option.toList, Value.category, List.sum_cons, List.sum_nil, zk_0, zk_1, zk_12, zk_20, zk_23, zk_27, zn_2, zn_3, zn_4, zn_5, zn_6, zn_7, zn_8, zn_9, zn_10, zn_11, zn_13, zn_14, zn_15, zn_16, zn_17, zn_18, zn_19, zn_21, zn_22, zn_24, zn_25, zn_26, zn_28, zn_29, zn_30, zn_31, zn_32, zn_33, zn_34, zn_35, zn_36, zn_37, zn_38, zn_39, zn_40, zn_41, zn_42, zn_43, zn_44, zn_45, zn_46, Nat.reduceAdd, Nat.reduceSub, Nat.reduceLeDiff, true_and, and_true]
      refine ⟨i, rfl, by omega, ?_⟩
      rw [g1 28 (by omega) (by omega), u1]
      refine sp_M_parts ?_
      rw [np_k _ q1]
      simp only [oIload, oAload, oIstore, oInc, oConst, o2, oDup, oPop, oDupX1, oDupX2, oDup2, oIf, oIfN, oCmp, oCmpN, oSwitch, oGetR, oGetI, oPutI, oPutZ, oIald, oZald, oIast, oZast, oRetI, oRetZ, oRetV, oCall, oRecv, oMax, List.map_cons, List.map_nil, List.getElem?_cons_zero, List.getElem?_cons_succ, List.set_cons_zero, List.set_cons_succ, List.length_cons, List.length_nil, List.cons_append, List.nil_append, List.append_nil, List.take_succ_cons, List.take_zero, List.drop_succ_cons, List.drop_zero, List.reverse_cons, List.reverse_nil, Option.toList, Value.category, List.sum_cons, List.sum_nil, zk_0, zk_1, zk_12, zk_20, zk_23, zk_27, zn_2, zn_3, zn_4, zn_5, zn_6, zn_7, zn_8, zn_9, zn_10, zn_11, zn_13, zn_14, zn_15, zn_16, zn_17, zn_18, zn_19, zn_21, zn_22, zn_24, zn_25, zn_26, zn_28, zn_29, zn_30, zn_31, zn_32, zn_33, zn_34, zn_35, zn_36, zn_37, zn_38, zn_39, zn_40, zn_41, zn_42, zn_43, zn_44, zn_45, zn_46, Nat.reduceAdd, Nat.reduceSub, Nat.reduceLeDiff, true_and, and_true]
      rw [np_4 _ q1]
      refine ⟨fun e => b13 _ ?_, fun e => ?_⟩
      · simp only [bb_M_goes_13, oIload, oAload, oIstore, oInc, oConst, o2, oDup, oPop, oDupX1, oDupX2, oDup2, oIf, oIfN, oCmp, oCmpN, oSwitch, oGetR, oGetI, oPutI, oPutZ, oIald, oZald, oIast, oZast, oRetI, oRetZ, oRetV, oCall, oRecv, oMax, List.map_cons, List.map_nil, List.getElem?_cons_zero, List.getElem?_cons_succ, List.set_cons_zero, List.set_cons_succ, List.length_cons, List.length_nil, List.cons_append, List.nil_append, List.append_nil, List.take_succ_cons, List.take_zero, List.drop_succ_cons, List.drop_zero, List.reverse_cons, List.reverse_nil, Option.toList, Value.category, List.sum_cons, List.sum_nil, zk_0, zk_1, zk_12, zk_20, zk_23, zk_27, zn_2, zn_3, zn_4, zn_5, zn_6, zn_7, zn_8, zn_9, zn_10, zn_11, zn_13, zn_14, zn_15, zn_16, zn_17, zn_18, zn_19, zn_21, zn_22, zn_24, zn_25, zn_26, zn_28, zn_29, zn_30, zn_31, zn_32, zn_33, zn_34, zn_35, zn_36, zn_37, zn_38, zn_39, zn_40, zn_41, zn_42, zn_43, zn_44, zn_45, zn_46, Nat.reduceAdd, Nat.reduceSub, Nat.reduceLeDiff, true_and, and_true]
        refine ⟨i, rfl, by omega, ?_⟩
        rw [g1 28 (by omega) (by omega), u1, x5]
        refine ⟨fun e5 => k14 _ _ g1 g2 g3 g4 g5 (Or.inr ⟨by omega, g6⟩), fun e5 => ?_⟩
        refine ⟨i, rfl, by omega, ?_⟩
        rw [g1 30 (by omega) (by omega), u3 (by omega), ← q9 e5]
        refine sp_M_push (q := q) g6 (by omega) ?_
        intro H p1 p2 p3 p4 p5 p6 p7 p8
        simp only [oIload, oAload, oIstore, oInc, oConst, o2, oDup, oPop, oDupX1, oDupX2, oDup2, oIf, oIfN, oCmp, oCmpN, oSwitch, oGetR, oGetI, oPutI, oPutZ, oIald, oZald, oIast, oZast, oRetI, oRetZ, oRetV, oCall, oRecv, oMax, List.map_cons, List.map_nil, List.getElem?_cons_zero, List.getElem?_cons_succ, List.set_cons_zero, List.set_cons_succ, List.length_cons, List.length_nil, List.cons_append, List.nil_append, List.append_nil, List.take_succ_cons, List.take_zero, List.drop_succ_cons, List.drop_zero, List.reverse_cons, List.reverse_nil, Option.toList, Value.category, List.sum_cons, List.sum_nil, zk_0, zk_1, zk_12, zk_20, zk_23, zk_27, zn_2, zn_3, zn_4, zn_5, zn_6, zn_7, zn_8, zn_9, zn_10, zn_11, zn_13, zn_14, zn_15, zn_16, zn_17, zn_18, zn_19, zn_21, zn_22, zn_24, zn_25, zn_26, zn_28, zn_29, zn_30, zn_31, zn_32, zn_33, zn_34, zn_35, zn_36, zn_37, zn_38, zn_39, zn_40, zn_41, zn_42, zn_43, zn_44, zn_45, zn_46, Nat.reduceAdd, Nat.reduceSub, Nat.reduceLeDiff, true_and, and_true]
        exact k14 _ _ (fun k h1 h2 => by rw [p1 k h1 h2]; exact g1 k h1 h2) (fun j h1 h2 h3 => by rw [p2 j h1]; exact g2 j h1 h2 h3) (by rw [p2 10 (by omega)]; exact g3) (by rw [p2 11 (by omega)]; exact g4) (fun x hx => by rw [p4 x hx]; exact g5 x hx) (Or.inl ⟨by omega, p3, p5, p6, p7, p8⟩)
      · refine ⟨i, rfl, by omega, ?_⟩
        rw [g1 31 (by omega) (by omega), u4 e]
        refine sp_M_push (q := q) g6 (by omega) ?_
        intro H p1 p2 p3 p4 p5 p6 p7 p8
        simp only [oIload, oAload, oIstore, oInc, oConst, o2, oDup, oPop, oDupX1, oDupX2, oDup2, oIf, oIfN, oCmp, oCmpN, oSwitch, oGetR, oGetI, oPutI, oPutZ, oIald, oZald, oIast, oZast, oRetI, oRetZ, oRetV, oCall, oRecv, oMax, List.map_cons, List.map_nil, List.getElem?_cons_zero, List.getElem?_cons_succ, List.set_cons_zero, List.set_cons_succ, List.length_cons, List.length_nil, List.cons_append, List.nil_append, List.append_nil, List.take_succ_cons, List.take_zero, List.drop_succ_cons, List.drop_zero, List.reverse_cons, List.reverse_nil, Option.toList, Value.category, List.sum_cons, List.sum_nil, zk_0, zk_1, zk_12, zk_20, zk_23, zk_27, zn_2, zn_3, zn_4, zn_5, zn_6, zn_7, zn_8, zn_9, zn_10, zn_11, zn_13, zn_14, zn_15, zn_16, zn_17, zn_18, zn_19, zn_21, zn_22, zn_24, zn_25, zn_26, zn_28, zn_29, zn_30, zn_31, zn_32, zn_33, zn_34, zn_35, zn_36, zn_37, zn_38, zn_39, zn_40, zn_41, zn_42, zn_43, zn_44, zn_45, zn_46, Nat.reduceAdd, Nat.reduceSub, Nat.reduceLeDiff, true_and, and_true]
        refine b13 _ ?_
        simp only [bb_M_goes_13, oIload, oAload, oIstore, oInc, oConst, o2, oDup, oPop, oDupX1, oDupX2, oDup2, oIf, oIfN, oCmp, oCmpN, oSwitch, oGetR, oGetI, oPutI, oPutZ, oIald, oZald, oIast, oZast, oRetI, oRetZ, oRetV, oCall, oRecv, oMax, List.map_cons, List.map_nil, List.getElem?_cons_zero, List.getElem?_cons_succ, List.set_cons_zero, List.set_cons_succ, List.length_cons, List.length_nil, List.cons_append, List.nil_append, List.append_nil, List.take_succ_cons, List.take_zero, List.drop_succ_cons, List.drop_zero, List.reverse_cons, List.reverse_nil, Option.toList, Value.category, List.sum_cons, List.sum_nil, zk_0, zk_1, zk_12, zk_20, zk_23, zk_27, zn_2, zn_3, zn_4, zn_5, zn_6, zn_7, zn_8, zn_9, zn_10, zn_11, zn_13, zn_14, zn_15, zn_16, zn_17, zn_18, zn_19, zn_21, zn_22, zn_24, zn_25, zn_26, zn_28, zn_29, zn_30, zn_31, zn_32, zn_33, zn_34, zn_35, zn_36, zn_37, zn_38, zn_39, zn_40, zn_41, zn_42, zn_43, zn_44, zn_45, zn_46, Nat.reduceAdd, Nat.reduceSub, Nat.reduceLeDiff, true_and, and_true]
        refine ⟨i, rfl, by omega, ?_⟩
        rw [p1 28 (by omega) (by omega), g1 28 (by omega) (by omega), u1, x5]
        refine ⟨fun e5 => ?_, fun e5 => by omega⟩
        exact k14 _ _ (fun k h1 h2 => by rw [p1 k h1 h2]; exact g1 k h1 h2) (fun j h1 h2 h3 => by rw [p2 j h1]; exact g2 j h1 h2 h3) (by rw [p2 10 (by omega)]; exact g3) (by rw [p2 11 (by omega)]; exact g4) (fun x hx => by rw [p4 x hx]; exact g5 x hx) (Or.inl ⟨by omega, p3, p5, p6, p7, p8⟩)
    have k10 : ∀ (v : Int32) y5 y7, v = (if F.kd i = 1 then 1 else 0) → K 10 ([some (.ref 27), some (.int (nI i0)), some (.int 1), some (.int (nI i)), some (.int (nI t)), y5, some (.int (nI c)), y7], [.int v, .int (nI p), .ref 27], zU gg 27 10 (nI (c + 1))) := by
      intro v y5 y7 hv
      refine b10 _ ?_
      simp only [bb_M_goes_10, oIload, oAload, oIstore, oInc, oConst, o2, oDup, oPop, oDupX1, oDupX2, oDup2, oIf, oIfN, oCmp, oCmpN, oSwitch, oGetR, oGetI, oPutI, oPutZ, oIald, oZald, oIast, oZast, oRetI, oRetZ, oRetV, oCall, oRecv, oMax, List.map_cons, List.map_nil, List.getElem?_cons_zero, List.getElem?_cons_succ, List.set_cons_zero, List.set_cons_succ, List.length_cons, List.length_nil, List.cons_append, List.nil_append, List.append_nil, List.take_succ_cons, List.take_zero, List.drop_succ_cons, List.drop_zero, List.reverse_cons, List.reverse_nil, Option.toList, Value.category, List.sum_cons, List.sum_nil, zk_0, zk_1, zk_12, zk_20, zk_23, zk_27, zn_2, zn_3, zn_4, zn_5, zn_6, zn_7, zn_8, zn_9, zn_10, zn_11, zn_13, zn_14, zn_15, zn_16, zn_17, zn_18, zn_19, zn_21, zn_22, zn_24, zn_25, zn_26, zn_28, zn_29, zn_30, zn_31, zn_32, zn_33, zn_34, zn_35, zn_36, zn_37, zn_38, zn_39, zn_40, zn_41, zn_42, zn_43, zn_44, zn_45, zn_46, Nat.reduceAdd, Nat.reduceSub, Nat.reduceLeDiff, true_and, and_true]
      have ev : nI p + v = nI (yR1 F i p) := by
        unfold yR1; rw [hv, ← nI_add]; split <;> rfl
      rw [ev]
      refine ⟨i, rfl, by omega, ?_⟩
      have z1 : ∀ k, k ≠ 27 → k ≠ 34 → zU (zU gg 27 10 (nI (c + 1))) 27 11 (nI (yR1 F i p)) k = gg k := fun k h1 _ => by rw [zU_ne _ _ _ _ h1, zU_ne _ _ _ _ h1]
      have z2 : ∀ j, j ≠ 10 → j ≠ 11 → zU (zU gg 27 10 (nI (c + 1))) 27 11 (nI (yR1 F i p)) 27 j = gg 27 j := fun j h1 h2 => by rw [zU_off _ _ _ _ h2, zU_off _ _ _ _ h1]
      have k12' := fun y7 => k12 (zU (zU gg 27 10 (nI (c + 1))) 27 11 (nI (yR1 F i p))) y5 y7 z1 (fun j _ h2 h3 => z2 j h2 h3) (by rw [zU_off _ _ _ _ (by omega), zU_at]) (zU_at _ _ _ _) (fun x _ => by rw [zU_ne _ _ _ _ (by omega), zU_ne _ _ _ _ (by omega)]) (by rw [z2 8 (by omega) (by omega), h8])
      rw [z1 28 (by omega) (by omega), u1, x9]
      refine ⟨fun e => b11 _ ?_, fun e => ?_⟩
      · simp only [bb_M_goes_11, oIload, oAload, oIstore, oInc, oConst, o2, oDup, oPop, oDupX1, oDupX2, oDup2, oIf, oIfN, oCmp, oCmpN, oSwitch, oGetR, oGetI, oPutI, oPutZ, oIald, oZald, oIast, oZast, oRetI, oRetZ, oRetV, oCall, oRecv, oMax, List.map_cons, List.map_nil, List.getElem?_cons_zero, List.getElem?_cons_succ, List.set_cons_zero, List.set_cons_succ, List.length_cons, List.length_nil, List.cons_append, List.nil_append, List.append_nil, List.take_succ_cons, List.take_zero, List.drop_succ_cons, List.drop_zero, List.reverse_cons, List.reverse_nil, Option.toList, Value.category, List.sum_cons, List.sum_nil, zk_0, zk_1, zk_12, zk_20, zk_23, zk_27, zn_2, zn_3, zn_4, zn_5, zn_6, zn_7, zn_8, zn_9, zn_10, zn_11, zn_13, zn_14, zn_15, zn_16, zn_17, zn_18, zn_19, zn_21, zn_22, zn_24, zn_25, zn_26, zn_28, zn_29, zn_30, zn_31, zn_32, zn_33, zn_34, zn_35, zn_36, zn_37, zn_38, zn_39, zn_40, zn_41, zn_42, zn_43, zn_44, zn_45, zn_46, Nat.reduceAdd, Nat.reduceSub, Nat.reduceLeDiff, true_and, and_true]
        have := k12' y7
        rw [show yT9 F i t = t by unfold yT9; rw [if_neg e, Nat.add_zero]] at this
        exact this
      · have := k12' y7
        rw [show yT9 F i t = t + 1 by unfold yT9; rw [if_pos e]] at this
        rw [nI_1]
        exact this
    refine b8 _ ?_
    simp only [bb_M_goes_8, oIload, oAload, oIstore, oInc, oConst, o2, oDup, oPop, oDupX1, oDupX2, oDup2, oIf, oIfN, oCmp, oCmpN, oSwitch, oGetR, oGetI, oPutI, oPutZ, oIald, oZald, oIast, oZast, oRetI, oRetZ, oRetV, oCall, oRecv, oMax, List.map_cons, List.map_nil, List.getElem?_cons_zero, List.getElem?_cons_succ, List.set_cons_zero, List.set_cons_succ, List.length_cons, List.length_nil, List.cons_append, List.nil_append, List.append_nil, List.take_succ_cons, List.take_zero, List.drop_succ_cons, List.drop_zero, List.reverse_cons, List.reverse_nil, Option.toList, Value.category, List.sum_cons, List.sum_nil, zk_0, zk_1, zk_12, zk_20, zk_23, zk_27, zn_2, zn_3, zn_4, zn_5, zn_6, zn_7, zn_8, zn_9, zn_10, zn_11, zn_13, zn_14, zn_15, zn_16, zn_17, zn_18, zn_19, zn_21, zn_22, zn_24, zn_25, zn_26, zn_28, zn_29, zn_30, zn_31, zn_32, zn_33, zn_34, zn_35, zn_36, zn_37, zn_38, zn_39, zn_40, zn_41, zn_42, zn_43, zn_44, zn_45, zn_46, Nat.reduceAdd, Nat.reduceSub, Nat.reduceLeDiff, true_and, and_true]
    rw [h10, nI_1, zU_off _ _ _ _ (show (11 : Nat) ≠ 10 by omega), h11]
    refine ⟨i, rfl, by omega, ?_⟩
    rw [zU_ne _ _ _ _ (show (28 : Nat) ≠ 27 by omega), u1, x1]
    refine ⟨fun e => b9 _ ?_, fun e => k10 _ _ _ (by rw [if_pos e])⟩
    simp only [bb_M_goes_9, oIload, oAload, oIstore, oInc, oConst, o2, oDup, oPop, oDupX1, oDupX2, oDup2, oIf, oIfN, oCmp, oCmpN, oSwitch, oGetR, oGetI, oPutI, oPutZ, oIald, oZald, oIast, oZast, oRetI, oRetZ, oRetV, oCall, oRecv, oMax, List.map_cons, List.map_nil, List.getElem?_cons_zero, List.getElem?_cons_succ, List.set_cons_zero, List.set_cons_succ, List.length_cons, List.length_nil, List.cons_append, List.nil_append, List.append_nil, List.take_succ_cons, List.take_zero, List.drop_succ_cons, List.drop_zero, List.reverse_cons, List.reverse_nil, Option.toList, Value.category, List.sum_cons, List.sum_nil, zk_0, zk_1, zk_12, zk_20, zk_23, zk_27, zn_2, zn_3, zn_4, zn_5, zn_6, zn_7, zn_8, zn_9, zn_10, zn_11, zn_13, zn_14, zn_15, zn_16, zn_17, zn_18, zn_19, zn_21, zn_22, zn_24, zn_25, zn_26, zn_28, zn_29, zn_30, zn_31, zn_32, zn_33, zn_34, zn_35, zn_36, zn_37, zn_38, zn_39, zn_40, zn_41, zn_42, zn_43, zn_44, zn_45, zn_46, Nat.reduceAdd, Nat.reduceSub, Nat.reduceLeDiff, true_and, and_true]
    exact k10 _ _ _ (by rw [if_neg e])
  obtain ⟨w1, ⟨w2, w3, w4, w5, w6, w7⟩, w8⟩ := id hw
  have main : ∀ N (i o w q t : Nat) (e : Nat → Nat) (S : yS) (y : Int32) (gg : zM) y3 y4 y5 y6 y7, i < F.n → F.dp i ≤ N → zFre gg F → gg 27 8 = nI (q + 1) → q + N < 62 → zEnt gg q i y (nI w) t → w ≤ 1 → t + N < 100 → zMC gg S → yOut gg S.c y e → yEo e S.s → yOkc F i t S.c S.r →
      (∀ G y3 y4 y5 y6 y7, zGp F gg G S (yBld F N i o w e S) q y w → G 27 8 = nI q → K 1 ([some (.ref 27), some (.int (nI i0)), some (.int 1), y3, y4, y5, y6, y7], [], G)) → K 1 ([some (.ref 27), some (.int (nI i0)), some (.int 1), y3, y4, y5, y6, y7], [], gg) := by
    intro N
    induction N with
    | zero =>
      intro i o w q t e S y gg y3 y4 y5 y6 y7 hi hd
      have := hw.dp1 hi; omega
    | succ N ih =>
      intro i o w q t e S y gg y3 y4 y5 y6 y7 hi hd hF h8 hq hE hw1 ht hM hy he hok hK
      obtain ⟨p1, p2⟩ := hw.part hi
      obtain ⟨d1, d2⟩ := hw.deep hi hd
      obtain ⟨q1, q2, q3, q4, q5, q6, q7, q8, q9, -⟩ := w8 i hi
      have hcp := hw.cps hi
      have hps := hw.pss hi
      have cc1 := hw.cp1 hi
      obtain ⟨M1, M2, M3, M4⟩ := hM
      obtain ⟨E1, E2, E3, E4⟩ := hE
      have hcle : S.c ≤ 300 := by have := hok.2.2.1; omega
      have hrle : S.r ≤ 60 := by have := hok.2.2.2; omega
      obtain ⟨hl, ok1, ok2⟩ := (yOkc_iff hw (t := t) hi hcle hrle).mp hok
      have hc1 := hl.2.2.1
      refine kN gg q i t S.c S.r _ _ _ _ _ hi hF h8 (by omega) E1 E4 (by omega) M1 hcle M2 hrle (fun hn => absurd hl hn) (fun _ => ?_)
      refine b7 _ ?_
      simp only [bb_M_goes_7, oIload, oAload, oIstore, oInc, oConst, o2, oDup, oPop, oDupX1, oDupX2, oDup2, oIf, oIfN, oCmp, oCmpN, oSwitch, oGetR, oGetI, oPutI, oPutZ, oIald, oZald, oIast, oZast, oRetI, oRetZ, oRetV, oCall, oRecv, oMax, List.map_cons, List.map_nil, List.getElem?_cons_zero, List.getElem?_cons_succ, List.set_cons_zero, List.set_cons_succ, List.length_cons, List.length_nil, List.cons_append, List.nil_append, List.append_nil, List.take_succ_cons, List.take_zero, List.drop_succ_cons, List.drop_zero, List.reverse_cons, List.reverse_nil, Option.toList, Value.category, List.sum_cons, List.sum_nil, zk_0, zk_1, zk_12, zk_20, zk_23, zk_27, zn_2, zn_3, zn_4, zn_5, zn_6, zn_7, zn_8, zn_9, zn_10, zn_11, zn_13, zn_14, zn_15, zn_16, zn_17, zn_18, zn_19, zn_21, zn_22, zn_24, zn_25, zn_26, zn_28, zn_29, zn_30, zn_31, zn_32, zn_33, zn_34, zn_35, zn_36, zn_37, zn_38, zn_39, zn_40, zn_41, zn_42, zn_43, zn_44, zn_45, zn_46, Nat.reduceAdd, Nat.reduceSub, Nat.reduceLeDiff, true_and, and_true]
      refine ⟨fun q => absurd q (by decide), fun _ => ?_⟩
      rw [zU_at, show (4 : Int32) * nI q = nI (4 * q) from pk_mul 4 q, show nI (4 * q) + 1 = nI (4 * q + 1) from nI_add _ 1, show nI (4 * q) + 2 = nI (4 * q + 2) from nI_add _ 2]
      refine ⟨4 * q + 1, rfl, by omega, 4 * q + 2, rfl, by omega, ?_⟩
      rw [zU_ne _ _ _ _ (show (34 : Nat) ≠ 27 by omega), E2, E3, zU_off _ _ _ _ (show (10 : Nat) ≠ 8 by omega), M1]
      generalize hg7 : zU gg 27 8 (nI q) = g7
      have e7 : ∀ k, k ≠ 27 → g7 k = gg k := fun k hk => by rw [← hg7, zU_ne _ _ _ _ hk]
      have e7j : ∀ j, j ≠ 8 → g7 27 j = gg 27 j := fun j hj => by rw [← hg7, zU_off _ _ _ _ hj]
      have hF7 : zFre g7 F := hF.fr (fun k k1 k2 => e7 k (by omega)) (e7j 1 (by omega))
      have hy7 : yOut g7 S.c y e := by unfold yOut at hy ⊢; rw [e7 40 (by omega)]; exact hy
      refine sp_M_copy (S := S) (e := e) hF7 hw hi hw1 hy7 (by omega) (by rw [e7j 21 (by omega)]; exact M3) (by rw [e7j 22 (by omega)]; exact M4) ?_
      intro g8 m1 m2 m3 m4 m5 m6 m7 m8 m9
      simp only [oIload, oAload, oIstore, oInc, oConst, o2, oDup, oPop, oDupX1, oDupX2, oDup2, oIf, oIfN, oCmp, oCmpN, oSwitch, oGetR, oGetI, oPutI, oPutZ, oIald, oZald, oIast, oZast, oRetI, oRetZ, oRetV, oCall, oRecv, oMax, List.map_cons, List.map_nil, List.getElem?_cons_zero, List.getElem?_cons_succ, List.set_cons_zero, List.set_cons_succ, List.length_cons, List.length_nil, List.cons_append, List.nil_append, List.append_nil, List.take_succ_cons, List.take_zero, List.drop_succ_cons, List.drop_zero, List.reverse_cons, List.reverse_nil, Option.toList, Value.category, List.sum_cons, List.sum_nil, zk_0, zk_1, zk_12, zk_20, zk_23, zk_27, zn_2, zn_3, zn_4, zn_5, zn_6, zn_7, zn_8, zn_9, zn_10, zn_11, zn_13, zn_14, zn_15, zn_16, zn_17, zn_18, zn_19, zn_21, zn_22, zn_24, zn_25, zn_26, zn_28, zn_29, zn_30, zn_31, zn_32, zn_33, zn_34, zn_35, zn_36, zn_37, zn_38, zn_39, zn_40, zn_41, zn_42, zn_43, zn_44, zn_45, zn_46, Nat.reduceAdd, Nat.reduceSub, Nat.reduceLeDiff, true_and, and_true]
      have hF8 : zFre g8 F := hF7.fr (fun k k1 k2 => m1 k (by omega) (by omega)) (m2 1 (by omega) (by omega))
      have hr1 : yR1 F i S.r ≤ 60 := by have := ok1.2.2.2; omega
      refine kE g8 q i t S.c S.r _ _ _ hi hF8 (by rw [m2 8 (by omega) (by omega), ← hg7, zU_at]) (by omega) (by omega) (by rw [m2 10 (by omega) (by omega), e7j 10 (by omega)]; exact M1) (by omega) (by rw [m2 11 (by omega) (by omega), e7j 11 (by omega)]; exact M2) hrle ?_
      intro G y3 y4 y5 y6 y7 hx
      obtain ⟨v1, v2, v3, v4, v5, v6, v7, v8⟩ := hx
      have hFG : zFre G F := hF8.fr (fun k k1 k2 => v1 k (by omega) (by omega)) (v2 1 (by omega) (by omega) (by omega))
      have t9 : yT9 F i t ≤ t + 1 := by unfold yT9; split <;> omega
      rw [yBld_s F (show i < 60 by omega)] at hK
      have he1 := he.env (F := F) (i := i)
      generalize hS1 : yNew F i o w e S = S1 at hK
      have z1 : S1.c = S.c + 1 := by rw [← hS1]; rfl
      have z2 : S1.s = S.s + (if F.kd i = 8 then 1 else 0) := by rw [← hS1]; rfl
      have z3 : S1.r = yR1 F i S.r := by rw [← hS1]; rfl
      have he2 : yEo (yEnv F i e S) S1.s := z2 ▸ he1
      have hMG : zMC G S1 := by
        refine ⟨by rw [v4, z1], by rw [v5, z3], ?_, ?_⟩
        · rw [v2 21 (by omega) (by omega) (by omega), m3, z3]; rfl
        · rw [v2 22 (by omega) (by omega) (by omega), m4, z2]
      have hyG : yOut G S1.c (nI S.c) (yEnv F i e S) := Or.inr ⟨S.c, by omega, rfl, fun j hj => by rw [v1 40 (by omega) (by omega)]; exact m6 j hj⟩
      have ca := yBld_cnt hw N (F.fi i) S.c 0 (yEnv F i e S) S1 p1 d1
      have wa := yBld_pa hw N (F.fi i) S.c 0 (yEnv F i e S) S1 p1 d1
      have wf := yBld_wf hw N (F.fi i) S.c 0 (yEnv F i e S) S1 p1 d1 he2
      rw [← z1, ← z3] at ok1
      have st1 : ∀ (K1 : ∀ H y3 y4 y5 y6 y7, zGp F G H S1 (yBld F N (F.fi i) S.c 0 (yEnv F i e S) S1) (q + (yPn (F.kd i) - 1)) (nI S.c) 0 → H 27 8 = nI (q + (yPn (F.kd i) - 1)) → K 1 ([some (.ref 27), some (.int (nI i0)), some (.int 1), y3, y4, y5, y6, y7], [], H)), K 1 ([some (.ref 27), some (.int (nI i0)), some (.int 1), y3, y4, y5, y6, y7], [], G) := by
        intro K1
        by_cases hk : 3 ≤ F.kd i ∧ F.kd i ≤ 9
        · have hfn : F.fi i < F.n := by have := q5 hk; omega
          by_cases hk6 : F.kd i ≤ 6
          · rw [show yPn (F.kd i) = 2 from if_pos ⟨hk.1, hk6⟩] at v3 K1
            exact ih (F.fi i) S.c 0 (q + 1) (yT9 F i t) (yEnv F i e S) S1 (nI S.c) G _ _ _ _ _ hfn d1 hFG v3 (by omega) (v7 ⟨hk.1, hk6⟩).2 (by omega) (by omega) hMG hyG he2 ok1 K1
          · rw [show yPn (F.kd i) = 1 by unfold yPn; rw [if_neg (by omega), if_pos hk]] at v3 K1
            exact ih (F.fi i) S.c 0 q (yT9 F i t) (yEnv F i e S) S1 (nI S.c) G _ _ _ _ _ hfn d1 hFG v3 (by omega) (v8 (by omega)) (by omega) (by omega) hMG hyG he2 ok1 K1
        · rw [q6 hk, yBld_60] at K1
          rw [show yPn (F.kd i) = 0 by unfold yPn; rw [if_neg (by omega), if_neg hk]] at v3 K1
          exact K1 G _ _ _ _ _ (zGp.rf hMG) v3
      refine st1 ?_
      generalize yBld F N (F.fi i) S.c 0 (yEnv F i e S) S1 = S2 at *
      intro H y3 y4 y5 y6 y7 hH h8H
      obtain ⟨a1, a2, a3, a4, a5⟩ := ca
      have he3 : yEo (yEnv F i e S) S2.s := ⟨by have := he2.1; omega, fun j hj => by have := he2.2 j hj; omega⟩
      have cb := yBld_cnt hw N (F.se i) S.c 1 (yEnv F i e S) S2 p2 d2
      have wb := yBld_pa hw N (F.se i) S.c 1 (yEnv F i e S) S2 p2 d2
      have ok2' : yOkc F (F.se i) (yT9 F i t) S2.c S2.r := by rw [a1, a2, z1, z3]; exact ok2
      have hFH : zFre H F := hFG.fr (fun k k1 k2 => hH.1 k (by omega) (by omega) (by omega)) (hH.2.1 1 (by omega) (by omega) (by omega) (by omega) (by omega))
      have st2 : ∀ (K1 : ∀ J y3 y4 y5 y6 y7, zGp F H J S2 (yBld F N (F.se i) S.c 1 (yEnv F i e S) S2) q (nI S.c) 1 → J 27 8 = nI q → K 1 ([some (.ref 27), some (.int (nI i0)), some (.int 1), y3, y4, y5, y6, y7], [], J)), K 1 ([some (.ref 27), some (.int (nI i0)), some (.int 1), y3, y4, y5, y6, y7], [], H) := by
        intro K1
        by_cases hk6 : 3 ≤ F.kd i ∧ F.kd i ≤ 6
        · have hsn : F.se i < F.n := by have := q7 hk6; omega
          rw [show yPn (F.kd i) = 2 from if_pos hk6] at h8H hH
          refine ih (F.se i) S.c 1 q (yT9 F i t) (yEnv F i e S) S2 (nI S.c) H _ _ _ _ _ hsn d2 hFH h8H (by omega) ((v7 hk6).1.fr (m := q + 1) (by omega) hH.2.2.2.1) (by omega) (by omega) hH.2.2.1 (Or.inr ⟨S.c, by omega, rfl, fun j hj => ?_⟩) he3 ok2' K1
          rw [hH.2.2.2.2.2.1 _ (by omega), v1 40 (by omega) (by omega)]; exact m6 j hj
        · rw [q8 hk6, yBld_60] at K1
          refine K1 H _ _ _ _ _ (zGp.rf hH.2.2.1) ?_
          rw [h8H]
          have : yPn (F.kd i) - 1 = 0 := by unfold yPn; rw [if_neg hk6]; split <;> omega
          rw [this, Nat.add_zero]
      refine st2 ?_
      generalize yBld F N (F.se i) S.c 1 (yEnv F i e S) S2 = S3 at *
      intro J y3 y4 y5 y6 y7 hJ h8J
      obtain ⟨b1', b2', b3', b4', b5'⟩ := cb
      refine hK J _ _ _ _ _ ?_ h8J
      refine zGp_node hw hi hS1.symm a1 b1' a5 b5' (fun x x1 x2 hh => ?_) wa wb (Nat.le_add_right q _) M3 hg7.symm m1 m2 m5 m6 m7 m8 m9 v1 v2 v6 hH hJ (by have := ok2.2.2.1; omega)
      obtain ⟨t1, t2, -⟩ := (wf x x1 x2).1
      exact (w8 _ t1).2.2.1 (by rw [← t2]; unfold yHs at hh; omega)
  have hd : F.dp i0 ≤ 20 := (w8 i0 hi0).2.2.2.2.2.2.2.2.2.2.2.1
  have k16 : ∀ G y3 y4 y5 y6 y7, zGp F g G yS0 (yTop F i0) 0 (-1) 0 → K 16 ([some (.ref 27), some (.int (nI i0)), some (.int 1), y3, y4, y5, y6, y7], [], G) := by
    intro G y3 y4 y5 y6 y7 hG
    refine b16 _ ?_
    simp only [bb_M_goes_16, oIload, oAload, oIstore, oInc, oConst, o2, oDup, oPop, oDupX1, oDupX2, oDup2, oIf, oIfN, oCmp, oCmpN, oSwitch, oGetR, oGetI, oPutI, oPutZ, oIald, oZald, oIast, oZast, oRetI, oRetZ, oRetV, oCall, oRecv, oMax, List.map_cons, List.map_nil, List.getElem?_cons_zero, List.getElem?_cons_succ, List.set_cons_zero, List.set_cons_succ, List.length_cons, List.length_nil, List.cons_append, List.nil_append, List.append_nil, List.take_succ_cons, List.take_zero, List.drop_succ_cons, List.drop_zero, List.reverse_cons, List.reverse_nil, Option.toList, Value.category, List.sum_cons, List.sum_nil, zk_0, zk_1, zk_12, zk_20, zk_23, zk_27, zn_2, zn_3, zn_4, zn_5, zn_6, zn_7, zn_8, zn_9, zn_10, zn_11, zn_13, zn_14, zn_15, zn_16, zn_17, zn_18, zn_19, zn_21, zn_22, zn_24, zn_25, zn_26, zn_28, zn_29, zn_30, zn_31, zn_32, zn_33, zn_34, zn_35, zn_36, zn_37, zn_38, zn_39, zn_40, zn_41, zn_42, zn_43, zn_44, zn_45, zn_46, Nat.reduceAdd, Nat.reduceSub, Nat.reduceLeDiff, true_and, and_true]
    exact ⟨by simp, h G hG⟩
  refine b0 _ ?_
  simp only [bb_M_goes_0, oIload, oAload, oIstore, oInc, oConst, o2, oDup, oPop, oDupX1, oDupX2, oDup2, oIf, oIfN, oCmp, oCmpN, oSwitch, oGetR, oGetI, oPutI, oPutZ, oIald, oZald, oIast, oZast, oRetI, oRetZ, oRetV, oCall, oRecv, oMax, List.map_cons, List.map_nil, List.getElem?_cons_zero, List.getElem?_cons_succ, List.set_cons_zero, List.set_cons_succ, List.length_cons, List.length_nil, List.cons_append, List.nil_append, List.append_nil, List.take_succ_cons, List.take_zero, List.drop_succ_cons, List.drop_zero, List.reverse_cons, List.reverse_nil, Option.toList, Value.category, List.sum_cons, List.sum_nil, zk_0, zk_1, zk_12, zk_20, zk_23, zk_27, zn_2, zn_3, zn_4, zn_5, zn_6, zn_7, zn_8, zn_9, zn_10, zn_11, zn_13, zn_14, zn_15, zn_16, zn_17, zn_18, zn_19, zn_21, zn_22, zn_24, zn_25, zn_26, zn_28, zn_29, zn_30, zn_31, zn_32, zn_33, zn_34, zn_35, zn_36, zn_37, zn_38, zn_39, zn_40, zn_41, zn_42, zn_43, zn_44, zn_45, zn_46, Nat.reduceAdd, Nat.reduceSub, Nat.reduceLeDiff, true_and, and_true]
  refine sp_M_push (q := 0) (by rw [zU_off _ _ _ _ (by omega), zU_off _ _ _ _ (by omega), zU_at]; rfl) (by omega) ?_
  intro G p1 p2 p3 p4 p5 p6 p7 p8
  simp only [oIload, oAload, oIstore, oInc, oConst, o2, oDup, oPop, oDupX1, oDupX2, oDup2, oIf, oIfN, oCmp, oCmpN, oSwitch, oGetR, oGetI, oPutI, oPutZ, oIald, oZald, oIast, oZast, oRetI, oRetZ, oRetV, oCall, oRecv, oMax, List.map_cons, List.map_nil, List.getElem?_cons_zero, List.getElem?_cons_succ, List.set_cons_zero, List.set_cons_succ, List.length_cons, List.length_nil, List.cons_append, List.nil_append, List.append_nil, List.take_succ_cons, List.take_zero, List.drop_succ_cons, List.drop_zero, List.reverse_cons, List.reverse_nil, Option.toList, Value.category, List.sum_cons, List.sum_nil, zk_0, zk_1, zk_12, zk_20, zk_23, zk_27, zn_2, zn_3, zn_4, zn_5, zn_6, zn_7, zn_8, zn_9, zn_10, zn_11, zn_13, zn_14, zn_15, zn_16, zn_17, zn_18, zn_19, zn_21, zn_22, zn_24, zn_25, zn_26, zn_28, zn_29, zn_30, zn_31, zn_32, zn_33, zn_34, zn_35, zn_36, zn_37, zn_38, zn_39, zn_40, zn_41, zn_42, zn_43, zn_44, zn_45, zn_46, Nat.reduceAdd, Nat.reduceSub, Nat.reduceLeDiff, true_and, and_true]
  have f1 : ∀ k, k ≠ 27 → k ≠ 34 → G k = g k := fun k h1 h2 => by rw [p1 k h1 h2, zU_ne _ _ _ _ h1, zU_ne _ _ _ _ h1, zU_ne _ _ _ _ h1]
  have f2 : ∀ j, j ≠ 8 → j ≠ 10 → j ≠ 11 → G 27 j = g 27 j := fun j h1 h2 h3 => by rw [p2 j h1, zU_off _ _ _ _ h3, zU_off _ _ _ _ h2, zU_off _ _ _ _ h1]
  refine main 20 i0 0 0 0 0 id yS0 (-1) G _ _ _ _ _ hi0 hd (hF.fr (fun k k1 k2 => f1 k (by omega) (by omega)) (f2 1 (by omega) (by omega) (by omega))) p3 (by omega) ⟨p5, p6, p7, p8⟩ (by omega) (by omega) ⟨?_, ?_, ?_, ?_⟩ (Or.inl ⟨rfl, fun _ _ => rfl⟩) yEo_0 ho (fun H y3 y4 y5 y6 y7 hH h8 => ?_)
  · rw [p2 10 (by omega), zU_off _ _ _ _ (by omega), zU_at]; rfl
  · rw [p2 11 (by omega), zU_at]; rfl
  · rw [f2 21 (by omega) (by omega) (by omega), hr0]; rfl
  · rw [f2 22 (by omega) (by omega) (by omega), hs0]; rfl
  · refine b1 _ ?_
    simp only [bb_M_goes_1, oIload, oAload, oIstore, oInc, oConst, o2, oDup, oPop, oDupX1, oDupX2, oDup2, oIf, oIfN, oCmp, oCmpN, oSwitch, oGetR, oGetI, oPutI, oPutZ, oIald, oZald, oIast, oZast, oRetI, oRetZ, oRetV, oCall, oRecv, oMax, List.map_cons, List.map_nil, List.getElem?_cons_zero, List.getElem?_cons_succ, List.set_cons_zero, List.set_cons_succ, List.length_cons, List.length_nil, List.cons_append, List.nil_append, List.append_nil, List.take_succ_cons, List.take_zero, List.drop_succ_cons, List.drop_zero, List.reverse_cons, List.reverse_nil, Option.toList, Value.category, List.sum_cons, List.sum_nil, zk_0, zk_1, zk_12, zk_20, zk_23, zk_27, zn_2, zn_3, zn_4, zn_5, zn_6, zn_7, zn_8, zn_9, zn_10, zn_11, zn_13, zn_14, zn_15, zn_16, zn_17, zn_18, zn_19, zn_21, zn_22, zn_24, zn_25, zn_26, zn_28, zn_29, zn_30, zn_31, zn_32, zn_33, zn_34, zn_35, zn_36, zn_37, zn_38, zn_39, zn_40, zn_41, zn_42, zn_43, zn_44, zn_45, zn_46, Nat.reduceAdd, Nat.reduceSub, Nat.reduceLeDiff, true_and, and_true]
    rw [h8]
    refine ⟨fun _ => k16 _ _ _ _ _ _ ?_, fun q => absurd (by decide) q⟩
    obtain ⟨A1, A2, A3, A4, A5, A6, A7, A8, A9, A10⟩ := hH
    have c0 : yS0.c = 0 := rfl
    exact ⟨fun k h1 h2 h3 => by rw [A1 k h1 h2 h3, f1 k h1 h2], fun j h1 h2 h3 h4 h5 => by rw [A2 j h1 h2 h3 h4 h5, f2 j h1 h2 h3], A3, fun x hx => by omega, fun x hx => by omega, fun x hx => by omega, fun x hx _ => by omega, fun x hx _ => by omega, fun _ o ho => by omega, A10⟩
