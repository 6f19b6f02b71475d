/-! the reference builds -/
def zBm (F : yF) (g : zM) (S : yS) : Prop := g 27 13 = nI S.c ∧ g 27 21 = nI S.r ∧ g 27 22 = nI S.s ∧ ∀ x, x < S.c → zRq F g S x ∧ (0 < x → g 36 x = nI (S.pa x))
theorem zBm_mr {F : yF} {g : zM} {S : yS} {ip : Nat → Bool} (hw : yFw F) (hF : zFre g F) (ok : yOk F S) (h : zBm F g S) : zMr g (yPof S (fun j => !decide (g 42 j = 0)) (decide (g 27 29 = 0)) ip) S.sn := by
  obtain ⟨o1, o2, o3, o4, o5, o6⟩ := ok
  obtain ⟨b1, b2, b3, b4⟩ := h
  refine ⟨b1, o1, o2, b3, o4, o5, fun x hx => ?_, fun _ _ => rfl, rfl⟩
  obtain ⟨⟨r1, r2, r3, r4, r5, r6, r7, r8⟩, p⟩ := o6 x hx
  obtain ⟨⟨c1, c2, c3, c4, c5, c6⟩, c7⟩ := b4 x hx
  obtain ⟨q1, q2, q3, q4, -⟩ := hw.2.2 _ r1
  obtain ⟨u1, u2, -⟩ := hF.2 _ r1
  have hn := hw.1
  show zMc1 g (yPof S _ _ ip) S.sn x
  unfold zMc1
  refine ⟨by omega, c1, by show g 28 (S.sn x) = nI (S.kd x); rw [r2]; exact u1, by show S.kd x ≤ 10; rw [r2]; exact q1, fun e => ⟨c2 e, ?_⟩, fun e => ⟨?_, ?_⟩, fun e => ⟨r5 e, F.nm (S.sn x), ?_, ?_, c3 e⟩, fun e => ⟨c7 e, ?_⟩, fun e => ⟨c5 e, r7 e⟩, fun e => ⟨c6 e, r8 e⟩⟩
  · show S.nm x < 60; have := r3 e; omega
  · show g 29 (S.sn x) = nI (S.nm x); rw [r4 e]; exact u2 (by rw [← r2]; exact Or.inr (Or.inr (Or.inr (Or.inr e))))
  · show S.nm x < 4; rw [r4 e]; exact q4 (by rw [← r2]; exact e)
  · exact q3 (by rw [← r2]; exact e)
  · refine u2 ?_
    rw [← r2]
    exact e.elim Or.inl (fun e => Or.inr (e.elim Or.inl (fun e => Or.inr (e.elim Or.inl (fun e => Or.inr (Or.inl e))))))
  · obtain ⟨p1, p2, p3, p4⟩ := p e
    refine ⟨p1, p2, p3, p4.elim (fun q => Or.inl ⟨by rw [c4, q.1]; rfl, q.2⟩) (fun q => Or.inr ⟨by rw [c4, q.1]; rfl, q.2⟩)⟩
section SPE
variable {l : Launch} {d : Nat} {g : zM} {r : Option Value → zM → Prop}
set_option maxHeartbeats 4000000 in
theorem sp_M_build {F : yF} {x : Int32} (hF : zFre g F) (hw : yFw F) (h1 : (x < 0 ∨ nI F.n ≤ x) → r (some (.int 0)) (zU g 27 0 1))
    (h2 : ∀ i, i < F.n → x = nI i → ¬ yOkc F i 0 0 0 → ∀ G, (∀ k, k ≠ 27 → k ≠ 34 → G k = g k) → (∀ j, j ≠ 0 → j ≠ 8 → j ≠ 10 → j ≠ 11 → G 27 j = g 27 j) → G 27 0 = 2 → r (some (.int 0)) G)
    (h3 : ∀ i, i < F.n → x = nI i → yOkc F i 0 0 0 → ∀ G, (∀ k, k ≠ 27 → k ≠ 34 → k ≠ 42 → (k < 35 ∨ 41 < k) → G k = g k) → (∀ j, (j = 1 ∨ j = 31 ∨ (1 < j ∧ j < 8) ∨ j = 9 ∨ (13 < j ∧ j < 21) ∨ (22 < j ∧ j < 28) ∨ 30 < j) → G 27 j = g 27 j) → G 27 0 = 0 → zBm F G (yTop F i) → G 27 12 = 1 → G 27 28 = 0 → G 27 29 = 0 → G 27 30 = 0 → (∀ j, j < 60 → G 42 j = 0) → r (some (.int (nI (yTop F i).r))) G) : qs_M_build l (d + 4) [.ref 27, .int x] g r := by
  have hn := hw.1
  refine ss_M_build fun K b0 b1 b2 => ?_
  refine b0 _ ?_
  simp only [bb_M_build_0, oIload, oAload, oIstore, oInc, oConst, o2, oDup, oPop, oDupX1, oDupX2, oDup2, oIf, oIfN, oCmp, oCmpN, oSwitch, oGetR, oGetI, oPutI, oPutZ, oIald, oZald, oIast, oZast, oRetI, oRetZ, oRetV, oCall, oRecv, oMax, List.map_cons, List.map_nil, List.getElem?_cons_zero, List.getElem?_cons_succ, List.set_cons_zero, List.set_cons_succ, List.length_cons, List.length_nil, List.cons_append, List.nil_append, List.append_nil, List.take_succ_cons, List.take_zero, List.drop_succ_cons, List.drop_zero, List.reverse_cons, List.reverse_nil, Option.toList, Value.category, List.sum_cons, List.sum_nil, zk_0, zk_1, zk_12, zk_20, zk_23, zk_27, zn_2, zn_3, zn_4, zn_5, zn_6, zn_7, zn_8, zn_9, zn_10, zn_11, zn_13, zn_14, zn_15, zn_16, zn_17, zn_18, zn_19, zn_21, zn_22, zn_24, zn_25, zn_26, zn_28, zn_29, zn_30, zn_31, zn_32, zn_33, zn_34, zn_35, zn_36, zn_37, zn_38, zn_39, zn_40, zn_41, zn_42, zn_43, zn_44, zn_45, zn_46, Nat.reduceAdd, Nat.reduceSub, Nat.reduceLeDiff, true_and, and_true]
  rw [zU_off _ 27 0 _ (by omega), hF.1]
  refine sp_M_within ?_
  simp only [oIload, oAload, oIstore, oInc, oConst, o2, oDup, oPop, oDupX1, oDupX2, oDup2, oIf, oIfN, oCmp, oCmpN, oSwitch, oGetR, oGetI, oPutI, oPutZ, oIald, oZald, oIast, oZast, oRetI, oRetZ, oRetV, oCall, oRecv, oMax, List.map_cons, List.map_nil, List.getElem?_cons_zero, List.getElem?_cons_succ, List.set_cons_zero, List.set_cons_succ, List.length_cons, List.length_nil, List.cons_append, List.nil_append, List.append_nil, List.take_succ_cons, List.take_zero, List.drop_succ_cons, List.drop_zero, List.reverse_cons, List.reverse_nil, Option.toList, Value.category, List.sum_cons, List.sum_nil, zk_0, zk_1, zk_12, zk_20, zk_23, zk_27, zn_2, zn_3, zn_4, zn_5, zn_6, zn_7, zn_8, zn_9, zn_10, zn_11, zn_13, zn_14, zn_15, zn_16, zn_17, zn_18, zn_19, zn_21, zn_22, zn_24, zn_25, zn_26, zn_28, zn_29, zn_30, zn_31, zn_32, zn_33, zn_34, zn_35, zn_36, zn_37, zn_38, zn_39, zn_40, zn_41, zn_42, zn_43, zn_44, zn_45, zn_46, Nat.reduceAdd, Nat.reduceSub, Nat.reduceLeDiff, true_and, and_true]
  rw [zS_01]
  refine ⟨fun e => b1 _ ?_, fun e => ?_⟩
  · obtain ⟨i, hi, rfl⟩ := (in_n hn).mp e
    simp only [bb_M_build_1, oIload, oAload, oIstore, oInc, oConst, o2, oDup, oPop, oDupX1, oDupX2, oDup2, oIf, oIfN, oCmp, oCmpN, oSwitch, oGetR, oGetI, oPutI, oPutZ, oIald, oZald, oIast, oZast, oRetI, oRetZ, oRetV, oCall, oRecv, oMax, List.map_cons, List.map_nil, List.getElem?_cons_zero, List.getElem?_cons_succ, List.set_cons_zero, List.set_cons_succ, List.length_cons, List.length_nil, List.cons_append, List.nil_append, List.append_nil, List.take_succ_cons, List.take_zero, List.drop_succ_cons, List.drop_zero, List.reverse_cons, List.reverse_nil, Option.toList, Value.category, List.sum_cons, List.sum_nil, zk_0, zk_1, zk_12, zk_20, zk_23, zk_27, zn_2, zn_3, zn_4, zn_5, zn_6, zn_7, zn_8, zn_9, zn_10, zn_11, zn_13, zn_14, zn_15, zn_16, zn_17, zn_18, zn_19, zn_21, zn_22, zn_24, zn_25, zn_26, zn_28, zn_29, zn_30, zn_31, zn_32, zn_33, zn_34, zn_35, zn_36, zn_37, zn_38, zn_39, zn_40, zn_41, zn_42, zn_43, zn_44, zn_45, zn_46, Nat.reduceAdd, Nat.reduceSub, Nat.reduceLeDiff, true_and, and_true]
    have hF0 : zFre (zU g 27 0 0) F := hF.fr (fun k k1 k2 => zU_ne _ _ _ _ (by omega)) (zU_off _ _ _ _ (by omega))
    refine sp_M_goes0 hF0 hw hi (fun ho G hG => ?_) (fun ho G hG => ?_)
    · simp only [oIload, oAload, oIstore, oInc, oConst, o2, oDup, oPop, oDupX1, oDupX2, oDup2, oIf, oIfN, oCmp, oCmpN, oSwitch, oGetR, oGetI, oPutI, oPutZ, oIald, oZald, oIast, oZast, oRetI, oRetZ, oRetV, oCall, oRecv, oMax, List.map_cons, List.map_nil, List.getElem?_cons_zero, List.getElem?_cons_succ, List.set_cons_zero, List.set_cons_succ, List.length_cons, List.length_nil, List.cons_append, List.nil_append, List.append_nil, List.take_succ_cons, List.take_zero, List.drop_succ_cons, List.drop_zero, List.reverse_cons, List.reverse_nil, Option.toList, Value.category, List.sum_cons, List.sum_nil, zk_0, zk_1, zk_12, zk_20, zk_23, zk_27, zn_2, zn_3, zn_4, zn_5, zn_6, zn_7, zn_8, zn_9, zn_10, zn_11, zn_13, zn_14, zn_15, zn_16, zn_17, zn_18, zn_19, zn_21, zn_22, zn_24, zn_25, zn_26, zn_28, zn_29, zn_30, zn_31, zn_32, zn_33, zn_34, zn_35, zn_36, zn_37, zn_38, zn_39, zn_40, zn_41, zn_42, zn_43, zn_44, zn_45, zn_46, Nat.reduceAdd, Nat.reduceSub, Nat.reduceLeDiff, true_and, and_true]
      refine ⟨fun _ => b2 _ ?_, fun q => absurd q (by decide)⟩
      simp only [bb_M_build_2, oIload, oAload, oIstore, oInc, oConst, o2, oDup, oPop, oDupX1, oDupX2, oDup2, oIf, oIfN, oCmp, oCmpN, oSwitch, oGetR, oGetI, oPutI, oPutZ, oIald, oZald, oIast, oZast, oRetI, oRetZ, oRetV, oCall, oRecv, oMax, List.map_cons, List.map_nil, List.getElem?_cons_zero, List.getElem?_cons_succ, List.set_cons_zero, List.set_cons_succ, List.length_cons, List.length_nil, List.cons_append, List.nil_append, List.append_nil, List.take_succ_cons, List.take_zero, List.drop_succ_cons, List.drop_zero, List.reverse_cons, List.reverse_nil, Option.toList, Value.category, List.sum_cons, List.sum_nil, zk_0, zk_1, zk_12, zk_20, zk_23, zk_27, zn_2, zn_3, zn_4, zn_5, zn_6, zn_7, zn_8, zn_9, zn_10, zn_11, zn_13, zn_14, zn_15, zn_16, zn_17, zn_18, zn_19, zn_21, zn_22, zn_24, zn_25, zn_26, zn_28, zn_29, zn_30, zn_31, zn_32, zn_33, zn_34, zn_35, zn_36, zn_37, zn_38, zn_39, zn_40, zn_41, zn_42, zn_43, zn_44, zn_45, zn_46, Nat.reduceAdd, Nat.reduceSub, Nat.reduceLeDiff, true_and, and_true]
      have k1 : ∀ k, k ≠ 27 → k ≠ 34 → zU (zU G 27 22 8) 27 21 0 k = g k := fun k a b => by rw [zU_ne _ _ _ _ a, zU_ne _ _ _ _ a, hG.1 k a b, zU_ne _ _ _ _ a]
      have k2 : ∀ j, j ≠ 0 → j ≠ 8 → j ≠ 10 → j ≠ 11 → j ≠ 21 → j ≠ 22 → zU (zU G 27 22 8) 27 21 0 27 j = g 27 j := fun j a0 a b c d e => by rw [zU_off _ _ _ _ d, zU_off _ _ _ _ e, hG.2 j a b c, zU_off _ _ _ _ a0]
      have k0 : zU (zU G 27 22 8) 27 21 0 27 0 = 0 := by rw [zU_off _ _ _ _ (by omega), zU_off _ _ _ _ (by omega), hG.2 0 (by omega) (by omega) (by omega), zU_at]
      refine sp_M_goes1 (hF.fr (fun k a b => k1 k (by omega) (by omega)) (k2 1 (by omega) (by omega) (by omega) (by omega) (by omega) (by omega))) hw hi ho (zU_at _ _ _ _) (by rw [zU_off _ _ _ _ (by omega), zU_at]) ?_
      intro H hH
      obtain ⟨A1, A2, ⟨M1, M2, M3, M4⟩, -, -, -, -, -, -, A10⟩ := hH
      simp only [oIload, oAload, oIstore, oInc, oConst, o2, oDup, oPop, oDupX1, oDupX2, oDup2, oIf, oIfN, oCmp, oCmpN, oSwitch, oGetR, oGetI, oPutI, oPutZ, oIald, oZald, oIast, oZast, oRetI, oRetZ, oRetV, oCall, oRecv, oMax, List.map_cons, List.map_nil, List.getElem?_cons_zero, List.getElem?_cons_succ, List.set_cons_zero, List.set_cons_succ, List.length_cons, List.length_nil, List.cons_append, List.nil_append, List.append_nil, List.take_succ_cons, List.take_zero, List.drop_succ_cons, List.drop_zero, List.reverse_cons, List.reverse_nil, Option.toList, Value.category, List.sum_cons, List.sum_nil, zk_0, zk_1, zk_12, zk_20, zk_23, zk_27, zn_2, zn_3, zn_4, zn_5, zn_6, zn_7, zn_8, zn_9, zn_10, zn_11, zn_13, zn_14, zn_15, zn_16, zn_17, zn_18, zn_19, zn_21, zn_22, zn_24, zn_25, zn_26, zn_28, zn_29, zn_30, zn_31, zn_32, zn_33, zn_34, zn_35, zn_36, zn_37, zn_38, zn_39, zn_40, zn_41, zn_42, zn_43, zn_44, zn_45, zn_46, Nat.reduceAdd, Nat.reduceSub, Nat.reduceLeDiff, true_and, and_true]
      rw [M1]
      refine ⟨by simp, ?_⟩
      refine sp_M_begin fun J j1 j2 j3 j4 j5 => ?_
      simp only [oIload, oAload, oIstore, oInc, oConst, o2, oDup, oPop, oDupX1, oDupX2, oDup2, oIf, oIfN, oCmp, oCmpN, oSwitch, oGetR, oGetI, oPutI, oPutZ, oIald, oZald, oIast, oZast, oRetI, oRetZ, oRetV, oCall, oRecv, oMax, List.map_cons, List.map_nil, List.getElem?_cons_zero, List.getElem?_cons_succ, List.set_cons_zero, List.set_cons_succ, List.length_cons, List.length_nil, List.cons_append, List.nil_append, List.append_nil, List.take_succ_cons, List.take_zero, List.drop_succ_cons, List.drop_zero, List.reverse_cons, List.reverse_nil, Option.toList, Value.category, List.sum_cons, List.sum_nil, zk_0, zk_1, zk_12, zk_20, zk_23, zk_27, zn_2, zn_3, zn_4, zn_5, zn_6, zn_7, zn_8, zn_9, zn_10, zn_11, zn_13, zn_14, zn_15, zn_16, zn_17, zn_18, zn_19, zn_21, zn_22, zn_24, zn_25, zn_26, zn_28, zn_29, zn_30, zn_31, zn_32, zn_33, zn_34, zn_35, zn_36, zn_37, zn_38, zn_39, zn_40, zn_41, zn_42, zn_43, zn_44, zn_45, zn_46, Nat.reduceAdd, Nat.reduceSub, Nat.reduceLeDiff, true_and, and_true]
      have f27 : ∀ j, j ≠ 12 → j ≠ 13 → j ≠ 28 → j ≠ 29 → j ≠ 30 → J 27 j = H 27 j := fun j a b c d e => by rw [j2 j c d, zU_off _ _ _ _ e, zU_off _ _ _ _ a, zU_off _ _ _ _ b]
      have fk : ∀ k, k ≠ 27 → k ≠ 42 → J k = H k := fun k a b => by rw [j1 k a b, zU_ne _ _ _ _ a, zU_ne _ _ _ _ a, zU_ne _ _ _ _ a]
      rw [f27 21 (by omega) (by omega) (by omega) (by omega) (by omega), M3]
      refine h3 i hi rfl ho J (fun k a b c e => ?_) (fun j hj => ?_) ?_ ⟨?_, ?_, ?_, fun x hx => ?_⟩ ?_ j3 j4 ?_ j5
      · rw [fk k a c, A1 k a b e, k1 k a b]
      · rw [f27 j (by omega) (by omega) (by omega) (by omega) (by omega), A2 j (by omega) (by omega) (by omega) (by omega) (by omega), k2 j (by omega) (by omega) (by omega) (by omega) (by omega) (by omega)]
      · rw [f27 0 (by omega) (by omega) (by omega) (by omega) (by omega), A2 0 (by omega) (by omega) (by omega) (by omega) (by omega), k0]
      · rw [j2 13 (by omega) (by omega), zU_off _ _ _ _ (by omega), zU_off _ _ _ _ (by omega), zU_at]
      · rw [f27 21 (by omega) (by omega) (by omega) (by omega) (by omega), M3]
      · rw [f27 22 (by omega) (by omega) (by omega) (by omega) (by omega), M4]
      · obtain ⟨r1, r2, r3⟩ := A10 x (Nat.zero_le _) hx
        rw [fk 36 (by omega) (by omega)]
        unfold zRq at r1 ⊢
        rw [fk 35 (by omega) (by omega), fk 41 (by omega) (by omega), fk 40 (by omega) (by omega), fk 37 (by omega) (by omega), fk 38 (by omega) (by omega), fk 39 (by omega) (by omega)]
        exact ⟨r1, r3⟩
      · rw [j2 12 (by omega) (by omega), zU_off _ _ _ _ (by omega), zU_at]
      · rw [j2 30 (by omega) (by omega), zU_at]
    · simp only [oIload, oAload, oIstore, oInc, oConst, o2, oDup, oPop, oDupX1, oDupX2, oDup2, oIf, oIfN, oCmp, oCmpN, oSwitch, oGetR, oGetI, oPutI, oPutZ, oIald, oZald, oIast, oZast, oRetI, oRetZ, oRetV, oCall, oRecv, oMax, List.map_cons, List.map_nil, List.getElem?_cons_zero, List.getElem?_cons_succ, List.set_cons_zero, List.set_cons_succ, List.length_cons, List.length_nil, List.cons_append, List.nil_append, List.append_nil, List.take_succ_cons, List.take_zero, List.drop_succ_cons, List.drop_zero, List.reverse_cons, List.reverse_nil, Option.toList, Value.category, List.sum_cons, List.sum_nil, zk_0, zk_1, zk_12, zk_20, zk_23, zk_27, zn_2, zn_3, zn_4, zn_5, zn_6, zn_7, zn_8, zn_9, zn_10, zn_11, zn_13, zn_14, zn_15, zn_16, zn_17, zn_18, zn_19, zn_21, zn_22, zn_24, zn_25, zn_26, zn_28, zn_29, zn_30, zn_31, zn_32, zn_33, zn_34, zn_35, zn_36, zn_37, zn_38, zn_39, zn_40, zn_41, zn_42, zn_43, zn_44, zn_45, zn_46, Nat.reduceAdd, Nat.reduceSub, Nat.reduceLeDiff, true_and, and_true]
      refine ⟨fun q => absurd trivial q, fun _ => ?_⟩
      refine sp_M_fail ?_
      simp only [oIload, oAload, oIstore, oInc, oConst, o2, oDup, oPop, oDupX1, oDupX2, oDup2, oIf, oIfN, oCmp, oCmpN, oSwitch, oGetR, oGetI, oPutI, oPutZ, oIald, oZald, oIast, oZast, oRetI, oRetZ, oRetV, oCall, oRecv, oMax, List.map_cons, List.map_nil, List.getElem?_cons_zero, List.getElem?_cons_succ, List.set_cons_zero, List.set_cons_succ, List.length_cons, List.length_nil, List.cons_append, List.nil_append, List.append_nil, List.take_succ_cons, List.take_zero, List.drop_succ_cons, List.drop_zero, List.reverse_cons, List.reverse_nil, Option.toList, Value.category, List.sum_cons, List.sum_nil, zk_0, zk_1, zk_12, zk_20, zk_23, zk_27, zn_2, zn_3, zn_4, zn_5, zn_6, zn_7, zn_8, zn_9, zn_10, zn_11, zn_13, zn_14, zn_15, zn_16, zn_17, zn_18, zn_19, zn_21, zn_22, zn_24, zn_25, zn_26, zn_28, zn_29, zn_30, zn_31, zn_32, zn_33, zn_34, zn_35, zn_36, zn_37, zn_38, zn_39, zn_40, zn_41, zn_42, zn_43, zn_44, zn_45, zn_46, Nat.reduceAdd, Nat.reduceSub, Nat.reduceLeDiff, true_and, and_true]
      refine h2 i hi rfl ho _ (fun k a b => by rw [zU_ne _ _ _ _ a, hG.1 k a b, zU_ne _ _ _ _ a]) (fun j a b c e => by rw [zU_off _ _ _ _ a, hG.2 j b c e, zU_off _ _ _ _ a]) (zU_at _ _ _ _)
  · refine sp_M_fail ?_
    simp only [oIload, oAload, oIstore, oInc, oConst, o2, oDup, oPop, oDupX1, oDupX2, oDup2, oIf, oIfN, oCmp, oCmpN, oSwitch, oGetR, oGetI, oPutI, oPutZ, oIald, oZald, oIast, oZast, oRetI, oRetZ, oRetV, oCall, oRecv, oMax, List.map_cons, List.map_nil, List.getElem?_cons_zero, List.getElem?_cons_succ, List.set_cons_zero, List.set_cons_succ, List.length_cons, List.length_nil, List.cons_append, List.nil_append, List.append_nil, List.take_succ_cons, List.take_zero, List.drop_succ_cons, List.drop_zero, List.reverse_cons, List.reverse_nil, Option.toList, Value.category, List.sum_cons, List.sum_nil, zk_0, zk_1, zk_12, zk_20, zk_23, zk_27, zn_2, zn_3, zn_4, zn_5, zn_6, zn_7, zn_8, zn_9, zn_10, zn_11, zn_13, zn_14, zn_15, zn_16, zn_17, zn_18, zn_19, zn_21, zn_22, zn_24, zn_25, zn_26, zn_28, zn_29, zn_30, zn_31, zn_32, zn_33, zn_34, zn_35, zn_36, zn_37, zn_38, zn_39, zn_40, zn_41, zn_42, zn_43, zn_44, zn_45, zn_46, Nat.reduceAdd, Nat.reduceSub, Nat.reduceLeDiff, true_and, and_true]
    rw [zU_UU]
    refine h1 ?_
    rcases pk_ix x (n := F.n) (by omega) with q | q | q
    · exact Or.inl q
    · exact Or.inr q
    · exact absurd e (fun h => (in_n hn).mpr q h)
end SPE
