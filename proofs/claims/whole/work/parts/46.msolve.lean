/-! the reference's solve: the least solution -/
theorem mfix_of {P : yP} {g0 : zM} (h : ∀ u : Nat × Nat, ((u.1 = 0 ∧ u.2 < P.ns) ∨ (0 < u.1 ∧ u.1 ≤ P.n ∧ u.2 < 11)) → (m1 g0 P u = eEq P u (m1 g0 P) (m2 g0 P) ∧ m2 g0 P u = eEq P u (m2 g0 P) (m1 g0 P))) : yFix (eEq P) (xm g0 P) := by
  intro u
  by_cases hu : (u.1 = 0 ∧ u.2 < P.ns) ∨ (0 < u.1 ∧ u.1 ≤ P.n ∧ u.2 < 11)
  · exact h u hu
  · obtain ⟨x, j⟩ := u
    dsimp only at hu
    have z : ∀ r o, eEq P (x, j) r o = false := by
      intro r o
      cases hq : eEq P (x, j) r o with
      | false => rfl
      | true =>
        have := eEq_in hq
        cases x with
        | zero => simp [yBot] at this; exact absurd (Or.inl ⟨rfl, this⟩) hu
        | succ c => simp [yBot] at this; exact absurd (Or.inr ⟨by omega, by omega, this.2⟩) hu
    rw [z, z]
    cases x with
    | zero => have hn : ¬ j < P.ns := fun q => hu (Or.inl ⟨rfl, q⟩); simp [xm, m1, m2, hn]
    | succ c =>
      by_cases hc : c < P.n
      · have hn : ¬ j < 11 := fun q => hu (Or.inr ⟨by omega, by omega, q⟩)
        simp [xm, m1, m2, hn]
      · simp [xm, m1, m2, hc]
set_option maxHeartbeats 8000000 in
set_option maxRecDepth 20000 in
theorem sp_M_solve {l : Launch} {d : Nat} {g : zM} {r : Option Value → zM → Prop} {P : yP} {sn : Nat → Nat} {x : Int32} {t : Nat} (hM : zMr g P sn) (hE : ∀ c, c < P.n → P.kd c = 2 → 3 ≤ P.nm c) (hip : ∀ i, i < 3 → P.ip i = !decide (jIn x i = 0)) (ht : g 27 29 = nI t) (ht2 : t < 2 ^ 31)
    (h : ∀ g1, mFr g g1 → z3 g1 P → yCh (eEq P) (xm g1 P) → yFix (eEq P) (xm g1 P) → r none g1) : qs_M_solve l (d + 6) [.ref 27, .int x] g r := by
  have p1 := hM.1
  have p2 := hM.2.1
  have p3 := hM.2.2.1
  have p4 := hM.2.2.2.1
  have p6 := hM.2.2.2.2.2.1
  have p9 := hM.2.2.2.2.2.2.2.2
  refine ss_M_solve fun K b0 b1 b2 b3 b4 b5 b6 b7 b8 b9 b10 b11 b12 b13 b14 => ?_
  -- the passes
  have pass : ∀ n g1 y, mFr g g1 → z3 g1 P → yCh (eEq P) (xm g1 P) → ((g1 27 27 = 0 ∧ yFix (eEq P) (xm g1 P)) ∨ (g1 27 27 = 1 ∧ yCnt (vsA P) (xm g1 P) < n)) → K 5 ([some (.ref 27), some (.int x), y], [], g1) := by
    intro n
    induction n with
    | zero =>
      intro g1 y hf h3 hch hor
      rcases hor with ⟨e0, hfx⟩ | ⟨_, hlt⟩
      · refine b5 _ ?_
        simp only [bb_M_solve_5, oIload, oAload, oIstore, oInc, oConst, o2, oDup, oPop, oDupX1, oDupX2, oDup2, oIf, oIfN, oCmp, oCmpN, oSwitch, oGetR, oGetI, oPutI, oPutZ, oIald, oZald, oIast, oZast, oRetI, oRetZ, oRetV, oCall, oRecv, oMax, List.map_cons, List.map_nil, List.getElem?_cons_zero, List.getElem?_cons_succ, List.set_cons_zero, List.set_cons_succ, List.length_cons, List.length_nil, List.cons_append, List.nil_append, List.append_nil, List.take_succ_cons, List.take_zero, List.drop_succ_cons, List.drop_zero, List.reverse_cons, List.reverse_nil, Option.toList, Value.category, List.sum_cons, List.sum_nil, zk_0, zk_1, zk_12, zk_20, zk_23, zk_27, zn_2, zn_3, zn_4, zn_5, zn_6, zn_7, zn_8, zn_9, zn_10, zn_11, zn_13, zn_14, zn_15, zn_16, zn_17, zn_18, zn_19, zn_21, zn_22, zn_24, zn_25, zn_26, zn_28, zn_29, zn_30, zn_31, zn_32, zn_33, zn_34, zn_35, zn_36, zn_37, zn_38, zn_39, zn_40, zn_41, zn_42, zn_43, zn_44, zn_45, zn_46, Nat.reduceAdd, Nat.reduceSub, Nat.reduceLeDiff, true_and, and_true]
        refine ⟨fun _ => b14 _ ?_, fun e => absurd e0 e⟩
        simp only [bb_M_solve_14, oIload, oAload, oIstore, oInc, oConst, o2, oDup, oPop, oDupX1, oDupX2, oDup2, oIf, oIfN, oCmp, oCmpN, oSwitch, oGetR, oGetI, oPutI, oPutZ, oIald, oZald, oIast, oZast, oRetI, oRetZ, oRetV, oCall, oRecv, oMax, List.map_cons, List.map_nil, List.getElem?_cons_zero, List.getElem?_cons_succ, List.set_cons_zero, List.set_cons_succ, List.length_cons, List.length_nil, List.cons_append, List.nil_append, List.append_nil, List.take_succ_cons, List.take_zero, List.drop_succ_cons, List.drop_zero, List.reverse_cons, List.reverse_nil, Option.toList, Value.category, List.sum_cons, List.sum_nil, zk_0, zk_1, zk_12, zk_20, zk_23, zk_27, zn_2, zn_3, zn_4, zn_5, zn_6, zn_7, zn_8, zn_9, zn_10, zn_11, zn_13, zn_14, zn_15, zn_16, zn_17, zn_18, zn_19, zn_21, zn_22, zn_24, zn_25, zn_26, zn_28, zn_29, zn_30, zn_31, zn_32, zn_33, zn_34, zn_35, zn_36, zn_37, zn_38, zn_39, zn_40, zn_41, zn_42, zn_43, zn_44, zn_45, zn_46, Nat.reduceAdd, Nat.reduceSub, Nat.reduceLeDiff, true_and, and_true]
        exact h _ hf h3 hch hfx
      · omega
    | succ n ih =>
      intro g1 y hf h3 hch hor
      rcases hor with ⟨e0, hfx⟩ | ⟨e1, hlt⟩
      · refine b5 _ ?_
        simp only [bb_M_solve_5, oIload, oAload, oIstore, oInc, oConst, o2, oDup, oPop, oDupX1, oDupX2, oDup2, oIf, oIfN, oCmp, oCmpN, oSwitch, oGetR, oGetI, oPutI, oPutZ, oIald, oZald, oIast, oZast, oRetI, oRetZ, oRetV, oCall, oRecv, oMax, List.map_cons, List.map_nil, List.getElem?_cons_zero, List.getElem?_cons_succ, List.set_cons_zero, List.set_cons_succ, List.length_cons, List.length_nil, List.cons_append, List.nil_append, List.append_nil, List.take_succ_cons, List.take_zero, List.drop_succ_cons, List.drop_zero, List.reverse_cons, List.reverse_nil, Option.toList, Value.category, List.sum_cons, List.sum_nil, zk_0, zk_1, zk_12, zk_20, zk_23, zk_27, zn_2, zn_3, zn_4, zn_5, zn_6, zn_7, zn_8, zn_9, zn_10, zn_11, zn_13, zn_14, zn_15, zn_16, zn_17, zn_18, zn_19, zn_21, zn_22, zn_24, zn_25, zn_26, zn_28, zn_29, zn_30, zn_31, zn_32, zn_33, zn_34, zn_35, zn_36, zn_37, zn_38, zn_39, zn_40, zn_41, zn_42, zn_43, zn_44, zn_45, zn_46, Nat.reduceAdd, Nat.reduceSub, Nat.reduceLeDiff, true_and, and_true]
        refine ⟨fun _ => b14 _ ?_, fun e => absurd e0 e⟩
        simp only [bb_M_solve_14, oIload, oAload, oIstore, oInc, oConst, o2, oDup, oPop, oDupX1, oDupX2, oDup2, oIf, oIfN, oCmp, oCmpN, oSwitch, oGetR, oGetI, oPutI, oPutZ, oIald, oZald, oIast, oZast, oRetI, oRetZ, oRetV, oCall, oRecv, oMax, List.map_cons, List.map_nil, List.getElem?_cons_zero, List.getElem?_cons_succ, List.set_cons_zero, List.set_cons_succ, List.length_cons, List.length_nil, List.cons_append, List.nil_append, List.append_nil, List.take_succ_cons, List.take_zero, List.drop_succ_cons, List.drop_zero, List.reverse_cons, List.reverse_nil, Option.toList, Value.category, List.sum_cons, List.sum_nil, zk_0, zk_1, zk_12, zk_20, zk_23, zk_27, zn_2, zn_3, zn_4, zn_5, zn_6, zn_7, zn_8, zn_9, zn_10, zn_11, zn_13, zn_14, zn_15, zn_16, zn_17, zn_18, zn_19, zn_21, zn_22, zn_24, zn_25, zn_26, zn_28, zn_29, zn_30, zn_31, zn_32, zn_33, zn_34, zn_35, zn_36, zn_37, zn_38, zn_39, zn_40, zn_41, zn_42, zn_43, zn_44, zn_45, zn_46, Nat.reduceAdd, Nat.reduceSub, Nat.reduceLeDiff, true_and, and_true]
        exact h _ hf h3 hch hfx
      · refine b5 _ ?_
        simp only [bb_M_solve_5, oIload, oAload, oIstore, oInc, oConst, o2, oDup, oPop, oDupX1, oDupX2, oDup2, oIf, oIfN, oCmp, oCmpN, oSwitch, oGetR, oGetI, oPutI, oPutZ, oIald, oZald, oIast, oZast, oRetI, oRetZ, oRetV, oCall, oRecv, oMax, List.map_cons, List.map_nil, List.getElem?_cons_zero, List.getElem?_cons_succ, List.set_cons_zero, List.set_cons_succ, List.length_cons, List.length_nil, List.cons_append, List.nil_append, List.append_nil, List.take_succ_cons, List.take_zero, List.drop_succ_cons, List.drop_zero, List.reverse_cons, List.reverse_nil, Option.toList, Value.category, List.sum_cons, List.sum_nil, zk_0, zk_1, zk_12, zk_20, zk_23, zk_27, zn_2, zn_3, zn_4, zn_5, zn_6, zn_7, zn_8, zn_9, zn_10, zn_11, zn_13, zn_14, zn_15, zn_16, zn_17, zn_18, zn_19, zn_21, zn_22, zn_24, zn_25, zn_26, zn_28, zn_29, zn_30, zn_31, zn_32, zn_33, zn_34, zn_35, zn_36, zn_37, zn_38, zn_39, zn_40, zn_41, zn_42, zn_43, zn_44, zn_45, zn_46, Nat.reduceAdd, Nat.reduceSub, Nat.reduceLeDiff, true_and, and_true]
        refine ⟨fun e => absurd (e1.symm.trans e) (by decide), fun _ => ?_⟩
        refine ⟨by simp, ?_⟩
        -- the pass begins at g0
        have e43 : zU g1 27 27 0 43 = g1 43 := zU_ne _ _ _ _ (by omega)
        have e44 : zU g1 27 27 0 44 = g1 44 := zU_ne _ _ _ _ (by omega)
        have e29 : zU g1 27 27 0 27 29 = nI t := by rw [zU_off _ _ _ _ (by omega), hf.2 29 (by omega)]; exact ht
        have hf0 : mFr g (zU g1 27 27 0) := ⟨fun k h1 h2 h3 h4 => by rw [zU_ne _ _ _ _ h1]; exact hf.1 k h1 h2 h3 h4, fun j hj => by rw [zU_off _ _ _ _ hj]; exact hf.2 j hj⟩
        have h27 : zU g1 27 27 0 27 27 = 0 := zU_at _ _ _ _
        obtain ⟨mm1, mm2⟩ := m_congr (P := P) e43 e44
        have ex : xm (zU g1 27 27 0) P = xm g1 P := by unfold xm; rw [mm1, mm2]
        have hat0 : mAt P (zU g1 27 27 0) (fun _ => False) (zU g1 27 27 0) := ⟨⟨fun _ _ _ _ _ => rfl, fun _ _ => rfl⟩, ⟨fun c hc j hj => by rw [e43]; exact h3.1 c hc j hj, fun i hi => by rw [e44]; exact h3.2 i hi⟩, by rw [ex]; exact hch, Or.inl ⟨h27, rfl, rfl, fun u hu => hu.elim⟩⟩
        have hM0 : zMr (zU g1 27 27 0) P sn := hf0.mr hM
        have hcn : yCnt (vsA P) (xm (zU g1 27 27 0) P) < n + 1 := by rw [ex]; exact hlt
        have hf0' : P.f0 = decide (t = 0) := by
          rw [p9, ht]
          have : nI t = 0 ↔ t = 0 := nI_is 0 rfl ht2 (by omega)
          simp [this]
        generalize zU g1 27 27 0 = g0 at *
        -- behind the downs and ups
        have k13 : ∀ g2 y, mAt P g0 (fun u => 0 < u.1 ∧ u.1 ≤ P.n ∧ u.2 < 11) g2 → K 13 ([some (.ref 27), some (.int x), y], [], g2) := by
          intro g2 y h2
          refine b13 _ ?_
          simp only [bb_M_solve_13, oIload, oAload, oIstore, oInc, oConst, o2, oDup, oPop, oDupX1, oDupX2, oDup2, oIf, oIfN, oCmp, oCmpN, oSwitch, oGetR, oGetI, oPutI, oPutZ, oIald, oZald, oIast, oZast, oRetI, oRetZ, oRetV, oCall, oRecv, oMax, List.map_cons, List.map_nil, List.getElem?_cons_zero, List.getElem?_cons_succ, List.set_cons_zero, List.set_cons_succ, List.length_cons, List.length_nil, List.cons_append, List.nil_append, List.append_nil, List.take_succ_cons, List.take_zero, List.drop_succ_cons, List.drop_zero, List.reverse_cons, List.reverse_nil, Option.toList, Value.category, List.sum_cons, List.sum_nil, zk_0, zk_1, zk_12, zk_20, zk_23, zk_27, zn_2, zn_3, zn_4, zn_5, zn_6, zn_7, zn_8, zn_9, zn_10, zn_11, zn_13, zn_14, zn_15, zn_16, zn_17, zn_18, zn_19, zn_21, zn_22, zn_24, zn_25, zn_26, zn_28, zn_29, zn_30, zn_31, zn_32, zn_33, zn_34, zn_35, zn_36, zn_37, zn_38, zn_39, zn_40, zn_41, zn_42, zn_43, zn_44, zn_45, zn_46, Nat.reduceAdd, Nat.reduceSub, Nat.reduceLeDiff, true_and, and_true]
          refine sp_M_sense hM0 hE hip h2 fun g3 h3' => ?_
          simp only [oIload, oAload, oIstore, oInc, oConst, o2, oDup, oPop, oDupX1, oDupX2, oDup2, oIf, oIfN, oCmp, oCmpN, oSwitch, oGetR, oGetI, oPutI, oPutZ, oIald, oZald, oIast, oZast, oRetI, oRetZ, oRetV, oCall, oRecv, oMax, List.map_cons, List.map_nil, List.getElem?_cons_zero, List.getElem?_cons_succ, List.set_cons_zero, List.set_cons_succ, List.length_cons, List.length_nil, List.cons_append, List.nil_append, List.append_nil, List.take_succ_cons, List.take_zero, List.drop_succ_cons, List.drop_zero, List.reverse_cons, List.reverse_nil, Option.toList, Value.category, List.sum_cons, List.sum_nil, zk_0, zk_1, zk_12, zk_20, zk_23, zk_27, zn_2, zn_3, zn_4, zn_5, zn_6, zn_7, zn_8, zn_9, zn_10, zn_11, zn_13, zn_14, zn_15, zn_16, zn_17, zn_18, zn_19, zn_21, zn_22, zn_24, zn_25, zn_26, zn_28, zn_29, zn_30, zn_31, zn_32, zn_33, zn_34, zn_35, zn_36, zn_37, zn_38, zn_39, zn_40, zn_41, zn_42, zn_43, zn_44, zn_45, zn_46, Nat.reduceAdd, Nat.reduceSub, Nat.reduceLeDiff, true_and, and_true]
          obtain ⟨z1, z2, z3', z4⟩ := h3'
          have hf3 : mFr g g3 := ⟨fun k a1 a2 a3 a4 => by rw [z1.1 k a1 a2 a3 a4]; exact hf0.1 k a1 a2 a3 a4, fun j hj => by rw [z1.2 j hj]; exact hf0.2 j hj⟩
          refine ih g3 _ hf3 z2 z3' ?_
          rcases z4 with ⟨a, b, c, dd⟩ | ⟨a, b⟩
          · left
            refine ⟨a, ?_⟩
            obtain ⟨n1, n2⟩ := m_congr (P := P) b c
            have : xm g3 P = xm g0 P := by unfold xm; rw [n1, n2]
            rw [this]
            exact mfix_of fun u hu => dd u (hu.elim Or.inr Or.inl)
          · right
            exact ⟨a, by omega⟩
        have ups : ∀ c g2, c ≤ P.n → mAt P g0 (fun u => (0 < u.1 ∧ u.1 ≤ P.n ∧ u.2 < 4) ∨ (c < u.1 ∧ u.1 ≤ P.n ∧ 4 ≤ u.2 ∧ u.2 < 11)) g2 → K 12 ([some (.ref 27), some (.int x), some (.int (nI c - 1))], [], g2) := by
          intro c
          induction c with
          | zero =>
            intro g2 _ h2
            refine b12 _ ?_
            simp only [bb_M_solve_12, oIload, oAload, oIstore, oInc, oConst, o2, oDup, oPop, oDupX1, oDupX2, oDup2, oIf, oIfN, oCmp, oCmpN, oSwitch, oGetR, oGetI, oPutI, oPutZ, oIald, oZald, oIast, oZast, oRetI, oRetZ, oRetV, oCall, oRecv, oMax, List.map_cons, List.map_nil, List.getElem?_cons_zero, List.getElem?_cons_succ, List.set_cons_zero, List.set_cons_succ, List.length_cons, List.length_nil, List.cons_append, List.nil_append, List.append_nil, List.take_succ_cons, List.take_zero, List.drop_succ_cons, List.drop_zero, List.reverse_cons, List.reverse_nil, Option.toList, Value.category, List.sum_cons, List.sum_nil, zk_0, zk_1, zk_12, zk_20, zk_23, zk_27, zn_2, zn_3, zn_4, zn_5, zn_6, zn_7, zn_8, zn_9, zn_10, zn_11, zn_13, zn_14, zn_15, zn_16, zn_17, zn_18, zn_19, zn_21, zn_22, zn_24, zn_25, zn_26, zn_28, zn_29, zn_30, zn_31, zn_32, zn_33, zn_34, zn_35, zn_36, zn_37, zn_38, zn_39, zn_40, zn_41, zn_42, zn_43, zn_44, zn_45, zn_46, Nat.reduceAdd, Nat.reduceSub, Nat.reduceLeDiff, true_and, and_true]
            refine ⟨fun _ => k13 _ _ (h2.weak ?_), fun e => absurd (by decide) e⟩
            rintro ⟨u1, u2⟩ ⟨a1, a2, a3⟩
            dsimp only at a1 a2 a3
            by_cases q : u2 < 4
            · exact Or.inl ⟨a1, a2, q⟩
            · exact Or.inr ⟨a1, a2, by show 4 ≤ u2; omega, a3⟩
          | succ c ihc =>
            intro g2 hcn' h2
            rw [nI_pred]
            refine b12 _ ?_
            simp only [bb_M_solve_12, oIload, oAload, oIstore, oInc, oConst, o2, oDup, oPop, oDupX1, oDupX2, oDup2, oIf, oIfN, oCmp, oCmpN, oSwitch, oGetR, oGetI, oPutI, oPutZ, oIald, oZald, oIast, oZast, oRetI, oRetZ, oRetV, oCall, oRecv, oMax, List.map_cons, List.map_nil, List.getElem?_cons_zero, List.getElem?_cons_succ, List.set_cons_zero, List.set_cons_succ, List.length_cons, List.length_nil, List.cons_append, List.nil_append, List.append_nil, List.take_succ_cons, List.take_zero, List.drop_succ_cons, List.drop_zero, List.reverse_cons, List.reverse_nil, Option.toList, Value.category, List.sum_cons, List.sum_nil, zk_0, zk_1, zk_12, zk_20, zk_23, zk_27, zn_2, zn_3, zn_4, zn_5, zn_6, zn_7, zn_8, zn_9, zn_10, zn_11, zn_13, zn_14, zn_15, zn_16, zn_17, zn_18, zn_19, zn_21, zn_22, zn_24, zn_25, zn_26, zn_28, zn_29, zn_30, zn_31, zn_32, zn_33, zn_34, zn_35, zn_36, zn_37, zn_38, zn_39, zn_40, zn_41, zn_42, zn_43, zn_44, zn_45, zn_46, Nat.reduceAdd, Nat.reduceSub, Nat.reduceLeDiff, true_and, and_true]
            refine ⟨fun e => absurd e (nI_pos (by omega)), fun _ => ?_⟩
            refine sp_M_up hM0 h2 (by omega) fun g3 h3' => ?_
            simp only [oIload, oAload, oIstore, oInc, oConst, o2, oDup, oPop, oDupX1, oDupX2, oDup2, oIf, oIfN, oCmp, oCmpN, oSwitch, oGetR, oGetI, oPutI, oPutZ, oIald, oZald, oIast, oZast, oRetI, oRetZ, oRetV, oCall, oRecv, oMax, List.map_cons, List.map_nil, List.getElem?_cons_zero, List.getElem?_cons_succ, List.set_cons_zero, List.set_cons_succ, List.length_cons, List.length_nil, List.cons_append, List.nil_append, List.append_nil, List.take_succ_cons, List.take_zero, List.drop_succ_cons, List.drop_zero, List.reverse_cons, List.reverse_nil, Option.toList, Value.category, List.sum_cons, List.sum_nil, zk_0, zk_1, zk_12, zk_20, zk_23, zk_27, zn_2, zn_3, zn_4, zn_5, zn_6, zn_7, zn_8, zn_9, zn_10, zn_11, zn_13, zn_14, zn_15, zn_16, zn_17, zn_18, zn_19, zn_21, zn_22, zn_24, zn_25, zn_26, zn_28, zn_29, zn_30, zn_31, zn_32, zn_33, zn_34, zn_35, zn_36, zn_37, zn_38, zn_39, zn_40, zn_41, zn_42, zn_43, zn_44, zn_45, zn_46, Nat.reduceAdd, Nat.reduceSub, Nat.reduceLeDiff, true_and, and_true]
            rw [show nI c + (-1) = nI c - 1 from (Int32.sub_eq_add_neg (nI c) 1).symm]
            refine ihc g3 (by omega) (h3'.weak ?_)
            rintro ⟨u1, u2⟩ (a | ⟨a1, a2, a3, a4⟩)
            · exact Or.inl (Or.inl a)
            · dsimp only at a1 a2 a3 a4
              by_cases q : u1 = c + 1
              · exact Or.inr ⟨q, a3, a4⟩
              · exact Or.inl (Or.inr ⟨by show c + 1 < u1; omega, a2, a3, a4⟩)
        have downs : ∀ k c g2, c + k = P.n → 1 ≤ c → mAt P g0 (fun u => 0 < u.1 ∧ u.1 ≤ c ∧ u.2 < 4) g2 → K 10 ([some (.ref 27), some (.int x), some (.int (nI c))], [], g2) := by
          intro k
          induction k with
          | zero =>
            intro c g2 hck h1c h2
            have hM2 := h2.1.mr hM0
            refine b10 _ ?_
            simp only [bb_M_solve_10, oIload, oAload, oIstore, oInc, oConst, o2, oDup, oPop, oDupX1, oDupX2, oDup2, oIf, oIfN, oCmp, oCmpN, oSwitch, oGetR, oGetI, oPutI, oPutZ, oIald, oZald, oIast, oZast, oRetI, oRetZ, oRetV, oCall, oRecv, oMax, List.map_cons, List.map_nil, List.getElem?_cons_zero, List.getElem?_cons_succ, List.set_cons_zero, List.set_cons_succ, List.length_cons, List.length_nil, List.cons_append, List.nil_append, List.append_nil, List.take_succ_cons, List.take_zero, List.drop_succ_cons, List.drop_zero, List.reverse_cons, List.reverse_nil, Option.toList, Value.category, List.sum_cons, List.sum_nil, zk_0, zk_1, zk_12, zk_20, zk_23, zk_27, zn_2, zn_3, zn_4, zn_5, zn_6, zn_7, zn_8, zn_9, zn_10, zn_11, zn_13, zn_14, zn_15, zn_16, zn_17, zn_18, zn_19, zn_21, zn_22, zn_24, zn_25, zn_26, zn_28, zn_29, zn_30, zn_31, zn_32, zn_33, zn_34, zn_35, zn_36, zn_37, zn_38, zn_39, zn_40, zn_41, zn_42, zn_43, zn_44, zn_45, zn_46, Nat.reduceAdd, Nat.reduceSub, Nat.reduceLeDiff, true_and, and_true]
            rw [hM2.1]
            refine ⟨fun _ => b11 _ ?_, fun e => absurd (nI_le (by omega) (by omega)) e⟩
            simp only [bb_M_solve_11, oIload, oAload, oIstore, oInc, oConst, o2, oDup, oPop, oDupX1, oDupX2, oDup2, oIf, oIfN, oCmp, oCmpN, oSwitch, oGetR, oGetI, oPutI, oPutZ, oIald, oZald, oIast, oZast, oRetI, oRetZ, oRetV, oCall, oRecv, oMax, List.map_cons, List.map_nil, List.getElem?_cons_zero, List.getElem?_cons_succ, List.set_cons_zero, List.set_cons_succ, List.length_cons, List.length_nil, List.cons_append, List.nil_append, List.append_nil, List.take_succ_cons, List.take_zero, List.drop_succ_cons, List.drop_zero, List.reverse_cons, List.reverse_nil, Option.toList, Value.category, List.sum_cons, List.sum_nil, zk_0, zk_1, zk_12, zk_20, zk_23, zk_27, zn_2, zn_3, zn_4, zn_5, zn_6, zn_7, zn_8, zn_9, zn_10, zn_11, zn_13, zn_14, zn_15, zn_16, zn_17, zn_18, zn_19, zn_21, zn_22, zn_24, zn_25, zn_26, zn_28, zn_29, zn_30, zn_31, zn_32, zn_33, zn_34, zn_35, zn_36, zn_37, zn_38, zn_39, zn_40, zn_41, zn_42, zn_43, zn_44, zn_45, zn_46, Nat.reduceAdd, Nat.reduceSub, Nat.reduceLeDiff, true_and, and_true]
            rw [hM2.1]
            refine ups P.n g2 (Nat.le_refl _) (h2.weak ?_)
            rintro ⟨u1, u2⟩ (⟨a1, a2, a3⟩ | ⟨a1, a2, -⟩)
            · exact ⟨a1, by dsimp only at a2 ⊢; omega, a3⟩
            · dsimp only at a1 a2; omega
          | succ k ihk =>
            intro c g2 hck h1c h2
            have hM2 := h2.1.mr hM0
            refine b10 _ ?_
            simp only [bb_M_solve_10, oIload, oAload, oIstore, oInc, oConst, o2, oDup, oPop, oDupX1, oDupX2, oDup2, oIf, oIfN, oCmp, oCmpN, oSwitch, oGetR, oGetI, oPutI, oPutZ, oIald, oZald, oIast, oZast, oRetI, oRetZ, oRetV, oCall, oRecv, oMax, List.map_cons, List.map_nil, List.getElem?_cons_zero, List.getElem?_cons_succ, List.set_cons_zero, List.set_cons_succ, List.length_cons, List.length_nil, List.cons_append, List.nil_append, List.append_nil, List.take_succ_cons, List.take_zero, List.drop_succ_cons, List.drop_zero, List.reverse_cons, List.reverse_nil, Option.toList, Value.category, List.sum_cons, List.sum_nil, zk_0, zk_1, zk_12, zk_20, zk_23, zk_27, zn_2, zn_3, zn_4, zn_5, zn_6, zn_7, zn_8, zn_9, zn_10, zn_11, zn_13, zn_14, zn_15, zn_16, zn_17, zn_18, zn_19, zn_21, zn_22, zn_24, zn_25, zn_26, zn_28, zn_29, zn_30, zn_31, zn_32, zn_33, zn_34, zn_35, zn_36, zn_37, zn_38, zn_39, zn_40, zn_41, zn_42, zn_43, zn_44, zn_45, zn_46, Nat.reduceAdd, Nat.reduceSub, Nat.reduceLeDiff, true_and, and_true]
            rw [hM2.1]
            refine ⟨fun e => absurd e (nI_ge (by omega) (by omega)), fun _ => ?_⟩
            refine sp_M_down hM0 h2 (by omega) (by omega) fun g3 h3' => ?_
            simp only [oIload, oAload, oIstore, oInc, oConst, o2, oDup, oPop, oDupX1, oDupX2, oDup2, oIf, oIfN, oCmp, oCmpN, oSwitch, oGetR, oGetI, oPutI, oPutZ, oIald, oZald, oIast, oZast, oRetI, oRetZ, oRetV, oCall, oRecv, oMax, List.map_cons, List.map_nil, List.getElem?_cons_zero, List.getElem?_cons_succ, List.set_cons_zero, List.set_cons_succ, List.length_cons, List.length_nil, List.cons_append, List.nil_append, List.append_nil, List.take_succ_cons, List.take_zero, List.drop_succ_cons, List.drop_zero, List.reverse_cons, List.reverse_nil, Option.toList, Value.category, List.sum_cons, List.sum_nil, zk_0, zk_1, zk_12, zk_20, zk_23, zk_27, zn_2, zn_3, zn_4, zn_5, zn_6, zn_7, zn_8, zn_9, zn_10, zn_11, zn_13, zn_14, zn_15, zn_16, zn_17, zn_18, zn_19, zn_21, zn_22, zn_24, zn_25, zn_26, zn_28, zn_29, zn_30, zn_31, zn_32, zn_33, zn_34, zn_35, zn_36, zn_37, zn_38, zn_39, zn_40, zn_41, zn_42, zn_43, zn_44, zn_45, zn_46, Nat.reduceAdd, Nat.reduceSub, Nat.reduceLeDiff, true_and, and_true]
            rw [nI_1]
            refine ihk (c + 1) g3 (by omega) (by omega) (h3'.weak ?_)
            rintro ⟨u1, u2⟩ ⟨a1, a2, a3⟩
            dsimp only at a1 a2 a3
            by_cases q : u1 = c + 1
            · exact Or.inr ⟨q, a3⟩
            · exact Or.inl ⟨a1, by show u1 ≤ c; omega, a3⟩
        -- the root
        have k9 : ∀ (b : Int32) g2 y, mAt P g0 (fun u => False ∨ u = (0 + 1, 0)) g2 → (b = 0 ↔ (!P.f0) = false) → K 9 ([some (.ref 27), some (.int x), y], [.int b, .int 1, .int 0, .ref 27], g2) := by
          intro b g2 y h2 hb
          refine b9 _ ?_
          simp only [bb_M_solve_9, oIload, oAload, oIstore, oInc, oConst, o2, oDup, oPop, oDupX1, oDupX2, oDup2, oIf, oIfN, oCmp, oCmpN, oSwitch, oGetR, oGetI, oPutI, oPutZ, oIald, oZald, oIast, oZast, oRetI, oRetZ, oRetV, oCall, oRecv, oMax, List.map_cons, List.map_nil, List.getElem?_cons_zero, List.getElem?_cons_succ, List.set_cons_zero, List.set_cons_succ, List.length_cons, List.length_nil, List.cons_append, List.nil_append, List.append_nil, List.take_succ_cons, List.take_zero, List.drop_succ_cons, List.drop_zero, List.reverse_cons, List.reverse_nil, Option.toList, Value.category, List.sum_cons, List.sum_nil, zk_0, zk_1, zk_12, zk_20, zk_23, zk_27, zn_2, zn_3, zn_4, zn_5, zn_6, zn_7, zn_8, zn_9, zn_10, zn_11, zn_13, zn_14, zn_15, zn_16, zn_17, zn_18, zn_19, zn_21, zn_22, zn_24, zn_25, zn_26, zn_28, zn_29, zn_30, zn_31, zn_32, zn_33, zn_34, zn_35, zn_36, zn_37, zn_38, zn_39, zn_40, zn_41, zn_42, zn_43, zn_44, zn_45, zn_46, Nat.reduceAdd, Nat.reduceSub, Nat.reduceLeDiff, true_and, and_true]
          refine sp_M_told ?_
          simp only [oIload, oAload, oIstore, oInc, oConst, o2, oDup, oPop, oDupX1, oDupX2, oDup2, oIf, oIfN, oCmp, oCmpN, oSwitch, oGetR, oGetI, oPutI, oPutZ, oIald, oZald, oIast, oZast, oRetI, oRetZ, oRetV, oCall, oRecv, oMax, List.map_cons, List.map_nil, List.getElem?_cons_zero, List.getElem?_cons_succ, List.set_cons_zero, List.set_cons_succ, List.length_cons, List.length_nil, List.cons_append, List.nil_append, List.append_nil, List.take_succ_cons, List.take_zero, List.drop_succ_cons, List.drop_zero, List.reverse_cons, List.reverse_nil, Option.toList, Value.category, List.sum_cons, List.sum_nil, zk_0, zk_1, zk_12, zk_20, zk_23, zk_27, zn_2, zn_3, zn_4, zn_5, zn_6, zn_7, zn_8, zn_9, zn_10, zn_11, zn_13, zn_14, zn_15, zn_16, zn_17, zn_18, zn_19, zn_21, zn_22, zn_24, zn_25, zn_26, zn_28, zn_29, zn_30, zn_31, zn_32, zn_33, zn_34, zn_35, zn_36, zn_37, zn_38, zn_39, zn_40, zn_41, zn_42, zn_43, zn_44, zn_45, zn_46, Nat.reduceAdd, Nat.reduceSub, Nat.reduceLeDiff, true_and, and_true]
          refine sp_M_setA (c := 0) (k := 1) h2 rfl (by omega) p3 (by omega) (by rw [eEq_re (by omega), eEq_re (by omega)]; refine v3_eq (v3_told hb) ?_ ?_ <;> simp [eRes]) fun g3 h3' => ?_
          simp only [oIload, oAload, oIstore, oInc, oConst, o2, oDup, oPop, oDupX1, oDupX2, oDup2, oIf, oIfN, oCmp, oCmpN, oSwitch, oGetR, oGetI, oPutI, oPutZ, oIald, oZald, oIast, oZast, oRetI, oRetZ, oRetV, oCall, oRecv, oMax, List.map_cons, List.map_nil, List.getElem?_cons_zero, List.getElem?_cons_succ, List.set_cons_zero, List.set_cons_succ, List.length_cons, List.length_nil, List.cons_append, List.nil_append, List.append_nil, List.take_succ_cons, List.take_zero, List.drop_succ_cons, List.drop_zero, List.reverse_cons, List.reverse_nil, Option.toList, Value.category, List.sum_cons, List.sum_nil, zk_0, zk_1, zk_12, zk_20, zk_23, zk_27, zn_2, zn_3, zn_4, zn_5, zn_6, zn_7, zn_8, zn_9, zn_10, zn_11, zn_13, zn_14, zn_15, zn_16, zn_17, zn_18, zn_19, zn_21, zn_22, zn_24, zn_25, zn_26, zn_28, zn_29, zn_30, zn_31, zn_32, zn_33, zn_34, zn_35, zn_36, zn_37, zn_38, zn_39, zn_40, zn_41, zn_42, zn_43, zn_44, zn_45, zn_46, Nat.reduceAdd, Nat.reduceSub, Nat.reduceLeDiff, true_and, and_true]
          refine sp_M_setA (c := 0) (k := 2) h3' rfl (by omega) p3 (by omega) (by rw [eEq_su (by omega), eEq_su (by omega)]; refine v3_eq v3_f ?_ ?_ <;> simp [eSusp]) fun g4 h4' => ?_
          simp only [oIload, oAload, oIstore, oInc, oConst, o2, oDup, oPop, oDupX1, oDupX2, oDup2, oIf, oIfN, oCmp, oCmpN, oSwitch, oGetR, oGetI, oPutI, oPutZ, oIald, oZald, oIast, oZast, oRetI, oRetZ, oRetV, oCall, oRecv, oMax, List.map_cons, List.map_nil, List.getElem?_cons_zero, List.getElem?_cons_succ, List.set_cons_zero, List.set_cons_succ, List.length_cons, List.length_nil, List.cons_append, List.nil_append, List.append_nil, List.take_succ_cons, List.take_zero, List.drop_succ_cons, List.drop_zero, List.reverse_cons, List.reverse_nil, Option.toList, Value.category, List.sum_cons, List.sum_nil, zk_0, zk_1, zk_12, zk_20, zk_23, zk_27, zn_2, zn_3, zn_4, zn_5, zn_6, zn_7, zn_8, zn_9, zn_10, zn_11, zn_13, zn_14, zn_15, zn_16, zn_17, zn_18, zn_19, zn_21, zn_22, zn_24, zn_25, zn_26, zn_28, zn_29, zn_30, zn_31, zn_32, zn_33, zn_34, zn_35, zn_36, zn_37, zn_38, zn_39, zn_40, zn_41, zn_42, zn_43, zn_44, zn_45, zn_46, Nat.reduceAdd, Nat.reduceSub, Nat.reduceLeDiff, true_and, and_true]
          refine sp_M_setA (c := 0) (k := 3) h4' rfl (by omega) p3 (by omega) (by rw [eEq_ki (by omega), eEq_ki (by omega)]; refine v3_eq v3_f ?_ ?_ <;> simp [eKill]) fun g5 h5' => ?_
          simp only [oIload, oAload, oIstore, oInc, oConst, o2, oDup, oPop, oDupX1, oDupX2, oDup2, oIf, oIfN, oCmp, oCmpN, oSwitch, oGetR, oGetI, oPutI, oPutZ, oIald, oZald, oIast, oZast, oRetI, oRetZ, oRetV, oCall, oRecv, oMax, List.map_cons, List.map_nil, List.getElem?_cons_zero, List.getElem?_cons_succ, List.set_cons_zero, List.set_cons_succ, List.length_cons, List.length_nil, List.cons_append, List.nil_append, List.append_nil, List.take_succ_cons, List.take_zero, List.drop_succ_cons, List.drop_zero, List.reverse_cons, List.reverse_nil, Option.toList, Value.category, List.sum_cons, List.sum_nil, zk_0, zk_1, zk_12, zk_20, zk_23, zk_27, zn_2, zn_3, zn_4, zn_5, zn_6, zn_7, zn_8, zn_9, zn_10, zn_11, zn_13, zn_14, zn_15, zn_16, zn_17, zn_18, zn_19, zn_21, zn_22, zn_24, zn_25, zn_26, zn_28, zn_29, zn_30, zn_31, zn_32, zn_33, zn_34, zn_35, zn_36, zn_37, zn_38, zn_39, zn_40, zn_41, zn_42, zn_43, zn_44, zn_45, zn_46, Nat.reduceAdd, Nat.reduceSub, Nat.reduceLeDiff, true_and, and_true]
          refine downs (P.n - 1) 1 g5 (by omega) (by omega) (h5'.weak ?_)
          rintro ⟨u1, u2⟩ ⟨a1, a2, a3⟩
          dsimp only at a1 a2 a3
          have e1 : u1 = 1 := by omega
          subst e1
          have : u2 = 0 ∨ u2 = 1 ∨ u2 = 2 ∨ u2 = 3 := by omega
          rcases this with rfl | rfl | rfl | rfl
          · exact Or.inl (Or.inl (Or.inl (Or.inr rfl)))
          · exact Or.inl (Or.inl (Or.inr rfl))
          · exact Or.inl (Or.inr rfl)
          · exact Or.inr rfl
        have k7 : ∀ (b : Int32) y, (b = 0 ↔ P.f0 = false) → K 7 ([some (.ref 27), some (.int x), y], [.int b, .int 0, .int 0, .ref 27], g0) := by
          intro b y hb
          refine b7 _ ?_
          simp only [bb_M_solve_7, oIload, oAload, oIstore, oInc, oConst, o2, oDup, oPop, oDupX1, oDupX2, oDup2, oIf, oIfN, oCmp, oCmpN, oSwitch, oGetR, oGetI, oPutI, oPutZ, oIald, oZald, oIast, oZast, oRetI, oRetZ, oRetV, oCall, oRecv, oMax, List.map_cons, List.map_nil, List.getElem?_cons_zero, List.getElem?_cons_succ, List.set_cons_zero, List.set_cons_succ, List.length_cons, List.length_nil, List.cons_append, List.nil_append, List.append_nil, List.take_succ_cons, List.take_zero, List.drop_succ_cons, List.drop_zero, List.reverse_cons, List.reverse_nil, Option.toList, Value.category, List.sum_cons, List.sum_nil, zk_0, zk_1, zk_12, zk_20, zk_23, zk_27, zn_2, zn_3, zn_4, zn_5, zn_6, zn_7, zn_8, zn_9, zn_10, zn_11, zn_13, zn_14, zn_15, zn_16, zn_17, zn_18, zn_19, zn_21, zn_22, zn_24, zn_25, zn_26, zn_28, zn_29, zn_30, zn_31, zn_32, zn_33, zn_34, zn_35, zn_36, zn_37, zn_38, zn_39, zn_40, zn_41, zn_42, zn_43, zn_44, zn_45, zn_46, Nat.reduceAdd, Nat.reduceSub, Nat.reduceLeDiff, true_and, and_true]
          refine sp_M_told ?_
          simp only [oIload, oAload, oIstore, oInc, oConst, o2, oDup, oPop, oDupX1, oDupX2, oDup2, oIf, oIfN, oCmp, oCmpN, oSwitch, oGetR, oGetI, oPutI, oPutZ, oIald, oZald, oIast, oZast, oRetI, oRetZ, oRetV, oCall, oRecv, oMax, List.map_cons, List.map_nil, List.getElem?_cons_zero, List.getElem?_cons_succ, List.set_cons_zero, List.set_cons_succ, List.length_cons, List.length_nil, List.cons_append, List.nil_append, List.append_nil, List.take_succ_cons, List.take_zero, List.drop_succ_cons, List.drop_zero, List.reverse_cons, List.reverse_nil, Option.toList, Value.category, List.sum_cons, List.sum_nil, zk_0, zk_1, zk_12, zk_20, zk_23, zk_27, zn_2, zn_3, zn_4, zn_5, zn_6, zn_7, zn_8, zn_9, zn_10, zn_11, zn_13, zn_14, zn_15, zn_16, zn_17, zn_18, zn_19, zn_21, zn_22, zn_24, zn_25, zn_26, zn_28, zn_29, zn_30, zn_31, zn_32, zn_33, zn_34, zn_35, zn_36, zn_37, zn_38, zn_39, zn_40, zn_41, zn_42, zn_43, zn_44, zn_45, zn_46, Nat.reduceAdd, Nat.reduceSub, Nat.reduceLeDiff, true_and, and_true]
          refine sp_M_setA (c := 0) (k := 0) hat0 rfl (by omega) p3 (by omega) (by rw [eEq_go (by omega), eEq_go (by omega)]; refine v3_eq (v3_told hb) ?_ ?_ <;> simp [eGo]) fun g2 h2 => ?_
          simp only [oIload, oAload, oIstore, oInc, oConst, o2, oDup, oPop, oDupX1, oDupX2, oDup2, oIf, oIfN, oCmp, oCmpN, oSwitch, oGetR, oGetI, oPutI, oPutZ, oIald, oZald, oIast, oZast, oRetI, oRetZ, oRetV, oCall, oRecv, oMax, List.map_cons, List.map_nil, List.getElem?_cons_zero, List.getElem?_cons_succ, List.set_cons_zero, List.set_cons_succ, List.length_cons, List.length_nil, List.cons_append, List.nil_append, List.append_nil, List.take_succ_cons, List.take_zero, List.drop_succ_cons, List.drop_zero, List.reverse_cons, List.reverse_nil, Option.toList, Value.category, List.sum_cons, List.sum_nil, zk_0, zk_1, zk_12, zk_20, zk_23, zk_27, zn_2, zn_3, zn_4, zn_5, zn_6, zn_7, zn_8, zn_9, zn_10, zn_11, zn_13, zn_14, zn_15, zn_16, zn_17, zn_18, zn_19, zn_21, zn_22, zn_24, zn_25, zn_26, zn_28, zn_29, zn_30, zn_31, zn_32, zn_33, zn_34, zn_35, zn_36, zn_37, zn_38, zn_39, zn_40, zn_41, zn_42, zn_43, zn_44, zn_45, zn_46, Nat.reduceAdd, Nat.reduceSub, Nat.reduceLeDiff, true_and, and_true]
          have e29' : g2 27 29 = nI t := by rw [h2.1.2 29 (by omega)]; exact e29
          rw [e29']
          refine ⟨fun e => b8 _ ?_, fun e => k9 _ _ _ h2 ?_⟩
          · simp only [bb_M_solve_8, oIload, oAload, oIstore, oInc, oConst, o2, oDup, oPop, oDupX1, oDupX2, oDup2, oIf, oIfN, oCmp, oCmpN, oSwitch, oGetR, oGetI, oPutI, oPutZ, oIald, oZald, oIast, oZast, oRetI, oRetZ, oRetV, oCall, oRecv, oMax, List.map_cons, List.map_nil, List.getElem?_cons_zero, List.getElem?_cons_succ, List.set_cons_zero, List.set_cons_succ, List.length_cons, List.length_nil, List.cons_append, List.nil_append, List.append_nil, List.take_succ_cons, List.take_zero, List.drop_succ_cons, List.drop_zero, List.reverse_cons, List.reverse_nil, Option.toList, Value.category, List.sum_cons, List.sum_nil, zk_0, zk_1, zk_12, zk_20, zk_23, zk_27, zn_2, zn_3, zn_4, zn_5, zn_6, zn_7, zn_8, zn_9, zn_10, zn_11, zn_13, zn_14, zn_15, zn_16, zn_17, zn_18, zn_19, zn_21, zn_22, zn_24, zn_25, zn_26, zn_28, zn_29, zn_30, zn_31, zn_32, zn_33, zn_34, zn_35, zn_36, zn_37, zn_38, zn_39, zn_40, zn_41, zn_42, zn_43, zn_44, zn_45, zn_46, Nat.reduceAdd, Nat.reduceSub, Nat.reduceLeDiff, true_and, and_true]
            refine k9 _ _ _ h2 ?_
            have : t = 0 := by
              have h9 : nI t ≤ nI 0 := e
              rw [nI_leI ht2 (by omega)] at h9; omega
            simp [hf0', this]
          · have : ¬ t = 0 := fun q => e (by rw [q]; decide)
            simp [hf0', this]
        rw [e29]
        refine ⟨fun e => b6 _ ?_, fun e => k7 _ _ ?_⟩
        · simp only [bb_M_solve_6, oIload, oAload, oIstore, oInc, oConst, o2, oDup, oPop, oDupX1, oDupX2, oDup2, oIf, oIfN, oCmp, oCmpN, oSwitch, oGetR, oGetI, oPutI, oPutZ, oIald, oZald, oIast, oZast, oRetI, oRetZ, oRetV, oCall, oRecv, oMax, List.map_cons, List.map_nil, List.getElem?_cons_zero, List.getElem?_cons_succ, List.set_cons_zero, List.set_cons_succ, List.length_cons, List.length_nil, List.cons_append, List.nil_append, List.append_nil, List.take_succ_cons, List.take_zero, List.drop_succ_cons, List.drop_zero, List.reverse_cons, List.reverse_nil, Option.toList, Value.category, List.sum_cons, List.sum_nil, zk_0, zk_1, zk_12, zk_20, zk_23, zk_27, zn_2, zn_3, zn_4, zn_5, zn_6, zn_7, zn_8, zn_9, zn_10, zn_11, zn_13, zn_14, zn_15, zn_16, zn_17, zn_18, zn_19, zn_21, zn_22, zn_24, zn_25, zn_26, zn_28, zn_29, zn_30, zn_31, zn_32, zn_33, zn_34, zn_35, zn_36, zn_37, zn_38, zn_39, zn_40, zn_41, zn_42, zn_43, zn_44, zn_45, zn_46, Nat.reduceAdd, Nat.reduceSub, Nat.reduceLeDiff, true_and, and_true]
          refine k7 _ _ ?_
          have : ¬ t = 0 := fun q => e (by rw [q]; rfl)
          simp [hf0', this]
        · have : t = 0 := (nI_is 0 rfl ht2 (by omega)).mp e
          simp [hf0', this]
  -- all is unknown at first
  have loop2 : ∀ n i g1, i + n = P.ns → mFr g g1 → (∀ c, c < P.n → ∀ j, j < 11 → g1 43 (11 * c + j) = 0) → (∀ j, j < i → g1 44 j = 0) → K 3 ([some (.ref 27), some (.int x), some (.int (nI i))], [], g1) := by
    intro n
    induction n with
    | zero =>
      intro i g1 hi hf hw hs
      refine b3 _ ?_
      simp only [bb_M_solve_3, oIload, oAload, oIstore, oInc, oConst, o2, oDup, oPop, oDupX1, oDupX2, oDup2, oIf, oIfN, oCmp, oCmpN, oSwitch, oGetR, oGetI, oPutI, oPutZ, oIald, oZald, oIast, oZast, oRetI, oRetZ, oRetV, oCall, oRecv, oMax, List.map_cons, List.map_nil, List.getElem?_cons_zero, List.getElem?_cons_succ, List.set_cons_zero, List.set_cons_succ, List.length_cons, List.length_nil, List.cons_append, List.nil_append, List.append_nil, List.take_succ_cons, List.take_zero, List.drop_succ_cons, List.drop_zero, List.reverse_cons, List.reverse_nil, Option.toList, Value.category, List.sum_cons, List.sum_nil, zk_0, zk_1, zk_12, zk_20, zk_23, zk_27, zn_2, zn_3, zn_4, zn_5, zn_6, zn_7, zn_8, zn_9, zn_10, zn_11, zn_13, zn_14, zn_15, zn_16, zn_17, zn_18, zn_19, zn_21, zn_22, zn_24, zn_25, zn_26, zn_28, zn_29, zn_30, zn_31, zn_32, zn_33, zn_34, zn_35, zn_36, zn_37, zn_38, zn_39, zn_40, zn_41, zn_42, zn_43, zn_44, zn_45, zn_46, Nat.reduceAdd, Nat.reduceSub, Nat.reduceLeDiff, true_and, and_true]
      rw [hf.2 22 (by omega), p4]
      refine ⟨fun _ => b4 _ ?_, fun e => absurd (nI_le (by omega) (by omega)) e⟩
      simp only [bb_M_solve_4, oIload, oAload, oIstore, oInc, oConst, o2, oDup, oPop, oDupX1, oDupX2, oDup2, oIf, oIfN, oCmp, oCmpN, oSwitch, oGetR, oGetI, oPutI, oPutZ, oIald, oZald, oIast, oZast, oRetI, oRetZ, oRetV, oCall, oRecv, oMax, List.map_cons, List.map_nil, List.getElem?_cons_zero, List.getElem?_cons_succ, List.set_cons_zero, List.set_cons_succ, List.length_cons, List.length_nil, List.cons_append, List.nil_append, List.append_nil, List.take_succ_cons, List.take_zero, List.drop_succ_cons, List.drop_zero, List.reverse_cons, List.reverse_nil, Option.toList, Value.category, List.sum_cons, List.sum_nil, zk_0, zk_1, zk_12, zk_20, zk_23, zk_27, zn_2, zn_3, zn_4, zn_5, zn_6, zn_7, zn_8, zn_9, zn_10, zn_11, zn_13, zn_14, zn_15, zn_16, zn_17, zn_18, zn_19, zn_21, zn_22, zn_24, zn_25, zn_26, zn_28, zn_29, zn_30, zn_31, zn_32, zn_33, zn_34, zn_35, zn_36, zn_37, zn_38, zn_39, zn_40, zn_41, zn_42, zn_43, zn_44, zn_45, zn_46, Nat.reduceAdd, Nat.reduceSub, Nat.reduceLeDiff, true_and, and_true]
      refine ⟨by simp, ?_⟩
      have hn : P.ns = i := by omega
      have exb : xm (zU g1 27 27 1) P = yBot P := by
        unfold xm yBot
        refine Prod.ext ?_ ?_
        · funext u
          obtain ⟨y, j⟩ := u
          cases y with
          | zero =>
            simp only [m1]
            rw [zU_ne _ 27 27 _ (x := 44) (by omega)]
            by_cases hj : j < P.ns
            · rw [hs j (by omega)]; simp
            · simp [hj]
          | succ c =>
            simp only [m1]
            rw [zU_ne _ 27 27 _ (x := 43) (by omega)]
            by_cases hc : c < P.n
            · by_cases hj : j < 11
              · rw [hw c hc j hj]; simp
              · simp [hj]
            · simp [hc]
        · funext u
          obtain ⟨y, j⟩ := u
          cases y with
          | zero =>
            simp only [m2]
            rw [zU_ne _ 27 27 _ (x := 44) (by omega)]
            by_cases hj : j < P.ns
            · rw [hs j (by omega)]; simp
            · simp [hj]
          | succ c =>
            simp only [m2]
            rw [zU_ne _ 27 27 _ (x := 43) (by omega)]
            by_cases hc : c < P.n
            · by_cases hj : j < 11
              · rw [hw c hc j hj]; simp
              · simp [hj]
            · simp [hc]
      refine pass (yCnt (vsA P) (xm (zU g1 27 27 1) P) + 1) _ _ ⟨fun k a1 a2 a3 a4 => by rw [zU_ne _ _ _ _ a1]; exact hf.1 k a1 a2 a3 a4, fun j hj => by rw [zU_off _ _ _ _ hj]; exact hf.2 j hj⟩ ⟨fun c hc j hj => ?_, fun j hj => ?_⟩ ?_ (Or.inr ⟨zU_at _ _ _ _, Nat.lt_succ_self _⟩)
      · rw [zU_ne _ 27 27 _ (x := 43) (by omega)]; exact Or.inl (hw c hc j hj)
      · rw [zU_ne _ 27 27 _ (x := 44) (by omega)]; exact Or.inl (hs j (by omega))
      · rw [exb]; exact yBot_ch P
    | succ n ih =>
      intro i g1 hi hf hw hs
      refine b3 _ ?_
      simp only [bb_M_solve_3, oIload, oAload, oIstore, oInc, oConst, o2, oDup, oPop, oDupX1, oDupX2, oDup2, oIf, oIfN, oCmp, oCmpN, oSwitch, oGetR, oGetI, oPutI, oPutZ, oIald, oZald, oIast, oZast, oRetI, oRetZ, oRetV, oCall, oRecv, oMax, List.map_cons, List.map_nil, List.getElem?_cons_zero, List.getElem?_cons_succ, List.set_cons_zero, List.set_cons_succ, List.length_cons, List.length_nil, List.cons_append, List.nil_append, List.append_nil, List.take_succ_cons, List.take_zero, List.drop_succ_cons, List.drop_zero, List.reverse_cons, List.reverse_nil, Option.toList, Value.category, List.sum_cons, List.sum_nil, zk_0, zk_1, zk_12, zk_20, zk_23, zk_27, zn_2, zn_3, zn_4, zn_5, zn_6, zn_7, zn_8, zn_9, zn_10, zn_11, zn_13, zn_14, zn_15, zn_16, zn_17, zn_18, zn_19, zn_21, zn_22, zn_24, zn_25, zn_26, zn_28, zn_29, zn_30, zn_31, zn_32, zn_33, zn_34, zn_35, zn_36, zn_37, zn_38, zn_39, zn_40, zn_41, zn_42, zn_43, zn_44, zn_45, zn_46, Nat.reduceAdd, Nat.reduceSub, Nat.reduceLeDiff, true_and, and_true]
      rw [hf.2 22 (by omega), p4]
      refine ⟨fun e => absurd e (nI_ge (by omega) (by omega)), fun _ => ⟨i, rfl, by omega, ?_⟩⟩
      rw [nI_1]
      refine ih (i + 1) _ (by omega) ⟨fun k a1 a2 a3 a4 => by rw [zU_ne _ _ _ _ a3]; exact hf.1 k a1 a2 a3 a4, fun j hj => by rw [zU_ne _ _ _ _ (show (27 : Nat) ≠ 44 by omega)]; exact hf.2 j hj⟩ (fun c hc j hj => by rw [zU_ne _ _ _ _ (show (43 : Nat) ≠ 44 by omega)]; exact hw c hc j hj) fun j hj => ?_
      by_cases e : j = i
      · subst e; exact zU_at _ _ _ _
      · rw [zU_off _ _ _ _ e]; exact hs j (by omega)
  have loop1 : ∀ n i g1, i + n = 11 * P.n → mFr g g1 → (∀ j, j < i → g1 43 j = 0) → K 1 ([some (.ref 27), some (.int x), some (.int (nI i))], [], g1) := by
    intro n
    induction n with
    | zero =>
      intro i g1 hi hf hw
      refine b1 _ ?_
      simp only [bb_M_solve_1, oIload, oAload, oIstore, oInc, oConst, o2, oDup, oPop, oDupX1, oDupX2, oDup2, oIf, oIfN, oCmp, oCmpN, oSwitch, oGetR, oGetI, oPutI, oPutZ, oIald, oZald, oIast, oZast, oRetI, oRetZ, oRetV, oCall, oRecv, oMax, List.map_cons, List.map_nil, List.getElem?_cons_zero, List.getElem?_cons_succ, List.set_cons_zero, List.set_cons_succ, List.length_cons, List.length_nil, List.cons_append, List.nil_append, List.append_nil, List.take_succ_cons, List.take_zero, List.drop_succ_cons, List.drop_zero, List.reverse_cons, List.reverse_nil, Option.toList, Value.category, List.sum_cons, List.sum_nil, zk_0, zk_1, zk_12, zk_20, zk_23, zk_27, zn_2, zn_3, zn_4, zn_5, zn_6, zn_7, zn_8, zn_9, zn_10, zn_11, zn_13, zn_14, zn_15, zn_16, zn_17, zn_18, zn_19, zn_21, zn_22, zn_24, zn_25, zn_26, zn_28, zn_29, zn_30, zn_31, zn_32, zn_33, zn_34, zn_35, zn_36, zn_37, zn_38, zn_39, zn_40, zn_41, zn_42, zn_43, zn_44, zn_45, zn_46, Nat.reduceAdd, Nat.reduceSub, Nat.reduceLeDiff, true_and, and_true]
      rw [hf.2 13 (by omega), p1, show (11 : Int32) * nI P.n = nI (11 * P.n) by rw [show (11 : Int32) = nI 11 from rfl, pk_mul]]
      refine ⟨fun _ => b2 _ ?_, fun e => absurd (nI_le (by omega) (by omega)) e⟩
      simp only [bb_M_solve_2, oIload, oAload, oIstore, oInc, oConst, o2, oDup, oPop, oDupX1, oDupX2, oDup2, oIf, oIfN, oCmp, oCmpN, oSwitch, oGetR, oGetI, oPutI, oPutZ, oIald, oZald, oIast, oZast, oRetI, oRetZ, oRetV, oCall, oRecv, oMax, List.map_cons, List.map_nil, List.getElem?_cons_zero, List.getElem?_cons_succ, List.set_cons_zero, List.set_cons_succ, List.length_cons, List.length_nil, List.cons_append, List.nil_append, List.append_nil, List.take_succ_cons, List.take_zero, List.drop_succ_cons, List.drop_zero, List.reverse_cons, List.reverse_nil, Option.toList, Value.category, List.sum_cons, List.sum_nil, zk_0, zk_1, zk_12, zk_20, zk_23, zk_27, zn_2, zn_3, zn_4, zn_5, zn_6, zn_7, zn_8, zn_9, zn_10, zn_11, zn_13, zn_14, zn_15, zn_16, zn_17, zn_18, zn_19, zn_21, zn_22, zn_24, zn_25, zn_26, zn_28, zn_29, zn_30, zn_31, zn_32, zn_33, zn_34, zn_35, zn_36, zn_37, zn_38, zn_39, zn_40, zn_41, zn_42, zn_43, zn_44, zn_45, zn_46, Nat.reduceAdd, Nat.reduceSub, Nat.reduceLeDiff, true_and, and_true]
      exact loop2 P.ns 0 g1 (by omega) hf (fun c hc j hj => hw _ (by omega)) fun j hj => absurd hj (by omega)
    | succ n ih =>
      intro i g1 hi hf hw
      refine b1 _ ?_
      simp only [bb_M_solve_1, oIload, oAload, oIstore, oInc, oConst, o2, oDup, oPop, oDupX1, oDupX2, oDup2, oIf, oIfN, oCmp, oCmpN, oSwitch, oGetR, oGetI, oPutI, oPutZ, oIald, oZald, oIast, oZast, oRetI, oRetZ, oRetV, oCall, oRecv, oMax, List.map_cons, List.map_nil, List.getElem?_cons_zero, List.getElem?_cons_succ, List.set_cons_zero, List.set_cons_succ, List.length_cons, List.length_nil, List.cons_append, List.nil_append, List.append_nil, List.take_succ_cons, List.take_zero, List.drop_succ_cons, List.drop_zero, List.reverse_cons, List.reverse_nil, Option.toList, Value.category, List.sum_cons, List.sum_nil, zk_0, zk_1, zk_12, zk_20, zk_23, zk_27, zn_2, zn_3, zn_4, zn_5, zn_6, zn_7, zn_8, zn_9, zn_10, zn_11, zn_13, zn_14, zn_15, zn_16, zn_17, zn_18, zn_19, zn_21, zn_22, zn_24, zn_25, zn_26, zn_28, zn_29, zn_30, zn_31, zn_32, zn_33, zn_34, zn_35, zn_36, zn_37, zn_38, zn_39, zn_40, zn_41, zn_42, zn_43, zn_44, zn_45, zn_46, Nat.reduceAdd, Nat.reduceSub, Nat.reduceLeDiff, true_and, and_true]
      rw [hf.2 13 (by omega), p1, show (11 : Int32) * nI P.n = nI (11 * P.n) by rw [show (11 : Int32) = nI 11 from rfl, pk_mul]]
      refine ⟨fun e => absurd e (nI_ge (by omega) (by omega)), fun _ => ⟨i, rfl, by omega, ?_⟩⟩
      rw [nI_1]
      refine ih (i + 1) _ (by omega) ⟨fun k a1 a2 a3 a4 => by rw [zU_ne _ _ _ _ a2]; exact hf.1 k a1 a2 a3 a4, fun j hj => by rw [zU_ne _ _ _ _ (show (27 : Nat) ≠ 43 by omega)]; exact hf.2 j hj⟩ fun j hj => ?_
      by_cases e : j = i
      · subst e; exact zU_at _ _ _ _
      · rw [zU_off _ _ _ _ e]; exact hw j (by omega)
  refine b0 _ ?_
  simp only [bb_M_solve_0, oIload, oAload, oIstore, oInc, oConst, o2, oDup, oPop, oDupX1, oDupX2, oDup2, oIf, oIfN, oCmp, oCmpN, oSwitch, oGetR, oGetI, oPutI, oPutZ, oIald, oZald, oIast, oZast, oRetI, oRetZ, oRetV, oCall, oRecv, oMax, List.map_cons, List.map_nil, List.getElem?_cons_zero, List.getElem?_cons_succ, List.set_cons_zero, List.set_cons_succ, List.length_cons, List.length_nil, List.cons_append, List.nil_append, List.append_nil, List.take_succ_cons, List.take_zero, List.drop_succ_cons, List.drop_zero, List.reverse_cons, List.reverse_nil, Option.toList, Value.category, List.sum_cons, List.sum_nil, zk_0, zk_1, zk_12, zk_20, zk_23, zk_27, zn_2, zn_3, zn_4, zn_5, zn_6, zn_7, zn_8, zn_9, zn_10, zn_11, zn_13, zn_14, zn_15, zn_16, zn_17, zn_18, zn_19, zn_21, zn_22, zn_24, zn_25, zn_26, zn_28, zn_29, zn_30, zn_31, zn_32, zn_33, zn_34, zn_35, zn_36, zn_37, zn_38, zn_39, zn_40, zn_41, zn_42, zn_43, zn_44, zn_45, zn_46, Nat.reduceAdd, Nat.reduceSub, Nat.reduceLeDiff, true_and, and_true]
  exact loop1 (11 * P.n) 0 g (by omega) ⟨fun _ _ _ _ _ => rfl, fun _ _ => rfl⟩ fun j hj => absurd hj (by omega)
