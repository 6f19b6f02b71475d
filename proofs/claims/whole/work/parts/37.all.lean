/-! a pass over all steps -/
theorem sp_P_takeStep {l : Launch} {d : Nat} {g : zM} {r : Option Value → zM → Prop} {P : yP} {a c : Nat} {inn : Bool} {w : Int32} (hP : zPr g P) (ha : a = 20 ∨ a = 23) (hc : c < P.n) (hw : w = if inn = true then nI c else nI c ^^^ (-1))
    (h : ∀ v, zNew P (zr g P a) (zr g P (zot a)) (g (a + 1) c) c inn v → r (some (.int (if v = g (a + 1) c then 0 else 1))) (zU g (a + 1) c v)) : qs_P_takeStep l (d + 4) [.ref 12, .int w, .ref a, .ref (zot a)] g r := by
  have ho : zot a = 20 ∨ zot a = 23 := by rcases ha with rfl | rfl <;> simp [zot]
  subst hw
  cases inn with
  | true => exact sp_P_takeStepIn hP ha ho hc fun v u hu hv => by subst hv; exact h _ (zNew_in hc hu)
  | false => exact sp_P_takeStepOut hP ha ho hc fun v u hu hv => by subst hv; exact h _ (zNew_out hc hu)
def zSt (g : zM) (P : yP) (m : Nat) (st : Nat → Nat × Bool) : Prop := g 12 13 = nI m ∧ m ≤ 600 ∧ ∀ i, i < m → (st i).1 < P.n ∧ g 18 i = if (st i).2 = true then nI (st i).1 else nI (st i).1 ^^^ (-1)
def zFr (g g' : zM) : Prop := ∀ k, k ≠ 21 → k ≠ 24 → g' k = g k
def zOk (g : zM) (P : yP) (c : Nat) (inn : Bool) : Prop := ∀ j, j < 11 → (decide (j < 4) == inn) = true → zr g P 20 (c + 1, j) = eEq P (c + 1, j) (zr g P 20) (zr g P 23) ∧ zr g P 23 (c + 1, j) = eEq P (c + 1, j) (zr g P 23) (zr g P 20)
theorem zFr.put {g g1 : zM} (h : zFr g g1) {a c : Nat} {v : Int32} (ha : a = 20 ∨ a = 23) : zFr g (zU g1 (a + 1) c v) := by
  intro k h1 h2
  rw [zU_ne g1 (a + 1) c v (x := k) (by rcases ha with rfl | rfl <;> omega)]
  exact h k h1 h2
theorem zFr.pr {g g1 : zM} {P : yP} (h : zFr g g1) (hP : zPr g P) : zPr g1 P := zPr_row hP fun k hk => h k (by omega) (by omega)
/-- where a pass stands -/
def zAt (g : zM) (P : yP) (st : Nat → Nat × Bool) (i : Nat) (b : Int32) (g1 : zM) : Prop :=
  zFr g g1 ∧ zHi g1 P ∧ yCh (eEq P) (xs g1 P) ∧ ((b = 0 ∧ g1 = g ∧ ∀ k, k < i → zOk g P (st k).1 (st k).2) ∨ (b = 1 ∧ yCnt (vsW P.n) (xs g1 P) < yCnt (vsW P.n) (xs g P)))
set_option maxHeartbeats 4000000 in
theorem sp_P_takeAllSteps {l : Launch} {d : Nat} {g : zM} {r : Option Value → zM → Prop} {P : yP} {m : Nat} {st : Nat → Nat × Bool} (hP : zPr g P) (hst : zSt g P m st) (hi : zHi g P) (hch : yCh (eEq P) (xs g P))
    (h : ∀ b g1, zAt g P st m b g1 → r (some (.int b)) g1) : qs_P_takeAllSteps l (d + 5) [.ref 12] g r := by
  obtain ⟨s1, s2, s3⟩ := hst
  refine ss_P_takeAllSteps fun K b0 b1 b2 b3 b4 => ?_
  have loop : ∀ n i b g1, i + n = m → zAt g P st i b g1 → K 1 ([some (.ref 12), some (.int b), some (.int (nI i))], [], g1) := by
    intro n
    induction n with
    | zero =>
      intro i b g1 him hat
      have hb : b = 0 ∨ b = 1 := by rcases hat.2.2.2 with h1 | h1 <;> simp [h1.1]
      refine b1 _ ?_
      simp only [bb_P_takeAllSteps_1, oIload, oAload, oIstore, oInc, oConst, o2, oDup, oPop, oDupX1, oDupX2, oDup2, oIf, oIfN, oCmp, oCmpN, oSwitch, oGetR, oGetI, oPutI, oPutZ, oIald, oZald, oIast, oZast, oRetI, oRetZ, oRetV, oCall, oRecv, oMax, List.map_cons, List.map_nil, List.getElem?_cons_zero, List.getElem?_cons_succ, List.set_cons_zero, List.set_cons_succ, List.length_cons, List.length_nil, List.cons_append, List.nil_append, List.append_nil, List.take_succ_cons, List.take_zero, List.drop_succ_cons, List.drop_zero, List.reverse_cons, List.reverse_nil, Option.toList, Value.category, List.sum_cons, List.sum_nil, zk_0, zk_1, zk_12, zk_20, zk_23, zk_27, zn_2, zn_3, zn_4, zn_5, zn_6, zn_7, zn_8, zn_9, zn_10, zn_11, zn_13, zn_14, zn_15, zn_16, zn_17, zn_18, zn_19, zn_21, zn_22, zn_24, zn_25, zn_26, zn_28, zn_29, zn_30, zn_31, zn_32, zn_33, zn_34, zn_35, zn_36, zn_37, zn_38, zn_39, zn_40, zn_41, zn_42, zn_43, zn_44, zn_45, zn_46, Nat.reduceAdd, Nat.reduceSub, Nat.reduceLeDiff, true_and, and_true]
      rw [hat.1 12 (by omega) (by omega), s1]
      refine ⟨fun _ => b4 _ ?_, fun e => absurd (nI_le (by omega) (by omega)) e⟩
      simp only [bb_P_takeAllSteps_4, oIload, oAload, oIstore, oInc, oConst, o2, oDup, oPop, oDupX1, oDupX2, oDup2, oIf, oIfN, oCmp, oCmpN, oSwitch, oGetR, oGetI, oPutI, oPutZ, oIald, oZald, oIast, oZast, oRetI, oRetZ, oRetV, oCall, oRecv, oMax, List.map_cons, List.map_nil, List.getElem?_cons_zero, List.getElem?_cons_succ, List.set_cons_zero, List.set_cons_succ, List.length_cons, List.length_nil, List.cons_append, List.nil_append, List.append_nil, List.take_succ_cons, List.take_zero, List.drop_succ_cons, List.drop_zero, List.reverse_cons, List.reverse_nil, Option.toList, Value.category, List.sum_cons, List.sum_nil, zk_0, zk_1, zk_12, zk_20, zk_23, zk_27, zn_2, zn_3, zn_4, zn_5, zn_6, zn_7, zn_8, zn_9, zn_10, zn_11, zn_13, zn_14, zn_15, zn_16, zn_17, zn_18, zn_19, zn_21, zn_22, zn_24, zn_25, zn_26, zn_28, zn_29, zn_30, zn_31, zn_32, zn_33, zn_34, zn_35, zn_36, zn_37, zn_38, zn_39, zn_40, zn_41, zn_42, zn_43, zn_44, zn_45, zn_46, Nat.reduceAdd, Nat.reduceSub, Nat.reduceLeDiff, true_and, and_true]
      refine ⟨hb, h _ _ ?_⟩
      rw [show m = i by omega]
      exact hat
    | succ n ih =>
      intro i b g1 him hat
      obtain ⟨hfr, hhi, hc1, hor⟩ := hat
      have hP1 := hfr.pr hP
      obtain ⟨t1, t2⟩ := s3 i (by omega)
      have e18 : g1 18 i = if (st i).2 = true then nI (st i).1 else nI (st i).1 ^^^ (-1) := by rw [hfr 18 (by omega) (by omega)]; exact t2
      have k3 : ∀ b' g2, zAt g P st (i + 1) b' g2 → K 3 ([some (.ref 12), some (.int b'), some (.int (nI i))], [], g2) := by
        intro b' g2 h2
        refine b3 _ ?_
        simp only [bb_P_takeAllSteps_3, oIload, oAload, oIstore, oInc, oConst, o2, oDup, oPop, oDupX1, oDupX2, oDup2, oIf, oIfN, oCmp, oCmpN, oSwitch, oGetR, oGetI, oPutI, oPutZ, oIald, oZald, oIast, oZast, oRetI, oRetZ, oRetV, oCall, oRecv, oMax, List.map_cons, List.map_nil, List.getElem?_cons_zero, List.getElem?_cons_succ, List.set_cons_zero, List.set_cons_succ, List.length_cons, List.length_nil, List.cons_append, List.nil_append, List.append_nil, List.take_succ_cons, List.take_zero, List.drop_succ_cons, List.drop_zero, List.reverse_cons, List.reverse_nil, Option.toList, Value.category, List.sum_cons, List.sum_nil, zk_0, zk_1, zk_12, zk_20, zk_23, zk_27, zn_2, zn_3, zn_4, zn_5, zn_6, zn_7, zn_8, zn_9, zn_10, zn_11, zn_13, zn_14, zn_15, zn_16, zn_17, zn_18, zn_19, zn_21, zn_22, zn_24, zn_25, zn_26, zn_28, zn_29, zn_30, zn_31, zn_32, zn_33, zn_34, zn_35, zn_36, zn_37, zn_38, zn_39, zn_40, zn_41, zn_42, zn_43, zn_44, zn_45, zn_46, Nat.reduceAdd, Nat.reduceSub, Nat.reduceLeDiff, true_and, and_true]
        rw [nI_1]
        exact ih (i + 1) b' g2 (by omega) h2
      refine b1 _ ?_
      simp only [bb_P_takeAllSteps_1, oIload, oAload, oIstore, oInc, oConst, o2, oDup, oPop, oDupX1, oDupX2, oDup2, oIf, oIfN, oCmp, oCmpN, oSwitch, oGetR, oGetI, oPutI, oPutZ, oIald, oZald, oIast, oZast, oRetI, oRetZ, oRetV, oCall, oRecv, oMax, List.map_cons, List.map_nil, List.getElem?_cons_zero, List.getElem?_cons_succ, List.set_cons_zero, List.set_cons_succ, List.length_cons, List.length_nil, List.cons_append, List.nil_append, List.append_nil, List.take_succ_cons, List.take_zero, List.drop_succ_cons, List.drop_zero, List.reverse_cons, List.reverse_nil, Option.toList, Value.category, List.sum_cons, List.sum_nil, zk_0, zk_1, zk_12, zk_20, zk_23, zk_27, zn_2, zn_3, zn_4, zn_5, zn_6, zn_7, zn_8, zn_9, zn_10, zn_11, zn_13, zn_14, zn_15, zn_16, zn_17, zn_18, zn_19, zn_21, zn_22, zn_24, zn_25, zn_26, zn_28, zn_29, zn_30, zn_31, zn_32, zn_33, zn_34, zn_35, zn_36, zn_37, zn_38, zn_39, zn_40, zn_41, zn_42, zn_43, zn_44, zn_45, zn_46, Nat.reduceAdd, Nat.reduceSub, Nat.reduceLeDiff, true_and, and_true]
      rw [hfr 12 (by omega) (by omega), s1]
      refine ⟨fun e => absurd e (nI_ge (by omega) (by omega)), fun _ => ⟨i, rfl, by omega, ?_⟩⟩
      refine sp_P_takeStep (a := 20) (inn := (st i).2) hP1 (Or.inl rfl) t1 e18 fun v hv => ?_
      simp only [oIload, oAload, oIstore, oInc, oConst, o2, oDup, oPop, oDupX1, oDupX2, oDup2, oIf, oIfN, oCmp, oCmpN, oSwitch, oGetR, oGetI, oPutI, oPutZ, oIald, oZald, oIast, oZast, oRetI, oRetZ, oRetV, oCall, oRecv, oMax, List.map_cons, List.map_nil, List.getElem?_cons_zero, List.getElem?_cons_succ, List.set_cons_zero, List.set_cons_succ, List.length_cons, List.length_nil, List.cons_append, List.nil_append, List.append_nil, List.take_succ_cons, List.take_zero, List.drop_succ_cons, List.drop_zero, List.reverse_cons, List.reverse_nil, Option.toList, Value.category, List.sum_cons, List.sum_nil, zk_0, zk_1, zk_12, zk_20, zk_23, zk_27, zn_2, zn_3, zn_4, zn_5, zn_6, zn_7, zn_8, zn_9, zn_10, zn_11, zn_13, zn_14, zn_15, zn_16, zn_17, zn_18, zn_19, zn_21, zn_22, zn_24, zn_25, zn_26, zn_28, zn_29, zn_30, zn_31, zn_32, zn_33, zn_34, zn_35, zn_36, zn_37, zn_38, zn_39, zn_40, zn_41, zn_42, zn_43, zn_44, zn_45, zn_46, Nat.reduceAdd, Nat.reduceSub, Nat.reduceLeDiff, true_and, and_true]
      obtain ⟨z1, z2, z3, z4, z5⟩ := zstep (Or.inl rfl) t1 hhi hc1 hv
      have hfr2 : zFr g (zU g1 21 (st i).1 v) := hfr.put (Or.inl rfl)
      have hP2 := hfr2.pr hP
      have e18' : zU g1 21 (st i).1 v 18 i = if (st i).2 = true then nI (st i).1 else nI (st i).1 ^^^ (-1) := by rw [zU_ne g1 21 (st i).1 v (x := 18) (by omega)]; exact e18
      -- the second row
      have k2 : ∀ b', (b' = 0 ∨ b' = 1) → (b' = 0 → b = 0 ∧ v = g1 21 (st i).1) → (b' = 1 → b = 1 ∨ v ≠ g1 21 (st i).1) → K 2 ([some (.ref 12), some (.int b'), some (.int (nI i))], [], zU g1 21 (st i).1 v) := by
        intro b' hb' hb0 hb1
        refine b2 _ ?_
        simp only [bb_P_takeAllSteps_2, oIload, oAload, oIstore, oInc, oConst, o2, oDup, oPop, oDupX1, oDupX2, oDup2, oIf, oIfN, oCmp, oCmpN, oSwitch, oGetR, oGetI, oPutI, oPutZ, oIald, oZald, oIast, oZast, oRetI, oRetZ, oRetV, oCall, oRecv, oMax, List.map_cons, List.map_nil, List.getElem?_cons_zero, List.getElem?_cons_succ, List.set_cons_zero, List.set_cons_succ, List.length_cons, List.length_nil, List.cons_append, List.nil_append, List.append_nil, List.take_succ_cons, List.take_zero, List.drop_succ_cons, List.drop_zero, List.reverse_cons, List.reverse_nil, Option.toList, Value.category, List.sum_cons, List.sum_nil, zk_0, zk_1, zk_12, zk_20, zk_23, zk_27, zn_2, zn_3, zn_4, zn_5, zn_6, zn_7, zn_8, zn_9, zn_10, zn_11, zn_13, zn_14, zn_15, zn_16, zn_17, zn_18, zn_19, zn_21, zn_22, zn_24, zn_25, zn_26, zn_28, zn_29, zn_30, zn_31, zn_32, zn_33, zn_34, zn_35, zn_36, zn_37, zn_38, zn_39, zn_40, zn_41, zn_42, zn_43, zn_44, zn_45, zn_46, Nat.reduceAdd, Nat.reduceSub, Nat.reduceLeDiff, true_and, and_true]
        refine ⟨i, rfl, by omega, ?_⟩
        refine sp_P_takeStep (a := 23) (inn := (st i).2) hP2 (Or.inr rfl) t1 e18' fun v2 hv2 => ?_
        simp only [oIload, oAload, oIstore, oInc, oConst, o2, oDup, oPop, oDupX1, oDupX2, oDup2, oIf, oIfN, oCmp, oCmpN, oSwitch, oGetR, oGetI, oPutI, oPutZ, oIald, oZald, oIast, oZast, oRetI, oRetZ, oRetV, oCall, oRecv, oMax, List.map_cons, List.map_nil, List.getElem?_cons_zero, List.getElem?_cons_succ, List.set_cons_zero, List.set_cons_succ, List.length_cons, List.length_nil, List.cons_append, List.nil_append, List.append_nil, List.take_succ_cons, List.take_zero, List.drop_succ_cons, List.drop_zero, List.reverse_cons, List.reverse_nil, Option.toList, Value.category, List.sum_cons, List.sum_nil, zk_0, zk_1, zk_12, zk_20, zk_23, zk_27, zn_2, zn_3, zn_4, zn_5, zn_6, zn_7, zn_8, zn_9, zn_10, zn_11, zn_13, zn_14, zn_15, zn_16, zn_17, zn_18, zn_19, zn_21, zn_22, zn_24, zn_25, zn_26, zn_28, zn_29, zn_30, zn_31, zn_32, zn_33, zn_34, zn_35, zn_36, zn_37, zn_38, zn_39, zn_40, zn_41, zn_42, zn_43, zn_44, zn_45, zn_46, Nat.reduceAdd, Nat.reduceSub, Nat.reduceLeDiff, true_and, and_true]
        obtain ⟨y1, y2, y3, y4, y5⟩ := zstep (Or.inr rfl) t1 z1 z2 hv2
        have hfr3 : zFr g (zU (zU g1 21 (st i).1 v) 24 (st i).1 v2) := hfr2.put (Or.inr rfl)
        have e24 : zU g1 21 (st i).1 v 24 (st i).1 = g1 24 (st i).1 := by rw [zU_ne g1 21 (st i).1 v (x := 24) (by omega)]
        refine ⟨fun e => ?_, fun e => ?_⟩
        · have ev : v2 = zU g1 21 (st i).1 v 24 (st i).1 := by
            by_cases hq : v2 = zU g1 21 (st i).1 v 24 (st i).1
            · exact hq
            · rw [if_neg hq] at e; exact absurd e (by decide)
          refine k3 _ _ ⟨hfr3, y1, y2, ?_⟩
          rcases hb' with rfl | rfl
          · left
            obtain ⟨q1, q2⟩ := hb0 rfl
            have hg1 : g1 = g := by
              rcases hor with h1 | h1
              · exact h1.2.1
              · rw [q1] at h1; exact absurd h1.1 (by decide)
            have hok : ∀ k, k < i → zOk g P (st k).1 (st k).2 := by
              rcases hor with h1 | h1
              · exact h1.2.2
              · rw [q1] at h1; exact absurd h1.1 (by decide)
            have eg1 : zU g1 21 (st i).1 v = g1 := zU_same q2
            have eg2 : zU (zU g1 21 (st i).1 v) 24 (st i).1 v2 = g1 := by rw [zU_same ev, eg1]
            refine ⟨rfl, by rw [eg2, hg1], fun k hk => ?_⟩
            by_cases hki : k = i
            · subst hki
              intro j hj hjn
              have a1 := z4 q2 j hj hjn
              have a2 := y4 ev j hj hjn
              rw [eg1] at a2
              rw [hg1] at a1 a2
              exact ⟨a1, a2⟩
            · exact hok k (by omega)
          · right
            refine ⟨rfl, ?_⟩
            have hle : yCnt (vsW P.n) (xs (zU (zU g1 21 (st i).1 v) 24 (st i).1 v2) P) ≤ yCnt (vsW P.n) (xs (zU g1 21 (st i).1 v) P) := y3
            rcases hb1 rfl with h1 | h1
            · rcases hor with h2 | h2
              · rw [h1] at h2; exact absurd h2.1 (by decide)
              · have h5 : yCnt (vsW P.n) (xs (zU g1 21 (st i).1 v) P) ≤ yCnt (vsW P.n) (xs g1 P) := z3
                have := h2.2
                omega
            · have h5 : yCnt (vsW P.n) (xs (zU g1 21 (st i).1 v) P) < yCnt (vsW P.n) (xs g1 P) := z5 h1
              rcases hor with h2 | h2
              · rw [h2.2.1] at h5 hle ⊢; omega
              · have := h2.2; omega
        · have ev : v2 ≠ zU g1 21 (st i).1 v 24 (st i).1 := fun hq => by rw [if_pos hq] at e; exact absurd trivial (by simpa using e)
          refine k3 _ _ ⟨hfr3, y1, y2, Or.inr ⟨rfl, ?_⟩⟩
          have h4 : yCnt (vsW P.n) (xs (zU (zU g1 21 (st i).1 v) 24 (st i).1 v2) P) < yCnt (vsW P.n) (xs (zU g1 21 (st i).1 v) P) := y5 ev
          have h5 : yCnt (vsW P.n) (xs (zU g1 21 (st i).1 v) P) ≤ yCnt (vsW P.n) (xs g1 P) := z3
          rcases hor with h2 | h2
          · rw [h2.2.1] at h5 h4 ⊢; omega
          · have := h2.2; omega
      refine ⟨fun e => k2 _ ?_ ?_ ?_, fun e => k2 _ (Or.inr rfl) ?_ ?_⟩
      · rcases hor with h1 | h1 <;> simp [h1.1]
      · intro hb
        refine ⟨hb, ?_⟩
        by_cases hq : v = g1 21 (st i).1
        · exact hq
        · rw [if_neg hq] at e; exact absurd e (by decide)
      · exact fun hb => Or.inl hb
      · intro hb; exact absurd hb (by decide)
      · exact fun _ => Or.inr fun hq => by rw [if_pos hq] at e; exact absurd trivial (by simpa using e)
  refine b0 _ ?_
  simp only [bb_P_takeAllSteps_0, oIload, oAload, oIstore, oInc, oConst, o2, oDup, oPop, oDupX1, oDupX2, oDup2, oIf, oIfN, oCmp, oCmpN, oSwitch, oGetR, oGetI, oPutI, oPutZ, oIald, oZald, oIast, oZast, oRetI, oRetZ, oRetV, oCall, oRecv, oMax, List.map_cons, List.map_nil, List.getElem?_cons_zero, List.getElem?_cons_succ, List.set_cons_zero, List.set_cons_succ, List.length_cons, List.length_nil, List.cons_append, List.nil_append, List.append_nil, List.take_succ_cons, List.take_zero, List.drop_succ_cons, List.drop_zero, List.reverse_cons, List.reverse_nil, Option.toList, Value.category, List.sum_cons, List.sum_nil, zk_0, zk_1, zk_12, zk_20, zk_23, zk_27, zn_2, zn_3, zn_4, zn_5, zn_6, zn_7, zn_8, zn_9, zn_10, zn_11, zn_13, zn_14, zn_15, zn_16, zn_17, zn_18, zn_19, zn_21, zn_22, zn_24, zn_25, zn_26, zn_28, zn_29, zn_30, zn_31, zn_32, zn_33, zn_34, zn_35, zn_36, zn_37, zn_38, zn_39, zn_40, zn_41, zn_42, zn_43, zn_44, zn_45, zn_46, Nat.reduceAdd, Nat.reduceSub, Nat.reduceLeDiff, true_and, and_true]
  exact loop m 0 0 g (by omega) ⟨fun _ _ _ => rfl, hi, hch, Or.inl ⟨rfl, rfl, fun k hk => absurd hk (by omega)⟩⟩
