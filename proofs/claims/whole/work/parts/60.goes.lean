/-! the reference goes through a statement: first it checks, then it copies -/
def yOkc (F : yF) (i t c r : Nat) : Prop := F.nv i = false ∧ F.mt i ≤ t ∧ c + F.cp i ≤ 300 ∧ r + F.ps i ≤ 60
def yT9 (F : yF) (i t : Nat) : Nat := t + (if F.kd i = 9 then 1 else 0)
def yR1 (F : yF) (i r : Nat) : Nat := r + (if F.kd i = 1 then 1 else 0)
def yLoc (F : yF) (i t c r : Nat) : Prop := ¬ (F.kd i = 5 ∧ F.cd (F.fi i) % 2 = 1) ∧ (F.kd i = 10 → F.nm i + 1 ≤ t) ∧ ¬ c = 300 ∧ (F.kd i = 1 → ¬ r = 60)
theorem yOkc_iff {F : yF} (hw : yFw F) {i t c r : Nat} (hi : i < F.n) (hc : c ≤ 300) (hr : r ≤ 60) : yOkc F i t c r ↔ yLoc F i t c r ∧ yOkc F (F.fi i) (yT9 F i t) (c + 1) (yR1 F i r) ∧ yOkc F (F.se i) (yT9 F i t) (c + 1 + F.cp (F.fi i)) (yR1 F i r + F.ps (F.fi i)) := by
  obtain ⟨w1, ⟨w2, w3, w4, w5, w6, w7⟩, w8⟩ := id hw
  obtain ⟨q1, q2, q3, q4, q5, q6, q7, q8, q9, q10, q11, q12, q13, q14, q15, q16, q17, q18, q19⟩ := w8 i hi
  unfold yOkc yLoc yT9 yR1
  rw [q13, q15, q17, q19]
  have hn : yNv (F.kd i) (F.cd (F.fi i)) (F.nv (F.fi i)) (F.nv (F.se i)) = false ↔ ¬ (F.kd i = 5 ∧ F.cd (F.fi i) % 2 = 1) ∧ F.nv (F.fi i) = false ∧ F.nv (F.se i) = false := by
    unfold yNv
    by_cases c5 : F.kd i = 5 <;> by_cases c1 : F.cd (F.fi i) % 2 = 1 <;> simp [c5, c1]
  rw [hn]
  have hm : yMt (F.kd i) (F.nm i) (nMax (F.mt (F.fi i)) (F.mt (F.se i))) ≤ t ↔ (F.kd i = 10 → F.nm i + 1 ≤ t) ∧ F.mt (F.fi i) ≤ t + (if F.kd i = 9 then 1 else 0) ∧ F.mt (F.se i) ≤ t + (if F.kd i = 9 then 1 else 0) := by
    unfold yMt nMax
    by_cases e10 : F.kd i = 10
    · rw [if_pos e10, if_neg (show ¬ F.kd i = 9 by omega), q6 (by omega), q8 (by omega), w6]
      constructor
      · intro h; exact ⟨fun _ => h, by omega, by omega⟩
      · intro h; exact h.1 e10
    · rw [if_neg e10]
      by_cases e9 : F.kd i = 9
      · rw [if_pos e9, if_pos e9]
        constructor
        · intro h; refine ⟨fun q => absurd q e10, ?_, ?_⟩ <;> split at h <;> omega
        · intro h; split <;> omega
      · rw [if_neg e9, if_neg e9]
        constructor
        · intro h; refine ⟨fun q => absurd q e10, ?_, ?_⟩ <;> split at h <;> omega
        · intro h; split <;> omega
  rw [hm]
  by_cases e1 : F.kd i = 1
  · simp only [e1, if_true, if_neg (show ¬ (1 : Nat) = 9 by omega)]
    constructor
    · rintro ⟨⟨a1, a2, a3⟩, ⟨b1, b2, b3⟩, c1, c2⟩
      exact ⟨⟨a1, b1, by omega, fun _ => by omega⟩, ⟨a2, b2, by omega, by omega⟩, a3, b3, by omega, by omega⟩
    · rintro ⟨⟨a1, b1, c1, c2⟩, ⟨a2, b2, d1, d2⟩, a3, b3, f1, f2⟩
      exact ⟨⟨a1, a2, a3⟩, ⟨b1, b2, b3⟩, by omega, by omega⟩
  · rw [if_neg e1]
    constructor
    · rintro ⟨⟨a1, a2, a3⟩, ⟨b1, b2, b3⟩, c1, c2⟩
      exact ⟨⟨a1, b1, by omega, fun q => absurd q e1⟩, ⟨a2, b2, by omega, by omega⟩, a3, b3, by omega, by omega⟩
    · rintro ⟨⟨a1, b1, c1, c2⟩, ⟨a2, b2, d1, d2⟩, a3, b3, f1, f2⟩
      exact ⟨⟨a1, a2, a3⟩, ⟨b1, b2, b3⟩, by omega, by omega⟩
theorem np_4 : ∀ k, k ≤ 10 → (nI (yNp k) = 2 ↔ (k = 3 ∨ k = 4 ∨ k = 6)) := by unfold yNp; decide +kernel
def zEnt (G : zM) (q i : Nat) (y w : Int32) (t : Nat) : Prop := G 34 (4 * q) = nI i ∧ G 34 (4 * q + 1) = y ∧ G 34 (4 * q + 2) = w ∧ G 34 (4 * q + 3) = nI t
theorem zEnt.fr {G H : zM} {q i t : Nat} {y w : Int32} (h : zEnt G q i y w t) {m : Nat} (hq : q < m) (hg : ∀ x, x < 4 * m → H 34 x = G 34 x) : zEnt H q i y w t := by
  unfold zEnt at h ⊢
  rw [hg _ (by omega), hg _ (by omega), hg _ (by omega), hg _ (by omega)]
  exact h
def yPn (k : Nat) : Nat := if 3 ≤ k ∧ k ≤ 6 then 2 else if 3 ≤ k ∧ k ≤ 9 then 1 else 0
theorem zFre.fr {g G : zM} {F : yF} (h : zFre g F) (hg : ∀ k, 28 ≤ k → k ≤ 33 → G k = g k) (h1 : G 27 1 = g 27 1) : zFre G F := by
  unfold zFre at h ⊢
  rw [hg 28 (by omega) (by omega), hg 29 (by omega) (by omega), hg 30 (by omega) (by omega), hg 31 (by omega) (by omega), hg 32 (by omega) (by omega), hg 33 (by omega) (by omega), h1]
  exact h
/-- what stands behind a statement that was taken from the stack -/
def zNx (F : yF) (g G : zM) (i q t c r : Nat) : Prop :=
  (∀ k, k ≠ 27 → k ≠ 34 → G k = g k) ∧ (∀ j, j ≠ 8 → j ≠ 10 → j ≠ 11 → G 27 j = g 27 j) ∧ G 27 8 = nI (q + yPn (F.kd i)) ∧ G 27 10 = nI (c + 1) ∧ G 27 11 = nI (yR1 F i r) ∧ (∀ x, x < 4 * q → G 34 x = g 34 x) ∧ ((3 ≤ F.kd i ∧ F.kd i ≤ 6) → zEnt G q (F.se i) (nI c) 1 (yT9 F i t) ∧ zEnt G (q + 1) (F.fi i) (nI c) 0 (yT9 F i t)) ∧ ((7 ≤ F.kd i ∧ F.kd i ≤ 9) → zEnt G q (F.fi i) (nI c) 0 (yT9 F i t))
/-- the frame of a checking pass -/
def zGf (g G : zM) : Prop := (∀ k, k ≠ 27 → k ≠ 34 → G k = g k) ∧ ∀ j, j ≠ 8 → j ≠ 10 → j ≠ 11 → G 27 j = g 27 j
theorem zGf.tr {g G H : zM} (h : zGf g G) (h2 : zGf G H) : zGf g H := ⟨fun k h3 h4 => (h2.1 k h3 h4).trans (h.1 k h3 h4), fun j a b c => (h2.2 j a b c).trans (h.2 j a b c)⟩
set_option maxHeartbeats 8000000 in
set_option maxRecDepth 20000 in
theorem sp_M_goes0 {l : Launch} {d : Nat} {g : zM} {r : Option Value → zM → Prop} {F : yF} {i0 : Nat} (hF : zFre g F) (hw : yFw F) (hi0 : i0 < F.n) (h1 : yOkc F i0 0 0 0 → ∀ G, zGf g G → r (some (.int 1)) G) (h0 : ¬ yOkc F i0 0 0 0 → ∀ G, zGf g G → r (some (.int 0)) G) : qs_M_goes l (d + 3) [.ref 27, .int (nI i0), .int 0] g r := by
  refine ss_M_goes fun K b0 b1 b2 b3 b4 b5 b6 b7 b8 b9 b10 b11 b12 b13 b14 b15 b16 => ?_
  have kN : ∀ (gg : zM) (q i t c p : Nat) y3 y4 y5 y6 y7, i < F.n → zFre gg F → gg 27 8 = nI (q + 1) → q < 63 → gg 34 (4 * q) = nI i → gg 34 (4 * q + 3) = nI t → t < 100 → gg 27 10 = nI c → c ≤ 300 → gg 27 11 = nI p → p ≤ 60 → (¬ yLoc F i t c p → r (some (.int 0)) (zU gg 27 8 (nI q))) → (yLoc F i t c p → K 7 ([some (.ref 27), some (.int (nI i0)), some (.int 0), some (.int (nI i)), some (.int (nI t)), some (.int 0), y6, y7], [], zU gg 27 8 (nI q))) → K 1 ([some (.ref 27), some (.int (nI i0)), some (.int 0), y3, y4, y5, y6, y7], [], gg) := by
    intro gg q i t c p y3 y4 y5 y6 y7 hi hF h8 hq e0 e3 ht h10 hc h11 hp hbad hgood
    obtain ⟨u1, u2, u3, u4, u5, u6⟩ := hF.2 i hi
    obtain ⟨q1, q2, q3, q4, q5, q6, q7, q8, q9, q10, -⟩ := hw.2.2 i hi
    have hn := hw.1
    have x5 : nI (F.kd i) = 5 ↔ F.kd i = 5 := nI_is 5 rfl (by omega) (by omega)
    have x10 : nI (F.kd i) = 10 ↔ F.kd i = 10 := nI_is 10 rfl (by omega) (by omega)
    have x1 : nI (F.kd i) = 1 ↔ F.kd i = 1 := nI_is 1 rfl (by omega) (by omega)
    have zk : ∀ k, k ≠ 27 → zU gg 27 8 (nI q) k = gg k := fun k hk => zU_ne _ _ _ _ hk
    have zj : ∀ j, j ≠ 8 → zU gg 27 8 (nI q) 27 j = gg 27 j := fun j hj => zU_off _ _ _ _ hj
    have k6 : ∀ y5, ¬ yLoc F i t c p → K 6 ([some (.ref 27), some (.int (nI i0)), some (.int 0), some (.int (nI i)), some (.int (nI t)), y5, y6, y7], [], zU gg 27 8 (nI q)) := by
      intro y5 hb
      refine b6 _ ?_
      simp only [bb_M_goes_6, oIload, oAload, oIstore, oInc, oConst, o2, oDup, oPop, oDupX1, oDupX2, oDup2, oIf, oIfN, oCmp, oCmpN, oSwitch, oGetR, oGetI, oPutI, oPutZ, oIald, oZald, oIast, oZast, oRetI, oRetZ, oRetV, oCall, oRecv, oMax, List.map_cons, List.map_nil, List.getElem?_cons_zero, List.getElem?_cons_succ, List.set_cons_zero, List.set_cons_succ, List.length_cons, List.length_nil, List.cons_append, List.nil_append, List.append_nil, List.take_succ_cons, List.take_zero, List.drop_succ_cons, List.drop_zero, List.reverse_cons, List.reverse_nil, Option.toList, Value.category, List.sum_cons, List.sum_nil, zk_0, zk_1, zk_12, zk_20, zk_23, zk_27, zn_2, zn_3, zn_4, zn_5, zn_6, zn_7, zn_8, zn_9, zn_10, zn_11, zn_13, zn_14, zn_15, zn_16, zn_17, zn_18, zn_19, zn_21, zn_22, zn_24, zn_25, zn_26, zn_28, zn_29, zn_30, zn_31, zn_32, zn_33, zn_34, zn_35, zn_36, zn_37, zn_38, zn_39, zn_40, zn_41, zn_42, zn_43, zn_44, zn_45, zn_46, Nat.reduceAdd, Nat.reduceSub, Nat.reduceLeDiff, true_and, and_true]
      exact ⟨by simp, hbad hb⟩
    have k3 : ∀ y5, ¬ yLoc F i t c p → K 3 ([some (.ref 27), some (.int (nI i0)), some (.int 0), some (.int (nI i)), some (.int (nI t)), y5, y6, y7], [], zU gg 27 8 (nI q)) := by
      intro y5 hb
      refine b3 _ ?_
      simp only [bb_M_goes_3, oIload, oAload, oIstore, oInc, oConst, o2, oDup, oPop, oDupX1, oDupX2, oDup2, oIf, oIfN, oCmp, oCmpN, oSwitch, oGetR, oGetI, oPutI, oPutZ, oIald, oZald, oIast, oZast, oRetI, oRetZ, oRetV, oCall, oRecv, oMax, List.map_cons, List.map_nil, List.getElem?_cons_zero, List.getElem?_cons_succ, List.set_cons_zero, List.set_cons_succ, List.length_cons, List.length_nil, List.cons_append, List.nil_append, List.append_nil, List.take_succ_cons, List.take_zero, List.drop_succ_cons, List.drop_zero, List.reverse_cons, List.reverse_nil, Option.toList, Value.category, List.sum_cons, List.sum_nil, zk_0, zk_1, zk_12, zk_20, zk_23, zk_27, zn_2, zn_3, zn_4, zn_5, zn_6, zn_7, zn_8, zn_9, zn_10, zn_11, zn_13, zn_14, zn_15, zn_16, zn_17, zn_18, zn_19, zn_21, zn_22, zn_24, zn_25, zn_26, zn_28, zn_29, zn_30, zn_31, zn_32, zn_33, zn_34, zn_35, zn_36, zn_37, zn_38, zn_39, zn_40, zn_41, zn_42, zn_43, zn_44, zn_45, zn_46, Nat.reduceAdd, Nat.reduceSub, Nat.reduceLeDiff, true_and, and_true]
      refine b5 _ ?_
      simp only [bb_M_goes_5, oIload, oAload, oIstore, oInc, oConst, o2, oDup, oPop, oDupX1, oDupX2, oDup2, oIf, oIfN, oCmp, oCmpN, oSwitch, oGetR, oGetI, oPutI, oPutZ, oIald, oZald, oIast, oZast, oRetI, oRetZ, oRetV, oCall, oRecv, oMax, List.map_cons, List.map_nil, List.getElem?_cons_zero, List.getElem?_cons_succ, List.set_cons_zero, List.set_cons_succ, List.length_cons, List.length_nil, List.cons_append, List.nil_append, List.append_nil, List.take_succ_cons, List.take_zero, List.drop_succ_cons, List.drop_zero, List.reverse_cons, List.reverse_nil, Option.toList, Value.category, List.sum_cons, List.sum_nil, zk_0, zk_1, zk_12, zk_20, zk_23, zk_27, zn_2, zn_3, zn_4, zn_5, zn_6, zn_7, zn_8, zn_9, zn_10, zn_11, zn_13, zn_14, zn_15, zn_16, zn_17, zn_18, zn_19, zn_21, zn_22, zn_24, zn_25, zn_26, zn_28, zn_29, zn_30, zn_31, zn_32, zn_33, zn_34, zn_35, zn_36, zn_37, zn_38, zn_39, zn_40, zn_41, zn_42, zn_43, zn_44, zn_45, zn_46, Nat.reduceAdd, Nat.reduceSub, Nat.reduceLeDiff, true_and, and_true]
      exact ⟨fun _ => k6 _ hb, fun q => absurd q (by decide)⟩
    have k4 : ∀ y5, ¬ (F.kd i = 5 ∧ F.cd (F.fi i) % 2 = 1) → (F.kd i = 10 → F.nm i + 1 ≤ t) → K 4 ([some (.ref 27), some (.int (nI i0)), some (.int 0), some (.int (nI i)), some (.int (nI t)), y5, y6, y7], [], zU gg 27 8 (nI q)) := by
      intro y5 l1 l2
      refine b4 _ ?_
      simp only [bb_M_goes_4, oIload, oAload, oIstore, oInc, oConst, o2, oDup, oPop, oDupX1, oDupX2, oDup2, oIf, oIfN, oCmp, oCmpN, oSwitch, oGetR, oGetI, oPutI, oPutZ, oIald, oZald, oIast, oZast, oRetI, oRetZ, oRetV, oCall, oRecv, oMax, List.map_cons, List.map_nil, List.getElem?_cons_zero, List.getElem?_cons_succ, List.set_cons_zero, List.set_cons_succ, List.length_cons, List.length_nil, List.cons_append, List.nil_append, List.append_nil, List.take_succ_cons, List.take_zero, List.drop_succ_cons, List.drop_zero, List.reverse_cons, List.reverse_nil, Option.toList, Value.category, List.sum_cons, List.sum_nil, zk_0, zk_1, zk_12, zk_20, zk_23, zk_27, zn_2, zn_3, zn_4, zn_5, zn_6, zn_7, zn_8, zn_9, zn_10, zn_11, zn_13, zn_14, zn_15, zn_16, zn_17, zn_18, zn_19, zn_21, zn_22, zn_24, zn_25, zn_26, zn_28, zn_29, zn_30, zn_31, zn_32, zn_33, zn_34, zn_35, zn_36, zn_37, zn_38, zn_39, zn_40, zn_41, zn_42, zn_43, zn_44, zn_45, zn_46, Nat.reduceAdd, Nat.reduceSub, Nat.reduceLeDiff, true_and, and_true]
      refine b5 _ ?_
      simp only [bb_M_goes_5, oIload, oAload, oIstore, oInc, oConst, o2, oDup, oPop, oDupX1, oDupX2, oDup2, oIf, oIfN, oCmp, oCmpN, oSwitch, oGetR, oGetI, oPutI, oPutZ, oIald, oZald, oIast, oZast, oRetI, oRetZ, oRetV, oCall, oRecv, oMax, List.map_cons, List.map_nil, List.getElem?_cons_zero, List.getElem?_cons_succ, List.set_cons_zero, List.set_cons_succ, List.length_cons, List.length_nil, List.cons_append, List.nil_append, List.append_nil, List.take_succ_cons, List.take_zero, List.drop_succ_cons, List.drop_zero, List.reverse_cons, List.reverse_nil, Option.toList, Value.category, List.sum_cons, List.sum_nil, zk_0, zk_1, zk_12, zk_20, zk_23, zk_27, zn_2, zn_3, zn_4, zn_5, zn_6, zn_7, zn_8, zn_9, zn_10, zn_11, zn_13, zn_14, zn_15, zn_16, zn_17, zn_18, zn_19, zn_21, zn_22, zn_24, zn_25, zn_26, zn_28, zn_29, zn_30, zn_31, zn_32, zn_33, zn_34, zn_35, zn_36, zn_37, zn_38, zn_39, zn_40, zn_41, zn_42, zn_43, zn_44, zn_45, zn_46, Nat.reduceAdd, Nat.reduceSub, Nat.reduceLeDiff, true_and, and_true]
      refine ⟨fun q => absurd trivial q, fun _ => ?_⟩
      rw [zj 10 (by omega), h10]
      refine pk_eq c 300 (fun e => k6 _ (fun q => q.2.2.1 e)) (fun e => ?_)
      refine ⟨i, rfl, by omega, ?_⟩
      rw [zk 28 (by omega), u1, x1]
      refine ⟨fun e1 => hgood ⟨l1, l2, e, fun q => absurd q e1⟩, fun e1 => ?_⟩
      rw [zj 11 (by omega), h11, show nI p = 60 ↔ p = 60 from nI_is 60 rfl (by omega) (by omega)]
      exact ⟨fun e2 => hgood ⟨l1, l2, e, fun _ => e2⟩, fun e2 => k6 _ (fun q => q.2.2.2 e1 e2)⟩
    have k2 : ∀ y5, ¬ (F.kd i = 5 ∧ F.cd (F.fi i) % 2 = 1) → K 2 ([some (.ref 27), some (.int (nI i0)), some (.int 0), some (.int (nI i)), some (.int (nI t)), y5, y6, y7], [], zU gg 27 8 (nI q)) := by
      intro y5 l1
      refine b2 _ ?_
      simp only [bb_M_goes_2, oIload, oAload, oIstore, oInc, oConst, o2, oDup, oPop, oDupX1, oDupX2, oDup2, oIf, oIfN, oCmp, oCmpN, oSwitch, oGetR, oGetI, oPutI, oPutZ, oIald, oZald, oIast, oZast, oRetI, oRetZ, oRetV, oCall, oRecv, oMax, List.map_cons, List.map_nil, List.getElem?_cons_zero, List.getElem?_cons_succ, List.set_cons_zero, List.set_cons_succ, List.length_cons, List.length_nil, List.cons_append, List.nil_append, List.append_nil, List.take_succ_cons, List.take_zero, List.drop_succ_cons, List.drop_zero, List.reverse_cons, List.reverse_nil, Option.toList, Value.category, List.sum_cons, List.sum_nil, zk_0, zk_1, zk_12, zk_20, zk_23, zk_27, zn_2, zn_3, zn_4, zn_5, zn_6, zn_7, zn_8, zn_9, zn_10, zn_11, zn_13, zn_14, zn_15, zn_16, zn_17, zn_18, zn_19, zn_21, zn_22, zn_24, zn_25, zn_26, zn_28, zn_29, zn_30, zn_31, zn_32, zn_33, zn_34, zn_35, zn_36, zn_37, zn_38, zn_39, zn_40, zn_41, zn_42, zn_43, zn_44, zn_45, zn_46, Nat.reduceAdd, Nat.reduceSub, Nat.reduceLeDiff, true_and, and_true]
      refine ⟨i, rfl, by omega, ?_⟩
      rw [zk 28 (by omega), u1, x10]
      refine ⟨fun e1 => k4 _ l1 (fun q => absurd q e1), fun e1 => ?_⟩
      refine ⟨i, rfl, by omega, ?_⟩
      have := q4 e1
      rw [zk 29 (by omega), u2 (by unfold yNb; omega), nI_1]
      exact pk_le (F.nm i + 1) t (fun e => k4 _ l1 (fun _ => e)) (fun e => k3 _ (fun q => by have := q.2.1 e1; omega))
    refine b1 _ ?_
    simp only [bb_M_goes_1, oIload, oAload, oIstore, oInc, oConst, o2, oDup, oPop, oDupX1, oDupX2, oDup2, oIf, oIfN, oCmp, oCmpN, oSwitch, oGetR, oGetI, oPutI, oPutZ, oIald, oZald, oIast, oZast, oRetI, oRetZ, oRetV, oCall, oRecv, oMax, List.map_cons, List.map_nil, List.getElem?_cons_zero, List.getElem?_cons_succ, List.set_cons_zero, List.set_cons_succ, List.length_cons, List.length_nil, List.cons_append, List.nil_append, List.append_nil, List.take_succ_cons, List.take_zero, List.drop_succ_cons, List.drop_zero, List.reverse_cons, List.reverse_nil, Option.toList, Value.category, List.sum_cons, List.sum_nil, zk_0, zk_1, zk_12, zk_20, zk_23, zk_27, zn_2, zn_3, zn_4, zn_5, zn_6, zn_7, zn_8, zn_9, zn_10, zn_11, zn_13, zn_14, zn_15, zn_16, zn_17, zn_18, zn_19, zn_21, zn_22, zn_24, zn_25, zn_26, zn_28, zn_29, zn_30, zn_31, zn_32, zn_33, zn_34, zn_35, zn_36, zn_37, zn_38, zn_39, zn_40, zn_41, zn_42, zn_43, zn_44, zn_45, zn_46, Nat.reduceAdd, Nat.reduceSub, Nat.reduceLeDiff, true_and, and_true]
    rw [h8]
    refine ⟨fun e => absurd e (nI_nle (by omega) (by omega)), fun _ => ?_⟩
    rw [nI_pred, zU_at, show (4 : Int32) * nI q = nI (4 * q) from pk_mul 4 q, show nI (4 * q) + 3 = nI (4 * q + 3) from nI_add _ 3]
    refine ⟨4 * q, rfl, by omega, 4 * q + 3, rfl, by omega, ?_⟩
    rw [zk 34 (by omega), e0, e3]
    refine ⟨i, rfl, by omega, ?_⟩
    rw [zk 28 (by omega), u1, x5]
    refine ⟨fun e => k2 _ (fun q => e q.1), fun e => ?_⟩
    have hf := q5 (by omega)
    refine ⟨i, rfl, by omega, ?_⟩
    rw [zk 30 (by omega), u3 (by omega)]
    refine ⟨F.fi i, rfl, by omega, ?_⟩
    rw [zk 33 (by omega), (hF.2 (F.fi i) (by omega)).2.2.2.2.2]
    have hcd := (hw.2.2 (F.fi i) (by omega)).2.2.2.2.2.2.2.2.2.1
    have hb := bit0 _ hcd
    rcases and1 (nI (F.cd (F.fi i))) with e2 | e2
    · rw [e2]
      exact ⟨fun q => absurd q (by decide), fun _ => k2 _ (fun q => (hb.mp e2) q.2)⟩
    · rw [e2]
      refine ⟨fun _ => k3 _ (fun q => q.1 ⟨e, ?_⟩), fun q => absurd rfl q⟩
      refine Classical.byContradiction fun hq => ?_
      rw [hb.mpr hq] at e2
      exact absurd e2 (by decide)
  have kE : ∀ (gg : zM) (q i t c p : Nat) y5 y6 y7, i < F.n → zFre gg F → gg 27 8 = nI q → q < 62 → t < 100 → gg 27 10 = nI c → c < 300 → gg 27 11 = nI p → p ≤ 60 → (∀ G y3 y4 y5 y6 y7, zNx F gg G i q t c p → K 1 ([some (.ref 27), some (.int (nI i0)), some (.int 0), y3, y4, y5, y6, y7], [], G)) → K 8 ([some (.ref 27), some (.int (nI i0)), some (.int 0), some (.int (nI i)), some (.int (nI t)), y5, y6, y7], [], gg) := by
    intro gg q i t c p y5 y6 y7 hi hF h8 hq ht h10 hc h11 hp hK
    obtain ⟨u1, u2, u3, u4, u5, u6⟩ := hF.2 i hi
    obtain ⟨q1, q2, q3, q4, q5, q6, q7, q8, q9, q10, -⟩ := hw.2.2 i hi
    have hn := hw.1
    have x5 : nI (F.kd i) = 5 ↔ F.kd i = 5 := nI_is 5 rfl (by omega) (by omega)
    have x9 : nI (F.kd i) = 9 ↔ F.kd i = 9 := nI_is 9 rfl (by omega) (by omega)
    have x1 : nI (F.kd i) = 1 ↔ F.kd i = 1 := nI_is 1 rfl (by omega) (by omega)
    have k15 : ∀ G y3 y4 y5 y6 y7, zNx F gg G i q t c p → K 15 ([some (.ref 27), some (.int (nI i0)), some (.int 0), y3, y4, y5, y6, y7], [], G) := by
      intro G y3 y4 y5 y6 y7 hx
      refine b15 _ ?_
      simp only [bb_M_goes_15, oIload, oAload, oIstore, oInc, oConst, o2, oDup, oPop, oDupX1, oDupX2, oDup2, oIf, oIfN, oCmp, oCmpN, oSwitch, oGetR, oGetI, oPutI, oPutZ, oIald, oZald, oIast, oZast, oRetI, oRetZ, oRetV, oCall, oRecv, oMax, List.map_cons, List.map_nil, List.getElem?_cons_zero, List.getElem?_cons_succ, List.set_cons_zero, List.set_cons_succ, List.length_cons, List.length_nil, List.cons_append, List.nil_append, List.append_nil, List.take_succ_cons, List.take_zero, List.drop_succ_cons, List.drop_zero, List.reverse_cons, List.reverse_nil, Option.toList, Value.category, List.sum_cons, List.sum_nil, zk_0, zk_1, zk_12, zk_20, zk_23, zk_27, zn_2, zn_3, zn_4, zn_5, zn_6, zn_7, zn_8, zn_9, zn_10, zn_11, zn_13, zn_14, zn_15, zn_16, zn_17, zn_18, zn_19, zn_21, zn_22, zn_24, zn_25, zn_26, zn_28, zn_29, zn_30, zn_31, zn_32, zn_33, zn_34, zn_35, zn_36, zn_37, zn_38, zn_39, zn_40, zn_41, zn_42, zn_43, zn_44, zn_45, zn_46, Nat.reduceAdd, Nat.reduceSub, Nat.reduceLeDiff, true_and, and_true]
      exact hK _ _ _ _ _ _ hx
    -- the first part
    have k14 : ∀ G y5, (∀ k, k ≠ 27 → k ≠ 34 → G k = gg k) → (∀ j, j ≠ 8 → j ≠ 10 → j ≠ 11 → G 27 j = gg 27 j) → G 27 10 = nI (c + 1) → G 27 11 = nI (yR1 F i p) → (∀ x, x < 4 * q → G 34 x = gg 34 x) → (((3 ≤ F.kd i ∧ F.kd i ≤ 6) ∧ G 27 8 = nI (q + 1) ∧ zEnt G q (F.se i) (nI c) 1 (yT9 F i t)) ∨ (¬ (3 ≤ F.kd i ∧ F.kd i ≤ 6) ∧ G 27 8 = nI q)) → K 14 ([some (.ref 27), some (.int (nI i0)), some (.int 0), some (.int (nI i)), some (.int (nI t)), y5, some (.int (nI c)), some (.int (nI (yT9 F i t)))], [], G) := by
      intro G y5 g1 g2 g3 g4 g5 g6
      refine b14 _ ?_
      simp only [bb_M_goes_14, oIload, oAload, oIstore, oInc, oConst, o2, oDup, oPop, oDupX1, oDupX2, oDup2, oIf, oIfN, oCmp, oCmpN, oSwitch, oGetR, oGetI, oPutI, oPutZ, oIald, oZald, oIast, oZast, oRetI, oRetZ, oRetV, oCall, oRecv, oMax, List.map_cons, List.map_nil, List.getElem?_cons_zero, List.getElem?_cons_succ, List.set_cons_zero, List.set_cons_succ, List.length_cons, List.length_nil, List.cons_append, List.nil_append, List.append_nil, List.take_succ_cons, List.take_zero, List.drop_succ_cons, List.drop_zero, List.reverse_cons, List.reverse_nil, Option.toList, Value.category, List.sum_cons, List.sum_nil, zk_0, zk_1, zk_12, zk_20, zk_23, zk_27, zn_2, zn_3, zn_4, zn_5, zn_6, zn_7, zn_8, zn_9, zn_10, zn_11, zn_13, zn_14, zn_15, zn_16, zn_17, zn_18, zn_19, zn_21, zn_22, zn_24, zn_25, zn_26, zn_28, zn_29, zn_30, zn_31, zn_32, zn_33, zn_34, zn_35, zn_36, zn_37, zn_38, zn_39, zn_40, zn_41, zn_42, zn_43, zn_44, zn_45, zn_46, Nat.reduceAdd, Nat.reduceSub, Nat.reduceLeDiff, true_and, and_true]
      refine ⟨i, rfl, by omega, ?_⟩
      rw [g1 28 (by omega) (by omega), u1]
      refine sp_M_parts ?_
      rw [np_k _ q1]
      simp only [oIload, oAload, oIstore, oInc, oConst, o2, oDup, oPop, oDupX1, oDupX2, oDup2, oIf, oIfN, oCmp, oCmpN, oSwitch, oGetR, oGetI, oPutI, oPutZ, oIald, oZald, oIast, oZast, oRetI, oRetZ, oRetV, oCall, oRecv, oMax, List.map_cons, List.map_nil, List.getElem?_cons_zero, List.getElem?_cons_succ, List.set_cons_zero, List.set_cons_succ, List.length_cons, List.length_nil, List.cons_append, List.nil_append, List.append_nil, List.take_succ_cons, List.take_zero, List.drop_succ_cons, List.drop_zero, List.reverse_cons, List.reverse_nil, Option.toList, Value.category, List.sum_cons, List.sum_nil, zk_0, zk_1, zk_12, zk_20, zk_23, zk_27, zn_2, zn_3, zn_4, zn_5, zn_6, zn_7, zn_8, zn_9, zn_10, zn_11, zn_13, zn_14, zn_15, zn_16, zn_17, zn_18, zn_19, zn_21, zn_22, zn_24, zn_25, zn_26, zn_28, zn_29, zn_30, zn_31, zn_32, zn_33, zn_34, zn_35, zn_36, zn_37, zn_38, zn_39, zn_40, zn_41, zn_42, zn_43, zn_44, zn_45, zn_46, Nat.reduceAdd, Nat.reduceSub, Nat.reduceLeDiff, true_and, and_true]
      rw [np_0 _ q1]
      refine ⟨fun e => k15 _ _ _ _ _ _ ⟨g1, g2, ?_, g3, g4, g5, fun h => absurd (by omega) e, fun h => absurd (by omega) e⟩, fun e => ?_⟩
      · have : yPn (F.kd i) = 0 := by unfold yPn; rw [if_neg (by omega), if_neg e]
        rw [this]
        exact g6.elim (fun h => absurd (by omega) e) (fun h => h.2)
      · have e := Classical.not_not.mp e
        refine ⟨i, rfl, by omega, ?_⟩
        rw [g1 30 (by omega) (by omega), u3 e]
        rcases g6 with ⟨c1, c2, c3⟩ | ⟨c1, c2⟩
        · refine sp_M_push (q := q + 1) c2 (by omega) ?_
          intro H p1 p2 p3 p4 p5 p6 p7 p8
          simp only [oIload, oAload, oIstore, oInc, oConst, o2, oDup, oPop, oDupX1, oDupX2, oDup2, oIf, oIfN, oCmp, oCmpN, oSwitch, oGetR, oGetI, oPutI, oPutZ, oIald, oZald, oIast, oZast, oRetI, oRetZ, oRetV, oCall, oRecv, oMax, List.map_cons, List.map_nil, List.getElem?_cons_zero, List.getElem?_cons_succ, List.set_cons_zero, List.set_cons_succ, List.length_cons, List.length_nil, List.cons_append, List.nil_append, List.append_nil, List.take_succ_cons, List.take_zero, List.drop_succ_cons, List.drop_zero, List.reverse_cons, List.reverse_nil, Option.toList, Value.category, List.sum_cons, List.sum_nil, zk_0, zk_1, zk_12, zk_20, zk_23, zk_27, zn_2, zn_3, zn_4, zn_5, zn_6, zn_7, zn_8, zn_9, zn_10, zn_11, zn_13, zn_14, zn_15, zn_16, zn_17, zn_18, zn_19, zn_21, zn_22, zn_24, zn_25, zn_26, zn_28, zn_29, zn_30, zn_31, zn_32, zn_33, zn_34, zn_35, zn_36, zn_37, zn_38, zn_39, zn_40, zn_41, zn_42, zn_43, zn_44, zn_45, zn_46, Nat.reduceAdd, Nat.reduceSub, Nat.reduceLeDiff, true_and, and_true]
          refine k15 _ _ _ _ _ _ ⟨fun k h1 h2 => by rw [p1 k h1 h2]; exact g1 k h1 h2, fun j h1 h2 h3 => by rw [p2 j h1]; exact g2 j h1 h2 h3, ?_, by rw [p2 10 (by omega)]; exact g3, by rw [p2 11 (by omega)]; exact g4, fun x hx => by rw [p4 x (by omega)]; exact g5 x hx, fun _ => ⟨c3.fr (m := q + 1) (by omega) p4, p5, p6, p7, p8⟩, fun h => by omega⟩
          have : yPn (F.kd i) = 2 := if_pos c1
          rw [this, p3]
        · refine sp_M_push (q := q) c2 (by omega) ?_
          intro H p1 p2 p3 p4 p5 p6 p7 p8
          simp only [oIload, oAload, oIstore, oInc, oConst, o2, oDup, oPop, oDupX1, oDupX2, oDup2, oIf, oIfN, oCmp, oCmpN, oSwitch, oGetR, oGetI, oPutI, oPutZ, oIald, oZald, oIast, oZast, oRetI, oRetZ, oRetV, oCall, oRecv, oMax, List.map_cons, List.map_nil, List.getElem?_cons_zero, List.getElem?_cons_succ, List.set_cons_zero, List.set_cons_succ, List.length_cons, List.length_nil, List.cons_append, List.nil_append, List.append_nil, List.take_succ_cons, List.take_zero, List.drop_succ_cons, List.drop_zero, List.reverse_cons, List.reverse_nil, Option.toList, Value.category, List.sum_cons, List.sum_nil, zk_0, zk_1, zk_12, zk_20, zk_23, zk_27, zn_2, zn_3, zn_4, zn_5, zn_6, zn_7, zn_8, zn_9, zn_10, zn_11, zn_13, zn_14, zn_15, zn_16, zn_17, zn_18, zn_19, zn_21, zn_22, zn_24, zn_25, zn_26, zn_28, zn_29, zn_30, zn_31, zn_32, zn_33, zn_34, zn_35, zn_36, zn_37, zn_38, zn_39, zn_40, zn_41, zn_42, zn_43, zn_44, zn_45, zn_46, Nat.reduceAdd, Nat.reduceSub, Nat.reduceLeDiff, true_and, and_true]
          refine k15 _ _ _ _ _ _ ⟨fun k h1 h2 => by rw [p1 k h1 h2]; exact g1 k h1 h2, fun j h1 h2 h3 => by rw [p2 j h1]; exact g2 j h1 h2 h3, ?_, by rw [p2 10 (by omega)]; exact g3, by rw [p2 11 (by omega)]; exact g4, fun x hx => by rw [p4 x hx]; exact g5 x hx, fun h => absurd h c1, fun _ => ⟨p5, p6, p7, p8⟩⟩
          have : yPn (F.kd i) = 1 := by unfold yPn; rw [if_neg c1, if_pos e]
          rw [this, p3]
    have k12 : ∀ G y5 y7, (∀ k, k ≠ 27 → k ≠ 34 → G k = gg k) → (∀ j, j ≠ 8 → j ≠ 10 → j ≠ 11 → G 27 j = gg 27 j) → G 27 10 = nI (c + 1) → G 27 11 = nI (yR1 F i p) → (∀ x, x < 4 * q → G 34 x = gg 34 x) → G 27 8 = nI q → K 12 ([some (.ref 27), some (.int (nI i0)), some (.int 0), some (.int (nI i)), some (.int (nI t)), y5, some (.int (nI c)), y7], [.int (nI (yT9 F i t))], G) := by
      intro G y5 y7 g1 g2 g3 g4 g5 g6
      refine b12 _ ?_
      simp only [bb_M_goes_12, oIload, oAload, oIstore, oInc, oConst, o2, oDup, oPop, oDupX1, oDupX2, oDup2, oIf, oIfN, oCmp, oCmpN, oSwitch, oGetR, oGetI, oPutI, oPutZ, oIald, oZald, oIast, oZast, oRetI, oRetZ, oRetV, oCall, oRecv, oMax, List.map_cons, List.map_nil, List.getElem?_cons_zero, List.getElem?_cons_succ, List.set_cons_zero, List.set_cons_succ, List.length_cons, List.length_nil, List.cons_append, List.nil_append, List.append_nil, List.take_succ_cons, List.take_zero, List.drop_succ_cons, List.drop_zero, List.reverse_cons, List.reverse_nil, Option.toList, Value.category, List.sum_cons, List.sum_nil, zk_0, zk_1, zk_12, zk_20, zk_23, zk_27, zn_2, zn_3, zn_4, zn_5, zn_6, zn_7, zn_8, zn_9, zn_10, zn_11, zn_13, zn_14, zn_15, zn_16, zn_17, zn_18, zn_19, zn_21, zn_22, zn_24, zn_25, zn_26, zn_28, zn_29, zn_30, zn_31, zn_32, zn_33, zn_34, zn_35, zn_36, zn_37, zn_38, zn_39, zn_40, zn_41, zn_42, zn_43, zn_44, zn_45, zn_46, Nat.reduceAdd, Nat.reduceSub, Nat.reduceLeDiff, true_and, and_true]
      refine ⟨i, rfl, by omega, ?_⟩
      rw [g1 28 (by omega) (by omega), u1]
      refine sp_M_parts ?_
      rw [np_k _ q1]
      simp only [oIload, oAload, oIstore, oInc, oConst, o2, oDup, oPop, oDupX1, oDupX2, oDup2, oIf, oIfN, oCmp, oCmpN, oSwitch, oGetR, oGetI, oPutI, oPutZ, oIald, oZald, oIast, oZast, oRetI, oRetZ, oRetV, oCall, oRecv, oMax, List.map_cons, List.map_nil, List.getElem?_cons_zero, List.getElem?_cons_succ, List.set_cons_zero, List.set_cons_succ, List.length_cons, List.length_nil, List.cons_append, List.nil_append, List.append_nil, List.take_succ_cons, List.take_zero, List.drop_succ_cons, List.drop_zero, List.reverse_cons, List.reverse_nil, Option.toList, Value.category, List.sum_cons, List.sum_nil, zk_0, zk_1, zk_12, zk_20, zk_23, zk_27, zn_2, zn_3, zn_4, zn_5, zn_6, zn_7, zn_8, zn_9, zn_10, zn_11, zn_13, zn_14, zn_15, zn_16, zn_17, zn_18, zn_19, zn_21, zn_22, zn_24, zn_25, zn_26, zn_28, zn_29, zn_30, zn_31, zn_32, zn_33, zn_34, zn_35, zn_36, zn_37, zn_38, zn_39, zn_40, zn_41, zn_42, zn_43, zn_44, zn_45, zn_46, Nat.reduceAdd, Nat.reduceSub, Nat.reduceLeDiff, true_and, and_true]
      rw [np_4 _ q1]
      refine ⟨fun e => b13 _ ?_, fun e => ?_⟩
      · simp only [bb_M_goes_13, oIload, oAload, oIstore, oInc, oConst, o2, oDup, oPop, oDupX1, oDupX2, oDup2, oIf, oIfN, oCmp, oCmpN, oSwitch, oGetR, oGetI, oPutI, oPutZ, oIald, oZald, oIast, oZast, oRetI, oRetZ, oRetV, oCall, oRecv, oMax, List.map_cons, List.map_nil, List.getElem?_cons_zero, List.getElem?_cons_succ, List.set_cons_zero, List.set_cons_succ, List.length_cons, List.length_nil, List.cons_append, List.nil_append, List.append_nil, List.take_succ_cons, List.take_zero, List.drop_succ_cons, List.drop_zero, List.reverse_cons, List.reverse_nil, Option.toList, Value.category, List.sum_cons, List.sum_nil, zk_0, zk_1, zk_12, zk_20, zk_23, zk_27, zn_2, zn_3, zn_4, zn_5, zn_6, zn_7, zn_8, zn_9, zn_10, zn_11, zn_13, zn_14, zn_15, zn_16, zn_17, zn_18, zn_19, zn_21, zn_22, zn_24, zn_25, zn_26, zn_28, zn_29, zn_30, zn_31, zn_32, zn_33, zn_34, zn_35, zn_36, zn_37, zn_38, zn_39, zn_40, zn_41, zn_42, zn_43, zn_44, zn_45, zn_46, Nat.reduceAdd, Nat.reduceSub, Nat.reduceLeDiff, true_and, and_true]
        refine ⟨i, rfl, by omega, ?_⟩
        rw [g1 28 (by omega) (by omega), u1, x5]
        refine ⟨fun e5 => k14 _ _ g1 g2 g3 g4 g5 (Or.inr ⟨by omega, g6⟩), fun e5 => ?_⟩
        refine ⟨i, rfl, by omega, ?_⟩
        rw [g1 30 (by omega) (by omega), u3 (by omega), ← q9 e5]
        refine sp_M_push (q := q) g6 (by omega) ?_
        intro H p1 p2 p3 p4 p5 p6 p7 p8
        simp only [oIload, oAload, oIstore, oInc, oConst, o2, oDup, oPop, oDupX1, oDupX2, oDup2, oIf, oIfN, oCmp, oCmpN, oSwitch, oGetR, oGetI, oPutI, oPutZ, oIald, oZald, oIast, oZast, oRetI, oRetZ, oRetV, oCall, oRecv, oMax, List.map_cons, List.map_nil, List.getElem?_cons_zero, List.getElem?_cons_succ, List.set_cons_zero, List.set_cons_succ, List.length_cons, List.length_nil, List.cons_append, List.nil_append, List.append_nil, List.take_succ_cons, List.take_zero, List.drop_succ_cons, List.drop_zero, List.reverse_cons, List.reverse_nil, Option.toList, Value.category, List.sum_cons, List.sum_nil, zk_0, zk_1, zk_12, zk_20, zk_23, zk_27, zn_2, zn_3, zn_4, zn_5, zn_6, zn_7, zn_8, zn_9, zn_10, zn_11, zn_13, zn_14, zn_15, zn_16, zn_17, zn_18, zn_19, zn_21, zn_22, zn_24, zn_25, zn_26, zn_28, zn_29, zn_30, zn_31, zn_32, zn_33, zn_34, zn_35, zn_36, zn_37, zn_38, zn_39, zn_40, zn_41, zn_42, zn_43, zn_44, zn_45, zn_46, Nat.reduceAdd, Nat.reduceSub, Nat.reduceLeDiff, true_and, and_true]
        exact k14 _ _ (fun k h1 h2 => by rw [p1 k h1 h2]; exact g1 k h1 h2) (fun j h1 h2 h3 => by rw [p2 j h1]; exact g2 j h1 h2 h3) (by rw [p2 10 (by omega)]; exact g3) (by rw [p2 11 (by omega)]; exact g4) (fun x hx => by rw [p4 x hx]; exact g5 x hx) (Or.inl ⟨by omega, p3, p5, p6, p7, p8⟩)
      · refine ⟨i, rfl, by omega, ?_⟩
        rw [g1 31 (by omega) (by omega), u4 e]
        refine sp_M_push (q := q) g6 (by omega) ?_
        intro H p1 p2 p3 p4 p5 p6 p7 p8
        simp only [oIload, oAload, oIstore, oInc, oConst, o2, oDup, oPop, oDupX1, oDupX2, oDup2, oIf, oIfN, oCmp, oCmpN, oSwitch, oGetR, oGetI, oPutI, oPutZ, oIald, oZald, oIast, oZast, oRetI, oRetZ, oRetV, oCall, oRecv, oMax, List.map_cons, List.map_nil, List.getElem?_cons_zero, List.getElem?_cons_succ, List.set_cons_zero, List.set_cons_succ, List.length_cons, List.length_nil, List.cons_append, List.nil_append, List.append_nil, List.take_succ_cons, List.take_zero, List.drop_succ_cons, List.drop_zero, List.reverse_cons, List.reverse_nil, Option.toList, Value.category, List.sum_cons, List.sum_nil, zk_0, zk_1, zk_12, zk_20, zk_23, zk_27, zn_2, zn_3, zn_4, zn_5, zn_6, zn_7, zn_8, zn_9, zn_10, zn_11, zn_13, zn_14, zn_15, zn_16, zn_17, zn_18, zn_19, zn_21, zn_22, zn_24, zn_25, zn_26, zn_28, zn_29, zn_30, zn_31, zn_32, zn_33, zn_34, zn_35, zn_36, zn_37, zn_38, zn_39, zn_40, zn_41, zn_42, zn_43, zn_44, zn_45, zn_46, Nat.reduceAdd, Nat.reduceSub, Nat.reduceLeDiff, true_and, and_true]
        refine b13 _ ?_
        simp only [bb_M_goes_13, oIload, oAload, oIstore, oInc, oConst, o2, oDup, oPop, oDupX1, oDupX2, oDup2, oIf, oIfN, oCmp, oCmpN, oSwitch, oGetR, oGetI, oPutI, oPutZ, oIald, oZald, oIast, oZast, oRetI, oRetZ, oRetV, oCall, oRecv, oMax, List.map_cons, List.map_nil, List.getElem?_cons_zero, List.getElem?_cons_succ, List.set_cons_zero, List.set_cons_succ, List.length_cons, List.length_nil, List.cons_append, List.nil_append, List.append_nil, List.take_succ_cons, List.take_zero, List.drop_succ_cons, List.drop_zero, List.reverse_cons, List.reverse_nil, Option.toList, Value.category, List.sum_cons, List.sum_nil, zk_0, zk_1, zk_12, zk_20, zk_23, zk_27, zn_2, zn_3, zn_4, zn_5, zn_6, zn_7, zn_8, zn_9, zn_10, zn_11, zn_13, zn_14, zn_15, zn_16, zn_17, zn_18, zn_19, zn_21, zn_22, zn_24, zn_25, zn_26, zn_28, zn_29, zn_30, zn_31, zn_32, zn_33, zn_34, zn_35, zn_36, zn_37, zn_38, zn_39, zn_40, zn_41, zn_42, zn_43, zn_44, zn_45, zn_46, Nat.reduceAdd, Nat.reduceSub, Nat.reduceLeDiff, true_and, and_true]
        refine ⟨i, rfl, by omega, ?_⟩
        rw [p1 28 (by omega) (by omega), g1 28 (by omega) (by omega), u1, x5]
        refine ⟨fun e5 => ?_, fun e5 => by omega⟩
        exact k14 _ _ (fun k h1 h2 => by rw [p1 k h1 h2]; exact g1 k h1 h2) (fun j h1 h2 h3 => by rw [p2 j h1]; exact g2 j h1 h2 h3) (by rw [p2 10 (by omega)]; exact g3) (by rw [p2 11 (by omega)]; exact g4) (fun x hx => by rw [p4 x hx]; exact g5 x hx) (Or.inl ⟨by omega, p3, p5, p6, p7, p8⟩)
    have k10 : ∀ (v : Int32) y5 y7, v = (if F.kd i = 1 then 1 else 0) → K 10 ([some (.ref 27), some (.int (nI i0)), some (.int 0), some (.int (nI i)), some (.int (nI t)), y5, some (.int (nI c)), y7], [.int v, .int (nI p), .ref 27], zU gg 27 10 (nI (c + 1))) := by
      intro v y5 y7 hv
      refine b10 _ ?_
      simp only [bb_M_goes_10, oIload, oAload, oIstore, oInc, oConst, o2, oDup, oPop, oDupX1, oDupX2, oDup2, oIf, oIfN, oCmp, oCmpN, oSwitch, oGetR, oGetI, oPutI, oPutZ, oIald, oZald, oIast, oZast, oRetI, oRetZ, oRetV, oCall, oRecv, oMax, List.map_cons, List.map_nil, List.getElem?_cons_zero, List.getElem?_cons_succ, List.set_cons_zero, List.set_cons_succ, List.length_cons, List.length_nil, List.cons_append, List.nil_append, List.append_nil, List.take_succ_cons, List.take_zero, List.drop_succ_cons, List.drop_zero, List.reverse_cons, List.reverse_nil, Option.toList, Value.category, List.sum_cons, List.sum_nil, zk_0, zk_1, zk_12, zk_20, zk_23, zk_27, zn_2, zn_3, zn_4, zn_5, zn_6, zn_7, zn_8, zn_9, zn_10, zn_11, zn_13, zn_14, zn_15, zn_16, zn_17, zn_18, zn_19, zn_21, zn_22, zn_24, zn_25, zn_26, zn_28, zn_29, zn_30, zn_31, zn_32, zn_33, zn_34, zn_35, zn_36, zn_37, zn_38, zn_39, zn_40, zn_41, zn_42, zn_43, zn_44, zn_45, zn_46, Nat.reduceAdd, Nat.reduceSub, Nat.reduceLeDiff, true_and, and_true]
      have ev : nI p + v = nI (yR1 F i p) := by
        unfold yR1; rw [hv, ← nI_add]; split <;> rfl
      rw [ev]
      refine ⟨i, rfl, by omega, ?_⟩
      have z1 : ∀ k, k ≠ 27 → k ≠ 34 → zU (zU gg 27 10 (nI (c + 1))) 27 11 (nI (yR1 F i p)) k = gg k := fun k h1 _ => by rw [zU_ne _ _ _ _ h1, zU_ne _ _ _ _ h1]
      have z2 : ∀ j, j ≠ 10 → j ≠ 11 → zU (zU gg 27 10 (nI (c + 1))) 27 11 (nI (yR1 F i p)) 27 j = gg 27 j := fun j h1 h2 => by rw [zU_off _ _ _ _ h2, zU_off _ _ _ _ h1]
      have k12' := fun y7 => k12 (zU (zU gg 27 10 (nI (c + 1))) 27 11 (nI (yR1 F i p))) y5 y7 z1 (fun j _ h2 h3 => z2 j h2 h3) (by rw [zU_off _ _ _ _ (by omega), zU_at]) (zU_at _ _ _ _) (fun x _ => by rw [zU_ne _ _ _ _ (by omega), zU_ne _ _ _ _ (by omega)]) (by rw [z2 8 (by omega) (by omega), h8])
      rw [z1 28 (by omega) (by omega), u1, x9]
      refine ⟨fun e => b11 _ ?_, fun e => ?_⟩
      · simp only [bb_M_goes_11, oIload, oAload, oIstore, oInc, oConst, o2, oDup, oPop, oDupX1, oDupX2, oDup2, oIf, oIfN, oCmp, oCmpN, oSwitch, oGetR, oGetI, oPutI, oPutZ, oIald, oZald, oIast, oZast, oRetI, oRetZ, oRetV, oCall, oRecv, oMax, List.map_cons, List.map_nil, List.getElem?_cons_zero, List.getElem?_cons_succ, List.set_cons_zero, List.set_cons_succ, List.length_cons, List.length_nil, List.cons_append, List.nil_append, List.append_nil, List.take_succ_cons, List.take_zero, List.drop_succ_cons, List.drop_zero, List.reverse_cons, List.reverse_nil, Option.toList, Value.category, List.sum_cons, List.sum_nil, zk_0, zk_1, zk_12, zk_20, zk_23, zk_27, zn_2, zn_3, zn_4, zn_5, zn_6, zn_7, zn_8, zn_9, zn_10, zn_11, zn_13, zn_14, zn_15, zn_16, zn_17, zn_18, zn_19, zn_21, zn_22, zn_24, zn_25, zn_26, zn_28, zn_29, zn_30, zn_31, zn_32, zn_33, zn_34, zn_35, zn_36, zn_37, zn_38, zn_39, zn_40, zn_41, zn_42, zn_43, zn_44, zn_45, zn_46, Nat.reduceAdd, Nat.reduceSub, Nat.reduceLeDiff, true_and, and_true]
        have := k12' y7
        rw [show yT9 F i t = t by unfold yT9; rw [if_neg e, Nat.add_zero]] at this
        exact this
      · have := k12' y7
        rw [show yT9 F i t = t + 1 by unfold yT9; rw [if_pos e]] at this
        rw [nI_1]
        exact this
    refine b8 _ ?_
    simp only [bb_M_goes_8, oIload, oAload, oIstore, oInc, oConst, o2, oDup, oPop, oDupX1, oDupX2, oDup2, oIf, oIfN, oCmp, oCmpN, oSwitch, oGetR, oGetI, oPutI, oPutZ, oIald, oZald, oIast, oZast, oRetI, oRetZ, oRetV, oCall, oRecv, oMax, List.map_cons, List.map_nil, List.getElem?_cons_zero, List.getElem?_cons_succ, List.set_cons_zero, List.set_cons_succ, List.length_cons, List.length_nil, List.cons_append, List.nil_append, List.append_nil, List.take_succ_cons, List.take_zero, List.drop_succ_cons, List.drop_zero, List.reverse_cons, List.reverse_nil, Option.toList, Value.category, List.sum_cons, List.sum_nil, zk_0, zk_1, zk_12, zk_20, zk_23, zk_27, zn_2, zn_3, zn_4, zn_5, zn_6, zn_7, zn_8, zn_9, zn_10, zn_11, zn_13, zn_14, zn_15, zn_16, zn_17, zn_18, zn_19, zn_21, zn_22, zn_24, zn_25, zn_26, zn_28, zn_29, zn_30, zn_31, zn_32, zn_33, zn_34, zn_35, zn_36, zn_37, zn_38, zn_39, zn_40, zn_41, zn_42, zn_43, zn_44, zn_45, zn_46, Nat.reduceAdd, Nat.reduceSub, Nat.reduceLeDiff, true_and, and_true]
    rw [h10, nI_1, zU_off _ _ _ _ (show (11 : Nat) ≠ 10 by omega), h11]
    refine ⟨i, rfl, by omega, ?_⟩
    rw [zU_ne _ _ _ _ (show (28 : Nat) ≠ 27 by omega), u1, x1]
    refine ⟨fun e => b9 _ ?_, fun e => k10 _ _ _ (by rw [if_pos e])⟩
    simp only [bb_M_goes_9, oIload, oAload, oIstore, oInc, oConst, o2, oDup, oPop, oDupX1, oDupX2, oDup2, oIf, oIfN, oCmp, oCmpN, oSwitch, oGetR, oGetI, oPutI, oPutZ, oIald, oZald, oIast, oZast, oRetI, oRetZ, oRetV, oCall, oRecv, oMax, List.map_cons, List.map_nil, List.getElem?_cons_zero, List.getElem?_cons_succ, List.set_cons_zero, List.set_cons_succ, List.length_cons, List.length_nil, List.cons_append, List.nil_append, List.append_nil, List.take_succ_cons, List.take_zero, List.drop_succ_cons, List.drop_zero, List.reverse_cons, List.reverse_nil, Option.toList, Value.category, List.sum_cons, List.sum_nil, zk_0, zk_1, zk_12, zk_20, zk_23, zk_27, zn_2, zn_3, zn_4, zn_5, zn_6, zn_7, zn_8, zn_9, zn_10, zn_11, zn_13, zn_14, zn_15, zn_16, zn_17, zn_18, zn_19, zn_21, zn_22, zn_24, zn_25, zn_26, zn_28, zn_29, zn_30, zn_31, zn_32, zn_33, zn_34, zn_35, zn_36, zn_37, zn_38, zn_39, zn_40, zn_41, zn_42, zn_43, zn_44, zn_45, zn_46, Nat.reduceAdd, Nat.reduceSub, Nat.reduceLeDiff, true_and, and_true]
    exact k10 _ _ _ (by rw [if_neg e])
  obtain ⟨w1, ⟨w2, w3, w4, w5, w6, w7⟩, w8⟩ := id hw
  have main : ∀ N (i q t c p : Nat) (gg : zM) y3 y4 y5 y6 y7, i < F.n → F.dp i ≤ N → zFre gg F → gg 27 8 = nI (q + 1) → q + N < 62 → gg 34 (4 * q) = nI i → gg 34 (4 * q + 3) = nI t → t + N < 100 → gg 27 10 = nI c → c ≤ 300 → gg 27 11 = nI p → p ≤ 60 →
      (¬ yOkc F i t c p → ∀ G, zGf gg G → r (some (.int 0)) G) → (yOkc F i t c p → ∀ G y3 y4 y5 y6 y7, zGf gg G → G 27 8 = nI q → G 27 10 = nI (c + F.cp i) → G 27 11 = nI (p + F.ps i) → (∀ x, x < 4 * q → G 34 x = gg 34 x) → K 1 ([some (.ref 27), some (.int (nI i0)), some (.int 0), y3, y4, y5, y6, y7], [], G)) → K 1 ([some (.ref 27), some (.int (nI i0)), some (.int 0), y3, y4, y5, y6, y7], [], gg) := by
    intro N
    induction N with
    | zero =>
      intro i q t c p gg y3 y4 y5 y6 y7 hi hd
      have := hw.dp1 hi; omega
    | succ N ih =>
      intro i q t c p gg y3 y4 y5 y6 y7 hi hd hF h8 hq e0 e3 ht h10 hc h11 hp hbad hok
      obtain ⟨p1, p2⟩ := hw.part hi
      obtain ⟨d1, d2⟩ := hw.deep hi hd
      obtain ⟨q1, q2, q3, q4, q5, q6, q7, q8, q9, -⟩ := w8 i hi
      have hcp := hw.cps hi
      have hps := hw.pss hi
      have hiff := yOkc_iff hw (t := t) hi hc hp
      have zg : zGf gg (zU gg 27 8 (nI q)) := ⟨fun k h1 _ => zU_ne _ _ _ _ h1, fun j h1 _ _ => zU_off _ _ _ _ h1⟩
      refine kN gg q i t c p _ _ _ _ _ hi hF h8 (by omega) e0 e3 (by omega) h10 hc h11 hp (fun hl => hbad (fun q => hl (hiff.mp q).1) _ zg) (fun hl => ?_)
      refine b7 _ ?_
      simp only [bb_M_goes_7, oIload, oAload, oIstore, oInc, oConst, o2, oDup, oPop, oDupX1, oDupX2, oDup2, oIf, oIfN, oCmp, oCmpN, oSwitch, oGetR, oGetI, oPutI, oPutZ, oIald, oZald, oIast, oZast, oRetI, oRetZ, oRetV, oCall, oRecv, oMax, List.map_cons, List.map_nil, List.getElem?_cons_zero, List.getElem?_cons_succ, List.set_cons_zero, List.set_cons_succ, List.length_cons, List.length_nil, List.cons_append, List.nil_append, List.append_nil, List.take_succ_cons, List.take_zero, List.drop_succ_cons, List.drop_zero, List.reverse_cons, List.reverse_nil, Option.toList, Value.category, List.sum_cons, List.sum_nil, zk_0, zk_1, zk_12, zk_20, zk_23, zk_27, zn_2, zn_3, zn_4, zn_5, zn_6, zn_7, zn_8, zn_9, zn_10, zn_11, zn_13, zn_14, zn_15, zn_16, zn_17, zn_18, zn_19, zn_21, zn_22, zn_24, zn_25, zn_26, zn_28, zn_29, zn_30, zn_31, zn_32, zn_33, zn_34, zn_35, zn_36, zn_37, zn_38, zn_39, zn_40, zn_41, zn_42, zn_43, zn_44, zn_45, zn_46, Nat.reduceAdd, Nat.reduceSub, Nat.reduceLeDiff, true_and, and_true]
      refine ⟨fun _ => ?_, fun q => absurd trivial q⟩
      have hF2 : zFre (zU gg 27 8 (nI q)) F := hF.fr (fun k k1 k2 => zg.1 k (by omega) (by omega)) (zg.2 1 (by omega) (by omega) (by omega))
      refine kE _ q i t c p _ _ _ hi hF2 (zU_at _ _ _ _) (by omega) (by omega) (by rw [zU_off _ _ _ _ (by omega)]; exact h10) (by have := hl.2.2.1; omega) (by rw [zU_off _ _ _ _ (by omega)]; exact h11) hp ?_
      intro G y3 y4 y5 y6 y7 hx
      obtain ⟨v1, v2, v3, v4, v5, v6, v7, v8⟩ := hx
      have fG : zGf gg G := zg.tr ⟨v1, v2⟩
      have hFG : zFre G F := hF.fr (fun k k1 k2 => fG.1 k (by omega) (by omega)) (fG.2 1 (by omega) (by omega) (by omega))
      have sG : ∀ x, x < 4 * q → G 34 x = gg 34 x := fun x hx => by rw [v6 x hx, zU_ne _ _ _ _ (by omega)]
      have hc1 := hl.2.2.1
      have hr1 : yR1 F i p ≤ 60 := by
        unfold yR1
        split
        · rename_i e; have := hl.2.2.2 e; omega
        · omega
      have t9 : yT9 F i t ≤ t + 1 := by unfold yT9; split <;> omega
      have o60 : ∀ {t c r}, c ≤ 300 → r ≤ 60 → yOkc F 60 t c r := fun h1 h2 => ⟨w7, by rw [w6]; omega, by rw [w4]; omega, by rw [w5]; omega⟩
      have ep : p + F.ps i = yR1 F i p + F.ps (F.fi i) + F.ps (F.se i) := by unfold yR1; omega
      by_cases hk : 3 ≤ F.kd i ∧ F.kd i ≤ 9
      · have hfn : F.fi i < F.n := by have := q5 hk; omega
        by_cases hk6 : F.kd i ≤ 6
        · have hsn : F.se i < F.n := by have := q7 ⟨hk.1, hk6⟩; omega
          obtain ⟨en1, en2⟩ := v7 ⟨hk.1, hk6⟩
          rw [show yPn (F.kd i) = 2 from if_pos ⟨hk.1, hk6⟩] at v3
          refine ih (F.fi i) (q + 1) (yT9 F i t) (c + 1) (yR1 F i p) G _ _ _ _ _ hfn d1 hFG v3 (by omega) en2.1 en2.2.2.2 (by omega) v4 (by omega) v5 hr1 (fun hb H hH => hbad (fun q => hb (hiff.mp q).2.1) H (fG.tr hH)) (fun ho H y3 y4 y5 y6 y7 f1 f2 f3 f4 f5 => ?_)
          have en3 := en1.fr (m := q + 1) (by omega) f5
          have fH : zGf gg H := fG.tr f1
          refine ih (F.se i) q (yT9 F i t) (c + 1 + F.cp (F.fi i)) (yR1 F i p + F.ps (F.fi i)) H _ _ _ _ _ hsn d2 (hF.fr (fun k k1 k2 => fH.1 k (by omega) (by omega)) (fH.2 1 (by omega) (by omega) (by omega))) f2 (by omega) en3.1 en3.2.2.2 (by omega) f3 ho.2.2.1 f4 ho.2.2.2 (fun hb J hJ => hbad (fun q => hb (hiff.mp q).2.2) J (fH.tr hJ)) (fun ho2 J y3 y4 y5 y6 y7 j1 j2 j3 j4 j5 => ?_)
          refine hok (hiff.mpr ⟨hl, ho, ho2⟩) J _ _ _ _ _ (fH.tr j1) j2 ?_ ?_ (fun x hx => ?_)
          · rw [j3]; congr 1; omega
          · rw [j4, ep]
          · rw [j5 x hx, f5 x (by omega), sG x hx]
        · have es : F.se i = 60 := q8 (by omega)
          have en2 := v8 (by omega)
          rw [show yPn (F.kd i) = 1 by unfold yPn; rw [if_neg (by omega), if_pos hk]] at v3
          refine ih (F.fi i) q (yT9 F i t) (c + 1) (yR1 F i p) G _ _ _ _ _ hfn d1 hFG v3 (by omega) en2.1 en2.2.2.2 (by omega) v4 (by omega) v5 hr1 (fun hb H hH => hbad (fun q => hb (hiff.mp q).2.1) H (fG.tr hH)) (fun ho H y3 y4 y5 y6 y7 f1 f2 f3 f4 f5 => ?_)
          have ho2 : yOkc F (F.se i) (yT9 F i t) (c + 1 + F.cp (F.fi i)) (yR1 F i p + F.ps (F.fi i)) := by rw [es]; exact o60 ho.2.2.1 ho.2.2.2
          refine hok (hiff.mpr ⟨hl, ho, ho2⟩) H _ _ _ _ _ (fG.tr f1) f2 ?_ ?_ (fun x hx => ?_)
          · rw [f3]; congr 1; rw [hcp, es, w4]; omega
          · rw [f4, ep, es, w5]; rfl
          · rw [f5 x hx, sG x hx]
      · have ef : F.fi i = 60 := q6 hk
        have es : F.se i = 60 := q8 (by omega)
        rw [show yPn (F.kd i) = 0 by unfold yPn; rw [if_neg (by omega), if_neg hk]] at v3
        have ho1 : yOkc F (F.fi i) (yT9 F i t) (c + 1) (yR1 F i p) := by rw [ef]; exact o60 (by omega) hr1
        have ho2 : yOkc F (F.se i) (yT9 F i t) (c + 1 + F.cp (F.fi i)) (yR1 F i p + F.ps (F.fi i)) := by rw [es]; exact o60 ho1.2.2.1 ho1.2.2.2
        refine hok (hiff.mpr ⟨hl, ho1, ho2⟩) G _ _ _ _ _ fG v3 ?_ ?_ sG
        · rw [v4]; congr 1; rw [hcp, ef, es, w4]
        · rw [v5, ep, ef, es, w5]; rfl
  have hd : F.dp i0 ≤ 20 := (w8 i0 hi0).2.2.2.2.2.2.2.2.2.2.2.1
  have k16 : ∀ G y3 y4 y5 y6 y7, yOkc F i0 0 0 0 → zGf g G → K 16 ([some (.ref 27), some (.int (nI i0)), some (.int 0), y3, y4, y5, y6, y7], [], G) := by
    intro G y3 y4 y5 y6 y7 ho hG
    refine b16 _ ?_
    simp only [bb_M_goes_16, oIload, oAload, oIstore, oInc, oConst, o2, oDup, oPop, oDupX1, oDupX2, oDup2, oIf, oIfN, oCmp, oCmpN, oSwitch, oGetR, oGetI, oPutI, oPutZ, oIald, oZald, oIast, oZast, oRetI, oRetZ, oRetV, oCall, oRecv, oMax, List.map_cons, List.map_nil, List.getElem?_cons_zero, List.getElem?_cons_succ, List.set_cons_zero, List.set_cons_succ, List.length_cons, List.length_nil, List.cons_append, List.nil_append, List.append_nil, List.take_succ_cons, List.take_zero, List.drop_succ_cons, List.drop_zero, List.reverse_cons, List.reverse_nil, Option.toList, Value.category, List.sum_cons, List.sum_nil, zk_0, zk_1, zk_12, zk_20, zk_23, zk_27, zn_2, zn_3, zn_4, zn_5, zn_6, zn_7, zn_8, zn_9, zn_10, zn_11, zn_13, zn_14, zn_15, zn_16, zn_17, zn_18, zn_19, zn_21, zn_22, zn_24, zn_25, zn_26, zn_28, zn_29, zn_30, zn_31, zn_32, zn_33, zn_34, zn_35, zn_36, zn_37, zn_38, zn_39, zn_40, zn_41, zn_42, zn_43, zn_44, zn_45, zn_46, Nat.reduceAdd, Nat.reduceSub, Nat.reduceLeDiff, true_and, and_true]
    exact ⟨by simp, h1 ho G hG⟩
  refine b0 _ ?_
  simp only [bb_M_goes_0, oIload, oAload, oIstore, oInc, oConst, o2, oDup, oPop, oDupX1, oDupX2, oDup2, oIf, oIfN, oCmp, oCmpN, oSwitch, oGetR, oGetI, oPutI, oPutZ, oIald, oZald, oIast, oZast, oRetI, oRetZ, oRetV, oCall, oRecv, oMax, List.map_cons, List.map_nil, List.getElem?_cons_zero, List.getElem?_cons_succ, List.set_cons_zero, List.set_cons_succ, List.length_cons, List.length_nil, List.cons_append, List.nil_append, List.append_nil, List.take_succ_cons, List.take_zero, List.drop_succ_cons, List.drop_zero, List.reverse_cons, List.reverse_nil, Option.toList, Value.category, List.sum_cons, List.sum_nil, zk_0, zk_1, zk_12, zk_20, zk_23, zk_27, zn_2, zn_3, zn_4, zn_5, zn_6, zn_7, zn_8, zn_9, zn_10, zn_11, zn_13, zn_14, zn_15, zn_16, zn_17, zn_18, zn_19, zn_21, zn_22, zn_24, zn_25, zn_26, zn_28, zn_29, zn_30, zn_31, zn_32, zn_33, zn_34, zn_35, zn_36, zn_37, zn_38, zn_39, zn_40, zn_41, zn_42, zn_43, zn_44, zn_45, zn_46, Nat.reduceAdd, Nat.reduceSub, Nat.reduceLeDiff, true_and, and_true]
  have z0 : zGf g (zU (zU (zU g 27 8 0) 27 10 0) 27 11 0) := ⟨fun k h1 _ => by rw [zU_ne _ _ _ _ h1, zU_ne _ _ _ _ h1, zU_ne _ _ _ _ h1], fun j h1 h2 h3 => by rw [zU_off _ _ _ _ h3, zU_off _ _ _ _ h2, zU_off _ _ _ _ h1]⟩
  refine sp_M_push (q := 0) (by rw [zU_off _ _ _ _ (by omega), zU_off _ _ _ _ (by omega), zU_at]; rfl) (by omega) ?_
  intro G p1 p2 p3 p4 p5 p6 p7 p8
  simp only [oIload, oAload, oIstore, oInc, oConst, o2, oDup, oPop, oDupX1, oDupX2, oDup2, oIf, oIfN, oCmp, oCmpN, oSwitch, oGetR, oGetI, oPutI, oPutZ, oIald, oZald, oIast, oZast, oRetI, oRetZ, oRetV, oCall, oRecv, oMax, List.map_cons, List.map_nil, List.getElem?_cons_zero, List.getElem?_cons_succ, List.set_cons_zero, List.set_cons_succ, List.length_cons, List.length_nil, List.cons_append, List.nil_append, List.append_nil, List.take_succ_cons, List.take_zero, List.drop_succ_cons, List.drop_zero, List.reverse_cons, List.reverse_nil, Option.toList, Value.category, List.sum_cons, List.sum_nil, zk_0, zk_1, zk_12, zk_20, zk_23, zk_27, zn_2, zn_3, zn_4, zn_5, zn_6, zn_7, zn_8, zn_9, zn_10, zn_11, zn_13, zn_14, zn_15, zn_16, zn_17, zn_18, zn_19, zn_21, zn_22, zn_24, zn_25, zn_26, zn_28, zn_29, zn_30, zn_31, zn_32, zn_33, zn_34, zn_35, zn_36, zn_37, zn_38, zn_39, zn_40, zn_41, zn_42, zn_43, zn_44, zn_45, zn_46, Nat.reduceAdd, Nat.reduceSub, Nat.reduceLeDiff, true_and, and_true]
  have fG : zGf g G := z0.tr ⟨p1, fun j h1 _ _ => p2 j h1⟩
  refine main 20 i0 0 0 0 0 G _ _ _ _ _ hi0 hd (hF.fr (fun k k1 k2 => fG.1 k (by omega) (by omega)) (fG.2 1 (by omega) (by omega) (by omega))) p3 (by omega) p5 p8 (by omega) ?_ (by omega) ?_ (by omega) (fun hb H hH => h0 hb H (fG.tr hH)) (fun ho H y3 y4 y5 y6 y7 f1 f2 f3 f4 f5 => ?_)
  · rw [p2 10 (by omega), zU_off _ _ _ _ (by omega), zU_at]; rfl
  · rw [p2 11 (by omega), zU_at]; rfl
  · refine b1 _ ?_
    simp only [bb_M_goes_1, oIload, oAload, oIstore, oInc, oConst, o2, oDup, oPop, oDupX1, oDupX2, oDup2, oIf, oIfN, oCmp, oCmpN, oSwitch, oGetR, oGetI, oPutI, oPutZ, oIald, oZald, oIast, oZast, oRetI, oRetZ, oRetV, oCall, oRecv, oMax, List.map_cons, List.map_nil, List.getElem?_cons_zero, List.getElem?_cons_succ, List.set_cons_zero, List.set_cons_succ, List.length_cons, List.length_nil, List.cons_append, List.nil_append, List.append_nil, List.take_succ_cons, List.take_zero, List.drop_succ_cons, List.drop_zero, List.reverse_cons, List.reverse_nil, Option.toList, Value.category, List.sum_cons, List.sum_nil, zk_0, zk_1, zk_12, zk_20, zk_23, zk_27, zn_2, zn_3, zn_4, zn_5, zn_6, zn_7, zn_8, zn_9, zn_10, zn_11, zn_13, zn_14, zn_15, zn_16, zn_17, zn_18, zn_19, zn_21, zn_22, zn_24, zn_25, zn_26, zn_28, zn_29, zn_30, zn_31, zn_32, zn_33, zn_34, zn_35, zn_36, zn_37, zn_38, zn_39, zn_40, zn_41, zn_42, zn_43, zn_44, zn_45, zn_46, Nat.reduceAdd, Nat.reduceSub, Nat.reduceLeDiff, true_and, and_true]
    rw [f2]
    exact ⟨fun _ => k16 _ _ _ _ _ _ ho (fG.tr f1), fun q => absurd (by decide) q⟩
