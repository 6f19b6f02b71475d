/-! the class makes its copies -/
def yEnc (x : Nat) (b : Bool) : Int32 := if b = true then nI x else nI x ^^^ (-1)
section SPW
variable {l : Launch} {d : Nat} {g : zM} {r : Option Value → zM → Prop}
set_option maxHeartbeats 4000000 in
theorem sp_P_numberOfCopy {k : Nat} {y : Int32} (hk : k ≤ 10) (h1 : k = 1 → r (some (.int (g 12 11))) (zU g 12 11 (g 12 11 + 1))) (h2 : ¬ k = 1 → ¬ yHs k → r (some (.int y)) g) (h3 : yHs k → ∃ z, z < 8 ∧ y = nI z ∧ r (some (.int (g 19 z))) g) : qs_P_numberOfCopy l (d + 2) [.ref 12, .int (nI k), .int y] g r := by
  have x1 : nI k = 1 ↔ k = 1 := nI_is 1 rfl (by omega) (by omega)
  have x10 : nI k = 10 ↔ k = 10 := nI_is 10 rfl (by omega) (by omega)
  refine ss_P_numberOfCopy fun K b0 b1 b2 b3 b4 => ?_
  have k2 : ¬ k = 1 → ¬ yHs k → K 2 ([some (.ref 12), some (.int (nI k)), some (.int y)], [], g) := by
    intro e1 e2
    refine b2 _ ?_
    simp only [bb_P_numberOfCopy_2, oIload, oAload, oIstore, oInc, oConst, o2, oDup, oPop, oDupX1, oDupX2, oDup2, oIf, oIfN, oCmp, oCmpN, oSwitch, oGetR, oGetI, oPutI, oPutZ, oIald, oZald, oIast, oZast, oRetI, oRetZ, oRetV, oCall, oRecv, oMax, List.map_cons, List.map_nil, List.getElem?_cons_zero, List.getElem?_cons_succ, List.set_cons_zero, List.set_cons_succ, List.length_cons, List.length_nil, List.cons_append, List.nil_append, List.append_nil, List.take_succ_cons, List.take_zero, List.drop_succ_cons, List.drop_zero, List.reverse_cons, List.reverse_nil, Option.toList, Value.category, List.sum_cons, List.sum_nil, zk_0, zk_1, zk_12, zk_20, zk_23, zk_27, zn_2, zn_3, zn_4, zn_5, zn_6, zn_7, zn_8, zn_9, zn_10, zn_11, zn_13, zn_14, zn_15, zn_16, zn_17, zn_18, zn_19, zn_21, zn_22, zn_24, zn_25, zn_26, zn_28, zn_29, zn_30, zn_31, zn_32, zn_33, zn_34, zn_35, zn_36, zn_37, zn_38, zn_39, zn_40, zn_41, zn_42, zn_43, zn_44, zn_45, zn_46, Nat.reduceAdd, Nat.reduceSub, Nat.reduceLeDiff, true_and, and_true]
    refine b4 _ ?_
    simp only [bb_P_numberOfCopy_4, oIload, oAload, oIstore, oInc, oConst, o2, oDup, oPop, oDupX1, oDupX2, oDup2, oIf, oIfN, oCmp, oCmpN, oSwitch, oGetR, oGetI, oPutI, oPutZ, oIald, oZald, oIast, oZast, oRetI, oRetZ, oRetV, oCall, oRecv, oMax, List.map_cons, List.map_nil, List.getElem?_cons_zero, List.getElem?_cons_succ, List.set_cons_zero, List.set_cons_succ, List.length_cons, List.length_nil, List.cons_append, List.nil_append, List.append_nil, List.take_succ_cons, List.take_zero, List.drop_succ_cons, List.drop_zero, List.reverse_cons, List.reverse_nil, Option.toList, Value.category, List.sum_cons, List.sum_nil, zk_0, zk_1, zk_12, zk_20, zk_23, zk_27, zn_2, zn_3, zn_4, zn_5, zn_6, zn_7, zn_8, zn_9, zn_10, zn_11, zn_13, zn_14, zn_15, zn_16, zn_17, zn_18, zn_19, zn_21, zn_22, zn_24, zn_25, zn_26, zn_28, zn_29, zn_30, zn_31, zn_32, zn_33, zn_34, zn_35, zn_36, zn_37, zn_38, zn_39, zn_40, zn_41, zn_42, zn_43, zn_44, zn_45, zn_46, Nat.reduceAdd, Nat.reduceSub, Nat.reduceLeDiff, true_and, and_true]
    exact h2 e1 e2
  refine b0 _ ?_
  simp only [bb_P_numberOfCopy_0, oIload, oAload, oIstore, oInc, oConst, o2, oDup, oPop, oDupX1, oDupX2, oDup2, oIf, oIfN, oCmp, oCmpN, oSwitch, oGetR, oGetI, oPutI, oPutZ, oIald, oZald, oIast, oZast, oRetI, oRetZ, oRetV, oCall, oRecv, oMax, List.map_cons, List.map_nil, List.getElem?_cons_zero, List.getElem?_cons_succ, List.set_cons_zero, List.set_cons_succ, List.length_cons, List.length_nil, List.cons_append, List.nil_append, List.append_nil, List.take_succ_cons, List.take_zero, List.drop_succ_cons, List.drop_zero, List.reverse_cons, List.reverse_nil, Option.toList, Value.category, List.sum_cons, List.sum_nil, zk_0, zk_1, zk_12, zk_20, zk_23, zk_27, zn_2, zn_3, zn_4, zn_5, zn_6, zn_7, zn_8, zn_9, zn_10, zn_11, zn_13, zn_14, zn_15, zn_16, zn_17, zn_18, zn_19, zn_21, zn_22, zn_24, zn_25, zn_26, zn_28, zn_29, zn_30, zn_31, zn_32, zn_33, zn_34, zn_35, zn_36, zn_37, zn_38, zn_39, zn_40, zn_41, zn_42, zn_43, zn_44, zn_45, zn_46, Nat.reduceAdd, Nat.reduceSub, Nat.reduceLeDiff, true_and, and_true]
  rw [x1]
  refine ⟨fun e => b1 _ ?_, fun e => h1 e⟩
  simp only [bb_P_numberOfCopy_1, oIload, oAload, oIstore, oInc, oConst, o2, oDup, oPop, oDupX1, oDupX2, oDup2, oIf, oIfN, oCmp, oCmpN, oSwitch, oGetR, oGetI, oPutI, oPutZ, oIald, oZald, oIast, oZast, oRetI, oRetZ, oRetV, oCall, oRecv, oMax, List.map_cons, List.map_nil, List.getElem?_cons_zero, List.getElem?_cons_succ, List.set_cons_zero, List.set_cons_succ, List.length_cons, List.length_nil, List.cons_append, List.nil_append, List.append_nil, List.take_succ_cons, List.take_zero, List.drop_succ_cons, List.drop_zero, List.reverse_cons, List.reverse_nil, Option.toList, Value.category, List.sum_cons, List.sum_nil, zk_0, zk_1, zk_12, zk_20, zk_23, zk_27, zn_2, zn_3, zn_4, zn_5, zn_6, zn_7, zn_8, zn_9, zn_10, zn_11, zn_13, zn_14, zn_15, zn_16, zn_17, zn_18, zn_19, zn_21, zn_22, zn_24, zn_25, zn_26, zn_28, zn_29, zn_30, zn_31, zn_32, zn_33, zn_34, zn_35, zn_36, zn_37, zn_38, zn_39, zn_40, zn_41, zn_42, zn_43, zn_44, zn_45, zn_46, Nat.reduceAdd, Nat.reduceSub, Nat.reduceLeDiff, true_and, and_true]
  rw [x10]
  refine ⟨fun e2 => k2 e (by unfold yHs; omega), fun e2 => ?_⟩
  refine sp_X_hasNumber ?_
  simp only [oIload, oAload, oIstore, oInc, oConst, o2, oDup, oPop, oDupX1, oDupX2, oDup2, oIf, oIfN, oCmp, oCmpN, oSwitch, oGetR, oGetI, oPutI, oPutZ, oIald, oZald, oIast, oZast, oRetI, oRetZ, oRetV, oCall, oRecv, oMax, List.map_cons, List.map_nil, List.getElem?_cons_zero, List.getElem?_cons_succ, List.set_cons_zero, List.set_cons_succ, List.length_cons, List.length_nil, List.cons_append, List.nil_append, List.append_nil, List.take_succ_cons, List.take_zero, List.drop_succ_cons, List.drop_zero, List.reverse_cons, List.reverse_nil, Option.toList, Value.category, List.sum_cons, List.sum_nil, zk_0, zk_1, zk_12, zk_20, zk_23, zk_27, zn_2, zn_3, zn_4, zn_5, zn_6, zn_7, zn_8, zn_9, zn_10, zn_11, zn_13, zn_14, zn_15, zn_16, zn_17, zn_18, zn_19, zn_21, zn_22, zn_24, zn_25, zn_26, zn_28, zn_29, zn_30, zn_31, zn_32, zn_33, zn_34, zn_35, zn_36, zn_37, zn_38, zn_39, zn_40, zn_41, zn_42, zn_43, zn_44, zn_45, zn_46, Nat.reduceAdd, Nat.reduceSub, Nat.reduceLeDiff, true_and, and_true]
  have hh : (nI k = 2 ∨ nI k = 6 ∨ nI k = 7 ∨ nI k = 8 ∨ nI k = 10) ↔ yNb k := by
    unfold yNb
    rw [show nI k = 2 ↔ k = 2 from nI_is 2 rfl (by omega) (by omega), show nI k = 6 ↔ k = 6 from nI_is 6 rfl (by omega) (by omega), show nI k = 7 ↔ k = 7 from nI_is 7 rfl (by omega) (by omega), show nI k = 8 ↔ k = 8 from nI_is 8 rfl (by omega) (by omega), x10]
  by_cases e3 : yNb k
  · rw [if_pos (hh.mpr e3)]
    refine ⟨fun _ => b3 _ ?_, fun q => absurd q (by decide)⟩
    obtain ⟨z, hz, rfl, h4⟩ := h3 (by unfold yNb at e3; unfold yHs; omega)
    simp only [bb_P_numberOfCopy_3, oIload, oAload, oIstore, oInc, oConst, o2, oDup, oPop, oDupX1, oDupX2, oDup2, oIf, oIfN, oCmp, oCmpN, oSwitch, oGetR, oGetI, oPutI, oPutZ, oIald, oZald, oIast, oZast, oRetI, oRetZ, oRetV, oCall, oRecv, oMax, List.map_cons, List.map_nil, List.getElem?_cons_zero, List.getElem?_cons_succ, List.set_cons_zero, List.set_cons_succ, List.length_cons, List.length_nil, List.cons_append, List.nil_append, List.append_nil, List.take_succ_cons, List.take_zero, List.drop_succ_cons, List.drop_zero, List.reverse_cons, List.reverse_nil, Option.toList, Value.category, List.sum_cons, List.sum_nil, zk_0, zk_1, zk_12, zk_20, zk_23, zk_27, zn_2, zn_3, zn_4, zn_5, zn_6, zn_7, zn_8, zn_9, zn_10, zn_11, zn_13, zn_14, zn_15, zn_16, zn_17, zn_18, zn_19, zn_21, zn_22, zn_24, zn_25, zn_26, zn_28, zn_29, zn_30, zn_31, zn_32, zn_33, zn_34, zn_35, zn_36, zn_37, zn_38, zn_39, zn_40, zn_41, zn_42, zn_43, zn_44, zn_45, zn_46, Nat.reduceAdd, Nat.reduceSub, Nat.reduceLeDiff, true_and, and_true]
    refine ⟨z, rfl, by omega, b4 _ ?_⟩
    simp only [bb_P_numberOfCopy_4, oIload, oAload, oIstore, oInc, oConst, o2, oDup, oPop, oDupX1, oDupX2, oDup2, oIf, oIfN, oCmp, oCmpN, oSwitch, oGetR, oGetI, oPutI, oPutZ, oIald, oZald, oIast, oZast, oRetI, oRetZ, oRetV, oCall, oRecv, oMax, List.map_cons, List.map_nil, List.getElem?_cons_zero, List.getElem?_cons_succ, List.set_cons_zero, List.set_cons_succ, List.length_cons, List.length_nil, List.cons_append, List.nil_append, List.append_nil, List.take_succ_cons, List.take_zero, List.drop_succ_cons, List.drop_zero, List.reverse_cons, List.reverse_nil, Option.toList, Value.category, List.sum_cons, List.sum_nil, zk_0, zk_1, zk_12, zk_20, zk_23, zk_27, zn_2, zn_3, zn_4, zn_5, zn_6, zn_7, zn_8, zn_9, zn_10, zn_11, zn_13, zn_14, zn_15, zn_16, zn_17, zn_18, zn_19, zn_21, zn_22, zn_24, zn_25, zn_26, zn_28, zn_29, zn_30, zn_31, zn_32, zn_33, zn_34, zn_35, zn_36, zn_37, zn_38, zn_39, zn_40, zn_41, zn_42, zn_43, zn_44, zn_45, zn_46, Nat.reduceAdd, Nat.reduceSub, Nat.reduceLeDiff, true_and, and_true]
    exact h4
  · rw [if_neg (fun q => e3 (hh.mp q))]
    refine ⟨fun q => absurd rfl q, fun _ => k2 e (by unfold yNb at e3; unfold yHs; omega)⟩
theorem sp_P_numC {k z : Nat} {y : Int32} (hk : k ≤ 10) (hy : yNb k → y = nI z) (hz : yHs k → z < 8) (h : ∀ v G, (k = 1 → v = g 12 11) → (yHs k → v = g 19 z) → (k = 10 → v = y) → (∀ a, a ≠ 12 → G a = g a) → (∀ j, j ≠ 11 → G 12 j = g 12 j) → G 12 11 = g 12 11 + (if k = 1 then 1 else 0) → r (some (.int v)) G) : qs_P_numberOfCopy l (d + 2) [.ref 12, .int (nI k), .int y] g r := by
  refine sp_P_numberOfCopy hk (fun e => ?_) (fun e1 e2 => ?_) (fun e => ⟨z, hz e, hy (by unfold yNb; unfold yHs at e; omega), ?_⟩)
  · exact h _ _ (fun _ => rfl) (fun q => by unfold yHs at q; omega) (fun q => by omega) (fun a ha => zU_ne _ _ _ _ ha) (fun j hj => zU_off _ _ _ _ hj) (by rw [zU_at, if_pos e])
  · exact h _ _ (fun q => absurd q e1) (fun q => absurd q e2) (fun _ => rfl) (fun _ _ => rfl) (fun _ _ => rfl) (by rw [if_neg e1, Int32.add_zero])
  · have e1 : ¬ k = 1 := by unfold yHs at e; omega
    exact h _ _ (fun q => absurd q e1) (fun _ => rfl) (fun q => by unfold yHs at e; omega) (fun _ _ => rfl) (fun _ _ => rfl) (by rw [if_neg e1, Int32.add_zero])
end SPW
/-- where the class stands before a copy -/
def zAC (g : zM) (S : yS) (e : Nat → Nat) (m : Nat) : Prop := g 12 10 = nI S.c ∧ g 12 11 = nI S.r ∧ g 12 12 = nI S.s ∧ g 12 13 = nI m ∧ ∀ j, j < 8 → g 19 j = nI (e j)
/-- a copy in the class's rows -/
def zRc (G : zM) (S : yS) (x : Nat) : Prop :=
  G 13 x = nI (S.kd x) ∧ ((S.kd x = 1 ∨ yNb (S.kd x)) → G 14 x = nI (S.nm x)) ∧ ((3 ≤ S.kd x ∧ S.kd x ≤ 9) → G 16 x = nI (S.fi x)) ∧ (¬ (3 ≤ S.kd x ∧ S.kd x ≤ 9) → G 16 x = -1) ∧ ((3 ≤ S.kd x ∧ S.kd x ≤ 6) → G 17 x = nI (S.se x)) ∧ (¬ (3 ≤ S.kd x ∧ S.kd x ≤ 6) → G 17 x = -1)
/-- what has not changed -/
def zAf (g G : zM) (c m : Nat) : Prop := (∀ k, (k < 12 ∨ 19 < k) → G k = g k) ∧ (∀ j, (j < 10 ∨ 13 < j) → G 12 j = g 12 j) ∧ (∀ k, 13 ≤ k → k ≤ 17 → ∀ x, x < c → G k x = g k x) ∧ ∀ j, j < m → G 18 j = g 18 j
/-- steps of the copies from c to c', in the places from m to m' -/
def zSp (G : zM) (c c' m m' : Nat) : Prop := (∀ j, m ≤ j → j < m' → ∃ x b, c ≤ x ∧ x < c' ∧ G 18 j = yEnc x b) ∧ ∀ x, c ≤ x → x < c' → ∀ b, ∃ j, m ≤ j ∧ j < m' ∧ G 18 j = yEnc x b
def zAPo (g G : zM) (S S' : yS) (e : Nat → Nat) (m m' : Nat) (y : Int32) : Prop :=
  zAf g G S.c m ∧ zAC G S' e m' ∧ (∀ x, S.c ≤ x → x < S'.c → zRc G S' x ∧ (x = S.c → G 15 x = y) ∧ (S.c < x → G 15 x = nI (S'.pa x))) ∧ zSp G S.c S'.c m m'
theorem zAf.rf (g : zM) (c m : Nat) : zAf g g c m := ⟨fun _ _ => rfl, fun _ _ => rfl, fun _ _ _ _ _ => rfl, fun _ _ => rfl⟩
theorem zAf.tr {g G H : zM} {c c' m m' : Nat} (h : zAf g G c m) (h2 : zAf G H c' m') (hc : c ≤ c') (hm : m ≤ m') : zAf g H c m :=
  ⟨fun k hk => (h2.1 k hk).trans (h.1 k hk), fun j hj => (h2.2.1 j hj).trans (h.2.1 j hj), fun k k1 k2 x hx => (h2.2.2.1 k k1 k2 x (by omega)).trans (h.2.2.1 k k1 k2 x hx), fun j hj => (h2.2.2.2 j (by omega)).trans (h.2.2.2 j hj)⟩
theorem zAf.put {g G : zM} {c m : Nat} (h : zAf g G c m) {a j : Nat} {v : Int32} (ha : (13 ≤ a ∧ a ≤ 17 ∧ c ≤ j) ∨ (a = 18 ∧ m ≤ j) ∨ a = 19 ∨ (a = 12 ∧ 10 ≤ j ∧ j ≤ 13)) : zAf g (zU G a j v) c m := by
  refine ⟨fun k hk => by rw [zU_ne _ _ _ _ (by omega)]; exact h.1 k hk, fun i hi => ?_, fun k k1 k2 x hx => ?_, fun i hi => ?_⟩
  · by_cases e : a = 12
    · subst e; rw [zU_off _ _ _ _ (by omega)]; exact h.2.1 i hi
    · rw [zU_ne _ _ _ _ (by omega)]; exact h.2.1 i hi
  · by_cases e : a = k
    · subst e; rw [zU_off _ _ _ _ (by omega)]; exact h.2.2.1 a k1 k2 x hx
    · rw [zU_ne _ _ _ _ (by omega)]; exact h.2.2.1 k k1 k2 x hx
  · by_cases e : a = 18
    · subst e; rw [zU_off _ _ _ _ (by omega)]; exact h.2.2.2 i hi
    · rw [zU_ne _ _ _ _ (by omega)]; exact h.2.2.2 i hi
theorem zFcl.fr {g G : zM} {F : yF} (h : zFcl g F) (hg : ∀ k, k < 12 → G k = g k) : zFcl G F := by
  unfold zFcl at h ⊢
  rw [hg 1 (by omega), hg 2 (by omega), hg 3 (by omega), hg 4 (by omega), hg 5 (by omega), hg 6 (by omega), hg 7 (by omega), hg 8 (by omega), hg 9 (by omega), hg 10 (by omega), hg 11 (by omega)]
  exact h
theorem yBld_pa {F : yF} (hw : yFw F) (N i o w : Nat) (e : Nat → Nat) (S : yS) (hi : i < F.n ∨ i = 60) (hd : F.dp i ≤ N) (hx : S.c < (yBld F N i o w e S).c) : (yBld F N i o w e S).pa S.c = o := by
  obtain ⟨w1, ⟨w2, w3, w4, w5, w6, w7⟩, w8⟩ := id hw
  rcases hi with hi | rfl
  · cases N with
    | zero => have := hw.dp1 hi; omega
    | succ N =>
      obtain ⟨p1, p2⟩ := hw.part hi
      obtain ⟨d1, d2⟩ := hw.deep hi hd
      rw [yBld_s F (by omega)]
      have ca := yBld_cnt hw N (F.fi i) S.c 0 (yEnv F i e S) (yNew F i o w e S) p1 d1
      have z1 : (yNew F i o w e S).c = S.c + 1 := rfl
      have y3 : (yNew F i o w e S).pa S.c = o := yPut_at _ _ _
      generalize yNew F i o w e S = S1 at *
      generalize yBld F N (F.fi i) S.c 0 (yEnv F i e S) S1 = S2 at *
      have cb := yBld_cnt hw N (F.se i) S.c 1 (yEnv F i e S) S2 p2 d2
      rw [(cb.2.2.2.2 S.c (by omega)).2.2.1, (ca.2.2.2.2 S.c (by omega)).2.2.1, y3]
  · rw [yBld_60] at hx; omega
theorem zRc.up {G H : zM} {S S' : yS} {x : Nat} (h : zRc G S x) (hg : ∀ k, 13 ≤ k → k ≤ 17 → H k x = G k x) (hS : S'.kd x = S.kd x ∧ S'.nm x = S.nm x ∧ S'.pa x = S.pa x ∧ S'.fi x = S.fi x ∧ S'.se x = S.se x ∧ S'.sn x = S.sn x ∧ S'.sl x = S.sl x) : zRc H S' x := by
  obtain ⟨a1, a2, a3, a4, a5, a6, a7⟩ := hS
  unfold zRc at h ⊢
  rw [hg 13 (by omega) (by omega), hg 14 (by omega) (by omega), hg 16 (by omega) (by omega), hg 17 (by omega) (by omega), a1, a2, a4, a5]
  exact h
set_option maxHeartbeats 8000000 in
set_option maxRecDepth 20000 in
theorem sp_P_addCopy {l : Launch} {d : Nat} {F : yF} (hw : yFw F) : ∀ (N i o w : Nat) (e : Nat → Nat) (S : yS) (m : Nat) (y : Int32) (g : zM) (r : Option Value → zM → Prop), (i < F.n ∨ i = 60) → F.dp i ≤ N → zFcl g F → zAC g S e m → S.c + F.cp i ≤ 300 → S.r + F.ps i ≤ 60 → m ≤ 2 * S.c → S.s ≤ 8 + S.c →
    (∀ G, zAPo g G S (yBld F N i o w e S) e m (m + 2 * F.cp i) y → r (some (.int (if i < 60 then nI S.c else -1))) G) → qs_P_addCopy l (d + N + 3) [.ref 12, .ref 1, .int (pI i), .int y] g r := by
  obtain ⟨w1, ⟨w2, w3, w4, w5, w6, w7⟩, w8⟩ := id hw
  have h60 : ∀ (d N o w : Nat) (e : Nat → Nat) (S : yS) (m : Nat) (y : Int32) (g : zM) (r : Option Value → zM → Prop), zFcl g F → zAC g S e m → (∀ G, zAPo g G S (yBld F N 60 o w e S) e m (m + 2 * F.cp 60) y → r (some (.int (if 60 < 60 then nI S.c else -1))) G) → qs_P_addCopy l (d + 2) [.ref 12, .ref 1, .int (pI 60), .int y] g r := by
    intro d N o w e S m y g r hF hA h
    refine ss_P_addCopy fun K b0 b1 b2 b3 b4 b5 => ?_
    refine b0 _ ?_
    simp only [bb_P_addCopy_0, oIload, oAload, oIstore, oInc, oConst, o2, oDup, oPop, oDupX1, oDupX2, oDup2, oIf, oIfN, oCmp, oCmpN, oSwitch, oGetR, oGetI, oPutI, oPutZ, oIald, oZald, oIast, oZast, oRetI, oRetZ, oRetV, oCall, oRecv, oMax, List.map_cons, List.map_nil, List.getElem?_cons_zero, List.getElem?_cons_succ, List.set_cons_zero, List.set_cons_succ, List.length_cons, List.length_nil, List.cons_append, List.nil_append, List.append_nil, List.take_succ_cons, List.take_zero, List.drop_succ_cons, List.drop_zero, List.reverse_cons, List.reverse_nil, Option.toList, Value.category, List.sum_cons, List.sum_nil, zk_0, zk_1, zk_12, zk_20, zk_23, zk_27, zn_2, zn_3, zn_4, zn_5, zn_6, zn_7, zn_8, zn_9, zn_10, zn_11, zn_13, zn_14, zn_15, zn_16, zn_17, zn_18, zn_19, zn_21, zn_22, zn_24, zn_25, zn_26, zn_28, zn_29, zn_30, zn_31, zn_32, zn_33, zn_34, zn_35, zn_36, zn_37, zn_38, zn_39, zn_40, zn_41, zn_42, zn_43, zn_44, zn_45, zn_46, Nat.reduceAdd, Nat.reduceSub, Nat.reduceLeDiff, true_and, and_true]
    refine sp_S_has ?_
    simp only [oIload, oAload, oIstore, oInc, oConst, o2, oDup, oPop, oDupX1, oDupX2, oDup2, oIf, oIfN, oCmp, oCmpN, oSwitch, oGetR, oGetI, oPutI, oPutZ, oIald, oZald, oIast, oZast, oRetI, oRetZ, oRetV, oCall, oRecv, oMax, List.map_cons, List.map_nil, List.getElem?_cons_zero, List.getElem?_cons_succ, List.set_cons_zero, List.set_cons_succ, List.length_cons, List.length_nil, List.cons_append, List.nil_append, List.append_nil, List.take_succ_cons, List.take_zero, List.drop_succ_cons, List.drop_zero, List.reverse_cons, List.reverse_nil, Option.toList, Value.category, List.sum_cons, List.sum_nil, zk_0, zk_1, zk_12, zk_20, zk_23, zk_27, zn_2, zn_3, zn_4, zn_5, zn_6, zn_7, zn_8, zn_9, zn_10, zn_11, zn_13, zn_14, zn_15, zn_16, zn_17, zn_18, zn_19, zn_21, zn_22, zn_24, zn_25, zn_26, zn_28, zn_29, zn_30, zn_31, zn_32, zn_33, zn_34, zn_35, zn_36, zn_37, zn_38, zn_39, zn_40, zn_41, zn_42, zn_43, zn_44, zn_45, zn_46, Nat.reduceAdd, Nat.reduceSub, Nat.reduceLeDiff, true_and, and_true]
    rw [if_pos ((pI_out hF.1 w1 (Or.inr rfl)).mpr rfl)]
    refine ⟨fun q => absurd rfl q, fun _ => ?_⟩
    refine h g ?_
    rw [yBld_60, w4]
    exact ⟨zAf.rf _ _ _, hA, fun x h1 h2 => by omega, fun j h1 h2 => by omega, fun x h1 h2 => by omega⟩
  intro N
  induction N with
  | zero =>
    rintro i o w e S m y g r (hi | rfl) hd hF hA hc hr hm hs h
    · have := hw.dp1 hi; omega
    · exact h60 (d + 1) 0 o w e S m y g r hF hA h
  | succ N ih =>
    rintro i o w e S m y g r (hi | rfl) hd hF hA hc hr hm hs h
    · have hi6 : i < 60 := by omega
      rw [if_pos hi6] at h
      obtain ⟨p1, p2⟩ := hw.part hi
      obtain ⟨d1, d2⟩ := hw.deep hi hd
      have hcp := hw.cps hi
      have hps := hw.pss hi
      obtain ⟨q1, q2, q3, q4, q5, q6, q7, q8, q9, -⟩ := w8 i hi
      obtain ⟨A1, A2, A3, A4, A5⟩ := hA
      obtain ⟨F1, F2⟩ := id hF
      obtain ⟨u2, u3, u4, u5, -⟩ := F2 i hi
      have x8 : nI (F.kd i) = 8 ↔ F.kd i = 8 := nI_is 8 rfl (by omega) (by omega)
      refine ss_P_addCopy fun K b0 b1 b2 b3 b4 b5 => ?_
      have k4 : ∀ (g2 : zM) (H : Int32), zAf g g2 S.c m → g2 12 10 = nI (S.c + 1) → g2 12 11 = nI S.r → g2 12 12 = nI (S.s + (if F.kd i = 8 then 1 else 0)) → g2 12 13 = nI m → (∀ j, j < 8 → g2 19 j = nI (yEnv F i e S j)) → (F.kd i = 8 → H = nI (e (F.nm i))) → K 4 ([some (.ref 12), some (.ref 1), some (.int (pI i)), some (.int y), some (.int (nI S.c)), some (.int (nI (F.kd i))), some (.int (g 3 i)), some (.int H)], [], g2) := by
        intro g2 H t0 t1 t2 t3 t4 t5 hH
        refine b4 _ ?_
        simp only [bb_P_addCopy_4, oIload, oAload, oIstore, oInc, oConst, o2, oDup, oPop, oDupX1, oDupX2, oDup2, oIf, oIfN, oCmp, oCmpN, oSwitch, oGetR, oGetI, oPutI, oPutZ, oIald, oZald, oIast, oZast, oRetI, oRetZ, oRetV, oCall, oRecv, oMax, List.map_cons, List.map_nil, List.getElem?_cons_zero, List.getElem?_cons_succ, List.set_cons_zero, List.set_cons_succ, List.length_cons, List.length_nil, List.cons_append, List.nil_append, List.append_nil, List.take_succ_cons, List.take_zero, List.drop_succ_cons, List.drop_zero, List.reverse_cons, List.reverse_nil, Option.toList, Value.category, List.sum_cons, List.sum_nil, zk_0, zk_1, zk_12, zk_20, zk_23, zk_27, zn_2, zn_3, zn_4, zn_5, zn_6, zn_7, zn_8, zn_9, zn_10, zn_11, zn_13, zn_14, zn_15, zn_16, zn_17, zn_18, zn_19, zn_21, zn_22, zn_24, zn_25, zn_26, zn_28, zn_29, zn_30, zn_31, zn_32, zn_33, zn_34, zn_35, zn_36, zn_37, zn_38, zn_39, zn_40, zn_41, zn_42, zn_43, zn_44, zn_45, zn_46, Nat.reduceAdd, Nat.reduceSub, Nat.reduceLeDiff, true_and, and_true]
        refine ⟨S.c, rfl, by omega, ?_⟩
        refine sp_P_numC (z := F.nm i) q1 u3 (fun q => q3 (by unfold yHs at q; omega)) ?_
        intro v g4 n1 n2 n3 n4 n5 n6
        simp only [oIload, oAload, oIstore, oInc, oConst, o2, oDup, oPop, oDupX1, oDupX2, oDup2, oIf, oIfN, oCmp, oCmpN, oSwitch, oGetR, oGetI, oPutI, oPutZ, oIald, oZald, oIast, oZast, oRetI, oRetZ, oRetV, oCall, oRecv, oMax, List.map_cons, List.map_nil, List.getElem?_cons_zero, List.getElem?_cons_succ, List.set_cons_zero, List.set_cons_succ, List.length_cons, List.length_nil, List.cons_append, List.nil_append, List.append_nil, List.take_succ_cons, List.take_zero, List.drop_succ_cons, List.drop_zero, List.reverse_cons, List.reverse_nil, Option.toList, Value.category, List.sum_cons, List.sum_nil, zk_0, zk_1, zk_12, zk_20, zk_23, zk_27, zn_2, zn_3, zn_4, zn_5, zn_6, zn_7, zn_8, zn_9, zn_10, zn_11, zn_13, zn_14, zn_15, zn_16, zn_17, zn_18, zn_19, zn_21, zn_22, zn_24, zn_25, zn_26, zn_28, zn_29, zn_30, zn_31, zn_32, zn_33, zn_34, zn_35, zn_36, zn_37, zn_38, zn_39, zn_40, zn_41, zn_42, zn_43, zn_44, zn_45, zn_46, Nat.reduceAdd, Nat.reduceSub, Nat.reduceLeDiff, true_and, and_true]
        refine ⟨S.c, rfl, by omega, S.c, rfl, by omega, ?_⟩
        have f4 : zAf g g4 S.c m := (t0.put (a := 13) (j := S.c) (v := nI (F.kd i)) (by omega)).tr (c' := S.c) (m' := m) ⟨fun k hk => n4 k (by omega), fun j hj => n5 j (by omega), fun k k1 k2 x hx => by rw [n4 k (by omega)], fun j hj => by rw [n4 18 (by omega)]⟩ (Nat.le_refl _) (Nat.le_refl _)
        have f5 : zAf g (zU (zU g4 14 S.c v) 15 S.c y) S.c m := (f4.put (by omega)).put (by omega)
        have c12 : ∀ j, zU (zU g4 14 S.c v) 15 S.c y 12 j = g4 12 j := fun j => by rw [zU_ne _ _ _ _ (by omega), zU_ne _ _ _ _ (by omega)]
        have d12 : ∀ j, j ≠ 11 → g4 12 j = g2 12 j := fun j hj => by rw [n5 j hj, zU_ne _ _ _ _ (by omega)]
        rw [c12, d12 13 (by omega), t4, nI_1]
        refine ⟨m, rfl, by omega, ?_⟩
        have f6 : zAf g (zU (zU (zU (zU g4 14 S.c v) 15 S.c y) 12 13 (nI (m + 1))) 18 m (nI S.c)) S.c m := (f5.put (by omega)).put (by omega)
        have z13 : zU (zU (zU (zU g4 14 S.c v) 15 S.c y) 12 13 (nI (m + 1))) 18 m (nI S.c) 13 S.c = nI (F.kd i) := by
          rw [zU_ne _ _ _ _ (by omega), zU_ne _ _ _ _ (by omega), zU_ne _ _ _ _ (by omega), zU_ne _ _ _ _ (by omega), n4 13 (by omega), zU_at]
        have z14 : zU (zU (zU (zU g4 14 S.c v) 15 S.c y) 12 13 (nI (m + 1))) 18 m (nI S.c) 14 S.c = v := by
          rw [zU_ne _ _ _ _ (by omega), zU_ne _ _ _ _ (by omega), zU_ne _ _ _ _ (by omega), zU_at]
        have z15 : zU (zU (zU (zU g4 14 S.c v) 15 S.c y) 12 13 (nI (m + 1))) 18 m (nI S.c) 15 S.c = y := by
          rw [zU_ne _ _ _ _ (by omega), zU_ne _ _ _ _ (by omega), zU_at]
        have z18 : zU (zU (zU (zU g4 14 S.c v) 15 S.c y) 12 13 (nI (m + 1))) 18 m (nI S.c) 18 m = nI S.c := zU_at _ _ _ _
        have hA6 : zAC (zU (zU (zU (zU g4 14 S.c v) 15 S.c y) 12 13 (nI (m + 1))) 18 m (nI S.c)) (yNew F i o w e S) (yEnv F i e S) (m + 1) := by
          refine ⟨?_, ?_, ?_, ?_, fun j hj => ?_⟩
          · rw [zU_ne _ _ _ _ (by omega), zU_off _ _ _ _ (by omega), c12, d12 10 (by omega), t1]; rfl
          · rw [zU_ne _ _ _ _ (by omega), zU_off _ _ _ _ (by omega), c12, n6, zU_ne _ _ _ _ (by omega), t2]
            show _ = nI (S.r + (if F.kd i = 1 then 1 else 0))
            rw [← nI_add]
            split <;> rfl
          · rw [zU_ne _ _ _ _ (by omega), zU_off _ _ _ _ (by omega), c12, d12 12 (by omega), t3]; rfl
          · rw [zU_ne _ _ _ _ (by omega), zU_at]
          · rw [zU_ne _ _ _ _ (by omega), zU_ne _ _ _ _ (by omega), zU_ne _ _ _ _ (by omega), zU_ne _ _ _ _ (by omega), n4 19 (by omega), zU_ne _ _ _ _ (by omega), t5 j hj]
        have hv : (F.kd i = 1 ∨ yNb (F.kd i)) → v = nI (yNum F i e S) := by
          intro q
          unfold yNum
          by_cases e1 : F.kd i = 1
          · rw [if_pos e1, n1 e1, zU_ne _ _ _ _ (by omega), t2]
          · rw [if_neg e1]
            by_cases e10 : F.kd i = 10
            · rw [if_pos e10, n3 e10]; exact u3 (by unfold yNb; omega)
            · have hh : yHs (F.kd i) := by unfold yNb at q; unfold yHs; omega
              rw [if_neg e10, n2 hh, zU_ne _ _ _ _ (by omega)]
              exact t5 _ (q3 (by unfold yHs at hh; omega))
        clear c12 d12 f5 f4 n4 n5 n6 n1 n2 n3 t0 t1 t2 t3 t4 t5
        generalize zU (zU (zU (zU g4 14 S.c v) 15 S.c y) 12 13 (nI (m + 1))) 18 m (nI S.c) = g6 at *
        clear g4 g2
        have hF6 : zFcl g6 F := hF.fr fun k hk => f6.1 k (by omega)
        refine ⟨i, pI_lt hi6, by omega, ?_⟩
        rw [f6.1 4 (by omega), u4]
        have l1 := yNew_low F i o w e S
        have zz1 : (yNew F i o w e S).c = S.c + 1 := rfl
        have zz2 : (yNew F i o w e S).s = S.s + (if F.kd i = 8 then 1 else 0) := rfl
        have zz3 : (yNew F i o w e S).r = S.r + (if F.kd i = 1 then 1 else 0) := rfl
        have y1 : (yNew F i o w e S).kd S.c = F.kd i := yPut_at _ _ _
        have y2 : (yNew F i o w e S).nm S.c = yNum F i e S := yPut_at _ _ _
        have y3 : (yNew F i o w e S).pa S.c = o := yPut_at _ _ _
        have y4 : (yNew F i o w e S).fi S.c = S.c + 1 := yPut_at _ _ _
        have y5 : (yNew F i o w e S).se S.c = S.c + 1 + F.cp (F.fi i) := yPut_at _ _ _
        rw [yBld_s F hi6] at h
        generalize yNew F i o w e S = S1 at *
        have hs1 : S1.s ≤ 8 + S1.c := by rw [zz1, zz2]; split <;> omega
        have ca := yBld_cnt hw N (F.fi i) S.c 0 (yEnv F i e S) S1 p1 d1
        have wa := yBld_pa hw N (F.fi i) S.c 0 (yEnv F i e S) S1 p1 d1
        refine ih (F.fi i) S.c 0 (yEnv F i e S) S1 (m + 1) (nI S.c) g6 _ p1 d1 hF6 hA6 (by omega) (by omega) (by omega) hs1 ?_
        generalize yBld F N (F.fi i) S.c 0 (yEnv F i e S) S1 = S2 at *
        obtain ⟨a1, a2, a3, a4, a5⟩ := ca
        intro G hG
        obtain ⟨G1, ⟨G2, G3, G4, G5, G6⟩, G7, G8⟩ := hG
        simp only [oIload, oAload, oIstore, oInc, oConst, o2, oDup, oPop, oDupX1, oDupX2, oDup2, oIf, oIfN, oCmp, oCmpN, oSwitch, oGetR, oGetI, oPutI, oPutZ, oIald, oZald, oIast, oZast, oRetI, oRetZ, oRetV, oCall, oRecv, oMax, List.map_cons, List.map_nil, List.getElem?_cons_zero, List.getElem?_cons_succ, List.set_cons_zero, List.set_cons_succ, List.length_cons, List.length_nil, List.cons_append, List.nil_append, List.append_nil, List.take_succ_cons, List.take_zero, List.drop_succ_cons, List.drop_zero, List.reverse_cons, List.reverse_nil, Option.toList, Value.category, List.sum_cons, List.sum_nil, zk_0, zk_1, zk_12, zk_20, zk_23, zk_27, zn_2, zn_3, zn_4, zn_5, zn_6, zn_7, zn_8, zn_9, zn_10, zn_11, zn_13, zn_14, zn_15, zn_16, zn_17, zn_18, zn_19, zn_21, zn_22, zn_24, zn_25, zn_26, zn_28, zn_29, zn_30, zn_31, zn_32, zn_33, zn_34, zn_35, zn_36, zn_37, zn_38, zn_39, zn_40, zn_41, zn_42, zn_43, zn_44, zn_45, zn_46, Nat.reduceAdd, Nat.reduceSub, Nat.reduceLeDiff, true_and, and_true]
        refine ⟨S.c, rfl, by omega, ?_⟩
        have f7 : zAf g (zU G 16 S.c (if F.fi i < 60 then nI S1.c else -1)) S.c m := (f6.tr G1 (by omega) (by omega)).put (by omega)
        refine ⟨i, pI_lt hi6, by omega, ?_⟩
        rw [f7.1 5 (by omega), u5]
        have hF7 := hF.fr (G := zU G 16 S.c (if F.fi i < 60 then nI S1.c else -1)) fun k hk => f7.1 k (by omega)
        have cb := yBld_cnt hw N (F.se i) S.c 1 (yEnv F i e S) S2 p2 d2
        have wb := yBld_pa hw N (F.se i) S.c 1 (yEnv F i e S) S2 p2 d2
        refine ih (F.se i) S.c 1 (yEnv F i e S) S2 (m + 1 + 2 * F.cp (F.fi i)) (nI S.c) _ _ p2 d2 hF7 ⟨?_, ?_, ?_, ?_, ?_⟩ (by omega) (by omega) (by omega) (by omega) ?_
        · rw [zU_ne _ _ _ _ (by omega)]; exact G2
        · rw [zU_ne _ _ _ _ (by omega)]; exact G3
        · rw [zU_ne _ _ _ _ (by omega)]; exact G4
        · rw [zU_ne _ _ _ _ (by omega)]; exact G5
        · rw [zU_ne _ _ _ _ (by omega)]; exact G6
        generalize yBld F N (F.se i) S.c 1 (yEnv F i e S) S2 = S3 at *
        obtain ⟨b1', b2', b3', b4', b5'⟩ := cb
        intro H2 hH2
        obtain ⟨R1, ⟨R2, R3, R4, R5, R6⟩, R7, R8⟩ := hH2
        simp only [oIload, oAload, oIstore, oInc, oConst, o2, oDup, oPop, oDupX1, oDupX2, oDup2, oIf, oIfN, oCmp, oCmpN, oSwitch, oGetR, oGetI, oPutI, oPutZ, oIald, oZald, oIast, oZast, oRetI, oRetZ, oRetV, oCall, oRecv, oMax, List.map_cons, List.map_nil, List.getElem?_cons_zero, List.getElem?_cons_succ, List.set_cons_zero, List.set_cons_succ, List.length_cons, List.length_nil, List.cons_append, List.nil_append, List.append_nil, List.take_succ_cons, List.take_zero, List.drop_succ_cons, List.drop_zero, List.reverse_cons, List.reverse_nil, Option.toList, Value.category, List.sum_cons, List.sum_nil, zk_0, zk_1, zk_12, zk_20, zk_23, zk_27, zn_2, zn_3, zn_4, zn_5, zn_6, zn_7, zn_8, zn_9, zn_10, zn_11, zn_13, zn_14, zn_15, zn_16, zn_17, zn_18, zn_19, zn_21, zn_22, zn_24, zn_25, zn_26, zn_28, zn_29, zn_30, zn_31, zn_32, zn_33, zn_34, zn_35, zn_36, zn_37, zn_38, zn_39, zn_40, zn_41, zn_42, zn_43, zn_44, zn_45, zn_46, Nat.reduceAdd, Nat.reduceSub, Nat.reduceLeDiff, true_and, and_true]
        refine ⟨S.c, rfl, by omega, ?_⟩
        rw [zU_ne _ _ _ _ (show (12 : Nat) ≠ 17 by omega), R5, nI_1]
        refine ⟨m + 1 + 2 * F.cp (F.fi i) + 2 * F.cp (F.se i), rfl, by omega, ?_⟩
        have fB := (((f7.tr R1 (by omega) (by omega)).put (a := 17) (j := S.c) (v := if F.se i < 60 then nI S2.c else -1) (by omega)).put (a := 12) (j := 13) (v := nI (m + 1 + 2 * F.cp (F.fi i) + 2 * F.cp (F.se i) + 1)) (by omega)).put (a := 18) (j := m + 1 + 2 * F.cp (F.fi i) + 2 * F.cp (F.se i)) (v := nI S.c ^^^ (-1)) (by omega)
        generalize hm3 : m + 1 + 2 * F.cp (F.fi i) + 2 * F.cp (F.se i) = m3 at *
        generalize hr1 : (if F.fi i < 60 then nI S1.c else -1) = res1 at *
        generalize hr2 : (if F.se i < 60 then nI S2.c else -1) = res2 at *
        have B12 : ∀ j, j ≠ 13 → zU (zU (zU H2 17 S.c res2) 12 13 (nI (m3 + 1))) 18 m3 (nI S.c ^^^ (-1)) 12 j = H2 12 j := fun j hj => by rw [zU_ne _ _ _ _ (by omega), zU_off _ _ _ _ hj, zU_ne _ _ _ _ (by omega)]
        have B13 : zU (zU (zU H2 17 S.c res2) 12 13 (nI (m3 + 1))) 18 m3 (nI S.c ^^^ (-1)) 12 13 = nI (m3 + 1) := by rw [zU_ne _ _ _ _ (by omega), zU_at]
        have B19 : zU (zU (zU H2 17 S.c res2) 12 13 (nI (m3 + 1))) 18 m3 (nI S.c ^^^ (-1)) 19 = H2 19 := by rw [zU_ne _ _ _ _ (by omega), zU_ne _ _ _ _ (by omega), zU_ne _ _ _ _ (by omega)]
        have B17 : zU (zU (zU H2 17 S.c res2) 12 13 (nI (m3 + 1))) 18 m3 (nI S.c ^^^ (-1)) 17 S.c = res2 := by rw [zU_ne _ _ _ _ (by omega), zU_ne _ _ _ _ (by omega), zU_at]
        have Bk : ∀ k, 13 ≤ k → k ≤ 17 → ∀ x, (k ≠ 17 ∨ x ≠ S.c) → zU (zU (zU H2 17 S.c res2) 12 13 (nI (m3 + 1))) 18 m3 (nI S.c ^^^ (-1)) k x = H2 k x := by
          intro k k1 k2 x hx
          rw [zU_ne _ _ _ _ (by omega), zU_ne _ _ _ _ (by omega)]
          by_cases e17 : k = 17
          · subst e17; rw [zU_off _ _ _ _ (by omega)]
          · rw [zU_ne _ _ _ _ e17]
        have B18 : ∀ j, j ≠ m3 → zU (zU (zU H2 17 S.c res2) 12 13 (nI (m3 + 1))) 18 m3 (nI S.c ^^^ (-1)) 18 j = H2 18 j := fun j hj => by rw [zU_off _ _ _ _ hj, zU_ne _ _ _ _ (by omega), zU_ne _ _ _ _ (by omega)]
        have B18' : zU (zU (zU H2 17 S.c res2) 12 13 (nI (m3 + 1))) 18 m3 (nI S.c ^^^ (-1)) 18 m3 = nI S.c ^^^ (-1) := zU_at _ _ _ _
        generalize zU (zU (zU H2 17 S.c res2) 12 13 (nI (m3 + 1))) 18 m3 (nI S.c ^^^ (-1)) = B at *
        have Hk : ∀ k, 13 ≤ k → k ≤ 17 → ∀ x, x < S2.c → (k ≠ 16 ∨ x ≠ S.c) → H2 k x = G k x := by
          intro k k1 k2 x hx hne
          rw [R1.2.2.1 k k1 k2 x hx]
          by_cases e16 : k = 16
          · subst e16; rw [zU_off _ _ _ _ (by omega)]
          · rw [zU_ne _ _ _ _ e16]
        have H16 : H2 16 S.c = res1 := by rw [R1.2.2.1 16 (by omega) (by omega) S.c (by omega), zU_at]
        have H18 : ∀ j, j < m + 1 + 2 * F.cp (F.fi i) → H2 18 j = G 18 j := fun j hj => by rw [R1.2.2.2 j hj, zU_ne _ _ _ _ (by omega)]
        have hm' : m + 2 * F.cp i = m3 + 1 := by omega
        have l13 : yLow S1 S3 := a5.tr b5' (by omega)
        have fin : ∀ Gf, (∀ k, k ≠ 19 → Gf k = B k) → (∀ j, j < 8 → Gf 19 j = nI (e j)) → zAf g Gf S.c m → zAPo g Gf S S3 e m (m + 2 * F.cp i) y := by
          intro Gf g1 g2 g3
          rw [hm']
          refine ⟨g3, ⟨?_, ?_, ?_, ?_, g2⟩, fun x hx hx2 => ?_, fun j j1 j2 => ?_, fun x hx hx2 b => ?_⟩
          · rw [g1 12 (by omega), B12 10 (by omega)]; exact R2
          · rw [g1 12 (by omega), B12 11 (by omega)]; exact R3
          · rw [g1 12 (by omega), B12 12 (by omega)]; exact R4
          · rw [g1 12 (by omega)]; exact B13
          · rcases Nat.lt_or_ge S.c x with hlt | hge
            · rcases Nat.lt_or_ge x S2.c with h2 | h2
              · obtain ⟨r1, r2, r3⟩ := G7 x (by omega) h2
                have ek : ∀ k, 13 ≤ k → k ≤ 17 → Gf k x = G k x := fun k k1 k2 => by
                  rw [g1 k (by omega), Bk k k1 k2 x (Or.inr (by omega)), Hk k k1 k2 x h2 (Or.inr (by omega))]
                refine ⟨r1.up ek (b5' x h2), fun e => by omega, fun _ => ?_⟩
                rw [ek 15 (by omega) (by omega), (b5' x h2).2.2.1]
                rcases Nat.lt_or_ge S1.c x with h3 | h3
                · exact r3 h3
                · obtain rfl : x = S1.c := by omega
                  rw [r2 rfl, wa (by omega)]
              · obtain ⟨r1, r2, r3⟩ := R7 x h2 hx2
                have ek : ∀ k, 13 ≤ k → k ≤ 17 → Gf k x = H2 k x := fun k k1 k2 => by
                  rw [g1 k (by omega), Bk k k1 k2 x (Or.inr (by omega))]
                refine ⟨r1.up ek ⟨rfl, rfl, rfl, rfl, rfl, rfl, rfl⟩, fun e => by omega, fun _ => ?_⟩
                rw [ek 15 (by omega) (by omega)]
                rcases Nat.lt_or_ge S2.c x with h3 | h3
                · exact r3 h3
                · obtain rfl : x = S2.c := by omega
                  rw [r2 rfl, wb (by omega)]
            · obtain rfl : x = S.c := by omega
              obtain ⟨s1, s2, s3, s4, s5, -⟩ := l13 S.c (by omega)
              have ek : ∀ k, 13 ≤ k → k ≤ 15 → Gf k S.c = g6 k S.c := fun k k1 k2 => by
                rw [g1 k (by omega), Bk k k1 (by omega) S.c (Or.inl (by omega)), Hk k k1 (by omega) S.c (by omega) (Or.inl (by omega)), G1.2.2.1 k k1 (by omega) S.c (by omega)]
              have e16 : Gf 16 S.c = res1 := by rw [g1 16 (by omega), Bk 16 (by omega) (by omega) S.c (Or.inl (by omega)), H16]
              have e17 : Gf 17 S.c = res2 := by rw [g1 17 (by omega), B17]
              refine ⟨?_, fun _ => by rw [ek 15 (by omega) (by omega), z15], fun h => by omega⟩
              unfold zRc
              rw [s1, s2, s4, s5, y1, y2, y4, y5, ek 13 (by omega) (by omega), ek 14 (by omega) (by omega), z13, z14, e16, e17]
              refine ⟨rfl, hv, fun q => ?_, fun q => ?_, fun q => ?_, fun q => ?_⟩
              · rw [← hr1, if_pos (by have := q5 q; omega), zz1]
              · rw [← hr1, if_neg (by have := q6 q; omega)]
              · rw [← hr2, if_pos (by have := q7 q; omega)]; congr 1; omega
              · rw [← hr2, if_neg (by have := q8 q; omega)]
          · rw [g1 18 (by omega)]
            rcases Nat.lt_or_ge j m3 with h3 | h3
            · rw [B18 j (by omega)]
              rcases Nat.lt_or_ge j (m + 1 + 2 * F.cp (F.fi i)) with h4 | h4
              · rw [H18 j h4]
                rcases Nat.lt_or_ge j (m + 1) with h5 | h5
                · obtain rfl : j = m := by omega
                  exact ⟨S.c, true, by omega, by omega, by rw [G1.2.2.2 j (by omega), z18]; rfl⟩
                · obtain ⟨x, b, e1, e2, e3⟩ := G8.1 j h5 (by omega)
                  exact ⟨x, b, by omega, by omega, e3⟩
              · obtain ⟨x, b, e1, e2, e3⟩ := R8.1 j h4 (by omega)
                exact ⟨x, b, by omega, by omega, e3⟩
            · obtain rfl : j = m3 := by omega
              exact ⟨S.c, false, by omega, by omega, B18'⟩
          · rcases Nat.lt_or_ge S.c x with hlt | hge
            · rcases Nat.lt_or_ge x S2.c with h2 | h2
              · obtain ⟨j, e1, e2, e3⟩ := G8.2 x (by omega) h2 b
                refine ⟨j, by omega, by omega, ?_⟩
                rw [g1 18 (by omega), B18 j (by omega), H18 j (by omega)]; exact e3
              · obtain ⟨j, e1, e2, e3⟩ := R8.2 x h2 hx2 b
                refine ⟨j, by omega, by omega, ?_⟩
                rw [g1 18 (by omega), B18 j (by omega)]; exact e3
            · obtain rfl : x = S.c := by omega
              cases b with
              | true => exact ⟨m, by omega, by omega, by rw [g1 18 (by omega), B18 m (by omega), H18 m (by omega), G1.2.2.2 m (by omega), z18]; rfl⟩
              | false => exact ⟨m3, by omega, by omega, by rw [g1 18 (by omega)]; exact B18'⟩
        have k5 : ∀ Gf, zAPo g Gf S S3 e m (m + 2 * F.cp i) y → K 5 ([some (.ref 12), some (.ref 1), some (.int (pI i)), some (.int y), some (.int (nI S.c)), some (.int (nI (F.kd i))), some (.int (g 3 i)), some (.int H)], [], Gf) := by
          intro Gf q
          refine b5 _ ?_
          simp only [bb_P_addCopy_5, oIload, oAload, oIstore, oInc, oConst, o2, oDup, oPop, oDupX1, oDupX2, oDup2, oIf, oIfN, oCmp, oCmpN, oSwitch, oGetR, oGetI, oPutI, oPutZ, oIald, oZald, oIast, oZast, oRetI, oRetZ, oRetV, oCall, oRecv, oMax, List.map_cons, List.map_nil, List.getElem?_cons_zero, List.getElem?_cons_succ, List.set_cons_zero, List.set_cons_succ, List.length_cons, List.length_nil, List.cons_append, List.nil_append, List.append_nil, List.take_succ_cons, List.take_zero, List.drop_succ_cons, List.drop_zero, List.reverse_cons, List.reverse_nil, Option.toList, Value.category, List.sum_cons, List.sum_nil, zk_0, zk_1, zk_12, zk_20, zk_23, zk_27, zn_2, zn_3, zn_4, zn_5, zn_6, zn_7, zn_8, zn_9, zn_10, zn_11, zn_13, zn_14, zn_15, zn_16, zn_17, zn_18, zn_19, zn_21, zn_22, zn_24, zn_25, zn_26, zn_28, zn_29, zn_30, zn_31, zn_32, zn_33, zn_34, zn_35, zn_36, zn_37, zn_38, zn_39, zn_40, zn_41, zn_42, zn_43, zn_44, zn_45, zn_46, Nat.reduceAdd, Nat.reduceSub, Nat.reduceLeDiff, true_and, and_true]
          exact h Gf q
        rw [x8]
        refine ⟨fun e8 => k5 _ (fin _ (fun _ _ => rfl) (fun j hj => ?_) fB), fun e8 => ?_⟩
        · rw [B19, R6 j hj]; unfold yEnv; rw [if_neg e8]
        · have e3 : g 3 i = nI (F.nm i) := u3 (by unfold yNb; omega)
          have z8 := q3 (by omega)
          refine ⟨F.nm i, e3, by omega, k5 _ (fin _ (fun k hk => zU_ne _ _ _ _ hk) (fun j hj => ?_) (fB.put (by omega)))⟩
          by_cases ej : j = F.nm i
          · subst ej; rw [zU_at, hH e8]
          · rw [zU_off _ _ _ _ ej, B19, R6 j hj]; unfold yEnv; rw [if_pos e8, yPut_ne _ _ ej]
      have k3 : ∀ (H : Int32) (y7 : Option Value), (F.kd i = 8 → H = nI (e (F.nm i))) → K 3 ([some (.ref 12), some (.ref 1), some (.int (pI i)), some (.int y), some (.int (nI S.c)), some (.int (nI (F.kd i))), some (.int (g 3 i)), y7], [.int H], zU g 12 10 (nI (S.c + 1))) := by
        intro H y7 hH
        have t0 : zAf g (zU g 12 10 (nI (S.c + 1))) S.c m := (zAf.rf g S.c m).put (by omega)
        refine b3 _ ?_
        simp only [bb_P_addCopy_3, oIload, oAload, oIstore, oInc, oConst, o2, oDup, oPop, oDupX1, oDupX2, oDup2, oIf, oIfN, oCmp, oCmpN, oSwitch, oGetR, oGetI, oPutI, oPutZ, oIald, oZald, oIast, oZast, oRetI, oRetZ, oRetV, oCall, oRecv, oMax, List.map_cons, List.map_nil, List.getElem?_cons_zero, List.getElem?_cons_succ, List.set_cons_zero, List.set_cons_succ, List.length_cons, List.length_nil, List.cons_append, List.nil_append, List.append_nil, List.take_succ_cons, List.take_zero, List.drop_succ_cons, List.drop_zero, List.reverse_cons, List.reverse_nil, Option.toList, Value.category, List.sum_cons, List.sum_nil, zk_0, zk_1, zk_12, zk_20, zk_23, zk_27, zn_2, zn_3, zn_4, zn_5, zn_6, zn_7, zn_8, zn_9, zn_10, zn_11, zn_13, zn_14, zn_15, zn_16, zn_17, zn_18, zn_19, zn_21, zn_22, zn_24, zn_25, zn_26, zn_28, zn_29, zn_30, zn_31, zn_32, zn_33, zn_34, zn_35, zn_36, zn_37, zn_38, zn_39, zn_40, zn_41, zn_42, zn_43, zn_44, zn_45, zn_46, Nat.reduceAdd, Nat.reduceSub, Nat.reduceLeDiff, true_and, and_true]
        rw [x8]
        refine ⟨fun e8 => ?_, fun e8 => ?_⟩
        · refine k4 _ _ t0 (zU_at _ _ _ _) ?_ ?_ ?_ (fun j hj => ?_) hH
          · rw [zU_off _ _ _ _ (by omega), A2]
          · rw [zU_off _ _ _ _ (by omega), A3, if_neg e8]; rfl
          · rw [zU_off _ _ _ _ (by omega), A4]
          · rw [zU_ne _ _ _ _ (by omega), A5 j hj]; unfold yEnv; rw [if_neg e8]
        · have e3 : g 3 i = nI (F.nm i) := u3 (by unfold yNb; omega)
          have z8 := q3 (by omega)
          have e12 : zU g 12 10 (nI (S.c + 1)) 12 12 = nI S.s := by rw [zU_off _ _ _ _ (by omega), A3]
          refine ⟨F.nm i, e3, by omega, ?_⟩
          rw [e12, nI_1]
          refine k4 _ _ ((t0.put (by omega)).put (by omega)) ?_ ?_ ?_ ?_ (fun j hj => ?_) hH
          · rw [zU_ne _ _ _ _ (by omega), zU_off _ _ _ _ (by omega), zU_at]
          · rw [zU_ne _ _ _ _ (by omega), zU_off _ _ _ _ (by omega), zU_off _ _ _ _ (by omega), A2]
          · rw [zU_ne _ _ _ _ (by omega), zU_at, if_pos e8]
          · rw [zU_ne _ _ _ _ (by omega), zU_off _ _ _ _ (by omega), zU_off _ _ _ _ (by omega), A4]
          · unfold yEnv; rw [if_pos e8]
            by_cases ej : j = F.nm i
            · subst ej; rw [zU_at, yPut_at]
            · rw [zU_off _ _ _ _ ej, yPut_ne _ _ ej, zU_ne _ _ _ _ (by omega), zU_ne _ _ _ _ (by omega), A5 j hj]
      refine b0 _ ?_
      simp only [bb_P_addCopy_0, oIload, oAload, oIstore, oInc, oConst, o2, oDup, oPop, oDupX1, oDupX2, oDup2, oIf, oIfN, oCmp, oCmpN, oSwitch, oGetR, oGetI, oPutI, oPutZ, oIald, oZald, oIast, oZast, oRetI, oRetZ, oRetV, oCall, oRecv, oMax, List.map_cons, List.map_nil, List.getElem?_cons_zero, List.getElem?_cons_succ, List.set_cons_zero, List.set_cons_succ, List.length_cons, List.length_nil, List.cons_append, List.nil_append, List.append_nil, List.take_succ_cons, List.take_zero, List.drop_succ_cons, List.drop_zero, List.reverse_cons, List.reverse_nil, Option.toList, Value.category, List.sum_cons, List.sum_nil, zk_0, zk_1, zk_12, zk_20, zk_23, zk_27, zn_2, zn_3, zn_4, zn_5, zn_6, zn_7, zn_8, zn_9, zn_10, zn_11, zn_13, zn_14, zn_15, zn_16, zn_17, zn_18, zn_19, zn_21, zn_22, zn_24, zn_25, zn_26, zn_28, zn_29, zn_30, zn_31, zn_32, zn_33, zn_34, zn_35, zn_36, zn_37, zn_38, zn_39, zn_40, zn_41, zn_42, zn_43, zn_44, zn_45, zn_46, Nat.reduceAdd, Nat.reduceSub, Nat.reduceLeDiff, true_and, and_true]
      refine sp_S_has ?_
      simp only [oIload, oAload, oIstore, oInc, oConst, o2, oDup, oPop, oDupX1, oDupX2, oDup2, oIf, oIfN, oCmp, oCmpN, oSwitch, oGetR, oGetI, oPutI, oPutZ, oIald, oZald, oIast, oZast, oRetI, oRetZ, oRetV, oCall, oRecv, oMax, List.map_cons, List.map_nil, List.getElem?_cons_zero, List.getElem?_cons_succ, List.set_cons_zero, List.set_cons_succ, List.length_cons, List.length_nil, List.cons_append, List.nil_append, List.append_nil, List.take_succ_cons, List.take_zero, List.drop_succ_cons, List.drop_zero, List.reverse_cons, List.reverse_nil, Option.toList, Value.category, List.sum_cons, List.sum_nil, zk_0, zk_1, zk_12, zk_20, zk_23, zk_27, zn_2, zn_3, zn_4, zn_5, zn_6, zn_7, zn_8, zn_9, zn_10, zn_11, zn_13, zn_14, zn_15, zn_16, zn_17, zn_18, zn_19, zn_21, zn_22, zn_24, zn_25, zn_26, zn_28, zn_29, zn_30, zn_31, zn_32, zn_33, zn_34, zn_35, zn_36, zn_37, zn_38, zn_39, zn_40, zn_41, zn_42, zn_43, zn_44, zn_45, zn_46, Nat.reduceAdd, Nat.reduceSub, Nat.reduceLeDiff, true_and, and_true]
      rw [if_neg (fun q => by have := (pI_out F1 w1 (Or.inl hi)).mp q; omega)]
      refine ⟨fun _ => b1 _ ?_, fun q => absurd q (by decide)⟩
      simp only [bb_P_addCopy_1, oIload, oAload, oIstore, oInc, oConst, o2, oDup, oPop, oDupX1, oDupX2, oDup2, oIf, oIfN, oCmp, oCmpN, oSwitch, oGetR, oGetI, oPutI, oPutZ, oIald, oZald, oIast, oZast, oRetI, oRetZ, oRetV, oCall, oRecv, oMax, List.map_cons, List.map_nil, List.getElem?_cons_zero, List.getElem?_cons_succ, List.set_cons_zero, List.set_cons_succ, List.length_cons, List.length_nil, List.cons_append, List.nil_append, List.append_nil, List.take_succ_cons, List.take_zero, List.drop_succ_cons, List.drop_zero, List.reverse_cons, List.reverse_nil, Option.toList, Value.category, List.sum_cons, List.sum_nil, zk_0, zk_1, zk_12, zk_20, zk_23, zk_27, zn_2, zn_3, zn_4, zn_5, zn_6, zn_7, zn_8, zn_9, zn_10, zn_11, zn_13, zn_14, zn_15, zn_16, zn_17, zn_18, zn_19, zn_21, zn_22, zn_24, zn_25, zn_26, zn_28, zn_29, zn_30, zn_31, zn_32, zn_33, zn_34, zn_35, zn_36, zn_37, zn_38, zn_39, zn_40, zn_41, zn_42, zn_43, zn_44, zn_45, zn_46, Nat.reduceAdd, Nat.reduceSub, Nat.reduceLeDiff, true_and, and_true]
      rw [A1, nI_1]
      refine ⟨i, pI_lt hi6, by omega, i, pI_lt hi6, by omega, ?_⟩
      rw [zU_ne _ _ _ _ (show (2 : Nat) ≠ 12 by omega), zU_ne _ _ _ _ (show (3 : Nat) ≠ 12 by omega), u2, x8]
      refine ⟨fun e8 => b2 _ ?_, fun e8 => ?_⟩
      · simp only [bb_P_addCopy_2, oIload, oAload, oIstore, oInc, oConst, o2, oDup, oPop, oDupX1, oDupX2, oDup2, oIf, oIfN, oCmp, oCmpN, oSwitch, oGetR, oGetI, oPutI, oPutZ, oIald, oZald, oIast, oZast, oRetI, oRetZ, oRetV, oCall, oRecv, oMax, List.map_cons, List.map_nil, List.getElem?_cons_zero, List.getElem?_cons_succ, List.set_cons_zero, List.set_cons_succ, List.length_cons, List.length_nil, List.cons_append, List.nil_append, List.append_nil, List.take_succ_cons, List.take_zero, List.drop_succ_cons, List.drop_zero, List.reverse_cons, List.reverse_nil, Option.toList, Value.category, List.sum_cons, List.sum_nil, zk_0, zk_1, zk_12, zk_20, zk_23, zk_27, zn_2, zn_3, zn_4, zn_5, zn_6, zn_7, zn_8, zn_9, zn_10, zn_11, zn_13, zn_14, zn_15, zn_16, zn_17, zn_18, zn_19, zn_21, zn_22, zn_24, zn_25, zn_26, zn_28, zn_29, zn_30, zn_31, zn_32, zn_33, zn_34, zn_35, zn_36, zn_37, zn_38, zn_39, zn_40, zn_41, zn_42, zn_43, zn_44, zn_45, zn_46, Nat.reduceAdd, Nat.reduceSub, Nat.reduceLeDiff, true_and, and_true]
        exact k3 _ _ (fun q => absurd q e8)
      · have e3 : g 3 i = nI (F.nm i) := u3 (by unfold yNb; omega)
        have z8 := q3 (by omega)
        refine ⟨F.nm i, e3, by omega, ?_⟩
        exact k3 _ _ (fun _ => by rw [zU_ne _ _ _ _ (by omega), A5 _ z8])
    · exact h60 (d + N + 2) (N + 1) o w e S m y g r hF hA h
