/-! the reference copies one statement -/
section SPD
variable {l : Launch} {d : Nat} {g : zM} {r : Option Value → zM → Prop}
set_option maxHeartbeats 4000000 in
theorem sp_M_push {q : Nat} {x1 x2 x3 x4 : Int32} (hq : g 27 8 = nI q) (hq6 : q < 64) (h : ∀ G, (∀ k, k ≠ 27 → k ≠ 34 → G k = g k) → (∀ j, j ≠ 8 → G 27 j = g 27 j) → G 27 8 = nI (q + 1) → (∀ x, x < 4 * q → G 34 x = g 34 x) → G 34 (4 * q) = x1 → G 34 (4 * q + 1) = x2 → G 34 (4 * q + 2) = x3 → G 34 (4 * q + 3) = x4 → r none G) : qs_M_push l (d + 1) [.ref 27, .int x1, .int x2, .int x3, .int x4] g r := by
  have e4 : (4 : Int32) * nI q = nI (4 * q) := pk_mul 4 q
  have a1 : nI (4 * q) + 1 = nI (4 * q + 1) := nI_add _ 1
  have a2 : nI (4 * q) + 2 = nI (4 * q + 2) := nI_add _ 2
  have a3 : nI (4 * q) + 3 = nI (4 * q + 3) := nI_add _ 3
  refine ss_M_push fun K b0 => ?_
  refine b0 _ ?_
  simp only [bb_M_push_0, oIload, oAload, oIstore, oInc, oConst, o2, oDup, oPop, oDupX1, oDupX2, oDup2, oIf, oIfN, oCmp, oCmpN, oSwitch, oGetR, oGetI, oPutI, oPutZ, oIald, oZald, oIast, oZast, oRetI, oRetZ, oRetV, oCall, oRecv, oMax, List.map_cons, List.map_nil, List.getElem?_cons_zero, List.getElem?_cons_succ, List.set_cons_zero, List.set_cons_succ, List.length_cons, List.length_nil, List.cons_append, List.nil_append, List.append_nil, List.take_succ_cons, List.take_zero, List.drop_succ_cons, List.drop_zero, List.reverse_cons, List.reverse_nil, Option.toList, Value.category, List.sum_cons, List.sum_nil, zk_0, zk_1, zk_12, zk_20, zk_23, zk_27, zn_2, zn_3, zn_4, zn_5, zn_6, zn_7, zn_8, zn_9, zn_10, zn_11, zn_13, zn_14, zn_15, zn_16, zn_17, zn_18, zn_19, zn_21, zn_22, zn_24, zn_25, zn_26, zn_28, zn_29, zn_30, zn_31, zn_32, zn_33, zn_34, zn_35, zn_36, zn_37, zn_38, zn_39, zn_40, zn_41, zn_42, zn_43, zn_44, zn_45, zn_46, Nat.reduceAdd, Nat.reduceSub, Nat.reduceLeDiff, true_and, and_true]
  rw [hq, e4]
  refine ⟨4 * q, rfl, by omega, ?_⟩
  rw [zU_ne _ _ _ _ (by omega), hq, e4, a1]
  refine ⟨4 * q + 1, rfl, by omega, ?_⟩
  rw [zU_ne _ _ _ _ (by omega), zU_ne _ _ _ _ (by omega), hq, e4, a2]
  refine ⟨4 * q + 2, rfl, by omega, ?_⟩
  rw [zU_ne _ _ _ _ (by omega), zU_ne _ _ _ _ (by omega), zU_ne _ _ _ _ (by omega), hq, e4, a3]
  refine ⟨4 * q + 3, rfl, by omega, ?_⟩
  rw [zU_ne _ _ _ _ (by omega), zU_ne _ _ _ _ (by omega), zU_ne _ _ _ _ (by omega), zU_ne _ _ _ _ (by omega), hq, nI_1]
  refine h _ (fun k h1 h2 => ?_) (fun j hj => ?_) (zU_at _ _ _ _) (fun x hx => ?_) ?_ ?_ ?_ ?_
  · rw [zU_ne _ _ _ _ h1, zU_ne _ _ _ _ h2, zU_ne _ _ _ _ h2, zU_ne _ _ _ _ h2, zU_ne _ _ _ _ h2]
  · rw [zU_off _ _ _ _ hj, zU_ne _ _ _ _ (by omega), zU_ne _ _ _ _ (by omega), zU_ne _ _ _ _ (by omega), zU_ne _ _ _ _ (by omega)]
  · rw [zU_ne _ _ _ _ (by omega), zU_off _ _ _ _ (by omega), zU_off _ _ _ _ (by omega), zU_off _ _ _ _ (by omega), zU_off _ _ _ _ (by omega)]
  · rw [zU_ne _ _ _ _ (by omega), zU_off _ _ _ _ (by omega), zU_off _ _ _ _ (by omega), zU_off _ _ _ _ (by omega), zU_at]
  · rw [zU_ne _ _ _ _ (by omega), zU_off _ _ _ _ (by omega), zU_off _ _ _ _ (by omega), zU_at]
  · rw [zU_ne _ _ _ _ (by omega), zU_off _ _ _ _ (by omega), zU_at]
  · rw [zU_ne _ _ _ _ (by omega), zU_at]
/-- the rows 35 to 39 with a copy more -/
def zCr (g G : zM) (c i : Nat) (y : Int32) (w : Nat) : Prop :=
  G 35 c = nI i ∧ G 36 c = y ∧ G 37 c = nI w ∧ (∀ x, x ≠ c → G 35 x = g 35 x ∧ G 36 x = g 36 x ∧ G 37 x = g 37 x) ∧ (∀ o, y = nI o → o < c → w = 0 → G 38 o = nI c) ∧ (∀ x, ¬ (y = nI x ∧ w = 0) → G 38 x = g 38 x) ∧ (∀ o, y = nI o → o < c → w = 1 → G 39 o = nI c) ∧ ∀ x, ¬ (y = nI x ∧ w = 1) → G 39 x = g 39 x
theorem zCr.fr {g G H : zM} {c i : Nat} {y : Int32} {w : Nat} (h : zCr g G c i y w) (hg : ∀ k, 35 ≤ k → k ≤ 39 → H k = G k) : zCr g H c i y w := by
  unfold zCr at h ⊢
  rw [hg 35 (by omega) (by omega), hg 36 (by omega) (by omega), hg 37 (by omega) (by omega), hg 38 (by omega) (by omega), hg 39 (by omega) (by omega)]
  exact h
def yOut (g : zM) (c : Nat) (y : Int32) (e : Nat → Nat) : Prop := (y = -1 ∧ ∀ j, j < 8 → e j = j) ∨ ∃ o, o < c ∧ y = nI o ∧ ∀ j, j < 8 → g 40 (8 * o + j) = nI (e j)
set_option maxHeartbeats 4000000 in
set_option maxRecDepth 20000 in
theorem sp_M_copy {F : yF} {S : yS} {i w : Nat} {y : Int32} {e : Nat → Nat} (hF : zFre g F) (hw : yFw F) (hi : i < F.n) (hw1 : w ≤ 1) (hy : yOut g S.c y e) (hc : S.c < 300) (hr : g 27 21 = nI S.r) (hs : g 27 22 = nI S.s)
    (h : ∀ G, (∀ k, k ≠ 27 → (k < 35 ∨ 41 < k) → G k = g k) → (∀ j, j ≠ 21 → j ≠ 22 → G 27 j = g 27 j) → G 27 21 = nI (S.r + (if F.kd i = 1 then 1 else 0)) → G 27 22 = nI (S.s + (if F.kd i = 8 then 1 else 0)) → zCr g G S.c i y w → (∀ j, j < 8 → G 40 (8 * S.c + j) = nI (yEnv F i e S j)) → (∀ x, x < 8 * S.c → G 40 x = g 40 x) → (F.kd i = 1 → G 41 S.c = nI S.r) → (∀ x, x ≠ S.c → G 41 x = g 41 x) → r none G) : qs_M_copy l (d + 1) [.ref 27, .int (nI S.c), .int (nI i), .int y, .int (nI w)] g r := by
  have hn := hw.1
  obtain ⟨q1, q2, q3, q4, -⟩ := hw.2.2 i hi
  obtain ⟨u1, u2, -⟩ := hF.2 i hi
  have x8 : nI (F.kd i) = 8 ↔ F.kd i = 8 := nI_is 8 rfl (by omega) (by omega)
  have x1 : nI (F.kd i) = 1 ↔ F.kd i = 1 := nI_is 1 rfl (by omega) (by omega)
  have w0 : nI w = 0 ↔ w = 0 := nI_is 0 rfl (by omega) (by omega)
  have w1 : nI w = 1 ↔ w = 1 := nI_is 1 rfl (by omega) (by omega)
  refine ss_M_copy fun K b0 b1 b2 b3 b4 b5 b6 b7 b8 => ?_
  have k7 : ∀ (gg : zM) y5, (∀ k, k ≠ 27 → (k < 35 ∨ 40 < k) → gg k = g k) → (∀ j, j ≠ 22 → gg 27 j = g 27 j) → gg 27 22 = nI (S.s + (if F.kd i = 8 then 1 else 0)) → zCr g gg S.c i y w → (∀ j, j < 8 → gg 40 (8 * S.c + j) = nI (yEnv F i e S j)) → (∀ x, x < 8 * S.c → gg 40 x = g 40 x) → K 7 ([some (.ref 27), some (.int (nI S.c)), some (.int (nI i)), some (.int y), some (.int (nI w)), y5], [], gg) := by
    intro gg y5 g1 g2 g3 g4 g5 g6
    refine b7 _ ?_
    simp only [bb_M_copy_7, oIload, oAload, oIstore, oInc, oConst, o2, oDup, oPop, oDupX1, oDupX2, oDup2, oIf, oIfN, oCmp, oCmpN, oSwitch, oGetR, oGetI, oPutI, oPutZ, oIald, oZald, oIast, oZast, oRetI, oRetZ, oRetV, oCall, oRecv, oMax, List.map_cons, List.map_nil, List.getElem?_cons_zero, List.getElem?_cons_succ, List.set_cons_zero, List.set_cons_succ, List.length_cons, List.length_nil, List.cons_append, List.nil_append, List.append_nil, List.take_succ_cons, List.take_zero, List.drop_succ_cons, List.drop_zero, List.reverse_cons, List.reverse_nil, Option.toList, Value.category, List.sum_cons, List.sum_nil, zk_0, zk_1, zk_12, zk_20, zk_23, zk_27, zn_2, zn_3, zn_4, zn_5, zn_6, zn_7, zn_8, zn_9, zn_10, zn_11, zn_13, zn_14, zn_15, zn_16, zn_17, zn_18, zn_19, zn_21, zn_22, zn_24, zn_25, zn_26, zn_28, zn_29, zn_30, zn_31, zn_32, zn_33, zn_34, zn_35, zn_36, zn_37, zn_38, zn_39, zn_40, zn_41, zn_42, zn_43, zn_44, zn_45, zn_46, Nat.reduceAdd, Nat.reduceSub, Nat.reduceLeDiff, true_and, and_true]
    refine ⟨i, rfl, by omega, ?_⟩
    rw [g1 28 (by omega) (by omega), u1, x1]
    refine ⟨fun e1 => b8 _ ?_, fun e1 => ?_⟩
    · simp only [bb_M_copy_8, oIload, oAload, oIstore, oInc, oConst, o2, oDup, oPop, oDupX1, oDupX2, oDup2, oIf, oIfN, oCmp, oCmpN, oSwitch, oGetR, oGetI, oPutI, oPutZ, oIald, oZald, oIast, oZast, oRetI, oRetZ, oRetV, oCall, oRecv, oMax, List.map_cons, List.map_nil, List.getElem?_cons_zero, List.getElem?_cons_succ, List.set_cons_zero, List.set_cons_succ, List.length_cons, List.length_nil, List.cons_append, List.nil_append, List.append_nil, List.take_succ_cons, List.take_zero, List.drop_succ_cons, List.drop_zero, List.reverse_cons, List.reverse_nil, Option.toList, Value.category, List.sum_cons, List.sum_nil, zk_0, zk_1, zk_12, zk_20, zk_23, zk_27, zn_2, zn_3, zn_4, zn_5, zn_6, zn_7, zn_8, zn_9, zn_10, zn_11, zn_13, zn_14, zn_15, zn_16, zn_17, zn_18, zn_19, zn_21, zn_22, zn_24, zn_25, zn_26, zn_28, zn_29, zn_30, zn_31, zn_32, zn_33, zn_34, zn_35, zn_36, zn_37, zn_38, zn_39, zn_40, zn_41, zn_42, zn_43, zn_44, zn_45, zn_46, Nat.reduceAdd, Nat.reduceSub, Nat.reduceLeDiff, true_and, and_true]
      refine h gg (fun k h1 h2 => g1 k h1 (by omega)) (fun j h1 h2 => g2 j h2) ?_ g3 g4 g5 g6 (fun q => absurd q e1) (fun x _ => by rw [g1 41 (by omega) (by omega)])
      rw [g2 21 (by omega), hr, if_neg e1]; rfl
    · rw [g2 21 (by omega), hr]
      refine ⟨S.c, rfl, by omega, ?_⟩
      rw [zU_ne _ _ _ _ (show (27 : Nat) ≠ 41 by omega), g2 21 (by omega), hr, nI_1]
      refine b8 _ ?_
      simp only [bb_M_copy_8, oIload, oAload, oIstore, oInc, oConst, o2, oDup, oPop, oDupX1, oDupX2, oDup2, oIf, oIfN, oCmp, oCmpN, oSwitch, oGetR, oGetI, oPutI, oPutZ, oIald, oZald, oIast, oZast, oRetI, oRetZ, oRetV, oCall, oRecv, oMax, List.map_cons, List.map_nil, List.getElem?_cons_zero, List.getElem?_cons_succ, List.set_cons_zero, List.set_cons_succ, List.length_cons, List.length_nil, List.cons_append, List.nil_append, List.append_nil, List.take_succ_cons, List.take_zero, List.drop_succ_cons, List.drop_zero, List.reverse_cons, List.reverse_nil, Option.toList, Value.category, List.sum_cons, List.sum_nil, zk_0, zk_1, zk_12, zk_20, zk_23, zk_27, zn_2, zn_3, zn_4, zn_5, zn_6, zn_7, zn_8, zn_9, zn_10, zn_11, zn_13, zn_14, zn_15, zn_16, zn_17, zn_18, zn_19, zn_21, zn_22, zn_24, zn_25, zn_26, zn_28, zn_29, zn_30, zn_31, zn_32, zn_33, zn_34, zn_35, zn_36, zn_37, zn_38, zn_39, zn_40, zn_41, zn_42, zn_43, zn_44, zn_45, zn_46, Nat.reduceAdd, Nat.reduceSub, Nat.reduceLeDiff, true_and, and_true]
      refine h _ (fun k h1 h2 => ?_) (fun j h1 h2 => ?_) ?_ ?_ (g4.fr fun k k1 k2 => ?_) ?_ ?_ (fun _ => ?_) (fun x hx => ?_)
      · rw [zU_ne _ _ _ _ h1, zU_ne _ _ _ _ (by omega)]; exact g1 k h1 (by omega)
      · rw [zU_off _ _ _ _ h1, zU_ne _ _ _ _ (by omega)]; exact g2 j h2
      · rw [zU_at, if_pos e1]
      · rw [zU_off _ _ _ _ (by omega), zU_ne _ _ _ _ (by omega)]; exact g3
      · rw [zU_ne _ _ _ _ (by omega), zU_ne _ _ _ _ (by omega)]
      · rw [zU_ne _ _ _ _ (by omega), zU_ne _ _ _ _ (by omega)]; exact g5
      · rw [zU_ne _ _ _ _ (by omega), zU_ne _ _ _ _ (by omega)]; exact g6
      · rw [zU_ne _ _ _ _ (by omega), zU_at]
      · rw [zU_ne _ _ _ _ (by omega), zU_off _ _ _ _ hx, g1 41 (by omega) (by omega)]
  have k6 : ∀ (gg : zM) y5, (∀ k, (k < 35 ∨ 40 < k) → gg k = g k) → zCr g gg S.c i y w → (∀ j, j < 8 → gg 40 (8 * S.c + j) = nI (e j)) → (∀ x, x < 8 * S.c → gg 40 x = g 40 x) → K 6 ([some (.ref 27), some (.int (nI S.c)), some (.int (nI i)), some (.int y), some (.int (nI w)), y5], [], gg) := by
    intro gg y5 g1 g4 g5 g6
    refine b6 _ ?_
    simp only [bb_M_copy_6, oIload, oAload, oIstore, oInc, oConst, o2, oDup, oPop, oDupX1, oDupX2, oDup2, oIf, oIfN, oCmp, oCmpN, oSwitch, oGetR, oGetI, oPutI, oPutZ, oIald, oZald, oIast, oZast, oRetI, oRetZ, oRetV, oCall, oRecv, oMax, List.map_cons, List.map_nil, List.getElem?_cons_zero, List.getElem?_cons_succ, List.set_cons_zero, List.set_cons_succ, List.length_cons, List.length_nil, List.cons_append, List.nil_append, List.append_nil, List.take_succ_cons, List.take_zero, List.drop_succ_cons, List.drop_zero, List.reverse_cons, List.reverse_nil, Option.toList, Value.category, List.sum_cons, List.sum_nil, zk_0, zk_1, zk_12, zk_20, zk_23, zk_27, zn_2, zn_3, zn_4, zn_5, zn_6, zn_7, zn_8, zn_9, zn_10, zn_11, zn_13, zn_14, zn_15, zn_16, zn_17, zn_18, zn_19, zn_21, zn_22, zn_24, zn_25, zn_26, zn_28, zn_29, zn_30, zn_31, zn_32, zn_33, zn_34, zn_35, zn_36, zn_37, zn_38, zn_39, zn_40, zn_41, zn_42, zn_43, zn_44, zn_45, zn_46, Nat.reduceAdd, Nat.reduceSub, Nat.reduceLeDiff, true_and, and_true]
    refine ⟨i, rfl, by omega, ?_⟩
    rw [g1 28 (by omega), u1, x8]
    refine ⟨fun e8 => ?_, fun e8 => ?_⟩
    · refine k7 gg _ (fun k _ h2 => g1 k h2) (fun j _ => by rw [g1 27 (by omega)]) (by rw [g1 27 (by omega), hs, if_neg e8]; rfl) g4 (fun j hj => ?_) g6
      rw [g5 j hj]; unfold yEnv; rw [if_neg e8]
    · refine ⟨i, rfl, by omega, ?_⟩
      have z8 := q3 (by omega)
      have e29 : gg 29 i = nI (F.nm i) := by rw [g1 29 (by omega)]; exact u2 (by unfold yNb; omega)
      have ei : (8 : Int32) * nI S.c + gg 29 i = nI (8 * S.c + F.nm i) := by rw [e29, show (8 : Int32) * nI S.c = nI (8 * S.c) from pk_mul 8 _, nI_add]
      rw [ei, g1 27 (by omega), hs]
      refine ⟨8 * S.c + F.nm i, rfl, by omega, ?_⟩
      rw [zU_ne _ _ _ _ (show (27 : Nat) ≠ 40 by omega), g1 27 (by omega), hs, nI_1]
      refine k7 _ _ (fun k h1 h2 => ?_) (fun j hj => ?_) ?_ (g4.fr fun k k1 k2 => ?_) (fun j hj => ?_) (fun x hx => ?_)
      · rw [zU_ne _ _ _ _ h1, zU_ne _ _ _ _ (by omega)]; exact g1 k h2
      · rw [zU_off _ _ _ _ hj, zU_ne _ _ _ _ (by omega), g1 27 (by omega)]
      · rw [zU_at, if_pos e8]
      · rw [zU_ne _ _ _ _ (by omega), zU_ne _ _ _ _ (by omega)]
      · rw [zU_ne _ _ _ _ (by omega)]
        unfold yEnv; rw [if_pos e8]
        by_cases ej : j = F.nm i
        · subst ej; rw [zU_at, yPut_at]
        · rw [zU_off _ _ _ _ (by omega), yPut_ne _ _ ej]; exact g5 j hj
      · rw [zU_ne _ _ _ _ (by omega), zU_off _ _ _ _ (by omega)]; exact g6 x hx
  have loop : ∀ n j (gg : zM), j + n = 8 → (∀ k, (k < 35 ∨ 40 < k) → gg k = g k) → zCr g gg S.c i y w → (∀ q, q < j → gg 40 (8 * S.c + q) = nI (e q)) → (∀ x, x < 8 * S.c → gg 40 x = g 40 x) → K 3 ([some (.ref 27), some (.int (nI S.c)), some (.int (nI i)), some (.int y), some (.int (nI w)), some (.int (nI j))], [], gg) := by
    intro n
    induction n with
    | zero =>
      intro j gg hj g1 g4 g5 g6
      have : j = 8 := by omega
      subst this
      refine b3 _ ?_
      simp only [bb_M_copy_3, oIload, oAload, oIstore, oInc, oConst, o2, oDup, oPop, oDupX1, oDupX2, oDup2, oIf, oIfN, oCmp, oCmpN, oSwitch, oGetR, oGetI, oPutI, oPutZ, oIald, oZald, oIast, oZast, oRetI, oRetZ, oRetV, oCall, oRecv, oMax, List.map_cons, List.map_nil, List.getElem?_cons_zero, List.getElem?_cons_succ, List.set_cons_zero, List.set_cons_succ, List.length_cons, List.length_nil, List.cons_append, List.nil_append, List.append_nil, List.take_succ_cons, List.take_zero, List.drop_succ_cons, List.drop_zero, List.reverse_cons, List.reverse_nil, Option.toList, Value.category, List.sum_cons, List.sum_nil, zk_0, zk_1, zk_12, zk_20, zk_23, zk_27, zn_2, zn_3, zn_4, zn_5, zn_6, zn_7, zn_8, zn_9, zn_10, zn_11, zn_13, zn_14, zn_15, zn_16, zn_17, zn_18, zn_19, zn_21, zn_22, zn_24, zn_25, zn_26, zn_28, zn_29, zn_30, zn_31, zn_32, zn_33, zn_34, zn_35, zn_36, zn_37, zn_38, zn_39, zn_40, zn_41, zn_42, zn_43, zn_44, zn_45, zn_46, Nat.reduceAdd, Nat.reduceSub, Nat.reduceLeDiff, true_and, and_true]
      exact ⟨fun _ => k6 gg _ g1 g4 g5 g6, fun q => absurd (by decide) q⟩
    | succ n ih =>
      intro j gg hj g1 g4 g5 g6
      have ei : (8 : Int32) * nI S.c + nI j = nI (8 * S.c + j) := by rw [show (8 : Int32) * nI S.c = nI (8 * S.c) from pk_mul 8 _, nI_add]
      have k5 : ∀ v : Int32, v = nI (e j) → K 5 ([some (.ref 27), some (.int (nI S.c)), some (.int (nI i)), some (.int y), some (.int (nI w)), some (.int (nI j))], [.int v, .int (nI (8 * S.c + j)), .ref 40], gg) := by
        intro v hv
        refine b5 _ ?_
        simp only [bb_M_copy_5, oIload, oAload, oIstore, oInc, oConst, o2, oDup, oPop, oDupX1, oDupX2, oDup2, oIf, oIfN, oCmp, oCmpN, oSwitch, oGetR, oGetI, oPutI, oPutZ, oIald, oZald, oIast, oZast, oRetI, oRetZ, oRetV, oCall, oRecv, oMax, List.map_cons, List.map_nil, List.getElem?_cons_zero, List.getElem?_cons_succ, List.set_cons_zero, List.set_cons_succ, List.length_cons, List.length_nil, List.cons_append, List.nil_append, List.append_nil, List.take_succ_cons, List.take_zero, List.drop_succ_cons, List.drop_zero, List.reverse_cons, List.reverse_nil, Option.toList, Value.category, List.sum_cons, List.sum_nil, zk_0, zk_1, zk_12, zk_20, zk_23, zk_27, zn_2, zn_3, zn_4, zn_5, zn_6, zn_7, zn_8, zn_9, zn_10, zn_11, zn_13, zn_14, zn_15, zn_16, zn_17, zn_18, zn_19, zn_21, zn_22, zn_24, zn_25, zn_26, zn_28, zn_29, zn_30, zn_31, zn_32, zn_33, zn_34, zn_35, zn_36, zn_37, zn_38, zn_39, zn_40, zn_41, zn_42, zn_43, zn_44, zn_45, zn_46, Nat.reduceAdd, Nat.reduceSub, Nat.reduceLeDiff, true_and, and_true]
        refine ⟨8 * S.c + j, rfl, by omega, ?_⟩
        rw [nI_1]
        refine ih (j + 1) _ (by omega) (fun k hk => by rw [zU_ne _ _ _ _ (by omega)]; exact g1 k hk) (g4.fr fun k k1 k2 => by rw [zU_ne _ _ _ _ (by omega)]) (fun q hq => ?_) (fun x hx => by rw [zU_off _ _ _ _ (by omega)]; exact g6 x hx)
        by_cases e1 : q = j
        · subst e1; rw [zU_at, hv]
        · rw [zU_off _ _ _ _ (by omega)]; exact g5 q (by omega)
      refine b3 _ ?_
      simp only [bb_M_copy_3, oIload, oAload, oIstore, oInc, oConst, o2, oDup, oPop, oDupX1, oDupX2, oDup2, oIf, oIfN, oCmp, oCmpN, oSwitch, oGetR, oGetI, oPutI, oPutZ, oIald, oZald, oIast, oZast, oRetI, oRetZ, oRetV, oCall, oRecv, oMax, List.map_cons, List.map_nil, List.getElem?_cons_zero, List.getElem?_cons_succ, List.set_cons_zero, List.set_cons_succ, List.length_cons, List.length_nil, List.cons_append, List.nil_append, List.append_nil, List.take_succ_cons, List.take_zero, List.drop_succ_cons, List.drop_zero, List.reverse_cons, List.reverse_nil, Option.toList, Value.category, List.sum_cons, List.sum_nil, zk_0, zk_1, zk_12, zk_20, zk_23, zk_27, zn_2, zn_3, zn_4, zn_5, zn_6, zn_7, zn_8, zn_9, zn_10, zn_11, zn_13, zn_14, zn_15, zn_16, zn_17, zn_18, zn_19, zn_21, zn_22, zn_24, zn_25, zn_26, zn_28, zn_29, zn_30, zn_31, zn_32, zn_33, zn_34, zn_35, zn_36, zn_37, zn_38, zn_39, zn_40, zn_41, zn_42, zn_43, zn_44, zn_45, zn_46, Nat.reduceAdd, Nat.reduceSub, Nat.reduceLeDiff, true_and, and_true]
      refine ⟨fun q => absurd q (nI_ge (a := j) (b := 8) (by omega) (by omega)), fun _ => ?_⟩
      rw [ei]
      rcases hy with ⟨rfl, he⟩ | ⟨o, ho, rfl, he⟩
      · refine ⟨fun q => absurd q (by decide), fun _ => k5 _ (by rw [he j (by omega)])⟩
      · refine ⟨fun _ => b4 _ ?_, fun q => absurd (nI_pos' (by omega)) q⟩
        simp only [bb_M_copy_4, oIload, oAload, oIstore, oInc, oConst, o2, oDup, oPop, oDupX1, oDupX2, oDup2, oIf, oIfN, oCmp, oCmpN, oSwitch, oGetR, oGetI, oPutI, oPutZ, oIald, oZald, oIast, oZast, oRetI, oRetZ, oRetV, oCall, oRecv, oMax, List.map_cons, List.map_nil, List.getElem?_cons_zero, List.getElem?_cons_succ, List.set_cons_zero, List.set_cons_succ, List.length_cons, List.length_nil, List.cons_append, List.nil_append, List.append_nil, List.take_succ_cons, List.take_zero, List.drop_succ_cons, List.drop_zero, List.reverse_cons, List.reverse_nil, Option.toList, Value.category, List.sum_cons, List.sum_nil, zk_0, zk_1, zk_12, zk_20, zk_23, zk_27, zn_2, zn_3, zn_4, zn_5, zn_6, zn_7, zn_8, zn_9, zn_10, zn_11, zn_13, zn_14, zn_15, zn_16, zn_17, zn_18, zn_19, zn_21, zn_22, zn_24, zn_25, zn_26, zn_28, zn_29, zn_30, zn_31, zn_32, zn_33, zn_34, zn_35, zn_36, zn_37, zn_38, zn_39, zn_40, zn_41, zn_42, zn_43, zn_44, zn_45, zn_46, Nat.reduceAdd, Nat.reduceSub, Nat.reduceLeDiff, true_and, and_true]
        have eo : (8 : Int32) * nI o + nI j = nI (8 * o + j) := by rw [show (8 : Int32) * nI o = nI (8 * o) from pk_mul 8 _, nI_add]
        rw [eo]
        refine ⟨8 * o + j, rfl, by omega, ?_⟩
        exact k5 _ (by rw [g6 _ (by omega), he j (by omega)])
  have k2 : ∀ (gg : zM) y5, (∀ k, (k < 35 ∨ 39 < k) → gg k = g k) → zCr g gg S.c i y w → K 2 ([some (.ref 27), some (.int (nI S.c)), some (.int (nI i)), some (.int y), some (.int (nI w)), y5], [], gg) := by
    intro gg y5 g1 g4
    refine b2 _ ?_
    simp only [bb_M_copy_2, oIload, oAload, oIstore, oInc, oConst, o2, oDup, oPop, oDupX1, oDupX2, oDup2, oIf, oIfN, oCmp, oCmpN, oSwitch, oGetR, oGetI, oPutI, oPutZ, oIald, oZald, oIast, oZast, oRetI, oRetZ, oRetV, oCall, oRecv, oMax, List.map_cons, List.map_nil, List.getElem?_cons_zero, List.getElem?_cons_succ, List.set_cons_zero, List.set_cons_succ, List.length_cons, List.length_nil, List.cons_append, List.nil_append, List.append_nil, List.take_succ_cons, List.take_zero, List.drop_succ_cons, List.drop_zero, List.reverse_cons, List.reverse_nil, Option.toList, Value.category, List.sum_cons, List.sum_nil, zk_0, zk_1, zk_12, zk_20, zk_23, zk_27, zn_2, zn_3, zn_4, zn_5, zn_6, zn_7, zn_8, zn_9, zn_10, zn_11, zn_13, zn_14, zn_15, zn_16, zn_17, zn_18, zn_19, zn_21, zn_22, zn_24, zn_25, zn_26, zn_28, zn_29, zn_30, zn_31, zn_32, zn_33, zn_34, zn_35, zn_36, zn_37, zn_38, zn_39, zn_40, zn_41, zn_42, zn_43, zn_44, zn_45, zn_46, Nat.reduceAdd, Nat.reduceSub, Nat.reduceLeDiff, true_and, and_true]
    exact loop 8 0 gg (by omega) (fun k hk => g1 k (by omega)) g4 (fun q hq => absurd hq (by omega)) (fun x _ => by rw [g1 40 (by omega)])
  have r0 : ∀ k, (k < 35 ∨ 39 < k) → zU (zU (zU g 35 S.c (nI i)) 36 S.c y) 37 S.c (nI w) k = g k := fun k hk => by rw [zU_ne _ _ _ _ (by omega), zU_ne _ _ _ _ (by omega), zU_ne _ _ _ _ (by omega)]
  have c5 : zU (zU (zU g 35 S.c (nI i)) 36 S.c y) 37 S.c (nI w) 35 S.c = nI i := by rw [zU_ne _ _ _ _ (by omega), zU_ne _ _ _ _ (by omega), zU_at]
  have c6 : zU (zU (zU g 35 S.c (nI i)) 36 S.c y) 37 S.c (nI w) 36 S.c = y := by rw [zU_ne _ _ _ _ (by omega), zU_at]
  have c7 : zU (zU (zU g 35 S.c (nI i)) 36 S.c y) 37 S.c (nI w) 37 S.c = nI w := by rw [zU_at]
  have c8 : zU (zU (zU g 35 S.c (nI i)) 36 S.c y) 37 S.c (nI w) 38 = g 38 := by rw [zU_ne _ _ _ _ (by omega), zU_ne _ _ _ _ (by omega), zU_ne _ _ _ _ (by omega)]
  have c9 : zU (zU (zU g 35 S.c (nI i)) 36 S.c y) 37 S.c (nI w) 39 = g 39 := by rw [zU_ne _ _ _ _ (by omega), zU_ne _ _ _ _ (by omega), zU_ne _ _ _ _ (by omega)]
  have cx : ∀ x, x ≠ S.c → zU (zU (zU g 35 S.c (nI i)) 36 S.c y) 37 S.c (nI w) 35 x = g 35 x ∧ zU (zU (zU g 35 S.c (nI i)) 36 S.c y) 37 S.c (nI w) 36 x = g 36 x ∧ zU (zU (zU g 35 S.c (nI i)) 36 S.c y) 37 S.c (nI w) 37 x = g 37 x := by
    intro x hx
    refine ⟨?_, ?_, ?_⟩
    · rw [zU_ne _ _ _ _ (by omega), zU_ne _ _ _ _ (by omega), zU_off _ _ _ _ hx]
    · rw [zU_ne _ _ _ _ (by omega), zU_off _ _ _ _ hx, zU_ne _ _ _ _ (by omega)]
    · rw [zU_off _ _ _ _ hx, zU_ne _ _ _ _ (by omega), zU_ne _ _ _ _ (by omega)]
  refine b0 _ ?_
  simp only [bb_M_copy_0, oIload, oAload, oIstore, oInc, oConst, o2, oDup, oPop, oDupX1, oDupX2, oDup2, oIf, oIfN, oCmp, oCmpN, oSwitch, oGetR, oGetI, oPutI, oPutZ, oIald, oZald, oIast, oZast, oRetI, oRetZ, oRetV, oCall, oRecv, oMax, List.map_cons, List.map_nil, List.getElem?_cons_zero, List.getElem?_cons_succ, List.set_cons_zero, List.set_cons_succ, List.length_cons, List.length_nil, List.cons_append, List.nil_append, List.append_nil, List.take_succ_cons, List.take_zero, List.drop_succ_cons, List.drop_zero, List.reverse_cons, List.reverse_nil, Option.toList, Value.category, List.sum_cons, List.sum_nil, zk_0, zk_1, zk_12, zk_20, zk_23, zk_27, zn_2, zn_3, zn_4, zn_5, zn_6, zn_7, zn_8, zn_9, zn_10, zn_11, zn_13, zn_14, zn_15, zn_16, zn_17, zn_18, zn_19, zn_21, zn_22, zn_24, zn_25, zn_26, zn_28, zn_29, zn_30, zn_31, zn_32, zn_33, zn_34, zn_35, zn_36, zn_37, zn_38, zn_39, zn_40, zn_41, zn_42, zn_43, zn_44, zn_45, zn_46, Nat.reduceAdd, Nat.reduceSub, Nat.reduceLeDiff, true_and, and_true]
  refine ⟨S.c, rfl, by omega, S.c, rfl, by omega, S.c, rfl, by omega, ?_⟩
  generalize zU (zU (zU g 35 S.c (nI i)) 36 S.c y) 37 S.c (nI w) = gb at *
  rcases id hy with ⟨rfl, he⟩ | ⟨o, ho, rfl, he⟩
  · refine ⟨fun _ => b1 _ ?_, fun q => absurd (by decide) q⟩
    simp only [bb_M_copy_1, oIload, oAload, oIstore, oInc, oConst, o2, oDup, oPop, oDupX1, oDupX2, oDup2, oIf, oIfN, oCmp, oCmpN, oSwitch, oGetR, oGetI, oPutI, oPutZ, oIald, oZald, oIast, oZast, oRetI, oRetZ, oRetV, oCall, oRecv, oMax, List.map_cons, List.map_nil, List.getElem?_cons_zero, List.getElem?_cons_succ, List.set_cons_zero, List.set_cons_succ, List.length_cons, List.length_nil, List.cons_append, List.nil_append, List.append_nil, List.take_succ_cons, List.take_zero, List.drop_succ_cons, List.drop_zero, List.reverse_cons, List.reverse_nil, Option.toList, Value.category, List.sum_cons, List.sum_nil, zk_0, zk_1, zk_12, zk_20, zk_23, zk_27, zn_2, zn_3, zn_4, zn_5, zn_6, zn_7, zn_8, zn_9, zn_10, zn_11, zn_13, zn_14, zn_15, zn_16, zn_17, zn_18, zn_19, zn_21, zn_22, zn_24, zn_25, zn_26, zn_28, zn_29, zn_30, zn_31, zn_32, zn_33, zn_34, zn_35, zn_36, zn_37, zn_38, zn_39, zn_40, zn_41, zn_42, zn_43, zn_44, zn_45, zn_46, Nat.reduceAdd, Nat.reduceSub, Nat.reduceLeDiff, true_and, and_true]
    refine ⟨fun _ => k2 gb _ r0 ⟨c5, c6, c7, cx, fun o q ho _ => absurd q.symm (nI_m1 (by omega)), fun x _ => by rw [c8], fun o q ho _ => absurd q.symm (nI_m1 (by omega)), fun x _ => by rw [c9]⟩, fun q => absurd (by decide) q⟩
  · have oi : ∀ x, o = x → nI o = nI x := fun x q => by rw [q]
    have k1 : ∀ (gg : zM) y5, (∀ k, (k < 35 ∨ 39 < k) → gg k = g k) → gg 35 = gb 35 → gg 36 = gb 36 → gg 37 = gb 37 → gg 39 = gb 39 → (∀ o', nI o = nI o' → o' < S.c → w = 0 → gg 38 o' = nI S.c) → (∀ x, ¬ (nI o = nI x ∧ w = 0) → gg 38 x = g 38 x) → K 1 ([some (.ref 27), some (.int (nI S.c)), some (.int (nI i)), some (.int (nI o)), some (.int (nI w)), y5], [], gg) := by
      intro gg y5 g1 g5 g6 g7 g9 g8 g8'
      refine b1 _ ?_
      simp only [bb_M_copy_1, oIload, oAload, oIstore, oInc, oConst, o2, oDup, oPop, oDupX1, oDupX2, oDup2, oIf, oIfN, oCmp, oCmpN, oSwitch, oGetR, oGetI, oPutI, oPutZ, oIald, oZald, oIast, oZast, oRetI, oRetZ, oRetV, oCall, oRecv, oMax, List.map_cons, List.map_nil, List.getElem?_cons_zero, List.getElem?_cons_succ, List.set_cons_zero, List.set_cons_succ, List.length_cons, List.length_nil, List.cons_append, List.nil_append, List.append_nil, List.take_succ_cons, List.take_zero, List.drop_succ_cons, List.drop_zero, List.reverse_cons, List.reverse_nil, Option.toList, Value.category, List.sum_cons, List.sum_nil, zk_0, zk_1, zk_12, zk_20, zk_23, zk_27, zn_2, zn_3, zn_4, zn_5, zn_6, zn_7, zn_8, zn_9, zn_10, zn_11, zn_13, zn_14, zn_15, zn_16, zn_17, zn_18, zn_19, zn_21, zn_22, zn_24, zn_25, zn_26, zn_28, zn_29, zn_30, zn_31, zn_32, zn_33, zn_34, zn_35, zn_36, zn_37, zn_38, zn_39, zn_40, zn_41, zn_42, zn_43, zn_44, zn_45, zn_46, Nat.reduceAdd, Nat.reduceSub, Nat.reduceLeDiff, true_and, and_true]
      refine ⟨fun q => absurd q (nI_pos (by omega)), fun _ => ?_⟩
      rw [w1]
      refine ⟨fun q => k2 gg _ g1 ⟨by rw [g5]; exact c5, by rw [g6]; exact c6, by rw [g7]; exact c7, by rw [g5, g6, g7]; exact cx, g8, g8', fun o' _ _ q2 => absurd q2 q, fun x _ => by rw [g9, c9]⟩, fun q => ?_⟩
      refine ⟨o, rfl, by omega, k2 _ _ (fun k hk => by rw [zU_ne _ _ _ _ (by omega)]; exact g1 k hk) ⟨?_, ?_, ?_, ?_, ?_, ?_, fun o' q2 ho' _ => ?_, fun x q2 => ?_⟩⟩
      · rw [zU_ne _ _ _ _ (by omega), g5]; exact c5
      · rw [zU_ne _ _ _ _ (by omega), g6]; exact c6
      · rw [zU_ne _ _ _ _ (by omega), g7]; exact c7
      · rw [zU_ne _ _ _ _ (by omega), zU_ne _ _ _ _ (by omega), zU_ne _ _ _ _ (by omega), g5, g6, g7]; exact cx
      · rw [zU_ne _ _ _ _ (by omega)]; exact g8
      · rw [zU_ne _ _ _ _ (by omega)]; exact g8'
      · obtain rfl := nI_inj (by omega) (by omega) q2
        rw [zU_at]
      · rw [zU_off _ _ _ _ (fun q3 => q2 ⟨by rw [q3], q⟩), g9, c9]
    refine ⟨fun q => absurd q (nI_pos (by omega)), fun _ => ?_⟩
    rw [w0]
    refine ⟨fun q => k1 gb _ r0 rfl rfl rfl rfl (fun o' _ _ q2 => absurd q2 q) (fun x _ => by rw [c8]), fun q => ?_⟩
    refine ⟨o, rfl, by omega, k1 _ _ (fun k hk => by rw [zU_ne _ _ _ _ (by omega)]; exact r0 k hk) (zU_ne _ _ _ _ (by omega)) (zU_ne _ _ _ _ (by omega)) (zU_ne _ _ _ _ (by omega)) (zU_ne _ _ _ _ (by omega)) (fun o' q2 ho' _ => ?_) (fun x q2 => ?_)⟩
    · obtain rfl := nI_inj (by omega) (by omega) q2
      rw [zU_at]
    · rw [zU_off _ _ _ _ (fun q3 => q2 ⟨by rw [q3], q⟩), c8]
end SPD
