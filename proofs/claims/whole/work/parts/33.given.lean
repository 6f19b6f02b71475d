/-! what a copy gives -/
def jReached (x : Int32) : Int32 := ((x ||| x <<< ((1 : Int32) &&& 31)) ||| (x ||| x <<< ((1 : Int32) &&& 31)) <<< ((2 : Int32) &&& 31) ||| ((x ||| x <<< ((1 : Int32) &&& 31)) ||| (x ||| x <<< ((1 : Int32) &&& 31)) <<< ((2 : Int32) &&& 31)) <<< ((4 : Int32) &&& 31)) &&& 63
def jOutside (x : Int32) : Int32 := ((x &&& 3) ||| (if x &&& 4 = 0 then 0 else 1)) ||| (((x >>> ((1 : Int32) &&& 31)) &&& 63) &&& (-4))
theorem sh_1 (x : Int32) {i : Nat} (hi : i < 32) : bt (x <<< ((1 : Int32) &&& 31)) i = (decide (1 ≤ i) && bt x (i - 1)) := b_shl 1 (by omega) x hi
theorem sh_2 (x : Int32) {i : Nat} (hi : i < 32) : bt (x <<< ((2 : Int32) &&& 31)) i = (decide (2 ≤ i) && bt x (i - 2)) := b_shl 2 (by omega) x hi
theorem sh_4 (x : Int32) {i : Nat} (hi : i < 32) : bt (x <<< ((4 : Int32) &&& 31)) i = (decide (4 ≤ i) && bt x (i - 4)) := b_shl 4 (by omega) x hi
theorem sr_1 (x : Int32) {i : Nat} (hi : i < 32) : bt (x >>> ((1 : Int32) &&& 31)) i = if 1 + i < 32 then bt x (1 + i) else bt x 31 := b_sshr 1 (by omega) x hi
def yAny (k : Nat → Bool) : Nat → Bool
  | 0 => k 0
  | i + 1 => yAny k i || k (i + 1)
theorem eAny_y (r : yR) (c : Nat) : ∀ i, eAny r c i = yAny (fun j => yw r c (5 + j)) i
  | 0 => rfl
  | i + 1 => by simp only [eAny, yAny, eAny_y r c i]
theorem yAny_eq {k k' : Nat → Bool} : ∀ i, (∀ j, j ≤ i → k j = k' j) → yAny k i = yAny k' i
  | 0, h => h 0 (Nat.le_refl 0)
  | i + 1, h => by simp only [yAny]; rw [yAny_eq i (fun j hj => h j (by omega)), h (i + 1) (Nat.le_refl _)]
theorem lt6 {p : Nat → Prop} (h0 : p 0) (h1 : p 1) (h2 : p 2) (h3 : p 3) (h4 : p 4) (h5 : p 5) : ∀ i, i < 6 → p i := by
  intro i hi
  have : i = 0 ∨ i = 1 ∨ i = 2 ∨ i = 3 ∨ i = 4 ∨ i = 5 := by omega
  rcases this with rfl | rfl | rfl | rfl | rfl | rfl <;> assumption
theorem reached_b (x : Int32) : ∀ i, i < 6 → bt (jReached x) i = yAny (bt x) i := by
  refine lt6 ?_ ?_ ?_ ?_ ?_ ?_ <;> simp only [jReached, b_and, b_or, bm_63 _ (show (0 : Nat) < 32 by omega), bm_63 _ (show (1 : Nat) < 32 by omega), bm_63 _ (show (2 : Nat) < 32 by omega), bm_63 _ (show (3 : Nat) < 32 by omega), bm_63 _ (show (4 : Nat) < 32 by omega), bm_63 _ (show (5 : Nat) < 32 by omega)]
  · rw [sh_1 _ (by omega), sh_2 _ (by omega), sh_4 _ (by omega)]; simp [yAny]
  · rw [sh_4 _ (by omega), sh_2 _ (by omega), sh_1 _ (by omega)]; simp [yAny, Bool.or_comm, Bool.or_assoc, Bool.or_left_comm]
  · rw [sh_4 _ (by omega), sh_2 _ (by omega), sh_1 _ (by omega)]; simp only [b_or]; rw [sh_1 _ (by omega)]; simp [yAny, Bool.or_comm, Bool.or_assoc, Bool.or_left_comm]
  · rw [sh_4 _ (by omega), sh_2 _ (by omega), sh_1 _ (by omega)]; simp only [b_or]; rw [sh_1 _ (by omega)]; simp [yAny, Bool.or_comm, Bool.or_assoc, Bool.or_left_comm]
  · rw [sh_4 _ (by omega), sh_2 _ (by omega), sh_1 _ (by omega)]; simp only [b_or]; rw [sh_2 _ (by omega), sh_1 _ (by omega), sh_1 _ (by omega)]; simp [yAny, Bool.or_comm, Bool.or_assoc, Bool.or_left_comm]
  · rw [sh_4 _ (by omega), sh_2 _ (by omega), sh_1 _ (by omega)]; simp only [b_or]; rw [sh_2 _ (by omega), sh_1 _ (by omega), sh_1 _ (by omega)]; simp [yAny, Bool.or_comm, Bool.or_assoc, Bool.or_left_comm]
theorem reached_h (x : Int32) {i : Nat} (h6 : 6 ≤ i) (hi : i < 32) : bt (jReached x) i = false := by
  simp only [jReached, b_and, bm_63 i hi]
  simp; omega
theorem bm_3 : ∀ i, i < 32 → bt 3 i = decide (i < 2) := by decide +kernel
theorem bm_n4 : ∀ i, i < 32 → bt (-4) i = !decide (i < 2) := by decide +kernel
theorem outside_b (x : Int32) (h6 : bt x 6 = false) : ∀ i, i < 6 → bt (jOutside x) i = if i = 0 then bt x 0 || bt x 2 else if i = 1 then bt x 1 else if i = 5 then false else bt x (1 + i) := by
  have hc : ∀ i, i < 32 → bt (if x &&& 4 = 0 then (0 : Int32) else 1) i = (decide (i = 0) && bt x 2) := by
    intro i hi
    by_cases e : x &&& 4 = 0
    · rw [if_pos e, b_0, (bm_has 2 (by omega) bm_4).mp e]; simp
    · have e2 : bt x 2 = true := by
        cases hb : bt x 2 with
        | true => rfl
        | false => exact absurd ((bm_has 2 (by omega) bm_4).mpr hb) e
      rw [if_neg e, bm_1 i hi, e2]; simp
  refine lt6 ?_ ?_ ?_ ?_ ?_ ?_ <;> simp only [jOutside, b_or] <;> rw [hc _ (by omega)] <;> simp only [b_and] <;> rw [bm_3 _ (by omega), bm_63 _ (by omega), bm_n4 _ (by omega), sr_1 _ (by omega)] <;> simp [h6]
theorem outside_h (x : Int32) {i : Nat} (h6 : 6 ≤ i) (hi : i < 32) : bt (jOutside x) i = false := by
  have h1 : bt (if x &&& 4 = 0 then (0 : Int32) else 1) i = false := by
    split
    · exact b_0 i
    · rw [bm_1 i hi]; simp; omega
  simp only [jOutside, b_or, b_and, h1]
  rw [bm_3 i hi, bm_63 i hi]
  simp; omega
section SPG
variable {l : Launch} {d : Nat} {g : zM} {r : Option Value → zM → Prop}
theorem sp_X_reached {x : Int32} (h : r (some (.int (jReached x))) g) : qs_X_reached l (d + 1) [.int x] g r := by
  refine ss_X_reached fun K b0 => ?_
  refine b0 _ ?_
  simp only [bb_X_reached_0, oIload, oAload, oIstore, oInc, oConst, o2, oDup, oPop, oDupX1, oDupX2, oDup2, oIf, oIfN, oCmp, oCmpN, oSwitch, oGetR, oGetI, oPutI, oPutZ, oIald, oZald, oIast, oZast, oRetI, oRetZ, oRetV, oCall, oRecv, oMax, List.map_cons, List.map_nil, List.getElem?_cons_zero, List.getElem?_cons_succ, List.set_cons_zero, List.set_cons_succ, List.length_cons, List.length_nil, List.cons_append, List.nil_append, List.append_nil, List.take_succ_cons, List.take_zero, List.drop_succ_cons, List.drop_zero, List.reverse_cons, List.reverse_nil, Option.toList, Value.category, List.sum_cons, List.sum_nil, zk_0, zk_1, zk_12, zk_20, zk_23, zk_27, zn_2, zn_3, zn_4, zn_5, zn_6, zn_7, zn_8, zn_9, zn_10, zn_11, zn_13, zn_14, zn_15, zn_16, zn_17, zn_18, zn_19, zn_21, zn_22, zn_24, zn_25, zn_26, zn_28, zn_29, zn_30, zn_31, zn_32, zn_33, zn_34, zn_35, zn_36, zn_37, zn_38, zn_39, zn_40, zn_41, zn_42, zn_43, zn_44, zn_45, zn_46, Nat.reduceAdd, Nat.reduceSub, Nat.reduceLeDiff, true_and, and_true]
  exact h
theorem sp_X_outsideTrap {x : Int32} (h : r (some (.int (jOutside x))) g) : qs_X_outsideTrap l (d + 1) [.int x] g r := by
  refine ss_X_outsideTrap fun K b0 b1 b2 => ?_
  have k2 : ∀ (y : Int32) (x3 x4 : Option Value), y = (if x &&& 4 = 0 then 0 else 1) → K 2 ([some (.int x), some (.int (x &&& 3)), x3, x4], [.int y], g) := by
    intro y x3 x4 hy
    refine b2 _ ?_
    simp only [bb_X_outsideTrap_2, oIload, oAload, oIstore, oInc, oConst, o2, oDup, oPop, oDupX1, oDupX2, oDup2, oIf, oIfN, oCmp, oCmpN, oSwitch, oGetR, oGetI, oPutI, oPutZ, oIald, oZald, oIast, oZast, oRetI, oRetZ, oRetV, oCall, oRecv, oMax, List.map_cons, List.map_nil, List.getElem?_cons_zero, List.getElem?_cons_succ, List.set_cons_zero, List.set_cons_succ, List.length_cons, List.length_nil, List.cons_append, List.nil_append, List.append_nil, List.take_succ_cons, List.take_zero, List.drop_succ_cons, List.drop_zero, List.reverse_cons, List.reverse_nil, Option.toList, Value.category, List.sum_cons, List.sum_nil, zk_0, zk_1, zk_12, zk_20, zk_23, zk_27, zn_2, zn_3, zn_4, zn_5, zn_6, zn_7, zn_8, zn_9, zn_10, zn_11, zn_13, zn_14, zn_15, zn_16, zn_17, zn_18, zn_19, zn_21, zn_22, zn_24, zn_25, zn_26, zn_28, zn_29, zn_30, zn_31, zn_32, zn_33, zn_34, zn_35, zn_36, zn_37, zn_38, zn_39, zn_40, zn_41, zn_42, zn_43, zn_44, zn_45, zn_46, Nat.reduceAdd, Nat.reduceSub, Nat.reduceLeDiff, true_and, and_true]
    rw [hy]
    exact h
  refine b0 _ ?_
  simp only [bb_X_outsideTrap_0, oIload, oAload, oIstore, oInc, oConst, o2, oDup, oPop, oDupX1, oDupX2, oDup2, oIf, oIfN, oCmp, oCmpN, oSwitch, oGetR, oGetI, oPutI, oPutZ, oIald, oZald, oIast, oZast, oRetI, oRetZ, oRetV, oCall, oRecv, oMax, List.map_cons, List.map_nil, List.getElem?_cons_zero, List.getElem?_cons_succ, List.set_cons_zero, List.set_cons_succ, List.length_cons, List.length_nil, List.cons_append, List.nil_append, List.append_nil, List.take_succ_cons, List.take_zero, List.drop_succ_cons, List.drop_zero, List.reverse_cons, List.reverse_nil, Option.toList, Value.category, List.sum_cons, List.sum_nil, zk_0, zk_1, zk_12, zk_20, zk_23, zk_27, zn_2, zn_3, zn_4, zn_5, zn_6, zn_7, zn_8, zn_9, zn_10, zn_11, zn_13, zn_14, zn_15, zn_16, zn_17, zn_18, zn_19, zn_21, zn_22, zn_24, zn_25, zn_26, zn_28, zn_29, zn_30, zn_31, zn_32, zn_33, zn_34, zn_35, zn_36, zn_37, zn_38, zn_39, zn_40, zn_41, zn_42, zn_43, zn_44, zn_45, zn_46, Nat.reduceAdd, Nat.reduceSub, Nat.reduceLeDiff, true_and, and_true]
  refine ⟨fun e => b1 _ ?_, fun e => k2 _ _ _ (by rw [if_neg e])⟩
  simp only [bb_X_outsideTrap_1, oIload, oAload, oIstore, oInc, oConst, o2, oDup, oPop, oDupX1, oDupX2, oDup2, oIf, oIfN, oCmp, oCmpN, oSwitch, oGetR, oGetI, oPutI, oPutZ, oIald, oZald, oIast, oZast, oRetI, oRetZ, oRetV, oCall, oRecv, oMax, List.map_cons, List.map_nil, List.getElem?_cons_zero, List.getElem?_cons_succ, List.set_cons_zero, List.set_cons_succ, List.length_cons, List.length_nil, List.cons_append, List.nil_append, List.append_nil, List.take_succ_cons, List.take_zero, List.drop_succ_cons, List.drop_zero, List.reverse_cons, List.reverse_nil, Option.toList, Value.category, List.sum_cons, List.sum_nil, zk_0, zk_1, zk_12, zk_20, zk_23, zk_27, zn_2, zn_3, zn_4, zn_5, zn_6, zn_7, zn_8, zn_9, zn_10, zn_11, zn_13, zn_14, zn_15, zn_16, zn_17, zn_18, zn_19, zn_21, zn_22, zn_24, zn_25, zn_26, zn_28, zn_29, zn_30, zn_31, zn_32, zn_33, zn_34, zn_35, zn_36, zn_37, zn_38, zn_39, zn_40, zn_41, zn_42, zn_43, zn_44, zn_45, zn_46, Nat.reduceAdd, Nat.reduceSub, Nat.reduceLeDiff, true_and, and_true]
  exact k2 _ _ _ (by rw [if_pos e])
theorem zg_1 : zgB 1 (fun i => decide (i = 0)) false := by
  intro i hi; rw [bm_1 i hi]
  by_cases h6 : i < 6
  · simp [h6]
  · simp [h6]; omega
theorem zg_2 : zgB 2 (fun i => decide (i = 1)) false := by
  intro i hi; rw [bm_2 i hi]
  by_cases h6 : i < 6
  · simp [h6]
  · simp [h6]; omega
theorem zg_64 : zgB 64 (fun _ => false) true := by
  intro i hi; rw [bm_64 i hi]
  by_cases h6 : i < 6
  · simp [h6]; omega
  · by_cases h7 : i = 6 <;> simp [h6, h7]
theorem zg_65 : zgB 65 (fun i => decide (i = 0)) true := by
  intro i hi; rw [bm_65 i hi]
  by_cases h6 : i < 6
  · simp [h6]; omega
  · by_cases h7 : i = 6
    · subst h7; simp
    · simp [h6, h7]; omega
set_option maxHeartbeats 4000000 in
theorem sp_P_givenByPause {P : yP} {a c : Nat} (hP : zPr g P) (ha : a = 20 ∨ a = 23) (hc : c < P.n) (hkd : P.kd c = 1)
    (h : ∀ v, zgB v (fun i => if i = 0 then P.rg (P.nm c) && yw (zr g P a) c 1 else if i = 1 then yw (zr g P a) c 0 else false) (P.rg (P.nm c)) → r (some (.int v)) g) : qs_P_givenByPause l (d + 2) [.ref 12, .int (nI c), .ref a] g r := by
  obtain ⟨p1, p2, p3, p4, p5, p6, p7, p8, p9⟩ := hP
  obtain ⟨-, -, q3, q4, -⟩ := p7 c hc
  have n1 := q3 (by omega)
  have n2 := q4 hkd
  have hk : zk zT a 3 := by rcases ha with rfl | rfl <;> rfl
  have w0 : yw (zr g P a) c 0 = bt (g (a + 1) c) 7 := by rw [zr_w hc (by omega)]; rfl
  have w1 : yw (zr g P a) c 1 = bt (g (a + 1) c) 8 := by rw [zr_w hc (by omega)]; rfl
  have hrg := p8 _ n2
  refine ss_P_givenByPause fun K b0 b1 b2 b3 b4 b5 => ?_
  have k5 : ∀ (v : Int32), zgB v (fun i => if i = 0 then P.rg (P.nm c) && yw (zr g P a) c 1 else if i = 1 then yw (zr g P a) c 0 else false) (P.rg (P.nm c)) → K 5 ([some (.ref 12), some (.int (nI c)), some (.ref a), some (.int v)], [], g) := by
    intro v hv
    refine b5 _ ?_
    simp only [bb_P_givenByPause_5, oIload, oAload, oIstore, oInc, oConst, o2, oDup, oPop, oDupX1, oDupX2, oDup2, oIf, oIfN, oCmp, oCmpN, oSwitch, oGetR, oGetI, oPutI, oPutZ, oIald, oZald, oIast, oZast, oRetI, oRetZ, oRetV, oCall, oRecv, oMax, List.map_cons, List.map_nil, List.getElem?_cons_zero, List.getElem?_cons_succ, List.set_cons_zero, List.set_cons_succ, List.length_cons, List.length_nil, List.cons_append, List.nil_append, List.append_nil, List.take_succ_cons, List.take_zero, List.drop_succ_cons, List.drop_zero, List.reverse_cons, List.reverse_nil, Option.toList, Value.category, List.sum_cons, List.sum_nil, zk_0, zk_1, zk_12, zk_20, zk_23, zk_27, zn_2, zn_3, zn_4, zn_5, zn_6, zn_7, zn_8, zn_9, zn_10, zn_11, zn_13, zn_14, zn_15, zn_16, zn_17, zn_18, zn_19, zn_21, zn_22, zn_24, zn_25, zn_26, zn_28, zn_29, zn_30, zn_31, zn_32, zn_33, zn_34, zn_35, zn_36, zn_37, zn_38, zn_39, zn_40, zn_41, zn_42, zn_43, zn_44, zn_45, zn_46, Nat.reduceAdd, Nat.reduceSub, Nat.reduceLeDiff, true_and, and_true]
    exact h _ hv
  have k4 : ∀ (y v x : Int32), zgB (v ||| y) (fun i => if i = 0 then P.rg (P.nm c) && yw (zr g P a) c 1 else if i = 1 then yw (zr g P a) c 0 else false) (P.rg (P.nm c)) → K 4 ([some (.ref 12), some (.int (nI c)), some (.ref a), some (.int x)], [.int y, .int v], g) := by
    intro y v x hv
    refine b4 _ ?_
    simp only [bb_P_givenByPause_4, oIload, oAload, oIstore, oInc, oConst, o2, oDup, oPop, oDupX1, oDupX2, oDup2, oIf, oIfN, oCmp, oCmpN, oSwitch, oGetR, oGetI, oPutI, oPutZ, oIald, oZald, oIast, oZast, oRetI, oRetZ, oRetV, oCall, oRecv, oMax, List.map_cons, List.map_nil, List.getElem?_cons_zero, List.getElem?_cons_succ, List.set_cons_zero, List.set_cons_succ, List.length_cons, List.length_nil, List.cons_append, List.nil_append, List.append_nil, List.take_succ_cons, List.take_zero, List.drop_succ_cons, List.drop_zero, List.reverse_cons, List.reverse_nil, Option.toList, Value.category, List.sum_cons, List.sum_nil, zk_0, zk_1, zk_12, zk_20, zk_23, zk_27, zn_2, zn_3, zn_4, zn_5, zn_6, zn_7, zn_8, zn_9, zn_10, zn_11, zn_13, zn_14, zn_15, zn_16, zn_17, zn_18, zn_19, zn_21, zn_22, zn_24, zn_25, zn_26, zn_28, zn_29, zn_30, zn_31, zn_32, zn_33, zn_34, zn_35, zn_36, zn_37, zn_38, zn_39, zn_40, zn_41, zn_42, zn_43, zn_44, zn_45, zn_46, Nat.reduceAdd, Nat.reduceSub, Nat.reduceLeDiff, true_and, and_true]
    exact k5 _ hv
  have k2 : ∀ (v : Int32) (x : Option Value), zgB v (fun i => decide (i = 1) && yw (zr g P a) c 0) false → K 2 ([some (.ref 12), some (.int (nI c)), some (.ref a), x], [.int v], g) := by
    intro v x hv
    refine b2 _ ?_
    simp only [bb_P_givenByPause_2, oIload, oAload, oIstore, oInc, oConst, o2, oDup, oPop, oDupX1, oDupX2, oDup2, oIf, oIfN, oCmp, oCmpN, oSwitch, oGetR, oGetI, oPutI, oPutZ, oIald, oZald, oIast, oZast, oRetI, oRetZ, oRetV, oCall, oRecv, oMax, List.map_cons, List.map_nil, List.getElem?_cons_zero, List.getElem?_cons_succ, List.set_cons_zero, List.set_cons_succ, List.length_cons, List.length_nil, List.cons_append, List.nil_append, List.append_nil, List.take_succ_cons, List.take_zero, List.drop_succ_cons, List.drop_zero, List.reverse_cons, List.reverse_nil, Option.toList, Value.category, List.sum_cons, List.sum_nil, zk_0, zk_1, zk_12, zk_20, zk_23, zk_27, zn_2, zn_3, zn_4, zn_5, zn_6, zn_7, zn_8, zn_9, zn_10, zn_11, zn_13, zn_14, zn_15, zn_16, zn_17, zn_18, zn_19, zn_21, zn_22, zn_24, zn_25, zn_26, zn_28, zn_29, zn_30, zn_31, zn_32, zn_33, zn_34, zn_35, zn_36, zn_37, zn_38, zn_39, zn_40, zn_41, zn_42, zn_43, zn_44, zn_45, zn_46, Nat.reduceAdd, Nat.reduceSub, Nat.reduceLeDiff, true_and, and_true]
    refine ⟨c, rfl, by omega, P.nm c, n1, by omega, fun e => k5 _ ?_, fun e => ?_⟩
    · rw [zb_0] at e
      refine zgB_eq hv (lt6 ?_ ?_ ?_ ?_ ?_ ?_) ?_ <;> simp [hrg, e]
    · rw [zb_0] at e
      refine ⟨hk, sp_R_has ha (by omega) ?_⟩
      simp only [oIload, oAload, oIstore, oInc, oConst, o2, oDup, oPop, oDupX1, oDupX2, oDup2, oIf, oIfN, oCmp, oCmpN, oSwitch, oGetR, oGetI, oPutI, oPutZ, oIald, oZald, oIast, oZast, oRetI, oRetZ, oRetV, oCall, oRecv, oMax, List.map_cons, List.map_nil, List.getElem?_cons_zero, List.getElem?_cons_succ, List.set_cons_zero, List.set_cons_succ, List.length_cons, List.length_nil, List.cons_append, List.nil_append, List.append_nil, List.take_succ_cons, List.take_zero, List.drop_succ_cons, List.drop_zero, List.reverse_cons, List.reverse_nil, Option.toList, Value.category, List.sum_cons, List.sum_nil, zk_0, zk_1, zk_12, zk_20, zk_23, zk_27, zn_2, zn_3, zn_4, zn_5, zn_6, zn_7, zn_8, zn_9, zn_10, zn_11, zn_13, zn_14, zn_15, zn_16, zn_17, zn_18, zn_19, zn_21, zn_22, zn_24, zn_25, zn_26, zn_28, zn_29, zn_30, zn_31, zn_32, zn_33, zn_34, zn_35, zn_36, zn_37, zn_38, zn_39, zn_40, zn_41, zn_42, zn_43, zn_44, zn_45, zn_46, Nat.reduceAdd, Nat.reduceSub, Nat.reduceLeDiff, true_and, and_true]
      refine ⟨fun e5 => b3 _ ?_, fun e5 => ?_⟩
      · have e6 := (has_z 8 (by omega) bm_256).mp e5
        simp only [bb_P_givenByPause_3, oIload, oAload, oIstore, oInc, oConst, o2, oDup, oPop, oDupX1, oDupX2, oDup2, oIf, oIfN, oCmp, oCmpN, oSwitch, oGetR, oGetI, oPutI, oPutZ, oIald, oZald, oIast, oZast, oRetI, oRetZ, oRetV, oCall, oRecv, oMax, List.map_cons, List.map_nil, List.getElem?_cons_zero, List.getElem?_cons_succ, List.set_cons_zero, List.set_cons_succ, List.length_cons, List.length_nil, List.cons_append, List.nil_append, List.append_nil, List.take_succ_cons, List.take_zero, List.drop_succ_cons, List.drop_zero, List.reverse_cons, List.reverse_nil, Option.toList, Value.category, List.sum_cons, List.sum_nil, zk_0, zk_1, zk_12, zk_20, zk_23, zk_27, zn_2, zn_3, zn_4, zn_5, zn_6, zn_7, zn_8, zn_9, zn_10, zn_11, zn_13, zn_14, zn_15, zn_16, zn_17, zn_18, zn_19, zn_21, zn_22, zn_24, zn_25, zn_26, zn_28, zn_29, zn_30, zn_31, zn_32, zn_33, zn_34, zn_35, zn_36, zn_37, zn_38, zn_39, zn_40, zn_41, zn_42, zn_43, zn_44, zn_45, zn_46, Nat.reduceAdd, Nat.reduceSub, Nat.reduceLeDiff, true_and, and_true]
        refine k4 _ _ _ (zgB_eq (zgB_or hv zg_64) (lt6 ?_ ?_ ?_ ?_ ?_ ?_) ?_) <;> simp [hrg, e, w1, e6]
      · have e6 := (has_nz 8 (by omega) bm_256).mp e5
        refine k4 _ _ _ (zgB_eq (zgB_or hv zg_65) (lt6 ?_ ?_ ?_ ?_ ?_ ?_) ?_) <;> simp [hrg, e, w1, e6]
  refine b0 _ ?_
  simp only [bb_P_givenByPause_0, oIload, oAload, oIstore, oInc, oConst, o2, oDup, oPop, oDupX1, oDupX2, oDup2, oIf, oIfN, oCmp, oCmpN, oSwitch, oGetR, oGetI, oPutI, oPutZ, oIald, oZald, oIast, oZast, oRetI, oRetZ, oRetV, oCall, oRecv, oMax, List.map_cons, List.map_nil, List.getElem?_cons_zero, List.getElem?_cons_succ, List.set_cons_zero, List.set_cons_succ, List.length_cons, List.length_nil, List.cons_append, List.nil_append, List.append_nil, List.take_succ_cons, List.take_zero, List.drop_succ_cons, List.drop_zero, List.reverse_cons, List.reverse_nil, Option.toList, Value.category, List.sum_cons, List.sum_nil, zk_0, zk_1, zk_12, zk_20, zk_23, zk_27, zn_2, zn_3, zn_4, zn_5, zn_6, zn_7, zn_8, zn_9, zn_10, zn_11, zn_13, zn_14, zn_15, zn_16, zn_17, zn_18, zn_19, zn_21, zn_22, zn_24, zn_25, zn_26, zn_28, zn_29, zn_30, zn_31, zn_32, zn_33, zn_34, zn_35, zn_36, zn_37, zn_38, zn_39, zn_40, zn_41, zn_42, zn_43, zn_44, zn_45, zn_46, Nat.reduceAdd, Nat.reduceSub, Nat.reduceLeDiff, true_and, and_true]
  refine ⟨hk, sp_R_has ha (by omega) ?_⟩
  simp only [oIload, oAload, oIstore, oInc, oConst, o2, oDup, oPop, oDupX1, oDupX2, oDup2, oIf, oIfN, oCmp, oCmpN, oSwitch, oGetR, oGetI, oPutI, oPutZ, oIald, oZald, oIast, oZast, oRetI, oRetZ, oRetV, oCall, oRecv, oMax, List.map_cons, List.map_nil, List.getElem?_cons_zero, List.getElem?_cons_succ, List.set_cons_zero, List.set_cons_succ, List.length_cons, List.length_nil, List.cons_append, List.nil_append, List.append_nil, List.take_succ_cons, List.take_zero, List.drop_succ_cons, List.drop_zero, List.reverse_cons, List.reverse_nil, Option.toList, Value.category, List.sum_cons, List.sum_nil, zk_0, zk_1, zk_12, zk_20, zk_23, zk_27, zn_2, zn_3, zn_4, zn_5, zn_6, zn_7, zn_8, zn_9, zn_10, zn_11, zn_13, zn_14, zn_15, zn_16, zn_17, zn_18, zn_19, zn_21, zn_22, zn_24, zn_25, zn_26, zn_28, zn_29, zn_30, zn_31, zn_32, zn_33, zn_34, zn_35, zn_36, zn_37, zn_38, zn_39, zn_40, zn_41, zn_42, zn_43, zn_44, zn_45, zn_46, Nat.reduceAdd, Nat.reduceSub, Nat.reduceLeDiff, true_and, and_true]
  refine ⟨fun e5 => b1 _ ?_, fun e5 => ?_⟩
  · have e6 := (has_z 7 (by omega) bm_128).mp e5
    simp only [bb_P_givenByPause_1, oIload, oAload, oIstore, oInc, oConst, o2, oDup, oPop, oDupX1, oDupX2, oDup2, oIf, oIfN, oCmp, oCmpN, oSwitch, oGetR, oGetI, oPutI, oPutZ, oIald, oZald, oIast, oZast, oRetI, oRetZ, oRetV, oCall, oRecv, oMax, List.map_cons, List.map_nil, List.getElem?_cons_zero, List.getElem?_cons_succ, List.set_cons_zero, List.set_cons_succ, List.length_cons, List.length_nil, List.cons_append, List.nil_append, List.append_nil, List.take_succ_cons, List.take_zero, List.drop_succ_cons, List.drop_zero, List.reverse_cons, List.reverse_nil, Option.toList, Value.category, List.sum_cons, List.sum_nil, zk_0, zk_1, zk_12, zk_20, zk_23, zk_27, zn_2, zn_3, zn_4, zn_5, zn_6, zn_7, zn_8, zn_9, zn_10, zn_11, zn_13, zn_14, zn_15, zn_16, zn_17, zn_18, zn_19, zn_21, zn_22, zn_24, zn_25, zn_26, zn_28, zn_29, zn_30, zn_31, zn_32, zn_33, zn_34, zn_35, zn_36, zn_37, zn_38, zn_39, zn_40, zn_41, zn_42, zn_43, zn_44, zn_45, zn_46, Nat.reduceAdd, Nat.reduceSub, Nat.reduceLeDiff, true_and, and_true]
    refine k2 _ _ (zgB_eq zgB_z ?_ rfl)
    intro i hi; simp [w0, e6]
  · have e6 := (has_nz 7 (by omega) bm_128).mp e5
    refine k2 _ _ (zgB_eq zg_2 ?_ rfl)
    intro i hi; simp [w0, e6]
set_option maxHeartbeats 4000000 in
theorem sp_P_givenByParallel {P : yP} {o c : Nat} {x y : Int32} {kx ky : Nat → Bool} {sx sy : Bool} (hP : zPr g P) (ho : o = 20 ∨ o = 23) (hc : c < P.n) (hkd : P.kd c = 4) (hx : zgB x kx sx) (hy : zgB y ky sy)
    (h : ∀ v, zgB v (fun i => (kx i && (!(yw (zr g P o) c 0 || yw (zr g P o) (P.se c) 4) || yAny ky i)) || (ky i && (!(yw (zr g P o) c 0 || yw (zr g P o) (P.fi c) 4) || yAny kx i))) (sx || sy) → r (some (.int v)) g) : qs_P_givenByParallel l (d + 2) [.ref 12, .int (nI c), .int x, .int y, .ref o] g r := by
  obtain ⟨p1, p2, p3, p4, p5, p6, p7, p8, p9⟩ := hP
  obtain ⟨-, -, -, -, -, -, -, -, q9, -, q11, -⟩ := p7 c hc
  obtain ⟨f1, f2⟩ := q9 (by omega)
  obtain ⟨t1, t2⟩ := q11 (by omega)
  have hk : zk zT o 3 := by rcases ho with rfl | rfl <;> rfl
  have w0 : yw (zr g P o) c 0 = bt (g (o + 1) c) 7 := by rw [zr_w hc (by omega)]; rfl
  have wf : yw (zr g P o) (P.fi c) 4 = bt (g (o + 1) (P.fi c)) 6 := by rw [zr_w f2 (by omega)]; rfl
  have ws : yw (zr g P o) (P.se c) 4 = bt (g (o + 1) (P.se c)) 6 := by rw [zr_w t2 (by omega)]; rfl
  refine ss_P_givenByParallel fun K b0 b1 b2 b3 b4 b5 b6 b7 b8 b9 b10 => ?_
  -- what stands beside a side: B is its value's bits
  have hb : ∀ (z : Int32) (k : Nat → Bool) (s : Bool), zgB z k s → ∀ i, i < 32 → bt (jReached (z &&& 63)) i = (decide (i < 6) && yAny k i) := by
    intro z k s hz i hi
    by_cases h6 : i < 6
    · rw [reached_b _ i h6]
      simp only [h6, decide_true, Bool.true_and]
      refine yAny_eq i fun j hj => ?_
      rw [b_and, bm_63 j (by omega), hz j (by omega)]
      simp [show j < 6 by omega]
    · rw [reached_h _ (by omega) hi]; simp [h6]
  have k10 : ∀ (bp bq : Int32) (lp lq : Bool) (x5 x6 x7 x9 : Option Value), (∀ i, i < 32 → bt bp i = (decide (i < 6) && (!lp || yAny kx i))) → (∀ i, i < 32 → bt bq i = (decide (i < 6) && (!lq || yAny ky i))) →
      lp = (yw (zr g P o) c 0 || yw (zr g P o) (P.fi c) 4) → lq = (yw (zr g P o) c 0 || yw (zr g P o) (P.se c) 4) →
      K 10 ([some (.ref 12), some (.int (nI c)), some (.int x), some (.int y), some (.ref o), x5, x6, x7, some (.int bp), x9], [.int bq], g) := by
    intro bp bq lp lq x5 x6 x7 x9 h1 h2 h3 h4
    refine b10 _ ?_
    simp only [bb_P_givenByParallel_10, oIload, oAload, oIstore, oInc, oConst, o2, oDup, oPop, oDupX1, oDupX2, oDup2, oIf, oIfN, oCmp, oCmpN, oSwitch, oGetR, oGetI, oPutI, oPutZ, oIald, oZald, oIast, oZast, oRetI, oRetZ, oRetV, oCall, oRecv, oMax, List.map_cons, List.map_nil, List.getElem?_cons_zero, List.getElem?_cons_succ, List.set_cons_zero, List.set_cons_succ, List.length_cons, List.length_nil, List.cons_append, List.nil_append, List.append_nil, List.take_succ_cons, List.take_zero, List.drop_succ_cons, List.drop_zero, List.reverse_cons, List.reverse_nil, Option.toList, Value.category, List.sum_cons, List.sum_nil, zk_0, zk_1, zk_12, zk_20, zk_23, zk_27, zn_2, zn_3, zn_4, zn_5, zn_6, zn_7, zn_8, zn_9, zn_10, zn_11, zn_13, zn_14, zn_15, zn_16, zn_17, zn_18, zn_19, zn_21, zn_22, zn_24, zn_25, zn_26, zn_28, zn_29, zn_30, zn_31, zn_32, zn_33, zn_34, zn_35, zn_36, zn_37, zn_38, zn_39, zn_40, zn_41, zn_42, zn_43, zn_44, zn_45, zn_46, Nat.reduceAdd, Nat.reduceSub, Nat.reduceLeDiff, true_and, and_true]
    refine h _ ?_
    intro i hi
    rw [b_or, b_or, b_and, b_or, b_and, b_and, bm_64 i hi, h1 i hi, h2 i hi, hx i hi, hy i hi, ← h3, ← h4]
    by_cases h6 : i < 6
    · simp [h6, show ¬ i = 6 by omega]
    · by_cases h7 : i = 6
      · subst h7; simp
      · simp [h6, h7]
  have k8 : ∀ (bp yq : Int32) (lp lq : Bool) (x5 x6 x8 x9 : Option Value), (∀ i, i < 32 → bt bp i = (decide (i < 6) && (!lp || yAny kx i))) → (yq = 0 ↔ lq = false) →
      lp = (yw (zr g P o) c 0 || yw (zr g P o) (P.fi c) 4) → lq = (yw (zr g P o) c 0 || yw (zr g P o) (P.se c) 4) →
      K 8 ([some (.ref 12), some (.int (nI c)), some (.int x), some (.int y), some (.ref o), x5, x6, some (.int yq), x8, x9], [.int bp], g) := by
    intro bp yq lp lq x5 x6 x8 x9 h1 h2 h3 h4
    refine b8 _ ?_
    simp only [bb_P_givenByParallel_8, oIload, oAload, oIstore, oInc, oConst, o2, oDup, oPop, oDupX1, oDupX2, oDup2, oIf, oIfN, oCmp, oCmpN, oSwitch, oGetR, oGetI, oPutI, oPutZ, oIald, oZald, oIast, oZast, oRetI, oRetZ, oRetV, oCall, oRecv, oMax, List.map_cons, List.map_nil, List.getElem?_cons_zero, List.getElem?_cons_succ, List.set_cons_zero, List.set_cons_succ, List.length_cons, List.length_nil, List.cons_append, List.nil_append, List.append_nil, List.take_succ_cons, List.take_zero, List.drop_succ_cons, List.drop_zero, List.reverse_cons, List.reverse_nil, Option.toList, Value.category, List.sum_cons, List.sum_nil, zk_0, zk_1, zk_12, zk_20, zk_23, zk_27, zn_2, zn_3, zn_4, zn_5, zn_6, zn_7, zn_8, zn_9, zn_10, zn_11, zn_13, zn_14, zn_15, zn_16, zn_17, zn_18, zn_19, zn_21, zn_22, zn_24, zn_25, zn_26, zn_28, zn_29, zn_30, zn_31, zn_32, zn_33, zn_34, zn_35, zn_36, zn_37, zn_38, zn_39, zn_40, zn_41, zn_42, zn_43, zn_44, zn_45, zn_46, Nat.reduceAdd, Nat.reduceSub, Nat.reduceLeDiff, true_and, and_true]
    refine ⟨fun e => b9 _ ?_, fun e => ?_⟩
    · simp only [bb_P_givenByParallel_9, oIload, oAload, oIstore, oInc, oConst, o2, oDup, oPop, oDupX1, oDupX2, oDup2, oIf, oIfN, oCmp, oCmpN, oSwitch, oGetR, oGetI, oPutI, oPutZ, oIald, oZald, oIast, oZast, oRetI, oRetZ, oRetV, oCall, oRecv, oMax, List.map_cons, List.map_nil, List.getElem?_cons_zero, List.getElem?_cons_succ, List.set_cons_zero, List.set_cons_succ, List.length_cons, List.length_nil, List.cons_append, List.nil_append, List.append_nil, List.take_succ_cons, List.take_zero, List.drop_succ_cons, List.drop_zero, List.reverse_cons, List.reverse_nil, Option.toList, Value.category, List.sum_cons, List.sum_nil, zk_0, zk_1, zk_12, zk_20, zk_23, zk_27, zn_2, zn_3, zn_4, zn_5, zn_6, zn_7, zn_8, zn_9, zn_10, zn_11, zn_13, zn_14, zn_15, zn_16, zn_17, zn_18, zn_19, zn_21, zn_22, zn_24, zn_25, zn_26, zn_28, zn_29, zn_30, zn_31, zn_32, zn_33, zn_34, zn_35, zn_36, zn_37, zn_38, zn_39, zn_40, zn_41, zn_42, zn_43, zn_44, zn_45, zn_46, Nat.reduceAdd, Nat.reduceSub, Nat.reduceLeDiff, true_and, and_true]
      have := h2.mp e
      exact k10 _ _ lp lq _ _ _ _ h1 (fun i hi => by rw [bm_63 i hi, this]; simp) h3 h4
    · have hl : lq = true := by cases hq : lq with
        | true => rfl
        | false => exact absurd (h2.mpr hq) e
      refine sp_X_reached ?_
      simp only [oIload, oAload, oIstore, oInc, oConst, o2, oDup, oPop, oDupX1, oDupX2, oDup2, oIf, oIfN, oCmp, oCmpN, oSwitch, oGetR, oGetI, oPutI, oPutZ, oIald, oZald, oIast, oZast, oRetI, oRetZ, oRetV, oCall, oRecv, oMax, List.map_cons, List.map_nil, List.getElem?_cons_zero, List.getElem?_cons_succ, List.set_cons_zero, List.set_cons_succ, List.length_cons, List.length_nil, List.cons_append, List.nil_append, List.append_nil, List.take_succ_cons, List.take_zero, List.drop_succ_cons, List.drop_zero, List.reverse_cons, List.reverse_nil, Option.toList, Value.category, List.sum_cons, List.sum_nil, zk_0, zk_1, zk_12, zk_20, zk_23, zk_27, zn_2, zn_3, zn_4, zn_5, zn_6, zn_7, zn_8, zn_9, zn_10, zn_11, zn_13, zn_14, zn_15, zn_16, zn_17, zn_18, zn_19, zn_21, zn_22, zn_24, zn_25, zn_26, zn_28, zn_29, zn_30, zn_31, zn_32, zn_33, zn_34, zn_35, zn_36, zn_37, zn_38, zn_39, zn_40, zn_41, zn_42, zn_43, zn_44, zn_45, zn_46, Nat.reduceAdd, Nat.reduceSub, Nat.reduceLeDiff, true_and, and_true]
      exact k10 _ _ lp lq _ _ _ _ h1 (fun i hi => by rw [hb y ky sy hy i hi, hl]; simp) h3 h4
  have k6 : ∀ (yp yq : Int32) (lp lq : Bool) (x5 x7 x8 x9 : Option Value), (yp = 0 ↔ lp = false) → (yq = 0 ↔ lq = false) →
      lp = (yw (zr g P o) c 0 || yw (zr g P o) (P.fi c) 4) → lq = (yw (zr g P o) c 0 || yw (zr g P o) (P.se c) 4) →
      K 6 ([some (.ref 12), some (.int (nI c)), some (.int x), some (.int y), some (.ref o), x5, some (.int yp), x7, x8, x9], [.int yq], g) := by
    intro yp yq lp lq x5 x7 x8 x9 h1 h2 h3 h4
    refine b6 _ ?_
    simp only [bb_P_givenByParallel_6, oIload, oAload, oIstore, oInc, oConst, o2, oDup, oPop, oDupX1, oDupX2, oDup2, oIf, oIfN, oCmp, oCmpN, oSwitch, oGetR, oGetI, oPutI, oPutZ, oIald, oZald, oIast, oZast, oRetI, oRetZ, oRetV, oCall, oRecv, oMax, List.map_cons, List.map_nil, List.getElem?_cons_zero, List.getElem?_cons_succ, List.set_cons_zero, List.set_cons_succ, List.length_cons, List.length_nil, List.cons_append, List.nil_append, List.append_nil, List.take_succ_cons, List.take_zero, List.drop_succ_cons, List.drop_zero, List.reverse_cons, List.reverse_nil, Option.toList, Value.category, List.sum_cons, List.sum_nil, zk_0, zk_1, zk_12, zk_20, zk_23, zk_27, zn_2, zn_3, zn_4, zn_5, zn_6, zn_7, zn_8, zn_9, zn_10, zn_11, zn_13, zn_14, zn_15, zn_16, zn_17, zn_18, zn_19, zn_21, zn_22, zn_24, zn_25, zn_26, zn_28, zn_29, zn_30, zn_31, zn_32, zn_33, zn_34, zn_35, zn_36, zn_37, zn_38, zn_39, zn_40, zn_41, zn_42, zn_43, zn_44, zn_45, zn_46, Nat.reduceAdd, Nat.reduceSub, Nat.reduceLeDiff, true_and, and_true]
    refine ⟨fun e => b7 _ ?_, fun e => ?_⟩
    · simp only [bb_P_givenByParallel_7, oIload, oAload, oIstore, oInc, oConst, o2, oDup, oPop, oDupX1, oDupX2, oDup2, oIf, oIfN, oCmp, oCmpN, oSwitch, oGetR, oGetI, oPutI, oPutZ, oIald, oZald, oIast, oZast, oRetI, oRetZ, oRetV, oCall, oRecv, oMax, List.map_cons, List.map_nil, List.getElem?_cons_zero, List.getElem?_cons_succ, List.set_cons_zero, List.set_cons_succ, List.length_cons, List.length_nil, List.cons_append, List.nil_append, List.append_nil, List.take_succ_cons, List.take_zero, List.drop_succ_cons, List.drop_zero, List.reverse_cons, List.reverse_nil, Option.toList, Value.category, List.sum_cons, List.sum_nil, zk_0, zk_1, zk_12, zk_20, zk_23, zk_27, zn_2, zn_3, zn_4, zn_5, zn_6, zn_7, zn_8, zn_9, zn_10, zn_11, zn_13, zn_14, zn_15, zn_16, zn_17, zn_18, zn_19, zn_21, zn_22, zn_24, zn_25, zn_26, zn_28, zn_29, zn_30, zn_31, zn_32, zn_33, zn_34, zn_35, zn_36, zn_37, zn_38, zn_39, zn_40, zn_41, zn_42, zn_43, zn_44, zn_45, zn_46, Nat.reduceAdd, Nat.reduceSub, Nat.reduceLeDiff, true_and, and_true]
      have := h1.mp e
      exact k8 _ _ lp lq _ _ _ _ (fun i hi => by rw [bm_63 i hi, this]; simp) h2 h3 h4
    · have hl : lp = true := by cases hq : lp with
        | true => rfl
        | false => exact absurd (h1.mpr hq) e
      refine sp_X_reached ?_
      simp only [oIload, oAload, oIstore, oInc, oConst, o2, oDup, oPop, oDupX1, oDupX2, oDup2, oIf, oIfN, oCmp, oCmpN, oSwitch, oGetR, oGetI, oPutI, oPutZ, oIald, oZald, oIast, oZast, oRetI, oRetZ, oRetV, oCall, oRecv, oMax, List.map_cons, List.map_nil, List.getElem?_cons_zero, List.getElem?_cons_succ, List.set_cons_zero, List.set_cons_succ, List.length_cons, List.length_nil, List.cons_append, List.nil_append, List.append_nil, List.take_succ_cons, List.take_zero, List.drop_succ_cons, List.drop_zero, List.reverse_cons, List.reverse_nil, Option.toList, Value.category, List.sum_cons, List.sum_nil, zk_0, zk_1, zk_12, zk_20, zk_23, zk_27, zn_2, zn_3, zn_4, zn_5, zn_6, zn_7, zn_8, zn_9, zn_10, zn_11, zn_13, zn_14, zn_15, zn_16, zn_17, zn_18, zn_19, zn_21, zn_22, zn_24, zn_25, zn_26, zn_28, zn_29, zn_30, zn_31, zn_32, zn_33, zn_34, zn_35, zn_36, zn_37, zn_38, zn_39, zn_40, zn_41, zn_42, zn_43, zn_44, zn_45, zn_46, Nat.reduceAdd, Nat.reduceSub, Nat.reduceLeDiff, true_and, and_true]
      exact k8 _ _ lp lq _ _ _ _ (fun i hi => by rw [hb x kx sx hx i hi, hl]; simp) h2 h3 h4
  have k3 : ∀ (st yp : Int32) (lp : Bool) (x6 x7 x8 x9 : Option Value), (st = 0 ↔ yw (zr g P o) c 0 = false) → (yp = 0 ↔ lp = false) → lp = (yw (zr g P o) c 0 || yw (zr g P o) (P.fi c) 4) →
      K 3 ([some (.ref 12), some (.int (nI c)), some (.int x), some (.int y), some (.ref o), some (.int st), x6, x7, x8, x9], [.int yp], g) := by
    intro st yp lp x6 x7 x8 x9 h0 h1 h3
    have k4 : (yw (zr g P o) c 0 || yw (zr g P o) (P.se c) 4) = true → K 4 ([some (.ref 12), some (.int (nI c)), some (.int x), some (.int y), some (.ref o), some (.int st), some (.int yp), x7, x8, x9], [], g) := fun e => by
      refine b4 _ ?_
      simp only [bb_P_givenByParallel_4, oIload, oAload, oIstore, oInc, oConst, o2, oDup, oPop, oDupX1, oDupX2, oDup2, oIf, oIfN, oCmp, oCmpN, oSwitch, oGetR, oGetI, oPutI, oPutZ, oIald, oZald, oIast, oZast, oRetI, oRetZ, oRetV, oCall, oRecv, oMax, List.map_cons, List.map_nil, List.getElem?_cons_zero, List.getElem?_cons_succ, List.set_cons_zero, List.set_cons_succ, List.length_cons, List.length_nil, List.cons_append, List.nil_append, List.append_nil, List.take_succ_cons, List.take_zero, List.drop_succ_cons, List.drop_zero, List.reverse_cons, List.reverse_nil, Option.toList, Value.category, List.sum_cons, List.sum_nil, zk_0, zk_1, zk_12, zk_20, zk_23, zk_27, zn_2, zn_3, zn_4, zn_5, zn_6, zn_7, zn_8, zn_9, zn_10, zn_11, zn_13, zn_14, zn_15, zn_16, zn_17, zn_18, zn_19, zn_21, zn_22, zn_24, zn_25, zn_26, zn_28, zn_29, zn_30, zn_31, zn_32, zn_33, zn_34, zn_35, zn_36, zn_37, zn_38, zn_39, zn_40, zn_41, zn_42, zn_43, zn_44, zn_45, zn_46, Nat.reduceAdd, Nat.reduceSub, Nat.reduceLeDiff, true_and, and_true]
      exact k6 _ _ lp true _ _ _ _ h1 (by decide) h3 e.symm
    refine b3 _ ?_
    simp only [bb_P_givenByParallel_3, oIload, oAload, oIstore, oInc, oConst, o2, oDup, oPop, oDupX1, oDupX2, oDup2, oIf, oIfN, oCmp, oCmpN, oSwitch, oGetR, oGetI, oPutI, oPutZ, oIald, oZald, oIast, oZast, oRetI, oRetZ, oRetV, oCall, oRecv, oMax, List.map_cons, List.map_nil, List.getElem?_cons_zero, List.getElem?_cons_succ, List.set_cons_zero, List.set_cons_succ, List.length_cons, List.length_nil, List.cons_append, List.nil_append, List.append_nil, List.take_succ_cons, List.take_zero, List.drop_succ_cons, List.drop_zero, List.reverse_cons, List.reverse_nil, Option.toList, Value.category, List.sum_cons, List.sum_nil, zk_0, zk_1, zk_12, zk_20, zk_23, zk_27, zn_2, zn_3, zn_4, zn_5, zn_6, zn_7, zn_8, zn_9, zn_10, zn_11, zn_13, zn_14, zn_15, zn_16, zn_17, zn_18, zn_19, zn_21, zn_22, zn_24, zn_25, zn_26, zn_28, zn_29, zn_30, zn_31, zn_32, zn_33, zn_34, zn_35, zn_36, zn_37, zn_38, zn_39, zn_40, zn_41, zn_42, zn_43, zn_44, zn_45, zn_46, Nat.reduceAdd, Nat.reduceSub, Nat.reduceLeDiff, true_and, and_true]
    refine ⟨fun e => k4 ?_, fun e => ?_⟩
    · cases hq : yw (zr g P o) c 0 with
      | true => rfl
      | false => exact absurd (h0.mpr hq) e
    · have e0 := h0.mp e
      refine ⟨c, rfl, by omega, hk, ?_⟩
      rw [t1]
      refine sp_R_has ho (by omega) ?_
      simp only [oIload, oAload, oIstore, oInc, oConst, o2, oDup, oPop, oDupX1, oDupX2, oDup2, oIf, oIfN, oCmp, oCmpN, oSwitch, oGetR, oGetI, oPutI, oPutZ, oIald, oZald, oIast, oZast, oRetI, oRetZ, oRetV, oCall, oRecv, oMax, List.map_cons, List.map_nil, List.getElem?_cons_zero, List.getElem?_cons_succ, List.set_cons_zero, List.set_cons_succ, List.length_cons, List.length_nil, List.cons_append, List.nil_append, List.append_nil, List.take_succ_cons, List.take_zero, List.drop_succ_cons, List.drop_zero, List.reverse_cons, List.reverse_nil, Option.toList, Value.category, List.sum_cons, List.sum_nil, zk_0, zk_1, zk_12, zk_20, zk_23, zk_27, zn_2, zn_3, zn_4, zn_5, zn_6, zn_7, zn_8, zn_9, zn_10, zn_11, zn_13, zn_14, zn_15, zn_16, zn_17, zn_18, zn_19, zn_21, zn_22, zn_24, zn_25, zn_26, zn_28, zn_29, zn_30, zn_31, zn_32, zn_33, zn_34, zn_35, zn_36, zn_37, zn_38, zn_39, zn_40, zn_41, zn_42, zn_43, zn_44, zn_45, zn_46, Nat.reduceAdd, Nat.reduceSub, Nat.reduceLeDiff, true_and, and_true]
      refine ⟨fun e5 => b5 _ ?_, fun e5 => k4 ?_⟩
      · have e6 := (has_z 6 (by omega) bm_64).mp e5
        simp only [bb_P_givenByParallel_5, oIload, oAload, oIstore, oInc, oConst, o2, oDup, oPop, oDupX1, oDupX2, oDup2, oIf, oIfN, oCmp, oCmpN, oSwitch, oGetR, oGetI, oPutI, oPutZ, oIald, oZald, oIast, oZast, oRetI, oRetZ, oRetV, oCall, oRecv, oMax, List.map_cons, List.map_nil, List.getElem?_cons_zero, List.getElem?_cons_succ, List.set_cons_zero, List.set_cons_succ, List.length_cons, List.length_nil, List.cons_append, List.nil_append, List.append_nil, List.take_succ_cons, List.take_zero, List.drop_succ_cons, List.drop_zero, List.reverse_cons, List.reverse_nil, Option.toList, Value.category, List.sum_cons, List.sum_nil, zk_0, zk_1, zk_12, zk_20, zk_23, zk_27, zn_2, zn_3, zn_4, zn_5, zn_6, zn_7, zn_8, zn_9, zn_10, zn_11, zn_13, zn_14, zn_15, zn_16, zn_17, zn_18, zn_19, zn_21, zn_22, zn_24, zn_25, zn_26, zn_28, zn_29, zn_30, zn_31, zn_32, zn_33, zn_34, zn_35, zn_36, zn_37, zn_38, zn_39, zn_40, zn_41, zn_42, zn_43, zn_44, zn_45, zn_46, Nat.reduceAdd, Nat.reduceSub, Nat.reduceLeDiff, true_and, and_true]
        exact k6 _ _ lp false _ _ _ _ h1 (by decide) h3 (by simp [e0, ws, e6])
      · have e6 := (has_nz 6 (by omega) bm_64).mp e5
        simp [e0, ws, e6]
  refine b0 _ ?_
  simp only [bb_P_givenByParallel_0, oIload, oAload, oIstore, oInc, oConst, o2, oDup, oPop, oDupX1, oDupX2, oDup2, oIf, oIfN, oCmp, oCmpN, oSwitch, oGetR, oGetI, oPutI, oPutZ, oIald, oZald, oIast, oZast, oRetI, oRetZ, oRetV, oCall, oRecv, oMax, List.map_cons, List.map_nil, List.getElem?_cons_zero, List.getElem?_cons_succ, List.set_cons_zero, List.set_cons_succ, List.length_cons, List.length_nil, List.cons_append, List.nil_append, List.append_nil, List.take_succ_cons, List.take_zero, List.drop_succ_cons, List.drop_zero, List.reverse_cons, List.reverse_nil, Option.toList, Value.category, List.sum_cons, List.sum_nil, zk_0, zk_1, zk_12, zk_20, zk_23, zk_27, zn_2, zn_3, zn_4, zn_5, zn_6, zn_7, zn_8, zn_9, zn_10, zn_11, zn_13, zn_14, zn_15, zn_16, zn_17, zn_18, zn_19, zn_21, zn_22, zn_24, zn_25, zn_26, zn_28, zn_29, zn_30, zn_31, zn_32, zn_33, zn_34, zn_35, zn_36, zn_37, zn_38, zn_39, zn_40, zn_41, zn_42, zn_43, zn_44, zn_45, zn_46, Nat.reduceAdd, Nat.reduceSub, Nat.reduceLeDiff, true_and, and_true]
  refine ⟨hk, sp_R_has ho (by omega) ?_⟩
  simp only [oIload, oAload, oIstore, oInc, oConst, o2, oDup, oPop, oDupX1, oDupX2, oDup2, oIf, oIfN, oCmp, oCmpN, oSwitch, oGetR, oGetI, oPutI, oPutZ, oIald, oZald, oIast, oZast, oRetI, oRetZ, oRetV, oCall, oRecv, oMax, List.map_cons, List.map_nil, List.getElem?_cons_zero, List.getElem?_cons_succ, List.set_cons_zero, List.set_cons_succ, List.length_cons, List.length_nil, List.cons_append, List.nil_append, List.append_nil, List.take_succ_cons, List.take_zero, List.drop_succ_cons, List.drop_zero, List.reverse_cons, List.reverse_nil, Option.toList, Value.category, List.sum_cons, List.sum_nil, zk_0, zk_1, zk_12, zk_20, zk_23, zk_27, zn_2, zn_3, zn_4, zn_5, zn_6, zn_7, zn_8, zn_9, zn_10, zn_11, zn_13, zn_14, zn_15, zn_16, zn_17, zn_18, zn_19, zn_21, zn_22, zn_24, zn_25, zn_26, zn_28, zn_29, zn_30, zn_31, zn_32, zn_33, zn_34, zn_35, zn_36, zn_37, zn_38, zn_39, zn_40, zn_41, zn_42, zn_43, zn_44, zn_45, zn_46, Nat.reduceAdd, Nat.reduceSub, Nat.reduceLeDiff, true_and, and_true]
  have h0 : ((if g (o + 1) c &&& 128 = 0 then (0 : Int32) else 1) = 0) ↔ yw (zr g P o) c 0 = false := by rw [has_z 7 (by omega) bm_128, w0]
  have k1 : (yw (zr g P o) c 0 || yw (zr g P o) (P.fi c) 4) = true → K 1 ([some (.ref 12), some (.int (nI c)), some (.int x), some (.int y), some (.ref o), some (.int (if g (o + 1) c &&& 128 = 0 then 0 else 1)), none, none, none, none], [], g) := fun e => by
    refine b1 _ ?_
    simp only [bb_P_givenByParallel_1, oIload, oAload, oIstore, oInc, oConst, o2, oDup, oPop, oDupX1, oDupX2, oDup2, oIf, oIfN, oCmp, oCmpN, oSwitch, oGetR, oGetI, oPutI, oPutZ, oIald, oZald, oIast, oZast, oRetI, oRetZ, oRetV, oCall, oRecv, oMax, List.map_cons, List.map_nil, List.getElem?_cons_zero, List.getElem?_cons_succ, List.set_cons_zero, List.set_cons_succ, List.length_cons, List.length_nil, List.cons_append, List.nil_append, List.append_nil, List.take_succ_cons, List.take_zero, List.drop_succ_cons, List.drop_zero, List.reverse_cons, List.reverse_nil, Option.toList, Value.category, List.sum_cons, List.sum_nil, zk_0, zk_1, zk_12, zk_20, zk_23, zk_27, zn_2, zn_3, zn_4, zn_5, zn_6, zn_7, zn_8, zn_9, zn_10, zn_11, zn_13, zn_14, zn_15, zn_16, zn_17, zn_18, zn_19, zn_21, zn_22, zn_24, zn_25, zn_26, zn_28, zn_29, zn_30, zn_31, zn_32, zn_33, zn_34, zn_35, zn_36, zn_37, zn_38, zn_39, zn_40, zn_41, zn_42, zn_43, zn_44, zn_45, zn_46, Nat.reduceAdd, Nat.reduceSub, Nat.reduceLeDiff, true_and, and_true]
    exact k3 _ _ true _ _ _ _ h0 (by decide) e.symm
  refine ⟨fun e => k1 ?_, fun e => ?_⟩
  · cases hq : yw (zr g P o) c 0 with
    | true => rfl
    | false => exact absurd (h0.mpr hq) e
  · have e0 := h0.mp e
    refine ⟨c, rfl, by omega, hk, ?_⟩
    rw [f1]
    refine sp_R_has ho (by omega) ?_
    simp only [oIload, oAload, oIstore, oInc, oConst, o2, oDup, oPop, oDupX1, oDupX2, oDup2, oIf, oIfN, oCmp, oCmpN, oSwitch, oGetR, oGetI, oPutI, oPutZ, oIald, oZald, oIast, oZast, oRetI, oRetZ, oRetV, oCall, oRecv, oMax, List.map_cons, List.map_nil, List.getElem?_cons_zero, List.getElem?_cons_succ, List.set_cons_zero, List.set_cons_succ, List.length_cons, List.length_nil, List.cons_append, List.nil_append, List.append_nil, List.take_succ_cons, List.take_zero, List.drop_succ_cons, List.drop_zero, List.reverse_cons, List.reverse_nil, Option.toList, Value.category, List.sum_cons, List.sum_nil, zk_0, zk_1, zk_12, zk_20, zk_23, zk_27, zn_2, zn_3, zn_4, zn_5, zn_6, zn_7, zn_8, zn_9, zn_10, zn_11, zn_13, zn_14, zn_15, zn_16, zn_17, zn_18, zn_19, zn_21, zn_22, zn_24, zn_25, zn_26, zn_28, zn_29, zn_30, zn_31, zn_32, zn_33, zn_34, zn_35, zn_36, zn_37, zn_38, zn_39, zn_40, zn_41, zn_42, zn_43, zn_44, zn_45, zn_46, Nat.reduceAdd, Nat.reduceSub, Nat.reduceLeDiff, true_and, and_true]
    refine ⟨fun e5 => b2 _ ?_, fun e5 => k1 ?_⟩
    · have e6 := (has_z 6 (by omega) bm_64).mp e5
      simp only [bb_P_givenByParallel_2, oIload, oAload, oIstore, oInc, oConst, o2, oDup, oPop, oDupX1, oDupX2, oDup2, oIf, oIfN, oCmp, oCmpN, oSwitch, oGetR, oGetI, oPutI, oPutZ, oIald, oZald, oIast, oZast, oRetI, oRetZ, oRetV, oCall, oRecv, oMax, List.map_cons, List.map_nil, List.getElem?_cons_zero, List.getElem?_cons_succ, List.set_cons_zero, List.set_cons_succ, List.length_cons, List.length_nil, List.cons_append, List.nil_append, List.append_nil, List.take_succ_cons, List.take_zero, List.drop_succ_cons, List.drop_zero, List.reverse_cons, List.reverse_nil, Option.toList, Value.category, List.sum_cons, List.sum_nil, zk_0, zk_1, zk_12, zk_20, zk_23, zk_27, zn_2, zn_3, zn_4, zn_5, zn_6, zn_7, zn_8, zn_9, zn_10, zn_11, zn_13, zn_14, zn_15, zn_16, zn_17, zn_18, zn_19, zn_21, zn_22, zn_24, zn_25, zn_26, zn_28, zn_29, zn_30, zn_31, zn_32, zn_33, zn_34, zn_35, zn_36, zn_37, zn_38, zn_39, zn_40, zn_41, zn_42, zn_43, zn_44, zn_45, zn_46, Nat.reduceAdd, Nat.reduceSub, Nat.reduceLeDiff, true_and, and_true]
      exact k3 _ _ false _ _ _ _ h0 (by decide) (by simp [e0, wf, e6])
    · have e6 := (has_nz 6 (by omega) bm_64).mp e5
      simp [e0, wf, e6]
end SPG
