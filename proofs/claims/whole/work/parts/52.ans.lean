/-! the statements: the reference's side -/
def jG1 (x y : Int32) (i : Nat) (acc : Int32) : Nat → Int32
  | 0 => acc
  | j + 1 => jG1 x y i acc j ||| (if ((x >>> (nI i &&& 31)) &&& (y >>> (nI j &&& 31))) &&& 1 = 1 then (1 : Int32) <<< ((if nI i ≤ nI j then nI j else nI i) &&& 31) else 0)
def jG2 (x y : Int32) : Nat → Int32
  | 0 => 0
  | i + 1 => jG1 x y i (jG2 x y i) 6
theorem jG_ij : ∀ i, i < 6 → ∀ j, j < 6 → (if nI i ≤ nI j then nI j else nI i) = nI (if i ≤ j then j else i) := by decide +kernel
theorem jG_t {x y : Int32} {i j m : Nat} (hi : i < 6) (hj : j < 6) (hm : m < 32) : bt (if ((x >>> (nI i &&& 31)) &&& (y >>> (nI j &&& 31))) &&& 1 = 1 then (1 : Int32) <<< ((if nI i ≤ nI j then nI j else nI i) &&& 31) else 0) m = true ↔ (bt x i = true ∧ bt y j = true ∧ m = (if i ≤ j then j else i)) := by
  have hb : bt ((x >>> (nI i &&& 31)) &&& (y >>> (nI j &&& 31))) 0 = (bt x i && bt y j) := by
    rw [b_and, b_sshr i (by omega) x (by omega), b_sshr j (by omega) y (by omega), if_pos (by omega), if_pos (by omega), Nat.add_zero, Nat.add_zero]
  have hh := bm_has (w := (x >>> (nI i &&& 31)) &&& (y >>> (nI j &&& 31))) (m := 1) 0 (by omega) bm_1
  rw [hb] at hh
  rw [jG_ij i hi j hj]
  have hM : (if i ≤ j then j else i) < 6 := by split <;> assumption
  generalize (if i ≤ j then j else i) = M at hM
  rcases and1 ((x >>> (nI i &&& 31)) &&& (y >>> (nI j &&& 31))) with e | e
  · rw [e, if_neg (by decide), b_0]
    have := hh.mp e
    constructor
    · intro h; cases h
    · rintro ⟨h1, h2, -⟩; rw [h1, h2] at this; cases this
  · rw [e, if_pos rfl, b_shl M (by omega) 1 hm, bm_1 _ (by omega)]
    have hne : ¬ (bt x i && bt y j) = false := fun h => by rw [hh.mpr h] at e; exact absurd e (by decide)
    have h2 : (bt x i && bt y j) = true := by cases hv : (bt x i && bt y j) with | true => rfl | false => exact absurd hv hne
    rw [Bool.and_eq_true] at h2
    rw [Bool.and_eq_true, decide_eq_true_iff, decide_eq_true_iff]
    constructor
    · rintro ⟨h3, h4⟩; exact ⟨h2.1, h2.2, by omega⟩
    · rintro ⟨-, -, h⟩; omega
theorem jG1_b {x y acc : Int32} {i m : Nat} (hi : i < 6) (hm : m < 32) : ∀ n, n ≤ 6 → (bt (jG1 x y i acc n) m = true ↔ (bt acc m = true ∨ ∃ j, j < n ∧ bt x i = true ∧ bt y j = true ∧ m = (if i ≤ j then j else i)))
  | 0, _ => ⟨fun h => Or.inl h, fun h => h.elim id fun ⟨j, hj, _⟩ => absurd hj (Nat.not_lt_zero j)⟩
  | n + 1, hn => by
    show bt (jG1 x y i acc n ||| _) m = true ↔ _
    rw [b_or, Bool.or_eq_true, jG1_b hi hm n (by omega), jG_t hi (by omega) hm]
    constructor
    · rintro ((h | ⟨j, hj, h⟩) | h)
      · exact Or.inl h
      · exact Or.inr ⟨j, by omega, h⟩
      · exact Or.inr ⟨n, by omega, h⟩
    · rintro (h | ⟨j, hj, h⟩)
      · exact Or.inl (Or.inl h)
      · rcases Nat.lt_or_ge j n with h5 | h5
        · exact Or.inl (Or.inr ⟨j, h5, h⟩)
        · obtain rfl : j = n := by omega
          exact Or.inr h
theorem jG2_b {x y : Int32} {m : Nat} (hm : m < 32) : ∀ n, n ≤ 6 → (bt (jG2 x y n) m = true ↔ ∃ i, i < n ∧ ∃ j, j < 6 ∧ bt x i = true ∧ bt y j = true ∧ m = (if i ≤ j then j else i))
  | 0, _ => ⟨fun h => absurd (h.symm.trans (b_0 m)) (by decide), fun ⟨j, hj, _⟩ => absurd hj (Nat.not_lt_zero j)⟩
  | n + 1, hn => by
    show bt (jG1 x y n (jG2 x y n) 6) m = true ↔ _
    rw [jG1_b (by omega) hm 6 (Nat.le_refl 6), jG2_b hm n (by omega)]
    constructor
    · rintro (⟨i, hi, h⟩ | h)
      · exact ⟨i, by omega, h⟩
      · exact ⟨n, by omega, h⟩
    · rintro ⟨i, hi, h⟩
      rcases Nat.lt_or_ge i n with h5 | h5
      · exact Or.inl ⟨i, h5, h⟩
      · obtain rfl : i = n := by omega
        exact Or.inr h
theorem yAny_x {k : Nat → Bool} : ∀ m, (yAny k m = true ↔ ∃ j, j ≤ m ∧ k j = true)
  | 0 => ⟨fun h => ⟨0, Nat.le_refl 0, h⟩, fun ⟨j, hj, h⟩ => (show k 0 = true from (Nat.le_zero.mp hj) ▸ h)⟩
  | m + 1 => by
    show (yAny k m || k (m + 1)) = true ↔ _
    rw [Bool.or_eq_true, yAny_x m]
    constructor
    · rintro (⟨j, hj, h⟩ | h)
      · exact ⟨j, by omega, h⟩
      · exact ⟨m + 1, by omega, h⟩
    · rintro ⟨j, hj, h⟩
      rcases Nat.lt_or_ge m j with h5 | h5
      · obtain rfl : j = m + 1 := by omega
        exact Or.inr h
      · exact Or.inl ⟨j, h5, h⟩
theorem jG_eq' (x y : Int32) : jG2 x y 6 = (x &&& jReached y) ||| (y &&& jReached x) := by
  refine b_ext fun m hm => ?_
  rw [Bool.eq_iff_iff, jG2_b hm 6 (Nat.le_refl 6), b_or, b_and, b_and]
  rcases Nat.lt_or_ge m 6 with h6 | h6
  · rw [reached_b y m h6, reached_b x m h6, Bool.or_eq_true, Bool.and_eq_true, Bool.and_eq_true, yAny_x, yAny_x]
    constructor
    · rintro ⟨i, hi, j, hj, h1, h2, h3⟩
      by_cases h : i ≤ j
      · rw [if_pos h] at h3; subst h3
        exact Or.inr ⟨h2, i, h, h1⟩
      · rw [if_neg h] at h3; subst h3
        exact Or.inl ⟨h1, j, by omega, h2⟩
    · rintro (⟨h1, j, hj, h2⟩ | ⟨h1, j, hj, h2⟩)
      · exact ⟨m, h6, j, by omega, h1, h2, by split <;> omega⟩
      · exact ⟨j, by omega, m, h6, h2, h1, by split <;> omega⟩
  · rw [reached_h y h6 hm, reached_h x h6 hm]
    constructor
    · rintro ⟨i, hi, j, hj, h1, h2, h3⟩
      split at h3 <;> omega
    · intro h; simp at h
theorem jG_eq : ∀ x, x < 64 → ∀ y, y < 64 → jG2 (nI x) (nI y) 6 = (nI x &&& jReached (nI y)) ||| (nI y &&& jReached (nI x)) := fun x _ y _ => jG_eq' (nI x) (nI y)
def jAns (k a x y : Int32) : Int32 := if k = 1 then 2 else if k = 10 then (4 : Int32) <<< (a &&& 31) else if k = 3 then (if x &&& 1 = 1 then (x &&& (-2)) ||| y else x) else if k = 4 then jG2 x y 6 else if k = 5 then x &&& (-2) else if k = 6 then x ||| y else if k = 7 ∨ k = 8 then x else if k = 9 then ((x &&& 3) ||| ((x >>> ((2 : Int32) &&& 31)) &&& 1)) ||| ((x >>> ((1 : Int32) &&& 31)) &&& (-4)) else 1
theorem jT_eq : ∀ x, x < 64 → ((nI x &&& 3) ||| ((nI x >>> ((2 : Int32) &&& 31)) &&& 1)) ||| ((nI x >>> ((1 : Int32) &&& 31)) &&& (-4)) = jOutside (nI x) := by decide +kernel
theorem jAns_eq {k : Nat} {z : Int32} {x y : Nat} (hk : k ≤ 10) (hx : x < 64) (hy : y < 64) : jAns (nI k) z (nI x) (nI y) = jCodes (nI k) z (nI x) (nI y) := by
  have hcase : k = 0 ∨ k = 1 ∨ k = 2 ∨ k = 3 ∨ k = 4 ∨ k = 5 ∨ k = 6 ∨ k = 7 ∨ k = 8 ∨ k = 9 ∨ k = 10 := by omega
  rcases hcase with rfl | rfl | rfl | rfl | rfl | rfl | rfl | rfl | rfl | rfl | rfl
  · rfl
  · rfl
  · rfl
  · show (if nI x &&& 1 = 1 then (nI x &&& (-2)) ||| nI y else nI x) = (if nI x &&& 1 = 0 then nI x else (nI x &&& (-2)) ||| nI y)
    rcases and1 (nI x) with e | e <;> rw [e] <;> rfl
  · exact jG_eq x hx y hy
  · rfl
  · rfl
  · rfl
  · rfl
  · exact jT_eq x hx
  · rfl
section SPA
variable {l : Launch} {d : Nat} {g : zM} {r : Option Value → zM → Prop}
def mHS (x : Int32) : Prop := x = 2 ∨ ¬ (x < 6 ∨ 8 < x)
theorem sp_M_hasSignal {x : Int32} (h1 : mHS x → r (some (.int 1)) g) (h0 : ¬ mHS x → r (some (.int 0)) g) : qs_M_hasSignal l (d + 2) [.int x] g r := by
  refine ss_M_hasSignal fun K b0 b1 b2 b3 => ?_
  have k1 : mHS x → K 1 ([some (.int x)], [], g) := fun e => by
    refine b1 _ ?_
    simp only [bb_M_hasSignal_1, oIload, oAload, oIstore, oInc, oConst, o2, oDup, oPop, oDupX1, oDupX2, oDup2, oIf, oIfN, oCmp, oCmpN, oSwitch, oGetR, oGetI, oPutI, oPutZ, oIald, oZald, oIast, oZast, oRetI, oRetZ, oRetV, oCall, oRecv, oMax, List.map_cons, List.map_nil, List.getElem?_cons_zero, List.getElem?_cons_succ, List.set_cons_zero, List.set_cons_succ, List.length_cons, List.length_nil, List.cons_append, List.nil_append, List.append_nil, List.take_succ_cons, List.take_zero, List.drop_succ_cons, List.drop_zero, List.reverse_cons, List.reverse_nil, Option.toList, Value.category, List.sum_cons, List.sum_nil, zk_0, zk_1, zk_12, zk_20, zk_23, zk_27, zn_2, zn_3, zn_4, zn_5, zn_6, zn_7, zn_8, zn_9, zn_10, zn_11, zn_13, zn_14, zn_15, zn_16, zn_17, zn_18, zn_19, zn_21, zn_22, zn_24, zn_25, zn_26, zn_28, zn_29, zn_30, zn_31, zn_32, zn_33, zn_34, zn_35, zn_36, zn_37, zn_38, zn_39, zn_40, zn_41, zn_42, zn_43, zn_44, zn_45, zn_46, Nat.reduceAdd, Nat.reduceSub, Nat.reduceLeDiff, true_and, and_true]
    refine b3 _ ?_
    simp only [bb_M_hasSignal_3, oIload, oAload, oIstore, oInc, oConst, o2, oDup, oPop, oDupX1, oDupX2, oDup2, oIf, oIfN, oCmp, oCmpN, oSwitch, oGetR, oGetI, oPutI, oPutZ, oIald, oZald, oIast, oZast, oRetI, oRetZ, oRetV, oCall, oRecv, oMax, List.map_cons, List.map_nil, List.getElem?_cons_zero, List.getElem?_cons_succ, List.set_cons_zero, List.set_cons_succ, List.length_cons, List.length_nil, List.cons_append, List.nil_append, List.append_nil, List.take_succ_cons, List.take_zero, List.drop_succ_cons, List.drop_zero, List.reverse_cons, List.reverse_nil, Option.toList, Value.category, List.sum_cons, List.sum_nil, zk_0, zk_1, zk_12, zk_20, zk_23, zk_27, zn_2, zn_3, zn_4, zn_5, zn_6, zn_7, zn_8, zn_9, zn_10, zn_11, zn_13, zn_14, zn_15, zn_16, zn_17, zn_18, zn_19, zn_21, zn_22, zn_24, zn_25, zn_26, zn_28, zn_29, zn_30, zn_31, zn_32, zn_33, zn_34, zn_35, zn_36, zn_37, zn_38, zn_39, zn_40, zn_41, zn_42, zn_43, zn_44, zn_45, zn_46, Nat.reduceAdd, Nat.reduceSub, Nat.reduceLeDiff, true_and, and_true]
    exact ⟨by simp, h1 e⟩
  refine b0 _ ?_
  simp only [bb_M_hasSignal_0, oIload, oAload, oIstore, oInc, oConst, o2, oDup, oPop, oDupX1, oDupX2, oDup2, oIf, oIfN, oCmp, oCmpN, oSwitch, oGetR, oGetI, oPutI, oPutZ, oIald, oZald, oIast, oZast, oRetI, oRetZ, oRetV, oCall, oRecv, oMax, List.map_cons, List.map_nil, List.getElem?_cons_zero, List.getElem?_cons_succ, List.set_cons_zero, List.set_cons_succ, List.length_cons, List.length_nil, List.cons_append, List.nil_append, List.append_nil, List.take_succ_cons, List.take_zero, List.drop_succ_cons, List.drop_zero, List.reverse_cons, List.reverse_nil, Option.toList, Value.category, List.sum_cons, List.sum_nil, zk_0, zk_1, zk_12, zk_20, zk_23, zk_27, zn_2, zn_3, zn_4, zn_5, zn_6, zn_7, zn_8, zn_9, zn_10, zn_11, zn_13, zn_14, zn_15, zn_16, zn_17, zn_18, zn_19, zn_21, zn_22, zn_24, zn_25, zn_26, zn_28, zn_29, zn_30, zn_31, zn_32, zn_33, zn_34, zn_35, zn_36, zn_37, zn_38, zn_39, zn_40, zn_41, zn_42, zn_43, zn_44, zn_45, zn_46, Nat.reduceAdd, Nat.reduceSub, Nat.reduceLeDiff, true_and, and_true]
  refine ⟨fun e => k1 (Or.inl e), fun e => ?_⟩
  refine sp_M_within ?_
  simp only [oIload, oAload, oIstore, oInc, oConst, o2, oDup, oPop, oDupX1, oDupX2, oDup2, oIf, oIfN, oCmp, oCmpN, oSwitch, oGetR, oGetI, oPutI, oPutZ, oIald, oZald, oIast, oZast, oRetI, oRetZ, oRetV, oCall, oRecv, oMax, List.map_cons, List.map_nil, List.getElem?_cons_zero, List.getElem?_cons_succ, List.set_cons_zero, List.set_cons_succ, List.length_cons, List.length_nil, List.cons_append, List.nil_append, List.append_nil, List.take_succ_cons, List.take_zero, List.drop_succ_cons, List.drop_zero, List.reverse_cons, List.reverse_nil, Option.toList, Value.category, List.sum_cons, List.sum_nil, zk_0, zk_1, zk_12, zk_20, zk_23, zk_27, zn_2, zn_3, zn_4, zn_5, zn_6, zn_7, zn_8, zn_9, zn_10, zn_11, zn_13, zn_14, zn_15, zn_16, zn_17, zn_18, zn_19, zn_21, zn_22, zn_24, zn_25, zn_26, zn_28, zn_29, zn_30, zn_31, zn_32, zn_33, zn_34, zn_35, zn_36, zn_37, zn_38, zn_39, zn_40, zn_41, zn_42, zn_43, zn_44, zn_45, zn_46, Nat.reduceAdd, Nat.reduceSub, Nat.reduceLeDiff, true_and, and_true]
  rw [zS_01]
  refine ⟨fun e2 => b2 _ ?_, fun e2 => k1 (Or.inr e2)⟩
  simp only [bb_M_hasSignal_2, oIload, oAload, oIstore, oInc, oConst, o2, oDup, oPop, oDupX1, oDupX2, oDup2, oIf, oIfN, oCmp, oCmpN, oSwitch, oGetR, oGetI, oPutI, oPutZ, oIald, oZald, oIast, oZast, oRetI, oRetZ, oRetV, oCall, oRecv, oMax, List.map_cons, List.map_nil, List.getElem?_cons_zero, List.getElem?_cons_succ, List.set_cons_zero, List.set_cons_succ, List.length_cons, List.length_nil, List.cons_append, List.nil_append, List.append_nil, List.take_succ_cons, List.take_zero, List.drop_succ_cons, List.drop_zero, List.reverse_cons, List.reverse_nil, Option.toList, Value.category, List.sum_cons, List.sum_nil, zk_0, zk_1, zk_12, zk_20, zk_23, zk_27, zn_2, zn_3, zn_4, zn_5, zn_6, zn_7, zn_8, zn_9, zn_10, zn_11, zn_13, zn_14, zn_15, zn_16, zn_17, zn_18, zn_19, zn_21, zn_22, zn_24, zn_25, zn_26, zn_28, zn_29, zn_30, zn_31, zn_32, zn_33, zn_34, zn_35, zn_36, zn_37, zn_38, zn_39, zn_40, zn_41, zn_42, zn_43, zn_44, zn_45, zn_46, Nat.reduceAdd, Nat.reduceSub, Nat.reduceLeDiff, true_and, and_true]
  refine b3 _ ?_
  simp only [bb_M_hasSignal_3, oIload, oAload, oIstore, oInc, oConst, o2, oDup, oPop, oDupX1, oDupX2, oDup2, oIf, oIfN, oCmp, oCmpN, oSwitch, oGetR, oGetI, oPutI, oPutZ, oIald, oZald, oIast, oZast, oRetI, oRetZ, oRetV, oCall, oRecv, oMax, List.map_cons, List.map_nil, List.getElem?_cons_zero, List.getElem?_cons_succ, List.set_cons_zero, List.set_cons_succ, List.length_cons, List.length_nil, List.cons_append, List.nil_append, List.append_nil, List.take_succ_cons, List.take_zero, List.drop_succ_cons, List.drop_zero, List.reverse_cons, List.reverse_nil, Option.toList, Value.category, List.sum_cons, List.sum_nil, zk_0, zk_1, zk_12, zk_20, zk_23, zk_27, zn_2, zn_3, zn_4, zn_5, zn_6, zn_7, zn_8, zn_9, zn_10, zn_11, zn_13, zn_14, zn_15, zn_16, zn_17, zn_18, zn_19, zn_21, zn_22, zn_24, zn_25, zn_26, zn_28, zn_29, zn_30, zn_31, zn_32, zn_33, zn_34, zn_35, zn_36, zn_37, zn_38, zn_39, zn_40, zn_41, zn_42, zn_43, zn_44, zn_45, zn_46, Nat.reduceAdd, Nat.reduceSub, Nat.reduceLeDiff, true_and, and_true]
  exact ⟨by simp, h0 (fun q => q.elim e (fun q => q e2))⟩
set_option maxHeartbeats 4000000 in
theorem sp_M_greater {x y : Int32} (h : r (some (.int (jG2 x y 6))) g) : qs_M_greater l (d + 1) [.int x, .int y] g r := by
  refine ss_M_greater fun K b0 b1 b2 b3 b4 b5 b6 b7 b8 => ?_
  have loop1 : ∀ n i y4, i + n = 6 → K 1 ([some (.int x), some (.int y), some (.int (jG2 x y i)), some (.int (nI i)), y4], [], g) := by
    intro n
    induction n with
    | zero =>
      intro i y4 hi
      have : i = 6 := by omega
      subst this
      refine b1 _ ?_
      simp only [bb_M_greater_1, oIload, oAload, oIstore, oInc, oConst, o2, oDup, oPop, oDupX1, oDupX2, oDup2, oIf, oIfN, oCmp, oCmpN, oSwitch, oGetR, oGetI, oPutI, oPutZ, oIald, oZald, oIast, oZast, oRetI, oRetZ, oRetV, oCall, oRecv, oMax, List.map_cons, List.map_nil, List.getElem?_cons_zero, List.getElem?_cons_succ, List.set_cons_zero, List.set_cons_succ, List.length_cons, List.length_nil, List.cons_append, List.nil_append, List.append_nil, List.take_succ_cons, List.take_zero, List.drop_succ_cons, List.drop_zero, List.reverse_cons, List.reverse_nil, Option.toList, Value.category, List.sum_cons, List.sum_nil, zk_0, zk_1, zk_12, zk_20, zk_23, zk_27, zn_2, zn_3, zn_4, zn_5, zn_6, zn_7, zn_8, zn_9, zn_10, zn_11, zn_13, zn_14, zn_15, zn_16, zn_17, zn_18, zn_19, zn_21, zn_22, zn_24, zn_25, zn_26, zn_28, zn_29, zn_30, zn_31, zn_32, zn_33, zn_34, zn_35, zn_36, zn_37, zn_38, zn_39, zn_40, zn_41, zn_42, zn_43, zn_44, zn_45, zn_46, Nat.reduceAdd, Nat.reduceSub, Nat.reduceLeDiff, true_and, and_true]
      refine ⟨fun _ => b8 _ ?_, fun e => absurd (by decide) e⟩
      simp only [bb_M_greater_8, oIload, oAload, oIstore, oInc, oConst, o2, oDup, oPop, oDupX1, oDupX2, oDup2, oIf, oIfN, oCmp, oCmpN, oSwitch, oGetR, oGetI, oPutI, oPutZ, oIald, oZald, oIast, oZast, oRetI, oRetZ, oRetV, oCall, oRecv, oMax, List.map_cons, List.map_nil, List.getElem?_cons_zero, List.getElem?_cons_succ, List.set_cons_zero, List.set_cons_succ, List.length_cons, List.length_nil, List.cons_append, List.nil_append, List.append_nil, List.take_succ_cons, List.take_zero, List.drop_succ_cons, List.drop_zero, List.reverse_cons, List.reverse_nil, Option.toList, Value.category, List.sum_cons, List.sum_nil, zk_0, zk_1, zk_12, zk_20, zk_23, zk_27, zn_2, zn_3, zn_4, zn_5, zn_6, zn_7, zn_8, zn_9, zn_10, zn_11, zn_13, zn_14, zn_15, zn_16, zn_17, zn_18, zn_19, zn_21, zn_22, zn_24, zn_25, zn_26, zn_28, zn_29, zn_30, zn_31, zn_32, zn_33, zn_34, zn_35, zn_36, zn_37, zn_38, zn_39, zn_40, zn_41, zn_42, zn_43, zn_44, zn_45, zn_46, Nat.reduceAdd, Nat.reduceSub, Nat.reduceLeDiff, true_and, and_true]
      exact h
    | succ n ih =>
      intro i y4 hi
      have loop2 : ∀ m j, j + m = 6 → K 2 ([some (.int x), some (.int y), some (.int (jG1 x y i (jG2 x y i) j)), some (.int (nI i)), some (.int (nI j))], [], g) := by
        intro m
        induction m with
        | zero =>
          intro j hj
          have : j = 6 := by omega
          subst this
          refine b2 _ ?_
          simp only [bb_M_greater_2, oIload, oAload, oIstore, oInc, oConst, o2, oDup, oPop, oDupX1, oDupX2, oDup2, oIf, oIfN, oCmp, oCmpN, oSwitch, oGetR, oGetI, oPutI, oPutZ, oIald, oZald, oIast, oZast, oRetI, oRetZ, oRetV, oCall, oRecv, oMax, List.map_cons, List.map_nil, List.getElem?_cons_zero, List.getElem?_cons_succ, List.set_cons_zero, List.set_cons_succ, List.length_cons, List.length_nil, List.cons_append, List.nil_append, List.append_nil, List.take_succ_cons, List.take_zero, List.drop_succ_cons, List.drop_zero, List.reverse_cons, List.reverse_nil, Option.toList, Value.category, List.sum_cons, List.sum_nil, zk_0, zk_1, zk_12, zk_20, zk_23, zk_27, zn_2, zn_3, zn_4, zn_5, zn_6, zn_7, zn_8, zn_9, zn_10, zn_11, zn_13, zn_14, zn_15, zn_16, zn_17, zn_18, zn_19, zn_21, zn_22, zn_24, zn_25, zn_26, zn_28, zn_29, zn_30, zn_31, zn_32, zn_33, zn_34, zn_35, zn_36, zn_37, zn_38, zn_39, zn_40, zn_41, zn_42, zn_43, zn_44, zn_45, zn_46, Nat.reduceAdd, Nat.reduceSub, Nat.reduceLeDiff, true_and, and_true]
          refine ⟨fun _ => b7 _ ?_, fun e => absurd (by decide) e⟩
          simp only [bb_M_greater_7, oIload, oAload, oIstore, oInc, oConst, o2, oDup, oPop, oDupX1, oDupX2, oDup2, oIf, oIfN, oCmp, oCmpN, oSwitch, oGetR, oGetI, oPutI, oPutZ, oIald, oZald, oIast, oZast, oRetI, oRetZ, oRetV, oCall, oRecv, oMax, List.map_cons, List.map_nil, List.getElem?_cons_zero, List.getElem?_cons_succ, List.set_cons_zero, List.set_cons_succ, List.length_cons, List.length_nil, List.cons_append, List.nil_append, List.append_nil, List.take_succ_cons, List.take_zero, List.drop_succ_cons, List.drop_zero, List.reverse_cons, List.reverse_nil, Option.toList, Value.category, List.sum_cons, List.sum_nil, zk_0, zk_1, zk_12, zk_20, zk_23, zk_27, zn_2, zn_3, zn_4, zn_5, zn_6, zn_7, zn_8, zn_9, zn_10, zn_11, zn_13, zn_14, zn_15, zn_16, zn_17, zn_18, zn_19, zn_21, zn_22, zn_24, zn_25, zn_26, zn_28, zn_29, zn_30, zn_31, zn_32, zn_33, zn_34, zn_35, zn_36, zn_37, zn_38, zn_39, zn_40, zn_41, zn_42, zn_43, zn_44, zn_45, zn_46, Nat.reduceAdd, Nat.reduceSub, Nat.reduceLeDiff, true_and, and_true]
          rw [nI_1]
          exact ih (i + 1) _ (by omega)
        | succ m ihm =>
          intro j hj
          have k6 : ∀ v : Int32, v = (if ((x >>> (nI i &&& 31)) &&& (y >>> (nI j &&& 31))) &&& 1 = 1 then (1 : Int32) <<< ((if nI i ≤ nI j then nI j else nI i) &&& 31) else 0) → K 6 ([some (.int x), some (.int y), some (.int (jG1 x y i (jG2 x y i) j)), some (.int (nI i)), some (.int (nI j))], [.int v, .int (jG1 x y i (jG2 x y i) j)], g) := by
            intro v hv
            refine b6 _ ?_
            simp only [bb_M_greater_6, oIload, oAload, oIstore, oInc, oConst, o2, oDup, oPop, oDupX1, oDupX2, oDup2, oIf, oIfN, oCmp, oCmpN, oSwitch, oGetR, oGetI, oPutI, oPutZ, oIald, oZald, oIast, oZast, oRetI, oRetZ, oRetV, oCall, oRecv, oMax, List.map_cons, List.map_nil, List.getElem?_cons_zero, List.getElem?_cons_succ, List.set_cons_zero, List.set_cons_succ, List.length_cons, List.length_nil, List.cons_append, List.nil_append, List.append_nil, List.take_succ_cons, List.take_zero, List.drop_succ_cons, List.drop_zero, List.reverse_cons, List.reverse_nil, Option.toList, Value.category, List.sum_cons, List.sum_nil, zk_0, zk_1, zk_12, zk_20, zk_23, zk_27, zn_2, zn_3, zn_4, zn_5, zn_6, zn_7, zn_8, zn_9, zn_10, zn_11, zn_13, zn_14, zn_15, zn_16, zn_17, zn_18, zn_19, zn_21, zn_22, zn_24, zn_25, zn_26, zn_28, zn_29, zn_30, zn_31, zn_32, zn_33, zn_34, zn_35, zn_36, zn_37, zn_38, zn_39, zn_40, zn_41, zn_42, zn_43, zn_44, zn_45, zn_46, Nat.reduceAdd, Nat.reduceSub, Nat.reduceLeDiff, true_and, and_true]
            rw [nI_1, hv]
            exact ihm (j + 1) (by omega)
          refine b2 _ ?_
          simp only [bb_M_greater_2, oIload, oAload, oIstore, oInc, oConst, o2, oDup, oPop, oDupX1, oDupX2, oDup2, oIf, oIfN, oCmp, oCmpN, oSwitch, oGetR, oGetI, oPutI, oPutZ, oIald, oZald, oIast, oZast, oRetI, oRetZ, oRetV, oCall, oRecv, oMax, List.map_cons, List.map_nil, List.getElem?_cons_zero, List.getElem?_cons_succ, List.set_cons_zero, List.set_cons_succ, List.length_cons, List.length_nil, List.cons_append, List.nil_append, List.append_nil, List.take_succ_cons, List.take_zero, List.drop_succ_cons, List.drop_zero, List.reverse_cons, List.reverse_nil, Option.toList, Value.category, List.sum_cons, List.sum_nil, zk_0, zk_1, zk_12, zk_20, zk_23, zk_27, zn_2, zn_3, zn_4, zn_5, zn_6, zn_7, zn_8, zn_9, zn_10, zn_11, zn_13, zn_14, zn_15, zn_16, zn_17, zn_18, zn_19, zn_21, zn_22, zn_24, zn_25, zn_26, zn_28, zn_29, zn_30, zn_31, zn_32, zn_33, zn_34, zn_35, zn_36, zn_37, zn_38, zn_39, zn_40, zn_41, zn_42, zn_43, zn_44, zn_45, zn_46, Nat.reduceAdd, Nat.reduceSub, Nat.reduceLeDiff, true_and, and_true]
          refine ⟨fun e => absurd e (nI_ge (a := j) (b := 6) (by omega) (by omega)), fun _ => ⟨fun e => b5 _ ?_, fun e => ⟨fun e2 => b3 _ ?_, fun e2 => b4 _ ?_⟩⟩⟩
          · simp only [bb_M_greater_5, oIload, oAload, oIstore, oInc, oConst, o2, oDup, oPop, oDupX1, oDupX2, oDup2, oIf, oIfN, oCmp, oCmpN, oSwitch, oGetR, oGetI, oPutI, oPutZ, oIald, oZald, oIast, oZast, oRetI, oRetZ, oRetV, oCall, oRecv, oMax, List.map_cons, List.map_nil, List.getElem?_cons_zero, List.getElem?_cons_succ, List.set_cons_zero, List.set_cons_succ, List.length_cons, List.length_nil, List.cons_append, List.nil_append, List.append_nil, List.take_succ_cons, List.take_zero, List.drop_succ_cons, List.drop_zero, List.reverse_cons, List.reverse_nil, Option.toList, Value.category, List.sum_cons, List.sum_nil, zk_0, zk_1, zk_12, zk_20, zk_23, zk_27, zn_2, zn_3, zn_4, zn_5, zn_6, zn_7, zn_8, zn_9, zn_10, zn_11, zn_13, zn_14, zn_15, zn_16, zn_17, zn_18, zn_19, zn_21, zn_22, zn_24, zn_25, zn_26, zn_28, zn_29, zn_30, zn_31, zn_32, zn_33, zn_34, zn_35, zn_36, zn_37, zn_38, zn_39, zn_40, zn_41, zn_42, zn_43, zn_44, zn_45, zn_46, Nat.reduceAdd, Nat.reduceSub, Nat.reduceLeDiff, true_and, and_true]
            exact k6 _ (by rw [if_neg e])
          · simp only [bb_M_greater_3, oIload, oAload, oIstore, oInc, oConst, o2, oDup, oPop, oDupX1, oDupX2, oDup2, oIf, oIfN, oCmp, oCmpN, oSwitch, oGetR, oGetI, oPutI, oPutZ, oIald, oZald, oIast, oZast, oRetI, oRetZ, oRetV, oCall, oRecv, oMax, List.map_cons, List.map_nil, List.getElem?_cons_zero, List.getElem?_cons_succ, List.set_cons_zero, List.set_cons_succ, List.length_cons, List.length_nil, List.cons_append, List.nil_append, List.append_nil, List.take_succ_cons, List.take_zero, List.drop_succ_cons, List.drop_zero, List.reverse_cons, List.reverse_nil, Option.toList, Value.category, List.sum_cons, List.sum_nil, zk_0, zk_1, zk_12, zk_20, zk_23, zk_27, zn_2, zn_3, zn_4, zn_5, zn_6, zn_7, zn_8, zn_9, zn_10, zn_11, zn_13, zn_14, zn_15, zn_16, zn_17, zn_18, zn_19, zn_21, zn_22, zn_24, zn_25, zn_26, zn_28, zn_29, zn_30, zn_31, zn_32, zn_33, zn_34, zn_35, zn_36, zn_37, zn_38, zn_39, zn_40, zn_41, zn_42, zn_43, zn_44, zn_45, zn_46, Nat.reduceAdd, Nat.reduceSub, Nat.reduceLeDiff, true_and, and_true]
            refine b4 _ ?_
            simp only [bb_M_greater_4, oIload, oAload, oIstore, oInc, oConst, o2, oDup, oPop, oDupX1, oDupX2, oDup2, oIf, oIfN, oCmp, oCmpN, oSwitch, oGetR, oGetI, oPutI, oPutZ, oIald, oZald, oIast, oZast, oRetI, oRetZ, oRetV, oCall, oRecv, oMax, List.map_cons, List.map_nil, List.getElem?_cons_zero, List.getElem?_cons_succ, List.set_cons_zero, List.set_cons_succ, List.length_cons, List.length_nil, List.cons_append, List.nil_append, List.append_nil, List.take_succ_cons, List.take_zero, List.drop_succ_cons, List.drop_zero, List.reverse_cons, List.reverse_nil, Option.toList, Value.category, List.sum_cons, List.sum_nil, zk_0, zk_1, zk_12, zk_20, zk_23, zk_27, zn_2, zn_3, zn_4, zn_5, zn_6, zn_7, zn_8, zn_9, zn_10, zn_11, zn_13, zn_14, zn_15, zn_16, zn_17, zn_18, zn_19, zn_21, zn_22, zn_24, zn_25, zn_26, zn_28, zn_29, zn_30, zn_31, zn_32, zn_33, zn_34, zn_35, zn_36, zn_37, zn_38, zn_39, zn_40, zn_41, zn_42, zn_43, zn_44, zn_45, zn_46, Nat.reduceAdd, Nat.reduceSub, Nat.reduceLeDiff, true_and, and_true]
            exact k6 _ (by rw [if_pos e, if_pos e2])
          · simp only [bb_M_greater_4, oIload, oAload, oIstore, oInc, oConst, o2, oDup, oPop, oDupX1, oDupX2, oDup2, oIf, oIfN, oCmp, oCmpN, oSwitch, oGetR, oGetI, oPutI, oPutZ, oIald, oZald, oIast, oZast, oRetI, oRetZ, oRetV, oCall, oRecv, oMax, List.map_cons, List.map_nil, List.getElem?_cons_zero, List.getElem?_cons_succ, List.set_cons_zero, List.set_cons_succ, List.length_cons, List.length_nil, List.cons_append, List.nil_append, List.append_nil, List.take_succ_cons, List.take_zero, List.drop_succ_cons, List.drop_zero, List.reverse_cons, List.reverse_nil, Option.toList, Value.category, List.sum_cons, List.sum_nil, zk_0, zk_1, zk_12, zk_20, zk_23, zk_27, zn_2, zn_3, zn_4, zn_5, zn_6, zn_7, zn_8, zn_9, zn_10, zn_11, zn_13, zn_14, zn_15, zn_16, zn_17, zn_18, zn_19, zn_21, zn_22, zn_24, zn_25, zn_26, zn_28, zn_29, zn_30, zn_31, zn_32, zn_33, zn_34, zn_35, zn_36, zn_37, zn_38, zn_39, zn_40, zn_41, zn_42, zn_43, zn_44, zn_45, zn_46, Nat.reduceAdd, Nat.reduceSub, Nat.reduceLeDiff, true_and, and_true]
            exact k6 _ (by rw [if_pos e, if_neg e2])
      refine b1 _ ?_
      simp only [bb_M_greater_1, oIload, oAload, oIstore, oInc, oConst, o2, oDup, oPop, oDupX1, oDupX2, oDup2, oIf, oIfN, oCmp, oCmpN, oSwitch, oGetR, oGetI, oPutI, oPutZ, oIald, oZald, oIast, oZast, oRetI, oRetZ, oRetV, oCall, oRecv, oMax, List.map_cons, List.map_nil, List.getElem?_cons_zero, List.getElem?_cons_succ, List.set_cons_zero, List.set_cons_succ, List.length_cons, List.length_nil, List.cons_append, List.nil_append, List.append_nil, List.take_succ_cons, List.take_zero, List.drop_succ_cons, List.drop_zero, List.reverse_cons, List.reverse_nil, Option.toList, Value.category, List.sum_cons, List.sum_nil, zk_0, zk_1, zk_12, zk_20, zk_23, zk_27, zn_2, zn_3, zn_4, zn_5, zn_6, zn_7, zn_8, zn_9, zn_10, zn_11, zn_13, zn_14, zn_15, zn_16, zn_17, zn_18, zn_19, zn_21, zn_22, zn_24, zn_25, zn_26, zn_28, zn_29, zn_30, zn_31, zn_32, zn_33, zn_34, zn_35, zn_36, zn_37, zn_38, zn_39, zn_40, zn_41, zn_42, zn_43, zn_44, zn_45, zn_46, Nat.reduceAdd, Nat.reduceSub, Nat.reduceLeDiff, true_and, and_true]
      refine ⟨fun e => absurd e (nI_ge (a := i) (b := 6) (by omega) (by omega)), fun _ => ?_⟩
      exact loop2 6 0 (by omega)
  refine b0 _ ?_
  simp only [bb_M_greater_0, oIload, oAload, oIstore, oInc, oConst, o2, oDup, oPop, oDupX1, oDupX2, oDup2, oIf, oIfN, oCmp, oCmpN, oSwitch, oGetR, oGetI, oPutI, oPutZ, oIald, oZald, oIast, oZast, oRetI, oRetZ, oRetV, oCall, oRecv, oMax, List.map_cons, List.map_nil, List.getElem?_cons_zero, List.getElem?_cons_succ, List.set_cons_zero, List.set_cons_succ, List.length_cons, List.length_nil, List.cons_append, List.nil_append, List.append_nil, List.take_succ_cons, List.take_zero, List.drop_succ_cons, List.drop_zero, List.reverse_cons, List.reverse_nil, Option.toList, Value.category, List.sum_cons, List.sum_nil, zk_0, zk_1, zk_12, zk_20, zk_23, zk_27, zn_2, zn_3, zn_4, zn_5, zn_6, zn_7, zn_8, zn_9, zn_10, zn_11, zn_13, zn_14, zn_15, zn_16, zn_17, zn_18, zn_19, zn_21, zn_22, zn_24, zn_25, zn_26, zn_28, zn_29, zn_30, zn_31, zn_32, zn_33, zn_34, zn_35, zn_36, zn_37, zn_38, zn_39, zn_40, zn_41, zn_42, zn_43, zn_44, zn_45, zn_46, Nat.reduceAdd, Nat.reduceSub, Nat.reduceLeDiff, true_and, and_true]
  exact loop1 6 0 _ (by omega)
set_option maxHeartbeats 4000000 in
theorem sp_M_answers {k a x y : Int32} (h : r (some (.int (jAns k a x y))) g) : qs_M_answers l (d + 2) [.int k, .int a, .int x, .int y] g r := by
  unfold jAns at h
  refine ss_M_answers fun K b0 b1 b2 b3 b4 b5 b6 b7 b8 b9 b10 b11 => ?_
  refine b0 _ ?_
  simp only [bb_M_answers_0, oIload, oAload, oIstore, oInc, oConst, o2, oDup, oPop, oDupX1, oDupX2, oDup2, oIf, oIfN, oCmp, oCmpN, oSwitch, oGetR, oGetI, oPutI, oPutZ, oIald, oZald, oIast, oZast, oRetI, oRetZ, oRetV, oCall, oRecv, oMax, List.map_cons, List.map_nil, List.getElem?_cons_zero, List.getElem?_cons_succ, List.set_cons_zero, List.set_cons_succ, List.length_cons, List.length_nil, List.cons_append, List.nil_append, List.append_nil, List.take_succ_cons, List.take_zero, List.drop_succ_cons, List.drop_zero, List.reverse_cons, List.reverse_nil, Option.toList, Value.category, List.sum_cons, List.sum_nil, zk_0, zk_1, zk_12, zk_20, zk_23, zk_27, zn_2, zn_3, zn_4, zn_5, zn_6, zn_7, zn_8, zn_9, zn_10, zn_11, zn_13, zn_14, zn_15, zn_16, zn_17, zn_18, zn_19, zn_21, zn_22, zn_24, zn_25, zn_26, zn_28, zn_29, zn_30, zn_31, zn_32, zn_33, zn_34, zn_35, zn_36, zn_37, zn_38, zn_39, zn_40, zn_41, zn_42, zn_43, zn_44, zn_45, zn_46, Nat.reduceAdd, Nat.reduceSub, Nat.reduceLeDiff, true_and, and_true]
  refine ⟨fun e1 => b1 _ ?_, fun e1 => by rw [if_pos e1] at h; exact h⟩
  rw [if_neg e1] at h
  simp only [bb_M_answers_1, oIload, oAload, oIstore, oInc, oConst, o2, oDup, oPop, oDupX1, oDupX2, oDup2, oIf, oIfN, oCmp, oCmpN, oSwitch, oGetR, oGetI, oPutI, oPutZ, oIald, oZald, oIast, oZast, oRetI, oRetZ, oRetV, oCall, oRecv, oMax, List.map_cons, List.map_nil, List.getElem?_cons_zero, List.getElem?_cons_succ, List.set_cons_zero, List.set_cons_succ, List.length_cons, List.length_nil, List.cons_append, List.nil_append, List.append_nil, List.take_succ_cons, List.take_zero, List.drop_succ_cons, List.drop_zero, List.reverse_cons, List.reverse_nil, Option.toList, Value.category, List.sum_cons, List.sum_nil, zk_0, zk_1, zk_12, zk_20, zk_23, zk_27, zn_2, zn_3, zn_4, zn_5, zn_6, zn_7, zn_8, zn_9, zn_10, zn_11, zn_13, zn_14, zn_15, zn_16, zn_17, zn_18, zn_19, zn_21, zn_22, zn_24, zn_25, zn_26, zn_28, zn_29, zn_30, zn_31, zn_32, zn_33, zn_34, zn_35, zn_36, zn_37, zn_38, zn_39, zn_40, zn_41, zn_42, zn_43, zn_44, zn_45, zn_46, Nat.reduceAdd, Nat.reduceSub, Nat.reduceLeDiff, true_and, and_true]
  refine ⟨fun e10 => b2 _ ?_, fun e10 => by rw [if_pos e10] at h; exact h⟩
  rw [if_neg e10] at h
  simp only [bb_M_answers_2, oIload, oAload, oIstore, oInc, oConst, o2, oDup, oPop, oDupX1, oDupX2, oDup2, oIf, oIfN, oCmp, oCmpN, oSwitch, oGetR, oGetI, oPutI, oPutZ, oIald, oZald, oIast, oZast, oRetI, oRetZ, oRetV, oCall, oRecv, oMax, List.map_cons, List.map_nil, List.getElem?_cons_zero, List.getElem?_cons_succ, List.set_cons_zero, List.set_cons_succ, List.length_cons, List.length_nil, List.cons_append, List.nil_append, List.append_nil, List.take_succ_cons, List.take_zero, List.drop_succ_cons, List.drop_zero, List.reverse_cons, List.reverse_nil, Option.toList, Value.category, List.sum_cons, List.sum_nil, zk_0, zk_1, zk_12, zk_20, zk_23, zk_27, zn_2, zn_3, zn_4, zn_5, zn_6, zn_7, zn_8, zn_9, zn_10, zn_11, zn_13, zn_14, zn_15, zn_16, zn_17, zn_18, zn_19, zn_21, zn_22, zn_24, zn_25, zn_26, zn_28, zn_29, zn_30, zn_31, zn_32, zn_33, zn_34, zn_35, zn_36, zn_37, zn_38, zn_39, zn_40, zn_41, zn_42, zn_43, zn_44, zn_45, zn_46, Nat.reduceAdd, Nat.reduceSub, Nat.reduceLeDiff, true_and, and_true]
  refine ⟨fun e3 => b5 _ ?_, fun e3 => ?_⟩
  · rw [if_neg e3] at h
    simp only [bb_M_answers_5, oIload, oAload, oIstore, oInc, oConst, o2, oDup, oPop, oDupX1, oDupX2, oDup2, oIf, oIfN, oCmp, oCmpN, oSwitch, oGetR, oGetI, oPutI, oPutZ, oIald, oZald, oIast, oZast, oRetI, oRetZ, oRetV, oCall, oRecv, oMax, List.map_cons, List.map_nil, List.getElem?_cons_zero, List.getElem?_cons_succ, List.set_cons_zero, List.set_cons_succ, List.length_cons, List.length_nil, List.cons_append, List.nil_append, List.append_nil, List.take_succ_cons, List.take_zero, List.drop_succ_cons, List.drop_zero, List.reverse_cons, List.reverse_nil, Option.toList, Value.category, List.sum_cons, List.sum_nil, zk_0, zk_1, zk_12, zk_20, zk_23, zk_27, zn_2, zn_3, zn_4, zn_5, zn_6, zn_7, zn_8, zn_9, zn_10, zn_11, zn_13, zn_14, zn_15, zn_16, zn_17, zn_18, zn_19, zn_21, zn_22, zn_24, zn_25, zn_26, zn_28, zn_29, zn_30, zn_31, zn_32, zn_33, zn_34, zn_35, zn_36, zn_37, zn_38, zn_39, zn_40, zn_41, zn_42, zn_43, zn_44, zn_45, zn_46, Nat.reduceAdd, Nat.reduceSub, Nat.reduceLeDiff, true_and, and_true]
    refine ⟨fun e4 => b6 _ ?_, fun e4 => ?_⟩
    · rw [if_neg e4] at h
      simp only [bb_M_answers_6, oIload, oAload, oIstore, oInc, oConst, o2, oDup, oPop, oDupX1, oDupX2, oDup2, oIf, oIfN, oCmp, oCmpN, oSwitch, oGetR, oGetI, oPutI, oPutZ, oIald, oZald, oIast, oZast, oRetI, oRetZ, oRetV, oCall, oRecv, oMax, List.map_cons, List.map_nil, List.getElem?_cons_zero, List.getElem?_cons_succ, List.set_cons_zero, List.set_cons_succ, List.length_cons, List.length_nil, List.cons_append, List.nil_append, List.append_nil, List.take_succ_cons, List.take_zero, List.drop_succ_cons, List.drop_zero, List.reverse_cons, List.reverse_nil, Option.toList, Value.category, List.sum_cons, List.sum_nil, zk_0, zk_1, zk_12, zk_20, zk_23, zk_27, zn_2, zn_3, zn_4, zn_5, zn_6, zn_7, zn_8, zn_9, zn_10, zn_11, zn_13, zn_14, zn_15, zn_16, zn_17, zn_18, zn_19, zn_21, zn_22, zn_24, zn_25, zn_26, zn_28, zn_29, zn_30, zn_31, zn_32, zn_33, zn_34, zn_35, zn_36, zn_37, zn_38, zn_39, zn_40, zn_41, zn_42, zn_43, zn_44, zn_45, zn_46, Nat.reduceAdd, Nat.reduceSub, Nat.reduceLeDiff, true_and, and_true]
      refine ⟨fun e5 => b7 _ ?_, fun e5 => by rw [if_pos e5] at h; exact h⟩
      rw [if_neg e5] at h
      simp only [bb_M_answers_7, oIload, oAload, oIstore, oInc, oConst, o2, oDup, oPop, oDupX1, oDupX2, oDup2, oIf, oIfN, oCmp, oCmpN, oSwitch, oGetR, oGetI, oPutI, oPutZ, oIald, oZald, oIast, oZast, oRetI, oRetZ, oRetV, oCall, oRecv, oMax, List.map_cons, List.map_nil, List.getElem?_cons_zero, List.getElem?_cons_succ, List.set_cons_zero, List.set_cons_succ, List.length_cons, List.length_nil, List.cons_append, List.nil_append, List.append_nil, List.take_succ_cons, List.take_zero, List.drop_succ_cons, List.drop_zero, List.reverse_cons, List.reverse_nil, Option.toList, Value.category, List.sum_cons, List.sum_nil, zk_0, zk_1, zk_12, zk_20, zk_23, zk_27, zn_2, zn_3, zn_4, zn_5, zn_6, zn_7, zn_8, zn_9, zn_10, zn_11, zn_13, zn_14, zn_15, zn_16, zn_17, zn_18, zn_19, zn_21, zn_22, zn_24, zn_25, zn_26, zn_28, zn_29, zn_30, zn_31, zn_32, zn_33, zn_34, zn_35, zn_36, zn_37, zn_38, zn_39, zn_40, zn_41, zn_42, zn_43, zn_44, zn_45, zn_46, Nat.reduceAdd, Nat.reduceSub, Nat.reduceLeDiff, true_and, and_true]
      refine ⟨fun e6 => b8 _ ?_, fun e6 => by rw [if_pos e6] at h; exact h⟩
      rw [if_neg e6] at h
      have k9 : (k = 7 ∨ k = 8) → K 9 ([some (.int k), some (.int a), some (.int x), some (.int y)], [], g) := fun e => by
        refine b9 _ ?_
        simp only [bb_M_answers_9, oIload, oAload, oIstore, oInc, oConst, o2, oDup, oPop, oDupX1, oDupX2, oDup2, oIf, oIfN, oCmp, oCmpN, oSwitch, oGetR, oGetI, oPutI, oPutZ, oIald, oZald, oIast, oZast, oRetI, oRetZ, oRetV, oCall, oRecv, oMax, List.map_cons, List.map_nil, List.getElem?_cons_zero, List.getElem?_cons_succ, List.set_cons_zero, List.set_cons_succ, List.length_cons, List.length_nil, List.cons_append, List.nil_append, List.append_nil, List.take_succ_cons, List.take_zero, List.drop_succ_cons, List.drop_zero, List.reverse_cons, List.reverse_nil, Option.toList, Value.category, List.sum_cons, List.sum_nil, zk_0, zk_1, zk_12, zk_20, zk_23, zk_27, zn_2, zn_3, zn_4, zn_5, zn_6, zn_7, zn_8, zn_9, zn_10, zn_11, zn_13, zn_14, zn_15, zn_16, zn_17, zn_18, zn_19, zn_21, zn_22, zn_24, zn_25, zn_26, zn_28, zn_29, zn_30, zn_31, zn_32, zn_33, zn_34, zn_35, zn_36, zn_37, zn_38, zn_39, zn_40, zn_41, zn_42, zn_43, zn_44, zn_45, zn_46, Nat.reduceAdd, Nat.reduceSub, Nat.reduceLeDiff, true_and, and_true]
        rw [if_pos e] at h; exact h
      simp only [bb_M_answers_8, oIload, oAload, oIstore, oInc, oConst, o2, oDup, oPop, oDupX1, oDupX2, oDup2, oIf, oIfN, oCmp, oCmpN, oSwitch, oGetR, oGetI, oPutI, oPutZ, oIald, oZald, oIast, oZast, oRetI, oRetZ, oRetV, oCall, oRecv, oMax, List.map_cons, List.map_nil, List.getElem?_cons_zero, List.getElem?_cons_succ, List.set_cons_zero, List.set_cons_succ, List.length_cons, List.length_nil, List.cons_append, List.nil_append, List.append_nil, List.take_succ_cons, List.take_zero, List.drop_succ_cons, List.drop_zero, List.reverse_cons, List.reverse_nil, Option.toList, Value.category, List.sum_cons, List.sum_nil, zk_0, zk_1, zk_12, zk_20, zk_23, zk_27, zn_2, zn_3, zn_4, zn_5, zn_6, zn_7, zn_8, zn_9, zn_10, zn_11, zn_13, zn_14, zn_15, zn_16, zn_17, zn_18, zn_19, zn_21, zn_22, zn_24, zn_25, zn_26, zn_28, zn_29, zn_30, zn_31, zn_32, zn_33, zn_34, zn_35, zn_36, zn_37, zn_38, zn_39, zn_40, zn_41, zn_42, zn_43, zn_44, zn_45, zn_46, Nat.reduceAdd, Nat.reduceSub, Nat.reduceLeDiff, true_and, and_true]
      refine ⟨fun e7 => k9 (Or.inl e7), fun e7 => ⟨fun e8 => b10 _ ?_, fun e8 => k9 (Or.inr e8)⟩⟩
      rw [if_neg (fun q => q.elim e7 e8)] at h
      simp only [bb_M_answers_10, oIload, oAload, oIstore, oInc, oConst, o2, oDup, oPop, oDupX1, oDupX2, oDup2, oIf, oIfN, oCmp, oCmpN, oSwitch, oGetR, oGetI, oPutI, oPutZ, oIald, oZald, oIast, oZast, oRetI, oRetZ, oRetV, oCall, oRecv, oMax, List.map_cons, List.map_nil, List.getElem?_cons_zero, List.getElem?_cons_succ, List.set_cons_zero, List.set_cons_succ, List.length_cons, List.length_nil, List.cons_append, List.nil_append, List.append_nil, List.take_succ_cons, List.take_zero, List.drop_succ_cons, List.drop_zero, List.reverse_cons, List.reverse_nil, Option.toList, Value.category, List.sum_cons, List.sum_nil, zk_0, zk_1, zk_12, zk_20, zk_23, zk_27, zn_2, zn_3, zn_4, zn_5, zn_6, zn_7, zn_8, zn_9, zn_10, zn_11, zn_13, zn_14, zn_15, zn_16, zn_17, zn_18, zn_19, zn_21, zn_22, zn_24, zn_25, zn_26, zn_28, zn_29, zn_30, zn_31, zn_32, zn_33, zn_34, zn_35, zn_36, zn_37, zn_38, zn_39, zn_40, zn_41, zn_42, zn_43, zn_44, zn_45, zn_46, Nat.reduceAdd, Nat.reduceSub, Nat.reduceLeDiff, true_and, and_true]
      refine ⟨fun e9 => b11 _ ?_, fun e9 => by rw [if_pos e9] at h; exact h⟩
      rw [if_neg e9] at h
      simp only [bb_M_answers_11, oIload, oAload, oIstore, oInc, oConst, o2, oDup, oPop, oDupX1, oDupX2, oDup2, oIf, oIfN, oCmp, oCmpN, oSwitch, oGetR, oGetI, oPutI, oPutZ, oIald, oZald, oIast, oZast, oRetI, oRetZ, oRetV, oCall, oRecv, oMax, List.map_cons, List.map_nil, List.getElem?_cons_zero, List.getElem?_cons_succ, List.set_cons_zero, List.set_cons_succ, List.length_cons, List.length_nil, List.cons_append, List.nil_append, List.append_nil, List.take_succ_cons, List.take_zero, List.drop_succ_cons, List.drop_zero, List.reverse_cons, List.reverse_nil, Option.toList, Value.category, List.sum_cons, List.sum_nil, zk_0, zk_1, zk_12, zk_20, zk_23, zk_27, zn_2, zn_3, zn_4, zn_5, zn_6, zn_7, zn_8, zn_9, zn_10, zn_11, zn_13, zn_14, zn_15, zn_16, zn_17, zn_18, zn_19, zn_21, zn_22, zn_24, zn_25, zn_26, zn_28, zn_29, zn_30, zn_31, zn_32, zn_33, zn_34, zn_35, zn_36, zn_37, zn_38, zn_39, zn_40, zn_41, zn_42, zn_43, zn_44, zn_45, zn_46, Nat.reduceAdd, Nat.reduceSub, Nat.reduceLeDiff, true_and, and_true]
      exact h
    · rw [if_pos e4] at h
      refine sp_M_greater ?_
      simp only [oIload, oAload, oIstore, oInc, oConst, o2, oDup, oPop, oDupX1, oDupX2, oDup2, oIf, oIfN, oCmp, oCmpN, oSwitch, oGetR, oGetI, oPutI, oPutZ, oIald, oZald, oIast, oZast, oRetI, oRetZ, oRetV, oCall, oRecv, oMax, List.map_cons, List.map_nil, List.getElem?_cons_zero, List.getElem?_cons_succ, List.set_cons_zero, List.set_cons_succ, List.length_cons, List.length_nil, List.cons_append, List.nil_append, List.append_nil, List.take_succ_cons, List.take_zero, List.drop_succ_cons, List.drop_zero, List.reverse_cons, List.reverse_nil, Option.toList, Value.category, List.sum_cons, List.sum_nil, zk_0, zk_1, zk_12, zk_20, zk_23, zk_27, zn_2, zn_3, zn_4, zn_5, zn_6, zn_7, zn_8, zn_9, zn_10, zn_11, zn_13, zn_14, zn_15, zn_16, zn_17, zn_18, zn_19, zn_21, zn_22, zn_24, zn_25, zn_26, zn_28, zn_29, zn_30, zn_31, zn_32, zn_33, zn_34, zn_35, zn_36, zn_37, zn_38, zn_39, zn_40, zn_41, zn_42, zn_43, zn_44, zn_45, zn_46, Nat.reduceAdd, Nat.reduceSub, Nat.reduceLeDiff, true_and, and_true]
      exact h
  · rw [if_pos e3] at h
    refine ⟨fun e => b3 _ ?_, fun e => b4 _ ?_⟩
    · simp only [bb_M_answers_3, oIload, oAload, oIstore, oInc, oConst, o2, oDup, oPop, oDupX1, oDupX2, oDup2, oIf, oIfN, oCmp, oCmpN, oSwitch, oGetR, oGetI, oPutI, oPutZ, oIald, oZald, oIast, oZast, oRetI, oRetZ, oRetV, oCall, oRecv, oMax, List.map_cons, List.map_nil, List.getElem?_cons_zero, List.getElem?_cons_succ, List.set_cons_zero, List.set_cons_succ, List.length_cons, List.length_nil, List.cons_append, List.nil_append, List.append_nil, List.take_succ_cons, List.take_zero, List.drop_succ_cons, List.drop_zero, List.reverse_cons, List.reverse_nil, Option.toList, Value.category, List.sum_cons, List.sum_nil, zk_0, zk_1, zk_12, zk_20, zk_23, zk_27, zn_2, zn_3, zn_4, zn_5, zn_6, zn_7, zn_8, zn_9, zn_10, zn_11, zn_13, zn_14, zn_15, zn_16, zn_17, zn_18, zn_19, zn_21, zn_22, zn_24, zn_25, zn_26, zn_28, zn_29, zn_30, zn_31, zn_32, zn_33, zn_34, zn_35, zn_36, zn_37, zn_38, zn_39, zn_40, zn_41, zn_42, zn_43, zn_44, zn_45, zn_46, Nat.reduceAdd, Nat.reduceSub, Nat.reduceLeDiff, true_and, and_true]
      refine b4 _ ?_
      simp only [bb_M_answers_4, oIload, oAload, oIstore, oInc, oConst, o2, oDup, oPop, oDupX1, oDupX2, oDup2, oIf, oIfN, oCmp, oCmpN, oSwitch, oGetR, oGetI, oPutI, oPutZ, oIald, oZald, oIast, oZast, oRetI, oRetZ, oRetV, oCall, oRecv, oMax, List.map_cons, List.map_nil, List.getElem?_cons_zero, List.getElem?_cons_succ, List.set_cons_zero, List.set_cons_succ, List.length_cons, List.length_nil, List.cons_append, List.nil_append, List.append_nil, List.take_succ_cons, List.take_zero, List.drop_succ_cons, List.drop_zero, List.reverse_cons, List.reverse_nil, Option.toList, Value.category, List.sum_cons, List.sum_nil, zk_0, zk_1, zk_12, zk_20, zk_23, zk_27, zn_2, zn_3, zn_4, zn_5, zn_6, zn_7, zn_8, zn_9, zn_10, zn_11, zn_13, zn_14, zn_15, zn_16, zn_17, zn_18, zn_19, zn_21, zn_22, zn_24, zn_25, zn_26, zn_28, zn_29, zn_30, zn_31, zn_32, zn_33, zn_34, zn_35, zn_36, zn_37, zn_38, zn_39, zn_40, zn_41, zn_42, zn_43, zn_44, zn_45, zn_46, Nat.reduceAdd, Nat.reduceSub, Nat.reduceLeDiff, true_and, and_true]
      rw [if_neg e] at h; exact h
    · simp only [bb_M_answers_4, oIload, oAload, oIstore, oInc, oConst, o2, oDup, oPop, oDupX1, oDupX2, oDup2, oIf, oIfN, oCmp, oCmpN, oSwitch, oGetR, oGetI, oPutI, oPutZ, oIald, oZald, oIast, oZast, oRetI, oRetZ, oRetV, oCall, oRecv, oMax, List.map_cons, List.map_nil, List.getElem?_cons_zero, List.getElem?_cons_succ, List.set_cons_zero, List.set_cons_succ, List.length_cons, List.length_nil, List.cons_append, List.nil_append, List.append_nil, List.take_succ_cons, List.take_zero, List.drop_succ_cons, List.drop_zero, List.reverse_cons, List.reverse_nil, Option.toList, Value.category, List.sum_cons, List.sum_nil, zk_0, zk_1, zk_12, zk_20, zk_23, zk_27, zn_2, zn_3, zn_4, zn_5, zn_6, zn_7, zn_8, zn_9, zn_10, zn_11, zn_13, zn_14, zn_15, zn_16, zn_17, zn_18, zn_19, zn_21, zn_22, zn_24, zn_25, zn_26, zn_28, zn_29, zn_30, zn_31, zn_32, zn_33, zn_34, zn_35, zn_36, zn_37, zn_38, zn_39, zn_40, zn_41, zn_42, zn_43, zn_44, zn_45, zn_46, Nat.reduceAdd, Nat.reduceSub, Nat.reduceLeDiff, true_and, and_true]
      rw [if_pos e] at h; exact h
def jFits (k : Nat) (z : Int32) : Prop := ((k = 2 ∨ k = 8) → ¬ z < 3 ∧ ¬ 8 ≤ z) ∧ ((k = 6 ∨ k = 7) → ¬ z < 0 ∧ ¬ 8 ≤ z) ∧ (k = 10 → ¬ z < 0 ∧ ¬ 3 < z)
set_option maxHeartbeats 4000000 in
theorem sp_X_numberFits {k : Nat} {z : Int32} (hk : k ≤ 10) (h1 : jFits k z → r (some (.int 1)) g) (h0 : ¬ jFits k z → r (some (.int 0)) g) : qs_X_numberFits l (d + 1) [.int (nI k), .int z] g r := by
  refine ss_X_numberFits fun K b0 b1 b2 b3 b4 b5 b6 b7 b8 b9 b10 => ?_
  have k1 : (k = 2 ∨ k = 8) → K 1 ([some (.int (nI k)), some (.int z)], [], g) := by
    intro e
    have k2 : (z < 3 ∨ 8 ≤ z) → K 2 ([some (.int (nI k)), some (.int z)], [], g) := fun q => by
      refine b2 _ ?_
      simp only [bb_X_numberFits_2, oIload, oAload, oIstore, oInc, oConst, o2, oDup, oPop, oDupX1, oDupX2, oDup2, oIf, oIfN, oCmp, oCmpN, oSwitch, oGetR, oGetI, oPutI, oPutZ, oIald, oZald, oIast, oZast, oRetI, oRetZ, oRetV, oCall, oRecv, oMax, List.map_cons, List.map_nil, List.getElem?_cons_zero, List.getElem?_cons_succ, List.set_cons_zero, List.set_cons_succ, List.length_cons, List.length_nil, List.cons_append, List.nil_append, List.append_nil, List.take_succ_cons, List.take_zero, List.drop_succ_cons, List.drop_zero, List.reverse_cons, List.reverse_nil, Option.toList, Value.category, List.sum_cons, List.sum_nil, zk_0, zk_1, zk_12, zk_20, zk_23, zk_27, zn_2, zn_3, zn_4, zn_5, zn_6, zn_7, zn_8, zn_9, zn_10, zn_11, zn_13, zn_14, zn_15, zn_16, zn_17, zn_18, zn_19, zn_21, zn_22, zn_24, zn_25, zn_26, zn_28, zn_29, zn_30, zn_31, zn_32, zn_33, zn_34, zn_35, zn_36, zn_37, zn_38, zn_39, zn_40, zn_41, zn_42, zn_43, zn_44, zn_45, zn_46, Nat.reduceAdd, Nat.reduceSub, Nat.reduceLeDiff, true_and, and_true]
      refine b3 _ ?_
      simp only [bb_X_numberFits_3, oIload, oAload, oIstore, oInc, oConst, o2, oDup, oPop, oDupX1, oDupX2, oDup2, oIf, oIfN, oCmp, oCmpN, oSwitch, oGetR, oGetI, oPutI, oPutZ, oIald, oZald, oIast, oZast, oRetI, oRetZ, oRetV, oCall, oRecv, oMax, List.map_cons, List.map_nil, List.getElem?_cons_zero, List.getElem?_cons_succ, List.set_cons_zero, List.set_cons_succ, List.length_cons, List.length_nil, List.cons_append, List.nil_append, List.append_nil, List.take_succ_cons, List.take_zero, List.drop_succ_cons, List.drop_zero, List.reverse_cons, List.reverse_nil, Option.toList, Value.category, List.sum_cons, List.sum_nil, zk_0, zk_1, zk_12, zk_20, zk_23, zk_27, zn_2, zn_3, zn_4, zn_5, zn_6, zn_7, zn_8, zn_9, zn_10, zn_11, zn_13, zn_14, zn_15, zn_16, zn_17, zn_18, zn_19, zn_21, zn_22, zn_24, zn_25, zn_26, zn_28, zn_29, zn_30, zn_31, zn_32, zn_33, zn_34, zn_35, zn_36, zn_37, zn_38, zn_39, zn_40, zn_41, zn_42, zn_43, zn_44, zn_45, zn_46, Nat.reduceAdd, Nat.reduceSub, Nat.reduceLeDiff, true_and, and_true]
      exact ⟨by simp, h0 (fun hf => q.elim (hf.1 e).1 (hf.1 e).2)⟩
    refine b1 _ ?_
    simp only [bb_X_numberFits_1, oIload, oAload, oIstore, oInc, oConst, o2, oDup, oPop, oDupX1, oDupX2, oDup2, oIf, oIfN, oCmp, oCmpN, oSwitch, oGetR, oGetI, oPutI, oPutZ, oIald, oZald, oIast, oZast, oRetI, oRetZ, oRetV, oCall, oRecv, oMax, List.map_cons, List.map_nil, List.getElem?_cons_zero, List.getElem?_cons_succ, List.set_cons_zero, List.set_cons_succ, List.length_cons, List.length_nil, List.cons_append, List.nil_append, List.append_nil, List.take_succ_cons, List.take_zero, List.drop_succ_cons, List.drop_zero, List.reverse_cons, List.reverse_nil, Option.toList, Value.category, List.sum_cons, List.sum_nil, zk_0, zk_1, zk_12, zk_20, zk_23, zk_27, zn_2, zn_3, zn_4, zn_5, zn_6, zn_7, zn_8, zn_9, zn_10, zn_11, zn_13, zn_14, zn_15, zn_16, zn_17, zn_18, zn_19, zn_21, zn_22, zn_24, zn_25, zn_26, zn_28, zn_29, zn_30, zn_31, zn_32, zn_33, zn_34, zn_35, zn_36, zn_37, zn_38, zn_39, zn_40, zn_41, zn_42, zn_43, zn_44, zn_45, zn_46, Nat.reduceAdd, Nat.reduceSub, Nat.reduceLeDiff, true_and, and_true]
    refine ⟨fun q => k2 (Or.inl q), fun q => ⟨fun q2 => k2 (Or.inr q2), fun q2 => b3 _ ?_⟩⟩
    simp only [bb_X_numberFits_3, oIload, oAload, oIstore, oInc, oConst, o2, oDup, oPop, oDupX1, oDupX2, oDup2, oIf, oIfN, oCmp, oCmpN, oSwitch, oGetR, oGetI, oPutI, oPutZ, oIald, oZald, oIast, oZast, oRetI, oRetZ, oRetV, oCall, oRecv, oMax, List.map_cons, List.map_nil, List.getElem?_cons_zero, List.getElem?_cons_succ, List.set_cons_zero, List.set_cons_succ, List.length_cons, List.length_nil, List.cons_append, List.nil_append, List.append_nil, List.take_succ_cons, List.take_zero, List.drop_succ_cons, List.drop_zero, List.reverse_cons, List.reverse_nil, Option.toList, Value.category, List.sum_cons, List.sum_nil, zk_0, zk_1, zk_12, zk_20, zk_23, zk_27, zn_2, zn_3, zn_4, zn_5, zn_6, zn_7, zn_8, zn_9, zn_10, zn_11, zn_13, zn_14, zn_15, zn_16, zn_17, zn_18, zn_19, zn_21, zn_22, zn_24, zn_25, zn_26, zn_28, zn_29, zn_30, zn_31, zn_32, zn_33, zn_34, zn_35, zn_36, zn_37, zn_38, zn_39, zn_40, zn_41, zn_42, zn_43, zn_44, zn_45, zn_46, Nat.reduceAdd, Nat.reduceSub, Nat.reduceLeDiff, true_and, and_true]
    exact ⟨by simp, h1 ⟨fun _ => ⟨q, q2⟩, fun e2 => by omega, fun e2 => by omega⟩⟩
  have k4 : (k = 6 ∨ k = 7) → K 4 ([some (.int (nI k)), some (.int z)], [], g) := by
    intro e
    have k5 : (z < 0 ∨ 8 ≤ z) → K 5 ([some (.int (nI k)), some (.int z)], [], g) := fun q => by
      refine b5 _ ?_
      simp only [bb_X_numberFits_5, oIload, oAload, oIstore, oInc, oConst, o2, oDup, oPop, oDupX1, oDupX2, oDup2, oIf, oIfN, oCmp, oCmpN, oSwitch, oGetR, oGetI, oPutI, oPutZ, oIald, oZald, oIast, oZast, oRetI, oRetZ, oRetV, oCall, oRecv, oMax, List.map_cons, List.map_nil, List.getElem?_cons_zero, List.getElem?_cons_succ, List.set_cons_zero, List.set_cons_succ, List.length_cons, List.length_nil, List.cons_append, List.nil_append, List.append_nil, List.take_succ_cons, List.take_zero, List.drop_succ_cons, List.drop_zero, List.reverse_cons, List.reverse_nil, Option.toList, Value.category, List.sum_cons, List.sum_nil, zk_0, zk_1, zk_12, zk_20, zk_23, zk_27, zn_2, zn_3, zn_4, zn_5, zn_6, zn_7, zn_8, zn_9, zn_10, zn_11, zn_13, zn_14, zn_15, zn_16, zn_17, zn_18, zn_19, zn_21, zn_22, zn_24, zn_25, zn_26, zn_28, zn_29, zn_30, zn_31, zn_32, zn_33, zn_34, zn_35, zn_36, zn_37, zn_38, zn_39, zn_40, zn_41, zn_42, zn_43, zn_44, zn_45, zn_46, Nat.reduceAdd, Nat.reduceSub, Nat.reduceLeDiff, true_and, and_true]
      refine b6 _ ?_
      simp only [bb_X_numberFits_6, oIload, oAload, oIstore, oInc, oConst, o2, oDup, oPop, oDupX1, oDupX2, oDup2, oIf, oIfN, oCmp, oCmpN, oSwitch, oGetR, oGetI, oPutI, oPutZ, oIald, oZald, oIast, oZast, oRetI, oRetZ, oRetV, oCall, oRecv, oMax, List.map_cons, List.map_nil, List.getElem?_cons_zero, List.getElem?_cons_succ, List.set_cons_zero, List.set_cons_succ, List.length_cons, List.length_nil, List.cons_append, List.nil_append, List.append_nil, List.take_succ_cons, List.take_zero, List.drop_succ_cons, List.drop_zero, List.reverse_cons, List.reverse_nil, Option.toList, Value.category, List.sum_cons, List.sum_nil, zk_0, zk_1, zk_12, zk_20, zk_23, zk_27, zn_2, zn_3, zn_4, zn_5, zn_6, zn_7, zn_8, zn_9, zn_10, zn_11, zn_13, zn_14, zn_15, zn_16, zn_17, zn_18, zn_19, zn_21, zn_22, zn_24, zn_25, zn_26, zn_28, zn_29, zn_30, zn_31, zn_32, zn_33, zn_34, zn_35, zn_36, zn_37, zn_38, zn_39, zn_40, zn_41, zn_42, zn_43, zn_44, zn_45, zn_46, Nat.reduceAdd, Nat.reduceSub, Nat.reduceLeDiff, true_and, and_true]
      exact ⟨by simp, h0 (fun hf => q.elim (hf.2.1 e).1 (hf.2.1 e).2)⟩
    refine b4 _ ?_
    simp only [bb_X_numberFits_4, oIload, oAload, oIstore, oInc, oConst, o2, oDup, oPop, oDupX1, oDupX2, oDup2, oIf, oIfN, oCmp, oCmpN, oSwitch, oGetR, oGetI, oPutI, oPutZ, oIald, oZald, oIast, oZast, oRetI, oRetZ, oRetV, oCall, oRecv, oMax, List.map_cons, List.map_nil, List.getElem?_cons_zero, List.getElem?_cons_succ, List.set_cons_zero, List.set_cons_succ, List.length_cons, List.length_nil, List.cons_append, List.nil_append, List.append_nil, List.take_succ_cons, List.take_zero, List.drop_succ_cons, List.drop_zero, List.reverse_cons, List.reverse_nil, Option.toList, Value.category, List.sum_cons, List.sum_nil, zk_0, zk_1, zk_12, zk_20, zk_23, zk_27, zn_2, zn_3, zn_4, zn_5, zn_6, zn_7, zn_8, zn_9, zn_10, zn_11, zn_13, zn_14, zn_15, zn_16, zn_17, zn_18, zn_19, zn_21, zn_22, zn_24, zn_25, zn_26, zn_28, zn_29, zn_30, zn_31, zn_32, zn_33, zn_34, zn_35, zn_36, zn_37, zn_38, zn_39, zn_40, zn_41, zn_42, zn_43, zn_44, zn_45, zn_46, Nat.reduceAdd, Nat.reduceSub, Nat.reduceLeDiff, true_and, and_true]
    refine ⟨fun q => k5 (Or.inl q), fun q => ⟨fun q2 => k5 (Or.inr q2), fun q2 => b6 _ ?_⟩⟩
    simp only [bb_X_numberFits_6, oIload, oAload, oIstore, oInc, oConst, o2, oDup, oPop, oDupX1, oDupX2, oDup2, oIf, oIfN, oCmp, oCmpN, oSwitch, oGetR, oGetI, oPutI, oPutZ, oIald, oZald, oIast, oZast, oRetI, oRetZ, oRetV, oCall, oRecv, oMax, List.map_cons, List.map_nil, List.getElem?_cons_zero, List.getElem?_cons_succ, List.set_cons_zero, List.set_cons_succ, List.length_cons, List.length_nil, List.cons_append, List.nil_append, List.append_nil, List.take_succ_cons, List.take_zero, List.drop_succ_cons, List.drop_zero, List.reverse_cons, List.reverse_nil, Option.toList, Value.category, List.sum_cons, List.sum_nil, zk_0, zk_1, zk_12, zk_20, zk_23, zk_27, zn_2, zn_3, zn_4, zn_5, zn_6, zn_7, zn_8, zn_9, zn_10, zn_11, zn_13, zn_14, zn_15, zn_16, zn_17, zn_18, zn_19, zn_21, zn_22, zn_24, zn_25, zn_26, zn_28, zn_29, zn_30, zn_31, zn_32, zn_33, zn_34, zn_35, zn_36, zn_37, zn_38, zn_39, zn_40, zn_41, zn_42, zn_43, zn_44, zn_45, zn_46, Nat.reduceAdd, Nat.reduceSub, Nat.reduceLeDiff, true_and, and_true]
    exact ⟨by simp, h1 ⟨fun e2 => by omega, fun _ => ⟨q, q2⟩, fun e2 => by omega⟩⟩
  have k7 : k = 10 → K 7 ([some (.int (nI k)), some (.int z)], [], g) := by
    intro e
    have k8 : (z < 0 ∨ 3 < z) → K 8 ([some (.int (nI k)), some (.int z)], [], g) := fun q => by
      refine b8 _ ?_
      simp only [bb_X_numberFits_8, oIload, oAload, oIstore, oInc, oConst, o2, oDup, oPop, oDupX1, oDupX2, oDup2, oIf, oIfN, oCmp, oCmpN, oSwitch, oGetR, oGetI, oPutI, oPutZ, oIald, oZald, oIast, oZast, oRetI, oRetZ, oRetV, oCall, oRecv, oMax, List.map_cons, List.map_nil, List.getElem?_cons_zero, List.getElem?_cons_succ, List.set_cons_zero, List.set_cons_succ, List.length_cons, List.length_nil, List.cons_append, List.nil_append, List.append_nil, List.take_succ_cons, List.take_zero, List.drop_succ_cons, List.drop_zero, List.reverse_cons, List.reverse_nil, Option.toList, Value.category, List.sum_cons, List.sum_nil, zk_0, zk_1, zk_12, zk_20, zk_23, zk_27, zn_2, zn_3, zn_4, zn_5, zn_6, zn_7, zn_8, zn_9, zn_10, zn_11, zn_13, zn_14, zn_15, zn_16, zn_17, zn_18, zn_19, zn_21, zn_22, zn_24, zn_25, zn_26, zn_28, zn_29, zn_30, zn_31, zn_32, zn_33, zn_34, zn_35, zn_36, zn_37, zn_38, zn_39, zn_40, zn_41, zn_42, zn_43, zn_44, zn_45, zn_46, Nat.reduceAdd, Nat.reduceSub, Nat.reduceLeDiff, true_and, and_true]
      refine b9 _ ?_
      simp only [bb_X_numberFits_9, oIload, oAload, oIstore, oInc, oConst, o2, oDup, oPop, oDupX1, oDupX2, oDup2, oIf, oIfN, oCmp, oCmpN, oSwitch, oGetR, oGetI, oPutI, oPutZ, oIald, oZald, oIast, oZast, oRetI, oRetZ, oRetV, oCall, oRecv, oMax, List.map_cons, List.map_nil, List.getElem?_cons_zero, List.getElem?_cons_succ, List.set_cons_zero, List.set_cons_succ, List.length_cons, List.length_nil, List.cons_append, List.nil_append, List.append_nil, List.take_succ_cons, List.take_zero, List.drop_succ_cons, List.drop_zero, List.reverse_cons, List.reverse_nil, Option.toList, Value.category, List.sum_cons, List.sum_nil, zk_0, zk_1, zk_12, zk_20, zk_23, zk_27, zn_2, zn_3, zn_4, zn_5, zn_6, zn_7, zn_8, zn_9, zn_10, zn_11, zn_13, zn_14, zn_15, zn_16, zn_17, zn_18, zn_19, zn_21, zn_22, zn_24, zn_25, zn_26, zn_28, zn_29, zn_30, zn_31, zn_32, zn_33, zn_34, zn_35, zn_36, zn_37, zn_38, zn_39, zn_40, zn_41, zn_42, zn_43, zn_44, zn_45, zn_46, Nat.reduceAdd, Nat.reduceSub, Nat.reduceLeDiff, true_and, and_true]
      exact ⟨by simp, h0 (fun hf => q.elim (hf.2.2 e).1 (hf.2.2 e).2)⟩
    refine b7 _ ?_
    simp only [bb_X_numberFits_7, oIload, oAload, oIstore, oInc, oConst, o2, oDup, oPop, oDupX1, oDupX2, oDup2, oIf, oIfN, oCmp, oCmpN, oSwitch, oGetR, oGetI, oPutI, oPutZ, oIald, oZald, oIast, oZast, oRetI, oRetZ, oRetV, oCall, oRecv, oMax, List.map_cons, List.map_nil, List.getElem?_cons_zero, List.getElem?_cons_succ, List.set_cons_zero, List.set_cons_succ, List.length_cons, List.length_nil, List.cons_append, List.nil_append, List.append_nil, List.take_succ_cons, List.take_zero, List.drop_succ_cons, List.drop_zero, List.reverse_cons, List.reverse_nil, Option.toList, Value.category, List.sum_cons, List.sum_nil, zk_0, zk_1, zk_12, zk_20, zk_23, zk_27, zn_2, zn_3, zn_4, zn_5, zn_6, zn_7, zn_8, zn_9, zn_10, zn_11, zn_13, zn_14, zn_15, zn_16, zn_17, zn_18, zn_19, zn_21, zn_22, zn_24, zn_25, zn_26, zn_28, zn_29, zn_30, zn_31, zn_32, zn_33, zn_34, zn_35, zn_36, zn_37, zn_38, zn_39, zn_40, zn_41, zn_42, zn_43, zn_44, zn_45, zn_46, Nat.reduceAdd, Nat.reduceSub, Nat.reduceLeDiff, true_and, and_true]
    refine ⟨fun q => k8 (Or.inl q), fun q => ⟨fun q2 => k8 (Or.inr q2), fun q2 => b9 _ ?_⟩⟩
    simp only [bb_X_numberFits_9, oIload, oAload, oIstore, oInc, oConst, o2, oDup, oPop, oDupX1, oDupX2, oDup2, oIf, oIfN, oCmp, oCmpN, oSwitch, oGetR, oGetI, oPutI, oPutZ, oIald, oZald, oIast, oZast, oRetI, oRetZ, oRetV, oCall, oRecv, oMax, List.map_cons, List.map_nil, List.getElem?_cons_zero, List.getElem?_cons_succ, List.set_cons_zero, List.set_cons_succ, List.length_cons, List.length_nil, List.cons_append, List.nil_append, List.append_nil, List.take_succ_cons, List.take_zero, List.drop_succ_cons, List.drop_zero, List.reverse_cons, List.reverse_nil, Option.toList, Value.category, List.sum_cons, List.sum_nil, zk_0, zk_1, zk_12, zk_20, zk_23, zk_27, zn_2, zn_3, zn_4, zn_5, zn_6, zn_7, zn_8, zn_9, zn_10, zn_11, zn_13, zn_14, zn_15, zn_16, zn_17, zn_18, zn_19, zn_21, zn_22, zn_24, zn_25, zn_26, zn_28, zn_29, zn_30, zn_31, zn_32, zn_33, zn_34, zn_35, zn_36, zn_37, zn_38, zn_39, zn_40, zn_41, zn_42, zn_43, zn_44, zn_45, zn_46, Nat.reduceAdd, Nat.reduceSub, Nat.reduceLeDiff, true_and, and_true]
    exact ⟨by simp, h1 ⟨fun e2 => by omega, fun e2 => by omega, fun _ => ⟨q, q2⟩⟩⟩
  have k10 : ¬ (k = 2 ∨ k = 8 ∨ k = 6 ∨ k = 7 ∨ k = 10) → K 10 ([some (.int (nI k)), some (.int z)], [], g) := by
    intro e
    refine b10 _ ?_
    simp only [bb_X_numberFits_10, oIload, oAload, oIstore, oInc, oConst, o2, oDup, oPop, oDupX1, oDupX2, oDup2, oIf, oIfN, oCmp, oCmpN, oSwitch, oGetR, oGetI, oPutI, oPutZ, oIald, oZald, oIast, oZast, oRetI, oRetZ, oRetV, oCall, oRecv, oMax, List.map_cons, List.map_nil, List.getElem?_cons_zero, List.getElem?_cons_succ, List.set_cons_zero, List.set_cons_succ, List.length_cons, List.length_nil, List.cons_append, List.nil_append, List.append_nil, List.take_succ_cons, List.take_zero, List.drop_succ_cons, List.drop_zero, List.reverse_cons, List.reverse_nil, Option.toList, Value.category, List.sum_cons, List.sum_nil, zk_0, zk_1, zk_12, zk_20, zk_23, zk_27, zn_2, zn_3, zn_4, zn_5, zn_6, zn_7, zn_8, zn_9, zn_10, zn_11, zn_13, zn_14, zn_15, zn_16, zn_17, zn_18, zn_19, zn_21, zn_22, zn_24, zn_25, zn_26, zn_28, zn_29, zn_30, zn_31, zn_32, zn_33, zn_34, zn_35, zn_36, zn_37, zn_38, zn_39, zn_40, zn_41, zn_42, zn_43, zn_44, zn_45, zn_46, Nat.reduceAdd, Nat.reduceSub, Nat.reduceLeDiff, true_and, and_true]
    exact ⟨by simp, h1 ⟨fun e2 => by omega, fun e2 => by omega, fun e2 => by omega⟩⟩
  refine b0 _ ?_
  simp only [bb_X_numberFits_0, oIload, oAload, oIstore, oInc, oConst, o2, oDup, oPop, oDupX1, oDupX2, oDup2, oIf, oIfN, oCmp, oCmpN, oSwitch, oGetR, oGetI, oPutI, oPutZ, oIald, oZald, oIast, oZast, oRetI, oRetZ, oRetV, oCall, oRecv, oMax, List.map_cons, List.map_nil, List.getElem?_cons_zero, List.getElem?_cons_succ, List.set_cons_zero, List.set_cons_succ, List.length_cons, List.length_nil, List.cons_append, List.nil_append, List.append_nil, List.take_succ_cons, List.take_zero, List.drop_succ_cons, List.drop_zero, List.reverse_cons, List.reverse_nil, Option.toList, Value.category, List.sum_cons, List.sum_nil, zk_0, zk_1, zk_12, zk_20, zk_23, zk_27, zn_2, zn_3, zn_4, zn_5, zn_6, zn_7, zn_8, zn_9, zn_10, zn_11, zn_13, zn_14, zn_15, zn_16, zn_17, zn_18, zn_19, zn_21, zn_22, zn_24, zn_25, zn_26, zn_28, zn_29, zn_30, zn_31, zn_32, zn_33, zn_34, zn_35, zn_36, zn_37, zn_38, zn_39, zn_40, zn_41, zn_42, zn_43, zn_44, zn_45, zn_46, Nat.reduceAdd, Nat.reduceSub, Nat.reduceLeDiff, true_and, and_true]
  have hcase : k = 0 ∨ k = 1 ∨ k = 2 ∨ k = 3 ∨ k = 4 ∨ k = 5 ∨ k = 6 ∨ k = 7 ∨ k = 8 ∨ k = 9 ∨ k = 10 := by omega
  rcases hcase with rfl | rfl | rfl | rfl | rfl | rfl | rfl | rfl | rfl | rfl | rfl
  · exact sw_df (by simp only [List.mem_cons, List.not_mem_nil, or_false]; rintro q (rfl | rfl | rfl | rfl | rfl | rfl | rfl | rfl | rfl) <;> (dsimp only; decide)) (k10 (by omega))
  · exact sw_df (by simp only [List.mem_cons, List.not_mem_nil, or_false]; rintro q (rfl | rfl | rfl | rfl | rfl | rfl | rfl | rfl | rfl) <;> (dsimp only; decide)) (k10 (by omega))
  · exact sw_at 0 rfl rfl rfl (k1 (by omega))
  · exact sw_at 1 rfl rfl rfl (k10 (by omega))
  · exact sw_at 2 rfl rfl rfl (k10 (by omega))
  · exact sw_at 3 rfl rfl rfl (k10 (by omega))
  · exact sw_at 4 rfl rfl rfl (k4 (by omega))
  · exact sw_at 5 rfl rfl rfl (k4 (by omega))
  · exact sw_at 6 rfl rfl rfl (k1 (by omega))
  · exact sw_at 7 rfl rfl rfl (k10 (by omega))
  · exact sw_at 8 rfl rfl rfl (k7 (by omega))
end SPA
